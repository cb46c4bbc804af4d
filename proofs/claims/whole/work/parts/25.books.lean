theorem iX4_postPremium_X2 : ∀ w ∈ wsX20, w ∈ wsX4_postPremium := by decide +kernel
theorem iX4_postPremium_X4 : ∀ w ∈ wsX40, w ∈ wsX4_postPremium := by decide +kernel
theorem tX4_postPremium_192 : ∀ w ∈ (vx_at0 RX4 192 "java/lang/UnsupportedOperationException" exNames).filter goodWord, w ∈ wsX4_postPremium := by decide +kernel
def bX4_postPremium_75 (post : (Nat → Int32) → (Nat → Nat → Int32) → Prop) (px : String → (Nat → Int32) → (Nat → Nat → Int32) → Prop) (I : Nat → Int32) (F : Nat → Nat → Int32) (x4 x5 y0 : Int32) : Prop := wX0_hasRoomFor I F x4 x5 y0 (fun r1 => ((¬ r1 = (0 : Int32) → wX0_post I F x4 (0 : Int32) (1 : Int32) (fun I4 F5 => wX0_post I4 F5 x5 (3 : Int32) (2 : Int32) (fun I7 F8 => wX0_post I7 F8 y0 (6 : Int32) (1 : Int32) (fun I10 F11 => post I10 F11)))) ∧ (r1 = (0 : Int32) → px "java/lang/UnsupportedOperationException" I F)))
def wX4_postPremium (I : Nat → Int32) (F : Nat → Nat → Int32) (x1 x2 : Int32) (post : (Nat → Int32) → (Nat → Nat → Int32) → Prop) (px : String → (Nat → Int32) → (Nat → Nat → Int32) → Prop) : Prop := ∀ v12 : Int32, v12 = (I 3) → wX2_premiumBefore I F x1 (1000 : Int32) (v12 + (1 : Int32)) (fun r13 => wX2_premiumBefore I F x1 (1000 : Int32) v12 (fun r14 => ∀ v15 : Int32, v15 = (r13 - r14) → wX4_percentOf v15 (I 0) (fun r16 => ((x2 = (0 : Int32) → bX4_postPremium_75 post px I F v15 r16 (0 : Int32)) ∧ (¬ x2 = (0 : Int32) → (((0 : Int32) ≤ v15 → bX4_postPremium_75 post px I F v15 r16 (0 : Int32)) ∧ (¬ (0 : Int32) ≤ v15 → bX4_postPremium_75 post px I F v15 r16 ((-v15) / (10 : Int32)))))))))
set_option maxHeartbeats 4000000 in
set_option maxRecDepth 100000 in
theorem sX4_postPremium_75 {p : Program} {l : Launch} {e : Env} {s : State} {m : MethodId} {args : Array Value} {below : List Frame} {meth : Method} {c : Code} {dC : Nat → ClassId} {dI : Nat → Nat → Nat} {cI : ClassId} {ad : Nat → Nat} {A : Nat → Prop} (C : Cx p s m args meth c cX4_postPremium 7 none RX4 wsX4_postPremium) (hst : l.stackTraces = false) (hK : va_K (dC, dI) vwCl [(cI, .int)] s) (hN : NW s) (hT : TW s) (hZ : ZU A s s.heap) (hD : ∀ I F, va_D A (wC cI ad I F)) (hA : ∀ q : Nat, s.heap.size ≤ q → A q) (hout : ∀ x ∈ c.exceptionTable.toList, False) (post : (Nat → Int32) → (Nat → Nat → Int32) → Prop) (px : String → (Nat → Int32) → (Nat → Nat → Int32) → Prop) : ∀ (I : Nat → Int32) (F : Nat → Nat → Int32) (x4 x5 y0 : Int32), bX4_postPremium_75 post px I F x4 x5 y0 → ∀ (H : Heap) (locs : List Loc), va_P (dC, dI) vwCl (wC cI ad I F) H → va_S A s.heap H locs → ∀ (ls : Array Slot), lv_has ls 7 [(0, .ref (ad 0)), (4, .int x4), (5, .int x5)] → W p l e { frames := 6, cells := 1, slots := 6, locals := 104 } s m args below meth c H locs 0 0 (vx_MQ below (QWv dC dI (wC cI ad) post A) (XW dC dI (wC cI ad) px A) args s 1 6 A) (F0 m 75 ls [.int y0]) := by
  obtain ⟨hx, hb, hml, hown, hts, hr, hlocks⟩ := id C
  intro I F x4 x5 y0 h H locs hP hS ls hl
  unfold bX4_postPremium_75 at h
  refine lv_istore (lv' := [(6, .int y0), (0, .ref (ad 0)), (4, .int x4), (5, .int x5)]) hx hb dX4_postPremium_75 hl (by decide) rfl (fun ls hl => ?_)
  refine lv_aload_n hx hb dX4_postPremium_77 rfl (lv_at hl 1 rfl) ?_
  refine va_get (D := (dC, dI)) (ci := 4) (v := .ref (ad 4)) (C := RX4) (T := TX4) (N := 5) hx hb hts iX4_postPremium_X4 hown hK hP 0 rfl rfl 3 (by decide) (hts (.fieldLink RX4 33 "CarrierBooks" "journal" "LCarrierBooks$Journal;") (by decide +kernel)) (fun _ h9 => h9) rfl dX4_postPremium_78 ?_
  refine lv_iload hx hb dX4_postPremium_81 (lv_at hl 2 rfl) ?_
  refine lv_iload hx hb dX4_postPremium_83 (lv_at hl 3 rfl) ?_
  refine lv_iload hx hb dX4_postPremium_85 (lv_at hl 0 rfl) ?_
  refine vp_callSi (cr_of (va_runVN (As := [.int x4, .int x5, .int y0]) (rest := []) ⟨hx, hb, hml, hown, hts⟩ (cTX0_hasRoomFor l dC dI cI ad I F x4 x5 y0 _ h) ⟨va_cnB 3 hts gX4_postPremium_X0_hasRoomFor_n187 rfl rfl rfl (hN (.methodLinkNest RX4 187 yX0_hasRoomFor RX4) (by decide +kernel)) (hts (.initialized RX0) (by decide +kernel)) (by decide +kernel) ⟨Nat.le_of_ble_eq_true rfl, Nat.le_of_ble_eq_true rfl⟩, hts (.instanceMethod yX0_hasRoomFor) (by decide +kernel), hts (.selects RX0 yX0_hasRoomFor yX0_hasRoomFor) (by decide +kernel)⟩ (pv_R hP hK hN 4 0 rfl rfl _) rfl rfl hl.1 rfl (lv_room (Nat.le_of_ble_eq_true rfl)) dX4_postPremium_87 ⟨Nat.le_of_ble_eq_true rfl, Nat.le_of_ble_eq_true rfl⟩)) (fun r1 h => ?_)
  refine lv_if_ne (tgt := 101) hx hb dX4_postPremium_90 (by decide) (fun c2 => ?_) (fun c2 => ?_)
  · have h := h.1 c2
    refine lv_aload_n hx hb dX4_postPremium_101 rfl (lv_at hl 1 rfl) ?_
    refine va_get (D := (dC, dI)) (ci := 4) (v := .ref (ad 4)) (C := RX4) (T := TX4) (N := 5) hx hb hts iX4_postPremium_X4 hown hK hP 0 rfl rfl 3 (by decide) (hts (.fieldLink RX4 33 "CarrierBooks" "journal" "LCarrierBooks$Journal;") (by decide +kernel)) (fun _ h9 => h9) rfl dX4_postPremium_102 ?_
    refine lv_iload hx hb dX4_postPremium_105 (lv_at hl 2 rfl) ?_
    refine lv_iconst (v := (0 : Int32)) hx hb dX4_postPremium_107 (by decide) ?_
    refine lv_iconst (v := (1 : Int32)) hx hb dX4_postPremium_108 (by decide) ?_
    refine wcall_v (va_runVN (As := [.int x4, .int (0 : Int32), .int (1 : Int32)]) (rest := []) ⟨hx, hb, hml, hown, hts⟩ (cTX0_post l dC dI cI ad I F H.size x4 (0 : Int32) (1 : Int32) _ h) ⟨va_cnB 3 hts gX4_postPremium_X0_post_n193 rfl rfl rfl (hN (.methodLinkNest RX4 193 yX0_post RX4) (by decide +kernel)) (hts (.initialized RX0) (by decide +kernel)) (by decide +kernel) ⟨Nat.le_of_ble_eq_true rfl, Nat.le_of_ble_eq_true rfl⟩, hts (.instanceMethod yX0_post) (by decide +kernel), hts (.selects RX0 yX0_post yX0_post) (by decide +kernel)⟩ (pv_W hP hK hN ((hD _ _).weaken (fun _ _ _ _ => trivial)) 4 0 rfl rfl _) rfl rfl hl.1 rfl (lv_room (Nat.le_of_ble_eq_true rfl)) dX4_postPremium_109 ⟨Nat.le_of_ble_eq_true rfl, Nat.le_of_ble_eq_true rfl⟩) hD hS hA (fun I4 F5 h H locs hP hS => ?_)
    refine lv_aload_n hx hb dX4_postPremium_112 rfl (lv_at hl 1 rfl) ?_
    refine va_get (D := (dC, dI)) (ci := 4) (v := .ref (ad 4)) (C := RX4) (T := TX4) (N := 5) hx hb hts iX4_postPremium_X4 hown hK hP 0 rfl rfl 3 (by decide) (hts (.fieldLink RX4 33 "CarrierBooks" "journal" "LCarrierBooks$Journal;") (by decide +kernel)) (fun _ h9 => h9) rfl dX4_postPremium_113 ?_
    refine lv_iload hx hb dX4_postPremium_116 (lv_at hl 3 rfl) ?_
    refine lv_iconst (v := (3 : Int32)) hx hb dX4_postPremium_118 (by decide) ?_
    refine lv_iconst (v := (2 : Int32)) hx hb dX4_postPremium_119 (by decide) ?_
    refine wcall_v (va_runVN (As := [.int x5, .int (3 : Int32), .int (2 : Int32)]) (rest := []) ⟨hx, hb, hml, hown, hts⟩ (cTX0_post l dC dI cI ad I4 F5 H.size x5 (3 : Int32) (2 : Int32) _ h) ⟨va_cnB 3 hts gX4_postPremium_X0_post_n193 rfl rfl rfl (hN (.methodLinkNest RX4 193 yX0_post RX4) (by decide +kernel)) (hts (.initialized RX0) (by decide +kernel)) (by decide +kernel) ⟨Nat.le_of_ble_eq_true rfl, Nat.le_of_ble_eq_true rfl⟩, hts (.instanceMethod yX0_post) (by decide +kernel), hts (.selects RX0 yX0_post yX0_post) (by decide +kernel)⟩ (pv_W hP hK hN ((hD _ _).weaken (fun _ _ _ _ => trivial)) 4 0 rfl rfl _) rfl rfl hl.1 rfl (lv_room (Nat.le_of_ble_eq_true rfl)) dX4_postPremium_120 ⟨Nat.le_of_ble_eq_true rfl, Nat.le_of_ble_eq_true rfl⟩) hD hS hA (fun I7 F8 h H locs hP hS => ?_)
    refine lv_aload_n hx hb dX4_postPremium_123 rfl (lv_at hl 1 rfl) ?_
    refine va_get (D := (dC, dI)) (ci := 4) (v := .ref (ad 4)) (C := RX4) (T := TX4) (N := 5) hx hb hts iX4_postPremium_X4 hown hK hP 0 rfl rfl 3 (by decide) (hts (.fieldLink RX4 33 "CarrierBooks" "journal" "LCarrierBooks$Journal;") (by decide +kernel)) (fun _ h9 => h9) rfl dX4_postPremium_124 ?_
    refine lv_iload hx hb dX4_postPremium_127 (lv_at hl 0 rfl) ?_
    refine lv_bipush (v := (6 : Int32)) hx hb dX4_postPremium_129 (by decide) ?_
    refine lv_iconst (v := (1 : Int32)) hx hb dX4_postPremium_131 (by decide) ?_
    refine wcall_v (va_runVN (As := [.int y0, .int (6 : Int32), .int (1 : Int32)]) (rest := []) ⟨hx, hb, hml, hown, hts⟩ (cTX0_post l dC dI cI ad I7 F8 H.size y0 (6 : Int32) (1 : Int32) _ h) ⟨va_cnB 3 hts gX4_postPremium_X0_post_n193 rfl rfl rfl (hN (.methodLinkNest RX4 193 yX0_post RX4) (by decide +kernel)) (hts (.initialized RX0) (by decide +kernel)) (by decide +kernel) ⟨Nat.le_of_ble_eq_true rfl, Nat.le_of_ble_eq_true rfl⟩, hts (.instanceMethod yX0_post) (by decide +kernel), hts (.selects RX0 yX0_post yX0_post) (by decide +kernel)⟩ (pv_W hP hK hN ((hD _ _).weaken (fun _ _ _ _ => trivial)) 4 0 rfl rfl _) rfl rfl hl.1 rfl (lv_room (Nat.le_of_ble_eq_true rfl)) dX4_postPremium_132 ⟨Nat.le_of_ble_eq_true rfl, Nat.le_of_ble_eq_true rfl⟩) hD hS hA (fun I10 F11 h H locs hP hS => ?_)
    refine W.widen (k := 1) (n := 6) (Nat.le_of_ble_eq_true rfl) (Nat.le_of_ble_eq_true rfl) ?_
    exact vx_ret (W.vret hx hb hr (fun t ht hW => ⟨⟨(I10, F11), rfl, h, by show va_P _ _ _ t.heap; rw [ht]; exact hP⟩, hS.F ht⟩) hS.2.2 dX4_postPremium_135)
  · have h := h.2 c2
    exact throw_w (wf := wC cI ad) (own := RX4) (names := exNames) (ik := 190) (ic := 192) (cls := "java/lang/UnsupportedOperationException") hx hb hst hown (by decide +kernel) (by decide +kernel) hts (by decide +kernel) (by decide +kernel) tX4_postPremium_192 hT twm_192 twg_192 hZ hP hS (hl.1.trans hml.symm) dX4_postPremium_93 dX4_postPremium_96 dX4_postPremium_97 dX4_postPremium_100 hout (Nat.le_of_ble_eq_true rfl) (Nat.le_of_ble_eq_true rfl) (Nat.le_of_ble_eq_true rfl) (Nat.le_of_ble_eq_true rfl) hlocks h
set_option maxHeartbeats 4000000 in
set_option maxRecDepth 100000 in
theorem cTX4_postPremium (l : Launch) (hst : l.stackTraces = false) (dC : Nat → ClassId) (dI : Nat → Nat → Nat) (cI : ClassId) (ad : Nat → Nat) (I : Nat → Int32) (F : Nat → Nat → Int32) (sz : Nat) (x1 x2 : Int32) (post : (Nat → Int32) → (Nat → Nat → Int32) → Prop) (px : String → (Nat → Int32) → (Nat → Nat → Int32) → Prop) (h : wX4_postPremium I F x1 x2 post px) : vx_Met l yX4_postPremium wsX4_postPremium { frames := 6, cells := 1, slots := 6, locals := 104 } (va_Pc [.ref (ad 0), .int x1, .int x2] (PWt dC dI cI (wC cI ad) I F sz)) (QWv dC dI (wC cI ad) post (va_A (wC cI ad I F) sz)) (XW dC dI (wC cI ad) px (va_A (wC cI ad I F) sz)) 1 6 (va_A (wC cI ad I F) sz) := by
  refine vx_ofW (cc := cX4_postPremium) (maxL := 7) (ret := none) (by decide) rfl ?_
  intro p e s m args below meth c s₁ B hml hout hv
  obtain ⟨rfl, ⟨hsz, ⟨hP, hK, hN⟩, hD0⟩, hT, hZ⟩ := hv
  subst hsz
  have hD := wD_any (wC_fix cI ad) (hD0.self (sz := s.heap.size))
  generalize hAe : va_A (wC cI ad I F) s.heap.size = A at hD hZ ⊢
  have hA : ∀ q : Nat, s.heap.size ≤ q → A q := fun q h => by rw [← hAe]; exact Or.inr h
  clear hAe hD0
  have hx := B.exec
  have hb := B.bytes
  have hr := B.returns
  have hts := atoms_spec (ws := wsX4_postPremium) B.pre
  have hown : s.vm.findClass RX4 = some m.cls := findClass_of_methodNamed B.named
  have hlocks := B.notSynchronized
  have C : Cx p s m _ meth c cX4_postPremium 7 none RX4 wsX4_postPremium := ⟨hx, hb, hml, hown, hts, hr, hlocks⟩
  have hS : va_S A s.heap s.heap [] := va_S.rf
  have hl := lv_entry ([.ref (ad 0), .int x1, .int x2]) (n := 7) (Nat.le_of_ble_eq_true rfl)
  rw [lg_entry_eq]
  generalize (lg_sl ([.ref (ad 0), .int x1, .int x2]) ++ List.replicate (7 - (lg_sl ([.ref (ad 0), .int x1, .int x2])).length) Slot.unset).toArray = ls at hl ⊢
  have hl : lv_has ls 7 [(0, .ref (ad 0)), (1, .int x1), (2, .int x2)] := hl
  unfold wX4_postPremium at h
  refine lv_aload_n hx hb dX4_postPremium_0 rfl (lv_at hl 0 rfl) ?_
  refine va_get (D := (dC, dI)) (ci := 4) (v := .ref (ad 2)) (C := RX4) (T := TX4) (N := 5) hx hb hts iX4_postPremium_X4 hown hK hP 0 rfl rfl 1 (by decide) (hts (.fieldLink RX4 19 "CarrierBooks" "register" "LCarrierBooks$Register;") (by decide +kernel)) (fun _ h9 => h9) rfl dX4_postPremium_1 ?_
  refine va_getN (host := RX4) (D := (dC, dI)) (ci := 2) (v := .int (I 3)) (C := RX2) (T := TX2) (N := 10) hx hb hts iX4_postPremium_X2 hown hK hP 2 rfl rfl 9 (by decide) (va_Nw.use rfl (hN (.fieldLinkNest RX4 149 "CarrierBooks$Register" "bookings" "I" RX4) (by decide +kernel))) (fun _ h9 => h9) rfl dX4_postPremium_4 ?_
  refine lv_topi (fun v12 ev12 => ?_)
  have h := h v12 ev12
  refine lv_istore_n (lv' := [(3, .int v12), (0, .ref (ad 0)), (1, .int x1), (2, .int x2)]) hx hb dX4_postPremium_7 rfl hl (by decide) rfl (fun ls hl => ?_)
  refine lv_aload_n hx hb dX4_postPremium_8 rfl (lv_at hl 1 rfl) ?_
  refine va_get (D := (dC, dI)) (ci := 4) (v := .ref (ad 2)) (C := RX4) (T := TX4) (N := 5) hx hb hts iX4_postPremium_X4 hown hK hP 0 rfl rfl 1 (by decide) (hts (.fieldLink RX4 19 "CarrierBooks" "register" "LCarrierBooks$Register;") (by decide +kernel)) (fun _ h9 => h9) rfl dX4_postPremium_9 ?_
  refine lv_aload_n hx hb dX4_postPremium_12 rfl (lv_at hl 1 rfl) ?_
  refine va_get (D := (dC, dI)) (ci := 4) (v := .ref (ad 1)) (C := RX4) (T := TX4) (N := 5) hx hb hts iX4_postPremium_X4 hown hK hP 0 rfl rfl 0 (by decide) (hts (.fieldLink RX4 10 "CarrierBooks" "plan" "LCarrierBooks$Plan;") (by decide +kernel)) (fun _ h9 => h9) rfl dX4_postPremium_13 ?_
  refine lv_iload_n hx hb dX4_postPremium_16 rfl (lv_at hl 2 rfl) ?_
  refine lv_sipush (v := (1000 : Int32)) hx hb dX4_postPremium_17 (by decide) ?_
  refine lv_iload_n hx hb dX4_postPremium_20 rfl (lv_at hl 0 rfl) ?_
  refine lv_iconst (v := (1 : Int32)) hx hb dX4_postPremium_21 (by decide) ?_
  refine lv_iadd hx hb dX4_postPremium_22 ?_
  refine vp_callSi (cr_of (va_runVN (As := [.ref (ad 1), .int x1, .int (1000 : Int32), .int (v12 + (1 : Int32))]) (rest := []) ⟨hx, hb, hml, hown, hts⟩ (cTX2_premiumBefore l dC dI cI ad I F x1 (1000 : Int32) (v12 + (1 : Int32)) _ h) ⟨va_cnB 4 hts gX4_postPremium_X2_premiumBefore_n167 rfl rfl rfl (hN (.methodLinkNest RX4 167 yX2_premiumBefore RX4) (by decide +kernel)) (hts (.initialized RX2) (by decide +kernel)) (by decide +kernel) ⟨Nat.le_of_ble_eq_true rfl, Nat.le_of_ble_eq_true rfl⟩, hts (.instanceMethod yX2_premiumBefore) (by decide +kernel), hts (.selects RX2 yX2_premiumBefore yX2_premiumBefore) (by decide +kernel)⟩ (pv_R hP hK hN 2 2 rfl rfl _) rfl rfl hl.1 rfl (lv_room (Nat.le_of_ble_eq_true rfl)) dX4_postPremium_23 ⟨Nat.le_of_ble_eq_true rfl, Nat.le_of_ble_eq_true rfl⟩)) (fun r13 h => ?_)
  refine lv_aload_n hx hb dX4_postPremium_26 rfl (lv_at hl 1 rfl) ?_
  refine va_get (D := (dC, dI)) (ci := 4) (v := .ref (ad 2)) (C := RX4) (T := TX4) (N := 5) hx hb hts iX4_postPremium_X4 hown hK hP 0 rfl rfl 1 (by decide) (hts (.fieldLink RX4 19 "CarrierBooks" "register" "LCarrierBooks$Register;") (by decide +kernel)) (fun _ h9 => h9) rfl dX4_postPremium_27 ?_
  refine lv_aload_n hx hb dX4_postPremium_30 rfl (lv_at hl 1 rfl) ?_
  refine va_get (D := (dC, dI)) (ci := 4) (v := .ref (ad 1)) (C := RX4) (T := TX4) (N := 5) hx hb hts iX4_postPremium_X4 hown hK hP 0 rfl rfl 0 (by decide) (hts (.fieldLink RX4 10 "CarrierBooks" "plan" "LCarrierBooks$Plan;") (by decide +kernel)) (fun _ h9 => h9) rfl dX4_postPremium_31 ?_
  refine lv_iload_n hx hb dX4_postPremium_34 rfl (lv_at hl 2 rfl) ?_
  refine lv_sipush (v := (1000 : Int32)) hx hb dX4_postPremium_35 (by decide) ?_
  refine lv_iload_n hx hb dX4_postPremium_38 rfl (lv_at hl 0 rfl) ?_
  refine vp_callSi (cr_of (va_runVN (As := [.ref (ad 1), .int x1, .int (1000 : Int32), .int v12]) (rest := [.int r13]) ⟨hx, hb, hml, hown, hts⟩ (cTX2_premiumBefore l dC dI cI ad I F x1 (1000 : Int32) v12 _ h) ⟨va_cnB 4 hts gX4_postPremium_X2_premiumBefore_n167 rfl rfl rfl (hN (.methodLinkNest RX4 167 yX2_premiumBefore RX4) (by decide +kernel)) (hts (.initialized RX2) (by decide +kernel)) (by decide +kernel) ⟨Nat.le_of_ble_eq_true rfl, Nat.le_of_ble_eq_true rfl⟩, hts (.instanceMethod yX2_premiumBefore) (by decide +kernel), hts (.selects RX2 yX2_premiumBefore yX2_premiumBefore) (by decide +kernel)⟩ (pv_R hP hK hN 2 2 rfl rfl _) rfl rfl hl.1 rfl (lv_room (Nat.le_of_ble_eq_true rfl)) dX4_postPremium_39 ⟨Nat.le_of_ble_eq_true rfl, Nat.le_of_ble_eq_true rfl⟩)) (fun r14 h => ?_)
  refine lv_isub hx hb dX4_postPremium_42 ?_
  refine lv_topi (fun v15 ev15 => ?_)
  have h := h v15 ev15
  refine lv_istore (lv' := [(4, .int v15), (3, .int v12), (0, .ref (ad 0)), (1, .int x1), (2, .int x2)]) hx hb dX4_postPremium_43 hl (by decide) rfl (fun ls hl => ?_)
  refine lv_iload hx hb dX4_postPremium_45 (lv_at hl 0 rfl) ?_
  refine lv_aload_n hx hb dX4_postPremium_47 rfl (lv_at hl 2 rfl) ?_
  refine va_get (D := (dC, dI)) (ci := 4) (v := .int (I 0)) (C := RX4) (T := TX4) (N := 5) hx hb hts iX4_postPremium_X4 hown hK hP 0 rfl rfl 4 (by decide) (hts (.fieldLink RX4 72 "CarrierBooks" "quotaPercent" "I") (by decide +kernel)) (fun _ h9 => h9) rfl dX4_postPremium_48 ?_
  refine vp_callSi (cr_of (va_runS (As := [.int v15, .int (I 0)]) (rest := []) ⟨hx, hb, hml, hown, hts⟩ (cTX4_percentOf l v15 (I 0) _ h) (va_cwS 2 hts gX4_postPremium_X4_percentOf rfl rfl rfl (by decide +kernel) ⟨Nat.le_of_ble_eq_true rfl, Nat.le_of_ble_eq_true rfl⟩) (pv_S _) rfl rfl hl.1 rfl (lv_room (Nat.le_of_ble_eq_true rfl)) dX4_postPremium_51 ⟨Nat.le_of_ble_eq_true rfl, Nat.le_of_ble_eq_true rfl⟩)) (fun r16 h => ?_)
  refine lv_istore (lv' := [(5, .int r16), (4, .int v15), (3, .int v12), (0, .ref (ad 0)), (1, .int x1), (2, .int x2)]) hx hb dX4_postPremium_54 hl (by decide) rfl (fun ls hl => ?_)
  refine lv_iload_n hx hb dX4_postPremium_56 rfl (lv_at hl 5 rfl) ?_
  refine lv_if_eq (tgt := 74) hx hb dX4_postPremium_57 (by decide) (fun c17 => ?_) (fun c17 => ?_)
  · have h := h.1 c17
    refine lv_iconst (v := (0 : Int32)) hx hb dX4_postPremium_74 (by decide) ?_
    exact sX4_postPremium_75 C hst hK hN hT hZ hD hA hout post px I F v15 r16 (0 : Int32) h s.heap [] hP hS ls (lv_sub hl [3, 1, 0] rfl)
  · have h := h.2 c17
    refine lv_iload hx hb dX4_postPremium_60 (lv_at hl 1 rfl) ?_
    refine lv_if_ge (tgt := 74) hx hb dX4_postPremium_62 (by decide) (fun c18 => ?_) (fun c18 => ?_)
    · have h := h.1 c18
      refine lv_iconst (v := (0 : Int32)) hx hb dX4_postPremium_74 (by decide) ?_
      exact sX4_postPremium_75 C hst hK hN hT hZ hD hA hout post px I F v15 r16 (0 : Int32) h s.heap [] hP hS ls (lv_sub hl [3, 1, 0] rfl)
    · have h := h.2 c18
      refine lv_iload hx hb dX4_postPremium_65 (lv_at hl 1 rfl) ?_
      refine lv_ineg hx hb dX4_postPremium_67 ?_
      refine lv_bipush (v := (10 : Int32)) hx hb dX4_postPremium_68 (by decide) ?_
      refine lv_idiv hx hb dX4_postPremium_70 (by decide) ?_
      refine lv_goto (tgt := 75) hx hb dX4_postPremium_71 (by decide) ?_
      exact sX4_postPremium_75 C hst hK hN hT hZ hD hA hout post px I F v15 r16 ((-v15) / (10 : Int32)) h s.heap [] hP hS ls (lv_sub hl [3, 1, 0] rfl)

theorem iX4_bind_X2 : ∀ w ∈ wsX20, w ∈ wsX4_bind := by decide +kernel
theorem iX4_bind_X4 : ∀ w ∈ wsX40, w ∈ wsX4_bind := by decide +kernel
theorem tX4_bind_47 : ∀ w ∈ (vx_at0 RX4 47 "java/lang/IllegalStateException" exNames).filter goodWord, w ∈ wsX4_bind := by decide +kernel
theorem tX4_bind_57 : ∀ w ∈ (vx_at0 RX4 57 "java/lang/IllegalArgumentException" exNames).filter goodWord, w ∈ wsX4_bind := by decide +kernel
def wX4_bind (I : Nat → Int32) (F : Nat → Nat → Int32) (x1 x2 x3 x4 x5 : Int32) (post : Int32 → (Nat → Int32) → (Nat → Nat → Int32) → Prop) (px : String → (Nat → Int32) → (Nat → Nat → Int32) → Prop) : Prop := wX4_isPlanGood I F (fun r1 => ((r1 = (0 : Int32) → px "java/lang/IllegalStateException" I F) ∧ (¬ r1 = (0 : Int32) → (((I 2) = (6 : Int32) → px "java/lang/IllegalStateException" I F) ∧ (¬ (I 2) = (6 : Int32) → wX2_isFull I F (fun r4 => ((r4 = (0 : Int32) → wX4_isDay x1 (fun r6 => ((r6 = (0 : Int32) → px "java/lang/IllegalArgumentException" I F) ∧ (¬ r6 = (0 : Int32) → wX4_isWithin (1 : Int32) x2 (200 : Int32) (fun r8 => ((r8 = (0 : Int32) → px "java/lang/IllegalArgumentException" I F) ∧ (¬ r8 = (0 : Int32) → wX4_isValueOf (0 : Int32) x3 (fun r10 => ((r10 = (0 : Int32) → px "java/lang/IllegalArgumentException" I F) ∧ (¬ r10 = (0 : Int32) → wX4_isValueOf (1 : Int32) x4 (fun r12 => ((r12 = (0 : Int32) → px "java/lang/IllegalArgumentException" I F) ∧ (¬ r12 = (0 : Int32) → wX4_isValueOf (2 : Int32) x5 (fun r14 => ((¬ r14 = (0 : Int32) → ∀ v16 : Int32, v16 = (I 2) → wX2_pencilBind I F x1 x2 x3 x4 x5 (fun I18 F19 => wX4_postPremium I18 F19 v16 (0 : Int32) (fun I21 F22 => wX2_confirmBind I21 F22 (fun I24 F25 => post v16 I24 F25)) px)) ∧ (r14 = (0 : Int32) → px "java/lang/IllegalArgumentException" I F)))))))))))))))) ∧ (¬ r4 = (0 : Int32) → px "java/lang/IllegalStateException" I F))))))))
set_option maxHeartbeats 4000000 in
set_option maxRecDepth 100000 in
theorem cTX4_bind (l : Launch) (hst : l.stackTraces = false) (dC : Nat → ClassId) (dI : Nat → Nat → Nat) (cI : ClassId) (ad : Nat → Nat) (I : Nat → Int32) (F : Nat → Nat → Int32) (sz : Nat) (x1 x2 x3 x4 x5 : Int32) (post : Int32 → (Nat → Int32) → (Nat → Nat → Int32) → Prop) (px : String → (Nat → Int32) → (Nat → Nat → Int32) → Prop) (h : wX4_bind I F x1 x2 x3 x4 x5 post px) : vx_Met l yX4_bind wsX4_bind { frames := 7, cells := 1, slots := 6, locals := 130 } (va_Pc [.ref (ad 0), .int x1, .int x2, .int x3, .int x4, .int x5] (PWt dC dI cI (wC cI ad) I F sz)) (QWi dC dI (wC cI ad) post (va_A (wC cI ad I F) sz)) (XW dC dI (wC cI ad) px (va_A (wC cI ad I F) sz)) 1 6 (va_A (wC cI ad I F) sz) := by
  refine vx_ofW (cc := cX4_bind) (maxL := 7) (ret := (some .int)) (by decide) rfl ?_
  intro p e s m args below meth c s₁ B hml hout hv
  obtain ⟨rfl, ⟨hsz, ⟨hP, hK, hN⟩, hD0⟩, hT, hZ⟩ := hv
  subst hsz
  have hD := wD_any (wC_fix cI ad) (hD0.self (sz := s.heap.size))
  generalize hAe : va_A (wC cI ad I F) s.heap.size = A at hD hZ ⊢
  have hA : ∀ q : Nat, s.heap.size ≤ q → A q := fun q h => by rw [← hAe]; exact Or.inr h
  clear hAe hD0
  have hx := B.exec
  have hb := B.bytes
  have hr := B.returns
  have hts := atoms_spec (ws := wsX4_bind) B.pre
  have hown : s.vm.findClass RX4 = some m.cls := findClass_of_methodNamed B.named
  have hlocks := B.notSynchronized
  have C : Cx p s m _ meth c cX4_bind 7 (some .int) RX4 wsX4_bind := ⟨hx, hb, hml, hown, hts, hr, hlocks⟩
  have hS : va_S A s.heap s.heap [] := va_S.rf
  have hl := lv_entry ([.ref (ad 0), .int x1, .int x2, .int x3, .int x4, .int x5]) (n := 7) (Nat.le_of_ble_eq_true rfl)
  rw [lg_entry_eq]
  generalize (lg_sl ([.ref (ad 0), .int x1, .int x2, .int x3, .int x4, .int x5]) ++ List.replicate (7 - (lg_sl ([.ref (ad 0), .int x1, .int x2, .int x3, .int x4, .int x5])).length) Slot.unset).toArray = ls at hl ⊢
  have hl : lv_has ls 7 [(0, .ref (ad 0)), (1, .int x1), (2, .int x2), (3, .int x3), (4, .int x4), (5, .int x5)] := hl
  unfold wX4_bind at h
  refine lv_aload_n hx hb dX4_bind_0 rfl (lv_at hl 0 rfl) ?_
  refine vp_callSi (cr_of (va_runV (As := []) (rest := []) ⟨hx, hb, hml, hown, hts⟩ (cTX4_isPlanGood l dC dI cI ad I F _ h) (cwV 0 hts gX4_bind_X4_isPlanGood rfl rfl rfl (by decide +kernel) ⟨Nat.le_of_ble_eq_true rfl, Nat.le_of_ble_eq_true rfl⟩) (pv_R hP hK hN 0 4 rfl rfl _) rfl rfl hl.1 rfl (lv_room (Nat.le_of_ble_eq_true rfl)) dX4_bind_1 ⟨Nat.le_of_ble_eq_true rfl, Nat.le_of_ble_eq_true rfl⟩)) (fun r1 h => ?_)
  refine lv_if_eq (tgt := 29) hx hb dX4_bind_4 (by decide) (fun c2 => ?_) (fun c2 => ?_)
  · have h := h.1 c2
    exact throw_w (wf := wC cI ad) (own := RX4) (names := exNames) (ik := 45) (ic := 47) (cls := "java/lang/IllegalStateException") hx hb hst hown (by decide +kernel) (by decide +kernel) hts (by decide +kernel) (by decide +kernel) tX4_bind_47 hT twm_47 twg_47 hZ hP hS (hl.1.trans hml.symm) dX4_bind_29 dX4_bind_32 dX4_bind_33 dX4_bind_36 hout (Nat.le_of_ble_eq_true rfl) (Nat.le_of_ble_eq_true rfl) (Nat.le_of_ble_eq_true rfl) (Nat.le_of_ble_eq_true rfl) hlocks h
  · have h := h.2 c2
    refine lv_aload_n hx hb dX4_bind_7 rfl (lv_at hl 0 rfl) ?_
    refine va_get (D := (dC, dI)) (ci := 4) (v := .ref (ad 2)) (C := RX4) (T := TX4) (N := 5) hx hb hts iX4_bind_X4 hown hK hP 0 rfl rfl 1 (by decide) (hts (.fieldLink RX4 19 "CarrierBooks" "register" "LCarrierBooks$Register;") (by decide +kernel)) (fun _ h9 => h9) rfl dX4_bind_8 ?_
    refine va_getN (host := RX4) (D := (dC, dI)) (ci := 2) (v := .int (I 2)) (C := RX2) (T := TX2) (N := 10) hx hb hts iX4_bind_X2 hown hK hP 2 rfl rfl 4 (by decide) (va_Nw.use rfl (hN (.fieldLinkNest RX4 69 "CarrierBooks$Register" "policies" "I" RX4) (by decide +kernel))) (fun _ h9 => h9) rfl dX4_bind_11 ?_
    refine lv_bipush (v := (6 : Int32)) hx hb dX4_bind_14 (by decide) ?_
    refine lv_icmp_eq (tgt := 29) hx hb dX4_bind_16 (by decide) (fun c3 => ?_) (fun c3 => ?_)
    · have h := h.1 c3
      exact throw_w (wf := wC cI ad) (own := RX4) (names := exNames) (ik := 45) (ic := 47) (cls := "java/lang/IllegalStateException") hx hb hst hown (by decide +kernel) (by decide +kernel) hts (by decide +kernel) (by decide +kernel) tX4_bind_47 hT twm_47 twg_47 hZ hP hS (hl.1.trans hml.symm) dX4_bind_29 dX4_bind_32 dX4_bind_33 dX4_bind_36 hout (Nat.le_of_ble_eq_true rfl) (Nat.le_of_ble_eq_true rfl) (Nat.le_of_ble_eq_true rfl) (Nat.le_of_ble_eq_true rfl) hlocks h
    · have h := h.2 c3
      refine lv_aload_n hx hb dX4_bind_19 rfl (lv_at hl 0 rfl) ?_
      refine va_get (D := (dC, dI)) (ci := 4) (v := .ref (ad 2)) (C := RX4) (T := TX4) (N := 5) hx hb hts iX4_bind_X4 hown hK hP 0 rfl rfl 1 (by decide) (hts (.fieldLink RX4 19 "CarrierBooks" "register" "LCarrierBooks$Register;") (by decide +kernel)) (fun _ h9 => h9) rfl dX4_bind_20 ?_
      refine vp_callSi (cr_of (va_runVN (As := []) (rest := []) ⟨hx, hb, hml, hown, hts⟩ (cTX2_isFull l dC dI cI ad I F _ h) ⟨va_cnB 0 hts gX4_bind_X2_isFull_n87 rfl rfl rfl (hN (.methodLinkNest RX4 87 yX2_isFull RX4) (by decide +kernel)) (hts (.initialized RX2) (by decide +kernel)) (by decide +kernel) ⟨Nat.le_of_ble_eq_true rfl, Nat.le_of_ble_eq_true rfl⟩, hts (.instanceMethod yX2_isFull) (by decide +kernel), hts (.selects RX2 yX2_isFull yX2_isFull) (by decide +kernel)⟩ (pv_R hP hK hN 2 2 rfl rfl _) rfl rfl hl.1 rfl (lv_room (Nat.le_of_ble_eq_true rfl)) dX4_bind_23 ⟨Nat.le_of_ble_eq_true rfl, Nat.le_of_ble_eq_true rfl⟩)) (fun r4 h => ?_)
      refine lv_if_eq (tgt := 37) hx hb dX4_bind_26 (by decide) (fun c5 => ?_) (fun c5 => ?_)
      · have h := h.1 c5
        refine lv_iload_n hx hb dX4_bind_37 rfl (lv_at hl 1 rfl) ?_
        refine vp_callSi (cr_of (va_runS (As := [.int x1]) (rest := []) ⟨hx, hb, hml, hown, hts⟩ (cTX4_isDay l x1 _ h) (va_cwS 1 hts gX4_bind_X4_isDay rfl rfl rfl (by decide +kernel) ⟨Nat.le_of_ble_eq_true rfl, Nat.le_of_ble_eq_true rfl⟩) (pv_S _) rfl rfl hl.1 rfl (lv_room (Nat.le_of_ble_eq_true rfl)) dX4_bind_38 ⟨Nat.le_of_ble_eq_true rfl, Nat.le_of_ble_eq_true rfl⟩)) (fun r6 h => ?_)
        refine lv_if_eq (tgt := 81) hx hb dX4_bind_41 (by decide) (fun c7 => ?_) (fun c7 => ?_)
        · have h := h.1 c7
          exact throw_w (wf := wC cI ad) (own := RX4) (names := exNames) (ik := 55) (ic := 57) (cls := "java/lang/IllegalArgumentException") hx hb hst hown (by decide +kernel) (by decide +kernel) hts (by decide +kernel) (by decide +kernel) tX4_bind_57 hT twm_57 twg_57 hZ hP hS (hl.1.trans hml.symm) dX4_bind_81 dX4_bind_84 dX4_bind_85 dX4_bind_88 hout (Nat.le_of_ble_eq_true rfl) (Nat.le_of_ble_eq_true rfl) (Nat.le_of_ble_eq_true rfl) (Nat.le_of_ble_eq_true rfl) hlocks h
        · have h := h.2 c7
          refine lv_iconst (v := (1 : Int32)) hx hb dX4_bind_44 (by decide) ?_
          refine lv_iload_n hx hb dX4_bind_45 rfl (lv_at hl 2 rfl) ?_
          refine lv_sipush (v := (200 : Int32)) hx hb dX4_bind_46 (by decide) ?_
          refine vp_callSi (cr_of (va_runS (As := [.int (1 : Int32), .int x2, .int (200 : Int32)]) (rest := []) ⟨hx, hb, hml, hown, hts⟩ (cTX4_isWithin l (1 : Int32) x2 (200 : Int32) _ h) (va_cwS 3 hts gX4_bind_X4_isWithin rfl rfl rfl (by decide +kernel) ⟨Nat.le_of_ble_eq_true rfl, Nat.le_of_ble_eq_true rfl⟩) (pv_S _) rfl rfl hl.1 rfl (lv_room (Nat.le_of_ble_eq_true rfl)) dX4_bind_49 ⟨Nat.le_of_ble_eq_true rfl, Nat.le_of_ble_eq_true rfl⟩)) (fun r8 h => ?_)
          refine lv_if_eq (tgt := 81) hx hb dX4_bind_52 (by decide) (fun c9 => ?_) (fun c9 => ?_)
          · have h := h.1 c9
            exact throw_w (wf := wC cI ad) (own := RX4) (names := exNames) (ik := 55) (ic := 57) (cls := "java/lang/IllegalArgumentException") hx hb hst hown (by decide +kernel) (by decide +kernel) hts (by decide +kernel) (by decide +kernel) tX4_bind_57 hT twm_57 twg_57 hZ hP hS (hl.1.trans hml.symm) dX4_bind_81 dX4_bind_84 dX4_bind_85 dX4_bind_88 hout (Nat.le_of_ble_eq_true rfl) (Nat.le_of_ble_eq_true rfl) (Nat.le_of_ble_eq_true rfl) (Nat.le_of_ble_eq_true rfl) hlocks h
          · have h := h.2 c9
            refine lv_iconst (v := (0 : Int32)) hx hb dX4_bind_55 (by decide) ?_
            refine lv_iload_n hx hb dX4_bind_56 rfl (lv_at hl 3 rfl) ?_
            refine vp_callSi (cr_of (va_runS (As := [.int (0 : Int32), .int x3]) (rest := []) ⟨hx, hb, hml, hown, hts⟩ (cTX4_isValueOf l (0 : Int32) x3 _ h) (va_cwS 2 hts gX4_bind_X4_isValueOf rfl rfl rfl (by decide +kernel) ⟨Nat.le_of_ble_eq_true rfl, Nat.le_of_ble_eq_true rfl⟩) (pv_S _) rfl rfl hl.1 rfl (lv_room (Nat.le_of_ble_eq_true rfl)) dX4_bind_57 ⟨Nat.le_of_ble_eq_true rfl, Nat.le_of_ble_eq_true rfl⟩)) (fun r10 h => ?_)
            refine lv_if_eq (tgt := 81) hx hb dX4_bind_60 (by decide) (fun c11 => ?_) (fun c11 => ?_)
            · have h := h.1 c11
              exact throw_w (wf := wC cI ad) (own := RX4) (names := exNames) (ik := 55) (ic := 57) (cls := "java/lang/IllegalArgumentException") hx hb hst hown (by decide +kernel) (by decide +kernel) hts (by decide +kernel) (by decide +kernel) tX4_bind_57 hT twm_57 twg_57 hZ hP hS (hl.1.trans hml.symm) dX4_bind_81 dX4_bind_84 dX4_bind_85 dX4_bind_88 hout (Nat.le_of_ble_eq_true rfl) (Nat.le_of_ble_eq_true rfl) (Nat.le_of_ble_eq_true rfl) (Nat.le_of_ble_eq_true rfl) hlocks h
            · have h := h.2 c11
              refine lv_iconst (v := (1 : Int32)) hx hb dX4_bind_63 (by decide) ?_
              refine lv_iload hx hb dX4_bind_64 (lv_at hl 4 rfl) ?_
              refine vp_callSi (cr_of (va_runS (As := [.int (1 : Int32), .int x4]) (rest := []) ⟨hx, hb, hml, hown, hts⟩ (cTX4_isValueOf l (1 : Int32) x4 _ h) (va_cwS 2 hts gX4_bind_X4_isValueOf rfl rfl rfl (by decide +kernel) ⟨Nat.le_of_ble_eq_true rfl, Nat.le_of_ble_eq_true rfl⟩) (pv_S _) rfl rfl hl.1 rfl (lv_room (Nat.le_of_ble_eq_true rfl)) dX4_bind_66 ⟨Nat.le_of_ble_eq_true rfl, Nat.le_of_ble_eq_true rfl⟩)) (fun r12 h => ?_)
              refine lv_if_eq (tgt := 81) hx hb dX4_bind_69 (by decide) (fun c13 => ?_) (fun c13 => ?_)
              · have h := h.1 c13
                exact throw_w (wf := wC cI ad) (own := RX4) (names := exNames) (ik := 55) (ic := 57) (cls := "java/lang/IllegalArgumentException") hx hb hst hown (by decide +kernel) (by decide +kernel) hts (by decide +kernel) (by decide +kernel) tX4_bind_57 hT twm_57 twg_57 hZ hP hS (hl.1.trans hml.symm) dX4_bind_81 dX4_bind_84 dX4_bind_85 dX4_bind_88 hout (Nat.le_of_ble_eq_true rfl) (Nat.le_of_ble_eq_true rfl) (Nat.le_of_ble_eq_true rfl) (Nat.le_of_ble_eq_true rfl) hlocks h
              · have h := h.2 c13
                refine lv_iconst (v := (2 : Int32)) hx hb dX4_bind_72 (by decide) ?_
                refine lv_iload hx hb dX4_bind_73 (lv_at hl 5 rfl) ?_
                refine vp_callSi (cr_of (va_runS (As := [.int (2 : Int32), .int x5]) (rest := []) ⟨hx, hb, hml, hown, hts⟩ (cTX4_isValueOf l (2 : Int32) x5 _ h) (va_cwS 2 hts gX4_bind_X4_isValueOf rfl rfl rfl (by decide +kernel) ⟨Nat.le_of_ble_eq_true rfl, Nat.le_of_ble_eq_true rfl⟩) (pv_S _) rfl rfl hl.1 rfl (lv_room (Nat.le_of_ble_eq_true rfl)) dX4_bind_75 ⟨Nat.le_of_ble_eq_true rfl, Nat.le_of_ble_eq_true rfl⟩)) (fun r14 h => ?_)
                refine lv_if_ne (tgt := 89) hx hb dX4_bind_78 (by decide) (fun c15 => ?_) (fun c15 => ?_)
                · have h := h.1 c15
                  refine lv_aload_n hx hb dX4_bind_89 rfl (lv_at hl 0 rfl) ?_
                  refine va_get (D := (dC, dI)) (ci := 4) (v := .ref (ad 2)) (C := RX4) (T := TX4) (N := 5) hx hb hts iX4_bind_X4 hown hK hP 0 rfl rfl 1 (by decide) (hts (.fieldLink RX4 19 "CarrierBooks" "register" "LCarrierBooks$Register;") (by decide +kernel)) (fun _ h9 => h9) rfl dX4_bind_90 ?_
                  refine va_getN (host := RX4) (D := (dC, dI)) (ci := 2) (v := .int (I 2)) (C := RX2) (T := TX2) (N := 10) hx hb hts iX4_bind_X2 hown hK hP 2 rfl rfl 4 (by decide) (va_Nw.use rfl (hN (.fieldLinkNest RX4 69 "CarrierBooks$Register" "policies" "I" RX4) (by decide +kernel))) (fun _ h9 => h9) rfl dX4_bind_93 ?_
                  refine lv_topi (fun v16 ev16 => ?_)
                  have h := h v16 ev16
                  refine lv_istore (lv' := [(6, .int v16), (0, .ref (ad 0)), (1, .int x1), (2, .int x2), (3, .int x3), (4, .int x4), (5, .int x5)]) hx hb dX4_bind_96 hl (by decide) rfl (fun ls hl => ?_)
                  refine lv_aload_n hx hb dX4_bind_98 rfl (lv_at hl 1 rfl) ?_
                  refine va_get (D := (dC, dI)) (ci := 4) (v := .ref (ad 2)) (C := RX4) (T := TX4) (N := 5) hx hb hts iX4_bind_X4 hown hK hP 0 rfl rfl 1 (by decide) (hts (.fieldLink RX4 19 "CarrierBooks" "register" "LCarrierBooks$Register;") (by decide +kernel)) (fun _ h9 => h9) rfl dX4_bind_99 ?_
                  refine lv_iload_n hx hb dX4_bind_102 rfl (lv_at hl 2 rfl) ?_
                  refine lv_iload_n hx hb dX4_bind_103 rfl (lv_at hl 3 rfl) ?_
                  refine lv_iload_n hx hb dX4_bind_104 rfl (lv_at hl 4 rfl) ?_
                  refine lv_iload hx hb dX4_bind_105 (lv_at hl 5 rfl) ?_
                  refine lv_iload hx hb dX4_bind_107 (lv_at hl 6 rfl) ?_
                  refine wcall_v (va_runVN (As := [.int x1, .int x2, .int x3, .int x4, .int x5]) (rest := []) ⟨hx, hb, hml, hown, hts⟩ (cTX2_pencilBind l dC dI cI ad I F s.heap.size x1 x2 x3 x4 x5 _ h) ⟨va_cnB 5 hts gX4_bind_X2_pencilBind_n98 rfl rfl rfl (hN (.methodLinkNest RX4 98 yX2_pencilBind RX4) (by decide +kernel)) (hts (.initialized RX2) (by decide +kernel)) (by decide +kernel) ⟨Nat.le_of_ble_eq_true rfl, Nat.le_of_ble_eq_true rfl⟩, hts (.instanceMethod yX2_pencilBind) (by decide +kernel), hts (.selects RX2 yX2_pencilBind yX2_pencilBind) (by decide +kernel)⟩ (pv_W hP hK hN ((hD _ _).weaken (fun _ _ _ _ => trivial)) 2 2 rfl rfl _) rfl rfl hl.1 rfl (lv_room (Nat.le_of_ble_eq_true rfl)) dX4_bind_109 ⟨Nat.le_of_ble_eq_true rfl, Nat.le_of_ble_eq_true rfl⟩) hD hS hA (fun I18 F19 h H locs hP hS => ?_)
                  refine lv_aload_n hx hb dX4_bind_112 rfl (lv_at hl 1 rfl) ?_
                  refine lv_iload hx hb dX4_bind_113 (lv_at hl 0 rfl) ?_
                  refine lv_iconst (v := (0 : Int32)) hx hb dX4_bind_115 (by decide) ?_
                  refine xcall_v (vx_runV (As := [.int v16, .int (0 : Int32)]) (rest := []) ⟨hx, hb, hml, hown, hts⟩ (cTX4_postPremium l hst dC dI cI ad I18 F19 H.size v16 (0 : Int32) _ px h) (cwV 2 hts gX4_bind_X4_postPremium rfl rfl rfl (by decide +kernel) ⟨Nat.le_of_ble_eq_true rfl, Nat.le_of_ble_eq_true rfl⟩) (pv_T hP hK hN hT hZ hS hD hA 0 4 rfl rfl _) rfl rfl hl.1 rfl (lv_room (Nat.le_of_ble_eq_true rfl)) dX4_bind_116 ⟨Nat.le_of_ble_eq_true rfl, Nat.le_of_ble_eq_true rfl⟩) hD hS hA hout hlocks (fun I21 F22 h H locs hP hS => ?_)
                  refine lv_aload_n hx hb dX4_bind_119 rfl (lv_at hl 1 rfl) ?_
                  refine va_get (D := (dC, dI)) (ci := 4) (v := .ref (ad 2)) (C := RX4) (T := TX4) (N := 5) hx hb hts iX4_bind_X4 hown hK hP 0 rfl rfl 1 (by decide) (hts (.fieldLink RX4 19 "CarrierBooks" "register" "LCarrierBooks$Register;") (by decide +kernel)) (fun _ h9 => h9) rfl dX4_bind_120 ?_
                  refine wcall_v (va_runVN (As := []) (rest := []) ⟨hx, hb, hml, hown, hts⟩ (cTX2_confirmBind l dC dI cI ad I21 F22 H.size _ h) ⟨va_cnB 0 hts gX4_bind_X2_confirmBind_n106 rfl rfl rfl (hN (.methodLinkNest RX4 106 yX2_confirmBind RX4) (by decide +kernel)) (hts (.initialized RX2) (by decide +kernel)) (by decide +kernel) ⟨Nat.le_of_ble_eq_true rfl, Nat.le_of_ble_eq_true rfl⟩, hts (.instanceMethod yX2_confirmBind) (by decide +kernel), hts (.selects RX2 yX2_confirmBind yX2_confirmBind) (by decide +kernel)⟩ (pv_W hP hK hN ((hD _ _).weaken (fun _ _ _ _ => trivial)) 2 2 rfl rfl _) rfl rfl hl.1 rfl (lv_room (Nat.le_of_ble_eq_true rfl)) dX4_bind_123 ⟨Nat.le_of_ble_eq_true rfl, Nat.le_of_ble_eq_true rfl⟩) hD hS hA (fun I24 F25 h H locs hP hS => ?_)
                  refine lv_iload hx hb dX4_bind_126 (lv_at hl 0 rfl) ?_
                  refine W.widen (k := 1) (n := 6) (Nat.le_of_ble_eq_true rfl) (Nat.le_of_ble_eq_true rfl) ?_
                  exact vx_ret (W.iret (v := v16) hx hb hr (fun t ht hW => ⟨⟨v16, (I24, F25), rfl, h, by show va_P _ _ _ t.heap; rw [ht]; exact hP⟩, hS.F ht⟩) hS.2.2 dX4_bind_128)
                · have h := h.2 c15
                  exact throw_w (wf := wC cI ad) (own := RX4) (names := exNames) (ik := 55) (ic := 57) (cls := "java/lang/IllegalArgumentException") hx hb hst hown (by decide +kernel) (by decide +kernel) hts (by decide +kernel) (by decide +kernel) tX4_bind_57 hT twm_57 twg_57 hZ hP hS (hl.1.trans hml.symm) dX4_bind_81 dX4_bind_84 dX4_bind_85 dX4_bind_88 hout (Nat.le_of_ble_eq_true rfl) (Nat.le_of_ble_eq_true rfl) (Nat.le_of_ble_eq_true rfl) (Nat.le_of_ble_eq_true rfl) hlocks h
      · have h := h.2 c5
        exact throw_w (wf := wC cI ad) (own := RX4) (names := exNames) (ik := 45) (ic := 47) (cls := "java/lang/IllegalStateException") hx hb hst hown (by decide +kernel) (by decide +kernel) hts (by decide +kernel) (by decide +kernel) tX4_bind_47 hT twm_47 twg_47 hZ hP hS (hl.1.trans hml.symm) dX4_bind_29 dX4_bind_32 dX4_bind_33 dX4_bind_36 hout (Nat.le_of_ble_eq_true rfl) (Nat.le_of_ble_eq_true rfl) (Nat.le_of_ble_eq_true rfl) (Nat.le_of_ble_eq_true rfl) hlocks h

theorem iX4_book_X4 : ∀ w ∈ wsX40, w ∈ wsX4_book := by decide +kernel
def wX4_book (I : Nat → Int32) (F : Nat → Nat → Int32) (x1 x2 x3 x4 x5 : Int32) (post : Int32 → (Nat → Int32) → (Nat → Nat → Int32) → Prop) (px : String → (Nat → Int32) → (Nat → Nat → Int32) → Prop) : Prop := wX2_pencil I F x1 x2 x3 x4 (fun I2 F3 => wX4_postPremium I2 F3 x1 x5 (fun I5 F6 => wX2_confirm I5 F6 (fun r7 I8 F9 => post r7 I8 F9)) px)
set_option maxHeartbeats 4000000 in
set_option maxRecDepth 100000 in
theorem cTX4_book (l : Launch) (hst : l.stackTraces = false) (dC : Nat → ClassId) (dI : Nat → Nat → Nat) (cI : ClassId) (ad : Nat → Nat) (I : Nat → Int32) (F : Nat → Nat → Int32) (sz : Nat) (x1 x2 x3 x4 x5 : Int32) (post : Int32 → (Nat → Int32) → (Nat → Nat → Int32) → Prop) (px : String → (Nat → Int32) → (Nat → Nat → Int32) → Prop) (h : wX4_book I F x1 x2 x3 x4 x5 post px) : vx_Met l yX4_book wsX4_book { frames := 7, cells := 1, slots := 6, locals := 130 } (va_Pc [.ref (ad 0), .int x1, .int x2, .int x3, .int x4, .int x5] (PWt dC dI cI (wC cI ad) I F sz)) (QWi dC dI (wC cI ad) post (va_A (wC cI ad I F) sz)) (XW dC dI (wC cI ad) px (va_A (wC cI ad I F) sz)) 1 6 (va_A (wC cI ad I F) sz) := by
  refine vx_ofW (cc := cX4_book) (maxL := 6) (ret := (some .int)) (by decide) rfl ?_
  intro p e s m args below meth c s₁ B hml hout hv
  obtain ⟨rfl, ⟨hsz, ⟨hP, hK, hN⟩, hD0⟩, hT, hZ⟩ := hv
  subst hsz
  have hD := wD_any (wC_fix cI ad) (hD0.self (sz := s.heap.size))
  generalize hAe : va_A (wC cI ad I F) s.heap.size = A at hD hZ ⊢
  have hA : ∀ q : Nat, s.heap.size ≤ q → A q := fun q h => by rw [← hAe]; exact Or.inr h
  clear hAe hD0
  have hx := B.exec
  have hb := B.bytes
  have hr := B.returns
  have hts := atoms_spec (ws := wsX4_book) B.pre
  have hown : s.vm.findClass RX4 = some m.cls := findClass_of_methodNamed B.named
  have hlocks := B.notSynchronized
  have C : Cx p s m _ meth c cX4_book 6 (some .int) RX4 wsX4_book := ⟨hx, hb, hml, hown, hts, hr, hlocks⟩
  have hS : va_S A s.heap s.heap [] := va_S.rf
  have hl := lv_entry ([.ref (ad 0), .int x1, .int x2, .int x3, .int x4, .int x5]) (n := 6) (Nat.le_of_ble_eq_true rfl)
  rw [lg_entry_eq]
  generalize (lg_sl ([.ref (ad 0), .int x1, .int x2, .int x3, .int x4, .int x5]) ++ List.replicate (6 - (lg_sl ([.ref (ad 0), .int x1, .int x2, .int x3, .int x4, .int x5])).length) Slot.unset).toArray = ls at hl ⊢
  have hl : lv_has ls 6 [(0, .ref (ad 0)), (1, .int x1), (2, .int x2), (3, .int x3), (4, .int x4), (5, .int x5)] := hl
  unfold wX4_book at h
  refine lv_aload_n hx hb dX4_book_0 rfl (lv_at hl 0 rfl) ?_
  refine va_get (D := (dC, dI)) (ci := 4) (v := .ref (ad 2)) (C := RX4) (T := TX4) (N := 5) hx hb hts iX4_book_X4 hown hK hP 0 rfl rfl 1 (by decide) (hts (.fieldLink RX4 19 "CarrierBooks" "register" "LCarrierBooks$Register;") (by decide +kernel)) (fun _ h9 => h9) rfl dX4_book_1 ?_
  refine lv_iload_n hx hb dX4_book_4 rfl (lv_at hl 1 rfl) ?_
  refine lv_iload_n hx hb dX4_book_5 rfl (lv_at hl 2 rfl) ?_
  refine lv_iload_n hx hb dX4_book_6 rfl (lv_at hl 3 rfl) ?_
  refine lv_iload hx hb dX4_book_7 (lv_at hl 4 rfl) ?_
  refine wcall_v (va_runVN (As := [.int x1, .int x2, .int x3, .int x4]) (rest := []) ⟨hx, hb, hml, hown, hts⟩ (cTX2_pencil l dC dI cI ad I F s.heap.size x1 x2 x3 x4 _ h) ⟨va_cnB 4 hts gX4_book_X2_pencil_n181 rfl rfl rfl (hN (.methodLinkNest RX4 181 yX2_pencil RX4) (by decide +kernel)) (hts (.initialized RX2) (by decide +kernel)) (by decide +kernel) ⟨Nat.le_of_ble_eq_true rfl, Nat.le_of_ble_eq_true rfl⟩, hts (.instanceMethod yX2_pencil) (by decide +kernel), hts (.selects RX2 yX2_pencil yX2_pencil) (by decide +kernel)⟩ (pv_W hP hK hN ((hD _ _).weaken (fun _ _ _ _ => trivial)) 2 2 rfl rfl _) rfl rfl hl.1 rfl (lv_room (Nat.le_of_ble_eq_true rfl)) dX4_book_9 ⟨Nat.le_of_ble_eq_true rfl, Nat.le_of_ble_eq_true rfl⟩) hD hS hA (fun I2 F3 h H locs hP hS => ?_)
  refine lv_aload_n hx hb dX4_book_12 rfl (lv_at hl 0 rfl) ?_
  refine lv_iload_n hx hb dX4_book_13 rfl (lv_at hl 1 rfl) ?_
  refine lv_iload hx hb dX4_book_14 (lv_at hl 5 rfl) ?_
  refine xcall_v (vx_runV (As := [.int x1, .int x5]) (rest := []) ⟨hx, hb, hml, hown, hts⟩ (cTX4_postPremium l hst dC dI cI ad I2 F3 H.size x1 x5 _ px h) (cwV 2 hts gX4_book_X4_postPremium rfl rfl rfl (by decide +kernel) ⟨Nat.le_of_ble_eq_true rfl, Nat.le_of_ble_eq_true rfl⟩) (pv_T hP hK hN hT hZ hS hD hA 0 4 rfl rfl _) rfl rfl hl.1 rfl (lv_room (Nat.le_of_ble_eq_true rfl)) dX4_book_16 ⟨Nat.le_of_ble_eq_true rfl, Nat.le_of_ble_eq_true rfl⟩) hD hS hA hout hlocks (fun I5 F6 h H locs hP hS => ?_)
  refine lv_aload_n hx hb dX4_book_19 rfl (lv_at hl 0 rfl) ?_
  refine va_get (D := (dC, dI)) (ci := 4) (v := .ref (ad 2)) (C := RX4) (T := TX4) (N := 5) hx hb hts iX4_book_X4 hown hK hP 0 rfl rfl 1 (by decide) (hts (.fieldLink RX4 19 "CarrierBooks" "register" "LCarrierBooks$Register;") (by decide +kernel)) (fun _ h9 => h9) rfl dX4_book_20 ?_
  refine wcall_i (va_runVN (As := []) (rest := []) ⟨hx, hb, hml, hown, hts⟩ (cTX2_confirm l dC dI cI ad I5 F6 H.size _ h) ⟨va_cnB 0 hts gX4_book_X2_confirm_n184 rfl rfl rfl (hN (.methodLinkNest RX4 184 yX2_confirm RX4) (by decide +kernel)) (hts (.initialized RX2) (by decide +kernel)) (by decide +kernel) ⟨Nat.le_of_ble_eq_true rfl, Nat.le_of_ble_eq_true rfl⟩, hts (.instanceMethod yX2_confirm) (by decide +kernel), hts (.selects RX2 yX2_confirm yX2_confirm) (by decide +kernel)⟩ (pv_W hP hK hN ((hD _ _).weaken (fun _ _ _ _ => trivial)) 2 2 rfl rfl _) rfl rfl hl.1 rfl (lv_room (Nat.le_of_ble_eq_true rfl)) dX4_book_23 ⟨Nat.le_of_ble_eq_true rfl, Nat.le_of_ble_eq_true rfl⟩) hD hS hA (fun r7 I8 F9 h H locs hP hS => ?_)
  refine W.widen (k := 1) (n := 6) (Nat.le_of_ble_eq_true rfl) (Nat.le_of_ble_eq_true rfl) ?_
  exact vx_ret (W.iret (v := r7) hx hb hr (fun t ht hW => ⟨⟨r7, (I8, F9), rfl, h, by show va_P _ _ _ t.heap; rw [ht]; exact hP⟩, hS.F ht⟩) hS.2.2 dX4_book_26)

theorem iX4_change_X4 : ∀ w ∈ wsX40, w ∈ wsX4_change := by decide +kernel
theorem tX4_change_47 : ∀ w ∈ (vx_at0 RX4 47 "java/lang/IllegalStateException" exNames).filter goodWord, w ∈ wsX4_change := by decide +kernel
theorem tX4_change_57 : ∀ w ∈ (vx_at0 RX4 57 "java/lang/IllegalArgumentException" exNames).filter goodWord, w ∈ wsX4_change := by decide +kernel
theorem tX4_change_114 : ∀ w ∈ (vx_at0 RX4 114 "java/util/NoSuchElementException" exNames).filter goodWord, w ∈ wsX4_change := by decide +kernel
def wX4_change (I : Nat → Int32) (F : Nat → Nat → Int32) (x1 x2 x3 x4 : Int32) (post : Int32 → (Nat → Int32) → (Nat → Nat → Int32) → Prop) (px : String → (Nat → Int32) → (Nat → Nat → Int32) → Prop) : Prop := wX4_isPolicy I F x1 (fun r1 => ((r1 = (0 : Int32) → px "java/util/NoSuchElementException" I F) ∧ (¬ r1 = (0 : Int32) → wX4_isWithin (0 : Int32) x3 (2 : Int32) (fun r3 => ((¬ r3 = (0 : Int32) → wX2_isInTerm I F x1 x2 (fun r5 => ((r5 = (0 : Int32) → px "java/lang/IllegalArgumentException" I F) ∧ (¬ r5 = (0 : Int32) → wX4_isValueOf x3 x4 (fun r7 => ((¬ r7 = (0 : Int32) → wX2_isInForce I F x1 x2 (fun r9 => ((r9 = (0 : Int32) → px "java/lang/IllegalStateException" I F) ∧ (¬ r9 = (0 : Int32) → wX2_isFull I F (fun r11 => ((r11 = (0 : Int32) → wX4_book I F x1 x2 x3 x4 (0 : Int32) (fun r13 I14 F15 => post r13 I14 F15) px) ∧ (¬ r11 = (0 : Int32) → px "java/lang/IllegalStateException" I F))))))) ∧ (r7 = (0 : Int32) → px "java/lang/IllegalArgumentException" I F))))))) ∧ (r3 = (0 : Int32) → px "java/util/NoSuchElementException" I F))))))
set_option maxHeartbeats 4000000 in
set_option maxRecDepth 100000 in
theorem cTX4_change (l : Launch) (hst : l.stackTraces = false) (dC : Nat → ClassId) (dI : Nat → Nat → Nat) (cI : ClassId) (ad : Nat → Nat) (I : Nat → Int32) (F : Nat → Nat → Int32) (sz : Nat) (x1 x2 x3 x4 : Int32) (post : Int32 → (Nat → Int32) → (Nat → Nat → Int32) → Prop) (px : String → (Nat → Int32) → (Nat → Nat → Int32) → Prop) (h : wX4_change I F x1 x2 x3 x4 post px) : vx_Met l yX4_change wsX4_change { frames := 8, cells := 1, slots := 6, locals := 155 } (va_Pc [.ref (ad 0), .int x1, .int x2, .int x3, .int x4] (PWt dC dI cI (wC cI ad) I F sz)) (QWi dC dI (wC cI ad) post (va_A (wC cI ad I F) sz)) (XW dC dI (wC cI ad) px (va_A (wC cI ad I F) sz)) 1 6 (va_A (wC cI ad I F) sz) := by
  refine vx_ofW (cc := cX4_change) (maxL := 5) (ret := (some .int)) (by decide) rfl ?_
  intro p e s m args below meth c s₁ B hml hout hv
  obtain ⟨rfl, ⟨hsz, ⟨hP, hK, hN⟩, hD0⟩, hT, hZ⟩ := hv
  subst hsz
  have hD := wD_any (wC_fix cI ad) (hD0.self (sz := s.heap.size))
  generalize hAe : va_A (wC cI ad I F) s.heap.size = A at hD hZ ⊢
  have hA : ∀ q : Nat, s.heap.size ≤ q → A q := fun q h => by rw [← hAe]; exact Or.inr h
  clear hAe hD0
  have hx := B.exec
  have hb := B.bytes
  have hr := B.returns
  have hts := atoms_spec (ws := wsX4_change) B.pre
  have hown : s.vm.findClass RX4 = some m.cls := findClass_of_methodNamed B.named
  have hlocks := B.notSynchronized
  have C : Cx p s m _ meth c cX4_change 5 (some .int) RX4 wsX4_change := ⟨hx, hb, hml, hown, hts, hr, hlocks⟩
  have hS : va_S A s.heap s.heap [] := va_S.rf
  have hl := lv_entry ([.ref (ad 0), .int x1, .int x2, .int x3, .int x4]) (n := 5) (Nat.le_of_ble_eq_true rfl)
  rw [lg_entry_eq]
  generalize (lg_sl ([.ref (ad 0), .int x1, .int x2, .int x3, .int x4]) ++ List.replicate (5 - (lg_sl ([.ref (ad 0), .int x1, .int x2, .int x3, .int x4])).length) Slot.unset).toArray = ls at hl ⊢
  have hl : lv_has ls 5 [(0, .ref (ad 0)), (1, .int x1), (2, .int x2), (3, .int x3), (4, .int x4)] := hl
  unfold wX4_change at h
  refine lv_aload_n hx hb dX4_change_0 rfl (lv_at hl 0 rfl) ?_
  refine lv_iload_n hx hb dX4_change_1 rfl (lv_at hl 1 rfl) ?_
  refine vp_callSi (cr_of (va_runV (As := [.int x1]) (rest := []) ⟨hx, hb, hml, hown, hts⟩ (cTX4_isPolicy l dC dI cI ad I F x1 _ h) (cwV 1 hts gX4_change_X4_isPolicy rfl rfl rfl (by decide +kernel) ⟨Nat.le_of_ble_eq_true rfl, Nat.le_of_ble_eq_true rfl⟩) (pv_R hP hK hN 0 4 rfl rfl _) rfl rfl hl.1 rfl (lv_room (Nat.le_of_ble_eq_true rfl)) dX4_change_2 ⟨Nat.le_of_ble_eq_true rfl, Nat.le_of_ble_eq_true rfl⟩)) (fun r1 h => ?_)
  refine lv_if_eq (tgt := 17) hx hb dX4_change_5 (by decide) (fun c2 => ?_) (fun c2 => ?_)
  · have h := h.1 c2
    exact throw_w (wf := wC cI ad) (own := RX4) (names := exNames) (ik := 112) (ic := 114) (cls := "java/util/NoSuchElementException") hx hb hst hown (by decide +kernel) (by decide +kernel) hts (by decide +kernel) (by decide +kernel) tX4_change_114 hT twm_114 twg_114 hZ hP hS (hl.1.trans hml.symm) dX4_change_17 dX4_change_20 dX4_change_21 dX4_change_24 hout (Nat.le_of_ble_eq_true rfl) (Nat.le_of_ble_eq_true rfl) (Nat.le_of_ble_eq_true rfl) (Nat.le_of_ble_eq_true rfl) hlocks h
  · have h := h.2 c2
    refine lv_iconst (v := (0 : Int32)) hx hb dX4_change_8 (by decide) ?_
    refine lv_iload_n hx hb dX4_change_9 rfl (lv_at hl 3 rfl) ?_
    refine lv_iconst (v := (2 : Int32)) hx hb dX4_change_10 (by decide) ?_
    refine vp_callSi (cr_of (va_runS (As := [.int (0 : Int32), .int x3, .int (2 : Int32)]) (rest := []) ⟨hx, hb, hml, hown, hts⟩ (cTX4_isWithin l (0 : Int32) x3 (2 : Int32) _ h) (va_cwS 3 hts gX4_change_X4_isWithin rfl rfl rfl (by decide +kernel) ⟨Nat.le_of_ble_eq_true rfl, Nat.le_of_ble_eq_true rfl⟩) (pv_S _) rfl rfl hl.1 rfl (lv_room (Nat.le_of_ble_eq_true rfl)) dX4_change_11 ⟨Nat.le_of_ble_eq_true rfl, Nat.le_of_ble_eq_true rfl⟩)) (fun r3 h => ?_)
    refine lv_if_ne (tgt := 25) hx hb dX4_change_14 (by decide) (fun c4 => ?_) (fun c4 => ?_)
    · have h := h.1 c4
      refine lv_aload_n hx hb dX4_change_25 rfl (lv_at hl 0 rfl) ?_
      refine va_get (D := (dC, dI)) (ci := 4) (v := .ref (ad 2)) (C := RX4) (T := TX4) (N := 5) hx hb hts iX4_change_X4 hown hK hP 0 rfl rfl 1 (by decide) (hts (.fieldLink RX4 19 "CarrierBooks" "register" "LCarrierBooks$Register;") (by decide +kernel)) (fun _ h9 => h9) rfl dX4_change_26 ?_
      refine lv_iload_n hx hb dX4_change_29 rfl (lv_at hl 1 rfl) ?_
      refine lv_iload_n hx hb dX4_change_30 rfl (lv_at hl 2 rfl) ?_
      refine vp_callSi (cr_of (va_runVN (As := [.int x1, .int x2]) (rest := []) ⟨hx, hb, hml, hown, hts⟩ (cTX2_isInTerm l dC dI cI ad I F x1 x2 _ h) ⟨va_cnB 2 hts gX4_change_X2_isInTerm_n115 rfl rfl rfl (hN (.methodLinkNest RX4 115 yX2_isInTerm RX4) (by decide +kernel)) (hts (.initialized RX2) (by decide +kernel)) (by decide +kernel) ⟨Nat.le_of_ble_eq_true rfl, Nat.le_of_ble_eq_true rfl⟩, hts (.instanceMethod yX2_isInTerm) (by decide +kernel), hts (.selects RX2 yX2_isInTerm yX2_isInTerm) (by decide +kernel)⟩ (pv_R hP hK hN 2 2 rfl rfl _) rfl rfl hl.1 rfl (lv_room (Nat.le_of_ble_eq_true rfl)) dX4_change_31 ⟨Nat.le_of_ble_eq_true rfl, Nat.le_of_ble_eq_true rfl⟩)) (fun r5 h => ?_)
      refine lv_if_eq (tgt := 46) hx hb dX4_change_34 (by decide) (fun c6 => ?_) (fun c6 => ?_)
      · have h := h.1 c6
        exact throw_w (wf := wC cI ad) (own := RX4) (names := exNames) (ik := 55) (ic := 57) (cls := "java/lang/IllegalArgumentException") hx hb hst hown (by decide +kernel) (by decide +kernel) hts (by decide +kernel) (by decide +kernel) tX4_change_57 hT twm_57 twg_57 hZ hP hS (hl.1.trans hml.symm) dX4_change_46 dX4_change_49 dX4_change_50 dX4_change_53 hout (Nat.le_of_ble_eq_true rfl) (Nat.le_of_ble_eq_true rfl) (Nat.le_of_ble_eq_true rfl) (Nat.le_of_ble_eq_true rfl) hlocks h
      · have h := h.2 c6
        refine lv_iload_n hx hb dX4_change_37 rfl (lv_at hl 3 rfl) ?_
        refine lv_iload hx hb dX4_change_38 (lv_at hl 4 rfl) ?_
        refine vp_callSi (cr_of (va_runS (As := [.int x3, .int x4]) (rest := []) ⟨hx, hb, hml, hown, hts⟩ (cTX4_isValueOf l x3 x4 _ h) (va_cwS 2 hts gX4_change_X4_isValueOf rfl rfl rfl (by decide +kernel) ⟨Nat.le_of_ble_eq_true rfl, Nat.le_of_ble_eq_true rfl⟩) (pv_S _) rfl rfl hl.1 rfl (lv_room (Nat.le_of_ble_eq_true rfl)) dX4_change_40 ⟨Nat.le_of_ble_eq_true rfl, Nat.le_of_ble_eq_true rfl⟩)) (fun r7 h => ?_)
        refine lv_if_ne (tgt := 54) hx hb dX4_change_43 (by decide) (fun c8 => ?_) (fun c8 => ?_)
        · have h := h.1 c8
          refine lv_aload_n hx hb dX4_change_54 rfl (lv_at hl 0 rfl) ?_
          refine va_get (D := (dC, dI)) (ci := 4) (v := .ref (ad 2)) (C := RX4) (T := TX4) (N := 5) hx hb hts iX4_change_X4 hown hK hP 0 rfl rfl 1 (by decide) (hts (.fieldLink RX4 19 "CarrierBooks" "register" "LCarrierBooks$Register;") (by decide +kernel)) (fun _ h9 => h9) rfl dX4_change_55 ?_
          refine lv_iload_n hx hb dX4_change_58 rfl (lv_at hl 1 rfl) ?_
          refine lv_iload_n hx hb dX4_change_59 rfl (lv_at hl 2 rfl) ?_
          refine vp_callSi (cr_of (va_runVN (As := [.int x1, .int x2]) (rest := []) ⟨hx, hb, hml, hown, hts⟩ (cTX2_isInForce l dC dI cI ad I F x1 x2 _ h) ⟨va_cnB 2 hts gX4_change_X2_isInForce_n118 rfl rfl rfl (hN (.methodLinkNest RX4 118 yX2_isInForce RX4) (by decide +kernel)) (hts (.initialized RX2) (by decide +kernel)) (by decide +kernel) ⟨Nat.le_of_ble_eq_true rfl, Nat.le_of_ble_eq_true rfl⟩, hts (.instanceMethod yX2_isInForce) (by decide +kernel), hts (.selects RX2 yX2_isInForce yX2_isInForce) (by decide +kernel)⟩ (pv_R hP hK hN 2 2 rfl rfl _) rfl rfl hl.1 rfl (lv_room (Nat.le_of_ble_eq_true rfl)) dX4_change_60 ⟨Nat.le_of_ble_eq_true rfl, Nat.le_of_ble_eq_true rfl⟩)) (fun r9 h => ?_)
          refine lv_if_eq (tgt := 76) hx hb dX4_change_63 (by decide) (fun c10 => ?_) (fun c10 => ?_)
          · have h := h.1 c10
            exact throw_w (wf := wC cI ad) (own := RX4) (names := exNames) (ik := 45) (ic := 47) (cls := "java/lang/IllegalStateException") hx hb hst hown (by decide +kernel) (by decide +kernel) hts (by decide +kernel) (by decide +kernel) tX4_change_47 hT twm_47 twg_47 hZ hP hS (hl.1.trans hml.symm) dX4_change_76 dX4_change_79 dX4_change_80 dX4_change_83 hout (Nat.le_of_ble_eq_true rfl) (Nat.le_of_ble_eq_true rfl) (Nat.le_of_ble_eq_true rfl) (Nat.le_of_ble_eq_true rfl) hlocks h
          · have h := h.2 c10
            refine lv_aload_n hx hb dX4_change_66 rfl (lv_at hl 0 rfl) ?_
            refine va_get (D := (dC, dI)) (ci := 4) (v := .ref (ad 2)) (C := RX4) (T := TX4) (N := 5) hx hb hts iX4_change_X4 hown hK hP 0 rfl rfl 1 (by decide) (hts (.fieldLink RX4 19 "CarrierBooks" "register" "LCarrierBooks$Register;") (by decide +kernel)) (fun _ h9 => h9) rfl dX4_change_67 ?_
            refine vp_callSi (cr_of (va_runVN (As := []) (rest := []) ⟨hx, hb, hml, hown, hts⟩ (cTX2_isFull l dC dI cI ad I F _ h) ⟨va_cnB 0 hts gX4_change_X2_isFull_n87 rfl rfl rfl (hN (.methodLinkNest RX4 87 yX2_isFull RX4) (by decide +kernel)) (hts (.initialized RX2) (by decide +kernel)) (by decide +kernel) ⟨Nat.le_of_ble_eq_true rfl, Nat.le_of_ble_eq_true rfl⟩, hts (.instanceMethod yX2_isFull) (by decide +kernel), hts (.selects RX2 yX2_isFull yX2_isFull) (by decide +kernel)⟩ (pv_R hP hK hN 2 2 rfl rfl _) rfl rfl hl.1 rfl (lv_room (Nat.le_of_ble_eq_true rfl)) dX4_change_70 ⟨Nat.le_of_ble_eq_true rfl, Nat.le_of_ble_eq_true rfl⟩)) (fun r11 h => ?_)
            refine lv_if_eq (tgt := 84) hx hb dX4_change_73 (by decide) (fun c12 => ?_) (fun c12 => ?_)
            · have h := h.1 c12
              refine lv_aload_n hx hb dX4_change_84 rfl (lv_at hl 0 rfl) ?_
              refine lv_iload_n hx hb dX4_change_85 rfl (lv_at hl 1 rfl) ?_
              refine lv_iload_n hx hb dX4_change_86 rfl (lv_at hl 2 rfl) ?_
              refine lv_iload_n hx hb dX4_change_87 rfl (lv_at hl 3 rfl) ?_
              refine lv_iload hx hb dX4_change_88 (lv_at hl 4 rfl) ?_
              refine lv_iconst (v := (0 : Int32)) hx hb dX4_change_90 (by decide) ?_
              refine xcall_i (vx_runV (As := [.int x1, .int x2, .int x3, .int x4, .int (0 : Int32)]) (rest := []) ⟨hx, hb, hml, hown, hts⟩ (cTX4_book l hst dC dI cI ad I F s.heap.size x1 x2 x3 x4 (0 : Int32) _ px h) (cwV 5 hts gX4_change_X4_book rfl rfl rfl (by decide +kernel) ⟨Nat.le_of_ble_eq_true rfl, Nat.le_of_ble_eq_true rfl⟩) (pv_T hP hK hN hT hZ hS hD hA 0 4 rfl rfl _) rfl rfl hl.1 rfl (lv_room (Nat.le_of_ble_eq_true rfl)) dX4_change_91 ⟨Nat.le_of_ble_eq_true rfl, Nat.le_of_ble_eq_true rfl⟩) hD hS hA hout hlocks (fun r13 I14 F15 h H locs hP hS => ?_)
              refine W.widen (k := 1) (n := 6) (Nat.le_of_ble_eq_true rfl) (Nat.le_of_ble_eq_true rfl) ?_
              exact vx_ret (W.iret (v := r13) hx hb hr (fun t ht hW => ⟨⟨r13, (I14, F15), rfl, h, by show va_P _ _ _ t.heap; rw [ht]; exact hP⟩, hS.F ht⟩) hS.2.2 dX4_change_94)
            · have h := h.2 c12
              exact throw_w (wf := wC cI ad) (own := RX4) (names := exNames) (ik := 45) (ic := 47) (cls := "java/lang/IllegalStateException") hx hb hst hown (by decide +kernel) (by decide +kernel) hts (by decide +kernel) (by decide +kernel) tX4_change_47 hT twm_47 twg_47 hZ hP hS (hl.1.trans hml.symm) dX4_change_76 dX4_change_79 dX4_change_80 dX4_change_83 hout (Nat.le_of_ble_eq_true rfl) (Nat.le_of_ble_eq_true rfl) (Nat.le_of_ble_eq_true rfl) (Nat.le_of_ble_eq_true rfl) hlocks h
        · have h := h.2 c8
          exact throw_w (wf := wC cI ad) (own := RX4) (names := exNames) (ik := 55) (ic := 57) (cls := "java/lang/IllegalArgumentException") hx hb hst hown (by decide +kernel) (by decide +kernel) hts (by decide +kernel) (by decide +kernel) tX4_change_57 hT twm_57 twg_57 hZ hP hS (hl.1.trans hml.symm) dX4_change_46 dX4_change_49 dX4_change_50 dX4_change_53 hout (Nat.le_of_ble_eq_true rfl) (Nat.le_of_ble_eq_true rfl) (Nat.le_of_ble_eq_true rfl) (Nat.le_of_ble_eq_true rfl) hlocks h
    · have h := h.2 c4
      exact throw_w (wf := wC cI ad) (own := RX4) (names := exNames) (ik := 112) (ic := 114) (cls := "java/util/NoSuchElementException") hx hb hst hown (by decide +kernel) (by decide +kernel) hts (by decide +kernel) (by decide +kernel) tX4_change_114 hT twm_114 twg_114 hZ hP hS (hl.1.trans hml.symm) dX4_change_17 dX4_change_20 dX4_change_21 dX4_change_24 hout (Nat.le_of_ble_eq_true rfl) (Nat.le_of_ble_eq_true rfl) (Nat.le_of_ble_eq_true rfl) (Nat.le_of_ble_eq_true rfl) hlocks h

theorem iX4_cancel_X4 : ∀ w ∈ wsX40, w ∈ wsX4_cancel := by decide +kernel
theorem tX4_cancel_47 : ∀ w ∈ (vx_at0 RX4 47 "java/lang/IllegalStateException" exNames).filter goodWord, w ∈ wsX4_cancel := by decide +kernel
theorem tX4_cancel_57 : ∀ w ∈ (vx_at0 RX4 57 "java/lang/IllegalArgumentException" exNames).filter goodWord, w ∈ wsX4_cancel := by decide +kernel
theorem tX4_cancel_114 : ∀ w ∈ (vx_at0 RX4 114 "java/util/NoSuchElementException" exNames).filter goodWord, w ∈ wsX4_cancel := by decide +kernel
def wX4_cancel (I : Nat → Int32) (F : Nat → Nat → Int32) (x1 x2 x3 : Int32) (post : Int32 → (Nat → Int32) → (Nat → Nat → Int32) → Prop) (px : String → (Nat → Int32) → (Nat → Nat → Int32) → Prop) : Prop := wX4_isPolicy I F x1 (fun r1 => ((¬ r1 = (0 : Int32) → wX2_isInTerm I F x1 x2 (fun r3 => ((¬ r3 = (0 : Int32) → wX2_isInForce I F x1 x2 (fun r5 => ((r5 = (0 : Int32) → px "java/lang/IllegalStateException" I F) ∧ (¬ r5 = (0 : Int32) → wX2_isFull I F (fun r7 => ((r7 = (0 : Int32) → wX4_book I F x1 x2 (3 : Int32) (0 : Int32) x3 (fun r9 I10 F11 => post r9 I10 F11) px) ∧ (¬ r7 = (0 : Int32) → px "java/lang/IllegalStateException" I F))))))) ∧ (r3 = (0 : Int32) → px "java/lang/IllegalArgumentException" I F)))) ∧ (r1 = (0 : Int32) → px "java/util/NoSuchElementException" I F)))
set_option maxHeartbeats 4000000 in
set_option maxRecDepth 100000 in
theorem cTX4_cancel (l : Launch) (hst : l.stackTraces = false) (dC : Nat → ClassId) (dI : Nat → Nat → Nat) (cI : ClassId) (ad : Nat → Nat) (I : Nat → Int32) (F : Nat → Nat → Int32) (sz : Nat) (x1 x2 x3 : Int32) (post : Int32 → (Nat → Int32) → (Nat → Nat → Int32) → Prop) (px : String → (Nat → Int32) → (Nat → Nat → Int32) → Prop) (h : wX4_cancel I F x1 x2 x3 post px) : vx_Met l yX4_cancel wsX4_cancel { frames := 8, cells := 1, slots := 6, locals := 155 } (va_Pc [.ref (ad 0), .int x1, .int x2, .int x3] (PWt dC dI cI (wC cI ad) I F sz)) (QWi dC dI (wC cI ad) post (va_A (wC cI ad I F) sz)) (XW dC dI (wC cI ad) px (va_A (wC cI ad I F) sz)) 1 6 (va_A (wC cI ad I F) sz) := by
  refine vx_ofW (cc := cX4_cancel) (maxL := 4) (ret := (some .int)) (by decide) rfl ?_
  intro p e s m args below meth c s₁ B hml hout hv
  obtain ⟨rfl, ⟨hsz, ⟨hP, hK, hN⟩, hD0⟩, hT, hZ⟩ := hv
  subst hsz
  have hD := wD_any (wC_fix cI ad) (hD0.self (sz := s.heap.size))
  generalize hAe : va_A (wC cI ad I F) s.heap.size = A at hD hZ ⊢
  have hA : ∀ q : Nat, s.heap.size ≤ q → A q := fun q h => by rw [← hAe]; exact Or.inr h
  clear hAe hD0
  have hx := B.exec
  have hb := B.bytes
  have hr := B.returns
  have hts := atoms_spec (ws := wsX4_cancel) B.pre
  have hown : s.vm.findClass RX4 = some m.cls := findClass_of_methodNamed B.named
  have hlocks := B.notSynchronized
  have C : Cx p s m _ meth c cX4_cancel 4 (some .int) RX4 wsX4_cancel := ⟨hx, hb, hml, hown, hts, hr, hlocks⟩
  have hS : va_S A s.heap s.heap [] := va_S.rf
  have hl := lv_entry ([.ref (ad 0), .int x1, .int x2, .int x3]) (n := 4) (Nat.le_of_ble_eq_true rfl)
  rw [lg_entry_eq]
  generalize (lg_sl ([.ref (ad 0), .int x1, .int x2, .int x3]) ++ List.replicate (4 - (lg_sl ([.ref (ad 0), .int x1, .int x2, .int x3])).length) Slot.unset).toArray = ls at hl ⊢
  have hl : lv_has ls 4 [(0, .ref (ad 0)), (1, .int x1), (2, .int x2), (3, .int x3)] := hl
  unfold wX4_cancel at h
  refine lv_aload_n hx hb dX4_cancel_0 rfl (lv_at hl 0 rfl) ?_
  refine lv_iload_n hx hb dX4_cancel_1 rfl (lv_at hl 1 rfl) ?_
  refine vp_callSi (cr_of (va_runV (As := [.int x1]) (rest := []) ⟨hx, hb, hml, hown, hts⟩ (cTX4_isPolicy l dC dI cI ad I F x1 _ h) (cwV 1 hts gX4_cancel_X4_isPolicy rfl rfl rfl (by decide +kernel) ⟨Nat.le_of_ble_eq_true rfl, Nat.le_of_ble_eq_true rfl⟩) (pv_R hP hK hN 0 4 rfl rfl _) rfl rfl hl.1 rfl (lv_room (Nat.le_of_ble_eq_true rfl)) dX4_cancel_2 ⟨Nat.le_of_ble_eq_true rfl, Nat.le_of_ble_eq_true rfl⟩)) (fun r1 h => ?_)
  refine lv_if_ne (tgt := 16) hx hb dX4_cancel_5 (by decide) (fun c2 => ?_) (fun c2 => ?_)
  · have h := h.1 c2
    refine lv_aload_n hx hb dX4_cancel_16 rfl (lv_at hl 0 rfl) ?_
    refine va_get (D := (dC, dI)) (ci := 4) (v := .ref (ad 2)) (C := RX4) (T := TX4) (N := 5) hx hb hts iX4_cancel_X4 hown hK hP 0 rfl rfl 1 (by decide) (hts (.fieldLink RX4 19 "CarrierBooks" "register" "LCarrierBooks$Register;") (by decide +kernel)) (fun _ h9 => h9) rfl dX4_cancel_17 ?_
    refine lv_iload_n hx hb dX4_cancel_20 rfl (lv_at hl 1 rfl) ?_
    refine lv_iload_n hx hb dX4_cancel_21 rfl (lv_at hl 2 rfl) ?_
    refine vp_callSi (cr_of (va_runVN (As := [.int x1, .int x2]) (rest := []) ⟨hx, hb, hml, hown, hts⟩ (cTX2_isInTerm l dC dI cI ad I F x1 x2 _ h) ⟨va_cnB 2 hts gX4_cancel_X2_isInTerm_n115 rfl rfl rfl (hN (.methodLinkNest RX4 115 yX2_isInTerm RX4) (by decide +kernel)) (hts (.initialized RX2) (by decide +kernel)) (by decide +kernel) ⟨Nat.le_of_ble_eq_true rfl, Nat.le_of_ble_eq_true rfl⟩, hts (.instanceMethod yX2_isInTerm) (by decide +kernel), hts (.selects RX2 yX2_isInTerm yX2_isInTerm) (by decide +kernel)⟩ (pv_R hP hK hN 2 2 rfl rfl _) rfl rfl hl.1 rfl (lv_room (Nat.le_of_ble_eq_true rfl)) dX4_cancel_22 ⟨Nat.le_of_ble_eq_true rfl, Nat.le_of_ble_eq_true rfl⟩)) (fun r3 h => ?_)
    refine lv_if_ne (tgt := 36) hx hb dX4_cancel_25 (by decide) (fun c4 => ?_) (fun c4 => ?_)
    · have h := h.1 c4
      refine lv_aload_n hx hb dX4_cancel_36 rfl (lv_at hl 0 rfl) ?_
      refine va_get (D := (dC, dI)) (ci := 4) (v := .ref (ad 2)) (C := RX4) (T := TX4) (N := 5) hx hb hts iX4_cancel_X4 hown hK hP 0 rfl rfl 1 (by decide) (hts (.fieldLink RX4 19 "CarrierBooks" "register" "LCarrierBooks$Register;") (by decide +kernel)) (fun _ h9 => h9) rfl dX4_cancel_37 ?_
      refine lv_iload_n hx hb dX4_cancel_40 rfl (lv_at hl 1 rfl) ?_
      refine lv_iload_n hx hb dX4_cancel_41 rfl (lv_at hl 2 rfl) ?_
      refine vp_callSi (cr_of (va_runVN (As := [.int x1, .int x2]) (rest := []) ⟨hx, hb, hml, hown, hts⟩ (cTX2_isInForce l dC dI cI ad I F x1 x2 _ h) ⟨va_cnB 2 hts gX4_cancel_X2_isInForce_n118 rfl rfl rfl (hN (.methodLinkNest RX4 118 yX2_isInForce RX4) (by decide +kernel)) (hts (.initialized RX2) (by decide +kernel)) (by decide +kernel) ⟨Nat.le_of_ble_eq_true rfl, Nat.le_of_ble_eq_true rfl⟩, hts (.instanceMethod yX2_isInForce) (by decide +kernel), hts (.selects RX2 yX2_isInForce yX2_isInForce) (by decide +kernel)⟩ (pv_R hP hK hN 2 2 rfl rfl _) rfl rfl hl.1 rfl (lv_room (Nat.le_of_ble_eq_true rfl)) dX4_cancel_42 ⟨Nat.le_of_ble_eq_true rfl, Nat.le_of_ble_eq_true rfl⟩)) (fun r5 h => ?_)
      refine lv_if_eq (tgt := 58) hx hb dX4_cancel_45 (by decide) (fun c6 => ?_) (fun c6 => ?_)
      · have h := h.1 c6
        exact throw_w (wf := wC cI ad) (own := RX4) (names := exNames) (ik := 45) (ic := 47) (cls := "java/lang/IllegalStateException") hx hb hst hown (by decide +kernel) (by decide +kernel) hts (by decide +kernel) (by decide +kernel) tX4_cancel_47 hT twm_47 twg_47 hZ hP hS (hl.1.trans hml.symm) dX4_cancel_58 dX4_cancel_61 dX4_cancel_62 dX4_cancel_65 hout (Nat.le_of_ble_eq_true rfl) (Nat.le_of_ble_eq_true rfl) (Nat.le_of_ble_eq_true rfl) (Nat.le_of_ble_eq_true rfl) hlocks h
      · have h := h.2 c6
        refine lv_aload_n hx hb dX4_cancel_48 rfl (lv_at hl 0 rfl) ?_
        refine va_get (D := (dC, dI)) (ci := 4) (v := .ref (ad 2)) (C := RX4) (T := TX4) (N := 5) hx hb hts iX4_cancel_X4 hown hK hP 0 rfl rfl 1 (by decide) (hts (.fieldLink RX4 19 "CarrierBooks" "register" "LCarrierBooks$Register;") (by decide +kernel)) (fun _ h9 => h9) rfl dX4_cancel_49 ?_
        refine vp_callSi (cr_of (va_runVN (As := []) (rest := []) ⟨hx, hb, hml, hown, hts⟩ (cTX2_isFull l dC dI cI ad I F _ h) ⟨va_cnB 0 hts gX4_cancel_X2_isFull_n87 rfl rfl rfl (hN (.methodLinkNest RX4 87 yX2_isFull RX4) (by decide +kernel)) (hts (.initialized RX2) (by decide +kernel)) (by decide +kernel) ⟨Nat.le_of_ble_eq_true rfl, Nat.le_of_ble_eq_true rfl⟩, hts (.instanceMethod yX2_isFull) (by decide +kernel), hts (.selects RX2 yX2_isFull yX2_isFull) (by decide +kernel)⟩ (pv_R hP hK hN 2 2 rfl rfl _) rfl rfl hl.1 rfl (lv_room (Nat.le_of_ble_eq_true rfl)) dX4_cancel_52 ⟨Nat.le_of_ble_eq_true rfl, Nat.le_of_ble_eq_true rfl⟩)) (fun r7 h => ?_)
        refine lv_if_eq (tgt := 66) hx hb dX4_cancel_55 (by decide) (fun c8 => ?_) (fun c8 => ?_)
        · have h := h.1 c8
          refine lv_aload_n hx hb dX4_cancel_66 rfl (lv_at hl 0 rfl) ?_
          refine lv_iload_n hx hb dX4_cancel_67 rfl (lv_at hl 1 rfl) ?_
          refine lv_iload_n hx hb dX4_cancel_68 rfl (lv_at hl 2 rfl) ?_
          refine lv_iconst (v := (3 : Int32)) hx hb dX4_cancel_69 (by decide) ?_
          refine lv_iconst (v := (0 : Int32)) hx hb dX4_cancel_70 (by decide) ?_
          refine lv_iload_n hx hb dX4_cancel_71 rfl (lv_at hl 3 rfl) ?_
          refine xcall_i (vx_runV (As := [.int x1, .int x2, .int (3 : Int32), .int (0 : Int32), .int x3]) (rest := []) ⟨hx, hb, hml, hown, hts⟩ (cTX4_book l hst dC dI cI ad I F s.heap.size x1 x2 (3 : Int32) (0 : Int32) x3 _ px h) (cwV 5 hts gX4_cancel_X4_book rfl rfl rfl (by decide +kernel) ⟨Nat.le_of_ble_eq_true rfl, Nat.le_of_ble_eq_true rfl⟩) (pv_T hP hK hN hT hZ hS hD hA 0 4 rfl rfl _) rfl rfl hl.1 rfl (lv_room (Nat.le_of_ble_eq_true rfl)) dX4_cancel_72 ⟨Nat.le_of_ble_eq_true rfl, Nat.le_of_ble_eq_true rfl⟩) hD hS hA hout hlocks (fun r9 I10 F11 h H locs hP hS => ?_)
          refine W.widen (k := 1) (n := 6) (Nat.le_of_ble_eq_true rfl) (Nat.le_of_ble_eq_true rfl) ?_
          exact vx_ret (W.iret (v := r9) hx hb hr (fun t ht hW => ⟨⟨r9, (I10, F11), rfl, h, by show va_P _ _ _ t.heap; rw [ht]; exact hP⟩, hS.F ht⟩) hS.2.2 dX4_cancel_75)
        · have h := h.2 c8
          exact throw_w (wf := wC cI ad) (own := RX4) (names := exNames) (ik := 45) (ic := 47) (cls := "java/lang/IllegalStateException") hx hb hst hown (by decide +kernel) (by decide +kernel) hts (by decide +kernel) (by decide +kernel) tX4_cancel_47 hT twm_47 twg_47 hZ hP hS (hl.1.trans hml.symm) dX4_cancel_58 dX4_cancel_61 dX4_cancel_62 dX4_cancel_65 hout (Nat.le_of_ble_eq_true rfl) (Nat.le_of_ble_eq_true rfl) (Nat.le_of_ble_eq_true rfl) (Nat.le_of_ble_eq_true rfl) hlocks h
    · have h := h.2 c4
      exact throw_w (wf := wC cI ad) (own := RX4) (names := exNames) (ik := 55) (ic := 57) (cls := "java/lang/IllegalArgumentException") hx hb hst hown (by decide +kernel) (by decide +kernel) hts (by decide +kernel) (by decide +kernel) tX4_cancel_57 hT twm_57 twg_57 hZ hP hS (hl.1.trans hml.symm) dX4_cancel_28 dX4_cancel_31 dX4_cancel_32 dX4_cancel_35 hout (Nat.le_of_ble_eq_true rfl) (Nat.le_of_ble_eq_true rfl) (Nat.le_of_ble_eq_true rfl) (Nat.le_of_ble_eq_true rfl) hlocks h
  · have h := h.2 c2
    exact throw_w (wf := wC cI ad) (own := RX4) (names := exNames) (ik := 112) (ic := 114) (cls := "java/util/NoSuchElementException") hx hb hst hown (by decide +kernel) (by decide +kernel) hts (by decide +kernel) (by decide +kernel) tX4_cancel_114 hT twm_114 twg_114 hZ hP hS (hl.1.trans hml.symm) dX4_cancel_8 dX4_cancel_11 dX4_cancel_12 dX4_cancel_15 hout (Nat.le_of_ble_eq_true rfl) (Nat.le_of_ble_eq_true rfl) (Nat.le_of_ble_eq_true rfl) (Nat.le_of_ble_eq_true rfl) hlocks h

theorem iX4_reinstate_X4 : ∀ w ∈ wsX40, w ∈ wsX4_reinstate := by decide +kernel
theorem tX4_reinstate_47 : ∀ w ∈ (vx_at0 RX4 47 "java/lang/IllegalStateException" exNames).filter goodWord, w ∈ wsX4_reinstate := by decide +kernel
theorem tX4_reinstate_57 : ∀ w ∈ (vx_at0 RX4 57 "java/lang/IllegalArgumentException" exNames).filter goodWord, w ∈ wsX4_reinstate := by decide +kernel
theorem tX4_reinstate_114 : ∀ w ∈ (vx_at0 RX4 114 "java/util/NoSuchElementException" exNames).filter goodWord, w ∈ wsX4_reinstate := by decide +kernel
def wX4_reinstate (I : Nat → Int32) (F : Nat → Nat → Int32) (x1 x2 : Int32) (post : Int32 → (Nat → Int32) → (Nat → Nat → Int32) → Prop) (px : String → (Nat → Int32) → (Nat → Nat → Int32) → Prop) : Prop := wX4_isPolicy I F x1 (fun r1 => ((¬ r1 = (0 : Int32) → wX2_isInTerm I F x1 x2 (fun r3 => ((¬ r3 = (0 : Int32) → wX2_isInForce I F x1 x2 (fun r5 => ((¬ r5 = (0 : Int32) → px "java/lang/IllegalStateException" I F) ∧ (r5 = (0 : Int32) → wX2_isFull I F (fun r7 => ((r7 = (0 : Int32) → wX4_book I F x1 x2 (3 : Int32) (1 : Int32) (0 : Int32) (fun r9 I10 F11 => post r9 I10 F11) px) ∧ (¬ r7 = (0 : Int32) → px "java/lang/IllegalStateException" I F))))))) ∧ (r3 = (0 : Int32) → px "java/lang/IllegalArgumentException" I F)))) ∧ (r1 = (0 : Int32) → px "java/util/NoSuchElementException" I F)))
set_option maxHeartbeats 4000000 in
set_option maxRecDepth 100000 in
theorem cTX4_reinstate (l : Launch) (hst : l.stackTraces = false) (dC : Nat → ClassId) (dI : Nat → Nat → Nat) (cI : ClassId) (ad : Nat → Nat) (I : Nat → Int32) (F : Nat → Nat → Int32) (sz : Nat) (x1 x2 : Int32) (post : Int32 → (Nat → Int32) → (Nat → Nat → Int32) → Prop) (px : String → (Nat → Int32) → (Nat → Nat → Int32) → Prop) (h : wX4_reinstate I F x1 x2 post px) : vx_Met l yX4_reinstate wsX4_reinstate { frames := 8, cells := 1, slots := 6, locals := 155 } (va_Pc [.ref (ad 0), .int x1, .int x2] (PWt dC dI cI (wC cI ad) I F sz)) (QWi dC dI (wC cI ad) post (va_A (wC cI ad I F) sz)) (XW dC dI (wC cI ad) px (va_A (wC cI ad I F) sz)) 1 6 (va_A (wC cI ad I F) sz) := by
  refine vx_ofW (cc := cX4_reinstate) (maxL := 3) (ret := (some .int)) (by decide) rfl ?_
  intro p e s m args below meth c s₁ B hml hout hv
  obtain ⟨rfl, ⟨hsz, ⟨hP, hK, hN⟩, hD0⟩, hT, hZ⟩ := hv
  subst hsz
  have hD := wD_any (wC_fix cI ad) (hD0.self (sz := s.heap.size))
  generalize hAe : va_A (wC cI ad I F) s.heap.size = A at hD hZ ⊢
  have hA : ∀ q : Nat, s.heap.size ≤ q → A q := fun q h => by rw [← hAe]; exact Or.inr h
  clear hAe hD0
  have hx := B.exec
  have hb := B.bytes
  have hr := B.returns
  have hts := atoms_spec (ws := wsX4_reinstate) B.pre
  have hown : s.vm.findClass RX4 = some m.cls := findClass_of_methodNamed B.named
  have hlocks := B.notSynchronized
  have C : Cx p s m _ meth c cX4_reinstate 3 (some .int) RX4 wsX4_reinstate := ⟨hx, hb, hml, hown, hts, hr, hlocks⟩
  have hS : va_S A s.heap s.heap [] := va_S.rf
  have hl := lv_entry ([.ref (ad 0), .int x1, .int x2]) (n := 3) (Nat.le_of_ble_eq_true rfl)
  rw [lg_entry_eq]
  generalize (lg_sl ([.ref (ad 0), .int x1, .int x2]) ++ List.replicate (3 - (lg_sl ([.ref (ad 0), .int x1, .int x2])).length) Slot.unset).toArray = ls at hl ⊢
  have hl : lv_has ls 3 [(0, .ref (ad 0)), (1, .int x1), (2, .int x2)] := hl
  unfold wX4_reinstate at h
  refine lv_aload_n hx hb dX4_reinstate_0 rfl (lv_at hl 0 rfl) ?_
  refine lv_iload_n hx hb dX4_reinstate_1 rfl (lv_at hl 1 rfl) ?_
  refine vp_callSi (cr_of (va_runV (As := [.int x1]) (rest := []) ⟨hx, hb, hml, hown, hts⟩ (cTX4_isPolicy l dC dI cI ad I F x1 _ h) (cwV 1 hts gX4_reinstate_X4_isPolicy rfl rfl rfl (by decide +kernel) ⟨Nat.le_of_ble_eq_true rfl, Nat.le_of_ble_eq_true rfl⟩) (pv_R hP hK hN 0 4 rfl rfl _) rfl rfl hl.1 rfl (lv_room (Nat.le_of_ble_eq_true rfl)) dX4_reinstate_2 ⟨Nat.le_of_ble_eq_true rfl, Nat.le_of_ble_eq_true rfl⟩)) (fun r1 h => ?_)
  refine lv_if_ne (tgt := 16) hx hb dX4_reinstate_5 (by decide) (fun c2 => ?_) (fun c2 => ?_)
  · have h := h.1 c2
    refine lv_aload_n hx hb dX4_reinstate_16 rfl (lv_at hl 0 rfl) ?_
    refine va_get (D := (dC, dI)) (ci := 4) (v := .ref (ad 2)) (C := RX4) (T := TX4) (N := 5) hx hb hts iX4_reinstate_X4 hown hK hP 0 rfl rfl 1 (by decide) (hts (.fieldLink RX4 19 "CarrierBooks" "register" "LCarrierBooks$Register;") (by decide +kernel)) (fun _ h9 => h9) rfl dX4_reinstate_17 ?_
    refine lv_iload_n hx hb dX4_reinstate_20 rfl (lv_at hl 1 rfl) ?_
    refine lv_iload_n hx hb dX4_reinstate_21 rfl (lv_at hl 2 rfl) ?_
    refine vp_callSi (cr_of (va_runVN (As := [.int x1, .int x2]) (rest := []) ⟨hx, hb, hml, hown, hts⟩ (cTX2_isInTerm l dC dI cI ad I F x1 x2 _ h) ⟨va_cnB 2 hts gX4_reinstate_X2_isInTerm_n115 rfl rfl rfl (hN (.methodLinkNest RX4 115 yX2_isInTerm RX4) (by decide +kernel)) (hts (.initialized RX2) (by decide +kernel)) (by decide +kernel) ⟨Nat.le_of_ble_eq_true rfl, Nat.le_of_ble_eq_true rfl⟩, hts (.instanceMethod yX2_isInTerm) (by decide +kernel), hts (.selects RX2 yX2_isInTerm yX2_isInTerm) (by decide +kernel)⟩ (pv_R hP hK hN 2 2 rfl rfl _) rfl rfl hl.1 rfl (lv_room (Nat.le_of_ble_eq_true rfl)) dX4_reinstate_22 ⟨Nat.le_of_ble_eq_true rfl, Nat.le_of_ble_eq_true rfl⟩)) (fun r3 h => ?_)
    refine lv_if_ne (tgt := 36) hx hb dX4_reinstate_25 (by decide) (fun c4 => ?_) (fun c4 => ?_)
    · have h := h.1 c4
      refine lv_aload_n hx hb dX4_reinstate_36 rfl (lv_at hl 0 rfl) ?_
      refine va_get (D := (dC, dI)) (ci := 4) (v := .ref (ad 2)) (C := RX4) (T := TX4) (N := 5) hx hb hts iX4_reinstate_X4 hown hK hP 0 rfl rfl 1 (by decide) (hts (.fieldLink RX4 19 "CarrierBooks" "register" "LCarrierBooks$Register;") (by decide +kernel)) (fun _ h9 => h9) rfl dX4_reinstate_37 ?_
      refine lv_iload_n hx hb dX4_reinstate_40 rfl (lv_at hl 1 rfl) ?_
      refine lv_iload_n hx hb dX4_reinstate_41 rfl (lv_at hl 2 rfl) ?_
      refine vp_callSi (cr_of (va_runVN (As := [.int x1, .int x2]) (rest := []) ⟨hx, hb, hml, hown, hts⟩ (cTX2_isInForce l dC dI cI ad I F x1 x2 _ h) ⟨va_cnB 2 hts gX4_reinstate_X2_isInForce_n118 rfl rfl rfl (hN (.methodLinkNest RX4 118 yX2_isInForce RX4) (by decide +kernel)) (hts (.initialized RX2) (by decide +kernel)) (by decide +kernel) ⟨Nat.le_of_ble_eq_true rfl, Nat.le_of_ble_eq_true rfl⟩, hts (.instanceMethod yX2_isInForce) (by decide +kernel), hts (.selects RX2 yX2_isInForce yX2_isInForce) (by decide +kernel)⟩ (pv_R hP hK hN 2 2 rfl rfl _) rfl rfl hl.1 rfl (lv_room (Nat.le_of_ble_eq_true rfl)) dX4_reinstate_42 ⟨Nat.le_of_ble_eq_true rfl, Nat.le_of_ble_eq_true rfl⟩)) (fun r5 h => ?_)
      refine lv_if_ne (tgt := 58) hx hb dX4_reinstate_45 (by decide) (fun c6 => ?_) (fun c6 => ?_)
      · have h := h.1 c6
        exact throw_w (wf := wC cI ad) (own := RX4) (names := exNames) (ik := 45) (ic := 47) (cls := "java/lang/IllegalStateException") hx hb hst hown (by decide +kernel) (by decide +kernel) hts (by decide +kernel) (by decide +kernel) tX4_reinstate_47 hT twm_47 twg_47 hZ hP hS (hl.1.trans hml.symm) dX4_reinstate_58 dX4_reinstate_61 dX4_reinstate_62 dX4_reinstate_65 hout (Nat.le_of_ble_eq_true rfl) (Nat.le_of_ble_eq_true rfl) (Nat.le_of_ble_eq_true rfl) (Nat.le_of_ble_eq_true rfl) hlocks h
      · have h := h.2 c6
        refine lv_aload_n hx hb dX4_reinstate_48 rfl (lv_at hl 0 rfl) ?_
        refine va_get (D := (dC, dI)) (ci := 4) (v := .ref (ad 2)) (C := RX4) (T := TX4) (N := 5) hx hb hts iX4_reinstate_X4 hown hK hP 0 rfl rfl 1 (by decide) (hts (.fieldLink RX4 19 "CarrierBooks" "register" "LCarrierBooks$Register;") (by decide +kernel)) (fun _ h9 => h9) rfl dX4_reinstate_49 ?_
        refine vp_callSi (cr_of (va_runVN (As := []) (rest := []) ⟨hx, hb, hml, hown, hts⟩ (cTX2_isFull l dC dI cI ad I F _ h) ⟨va_cnB 0 hts gX4_reinstate_X2_isFull_n87 rfl rfl rfl (hN (.methodLinkNest RX4 87 yX2_isFull RX4) (by decide +kernel)) (hts (.initialized RX2) (by decide +kernel)) (by decide +kernel) ⟨Nat.le_of_ble_eq_true rfl, Nat.le_of_ble_eq_true rfl⟩, hts (.instanceMethod yX2_isFull) (by decide +kernel), hts (.selects RX2 yX2_isFull yX2_isFull) (by decide +kernel)⟩ (pv_R hP hK hN 2 2 rfl rfl _) rfl rfl hl.1 rfl (lv_room (Nat.le_of_ble_eq_true rfl)) dX4_reinstate_52 ⟨Nat.le_of_ble_eq_true rfl, Nat.le_of_ble_eq_true rfl⟩)) (fun r7 h => ?_)
        refine lv_if_eq (tgt := 66) hx hb dX4_reinstate_55 (by decide) (fun c8 => ?_) (fun c8 => ?_)
        · have h := h.1 c8
          refine lv_aload_n hx hb dX4_reinstate_66 rfl (lv_at hl 0 rfl) ?_
          refine lv_iload_n hx hb dX4_reinstate_67 rfl (lv_at hl 1 rfl) ?_
          refine lv_iload_n hx hb dX4_reinstate_68 rfl (lv_at hl 2 rfl) ?_
          refine lv_iconst (v := (3 : Int32)) hx hb dX4_reinstate_69 (by decide) ?_
          refine lv_iconst (v := (1 : Int32)) hx hb dX4_reinstate_70 (by decide) ?_
          refine lv_iconst (v := (0 : Int32)) hx hb dX4_reinstate_71 (by decide) ?_
          refine xcall_i (vx_runV (As := [.int x1, .int x2, .int (3 : Int32), .int (1 : Int32), .int (0 : Int32)]) (rest := []) ⟨hx, hb, hml, hown, hts⟩ (cTX4_book l hst dC dI cI ad I F s.heap.size x1 x2 (3 : Int32) (1 : Int32) (0 : Int32) _ px h) (cwV 5 hts gX4_reinstate_X4_book rfl rfl rfl (by decide +kernel) ⟨Nat.le_of_ble_eq_true rfl, Nat.le_of_ble_eq_true rfl⟩) (pv_T hP hK hN hT hZ hS hD hA 0 4 rfl rfl _) rfl rfl hl.1 rfl (lv_room (Nat.le_of_ble_eq_true rfl)) dX4_reinstate_72 ⟨Nat.le_of_ble_eq_true rfl, Nat.le_of_ble_eq_true rfl⟩) hD hS hA hout hlocks (fun r9 I10 F11 h H locs hP hS => ?_)
          refine W.widen (k := 1) (n := 6) (Nat.le_of_ble_eq_true rfl) (Nat.le_of_ble_eq_true rfl) ?_
          exact vx_ret (W.iret (v := r9) hx hb hr (fun t ht hW => ⟨⟨r9, (I10, F11), rfl, h, by show va_P _ _ _ t.heap; rw [ht]; exact hP⟩, hS.F ht⟩) hS.2.2 dX4_reinstate_75)
        · have h := h.2 c8
          exact throw_w (wf := wC cI ad) (own := RX4) (names := exNames) (ik := 45) (ic := 47) (cls := "java/lang/IllegalStateException") hx hb hst hown (by decide +kernel) (by decide +kernel) hts (by decide +kernel) (by decide +kernel) tX4_reinstate_47 hT twm_47 twg_47 hZ hP hS (hl.1.trans hml.symm) dX4_reinstate_58 dX4_reinstate_61 dX4_reinstate_62 dX4_reinstate_65 hout (Nat.le_of_ble_eq_true rfl) (Nat.le_of_ble_eq_true rfl) (Nat.le_of_ble_eq_true rfl) (Nat.le_of_ble_eq_true rfl) hlocks h
    · have h := h.2 c4
      exact throw_w (wf := wC cI ad) (own := RX4) (names := exNames) (ik := 55) (ic := 57) (cls := "java/lang/IllegalArgumentException") hx hb hst hown (by decide +kernel) (by decide +kernel) hts (by decide +kernel) (by decide +kernel) tX4_reinstate_57 hT twm_57 twg_57 hZ hP hS (hl.1.trans hml.symm) dX4_reinstate_28 dX4_reinstate_31 dX4_reinstate_32 dX4_reinstate_35 hout (Nat.le_of_ble_eq_true rfl) (Nat.le_of_ble_eq_true rfl) (Nat.le_of_ble_eq_true rfl) (Nat.le_of_ble_eq_true rfl) hlocks h
  · have h := h.2 c2
    exact throw_w (wf := wC cI ad) (own := RX4) (names := exNames) (ik := 112) (ic := 114) (cls := "java/util/NoSuchElementException") hx hb hst hown (by decide +kernel) (by decide +kernel) hts (by decide +kernel) (by decide +kernel) tX4_reinstate_114 hT twm_114 twg_114 hZ hP hS (hl.1.trans hml.symm) dX4_reinstate_8 dX4_reinstate_11 dX4_reinstate_12 dX4_reinstate_15 hout (Nat.le_of_ble_eq_true rfl) (Nat.le_of_ble_eq_true rfl) (Nat.le_of_ble_eq_true rfl) (Nat.le_of_ble_eq_true rfl) hlocks h

theorem iX4_postClaim_X4 : ∀ w ∈ wsX40, w ∈ wsX4_postClaim := by decide +kernel
theorem tX4_postClaim_192 : ∀ w ∈ (vx_at0 RX4 192 "java/lang/UnsupportedOperationException" exNames).filter goodWord, w ∈ wsX4_postClaim := by decide +kernel
def wX4_postClaim (I : Nat → Int32) (F : Nat → Nat → Int32) (x1 x2 x3 : Int32) (post : (Nat → Int32) → (Nat → Nat → Int32) → Prop) (px : String → (Nat → Int32) → (Nat → Nat → Int32) → Prop) : Prop := wX0_hasRoomFor I F x1 x2 x3 (fun r1 => ((¬ r1 = (0 : Int32) → wX0_post I F x1 (1 : Int32) (4 : Int32) (fun I4 F5 => wX0_post I4 F5 x2 (5 : Int32) (3 : Int32) (fun I7 F8 => wX0_post I7 F8 x3 (3 : Int32) (2 : Int32) (fun I10 F11 => post I10 F11)))) ∧ (r1 = (0 : Int32) → px "java/lang/UnsupportedOperationException" I F)))
set_option maxHeartbeats 4000000 in
set_option maxRecDepth 100000 in
theorem cTX4_postClaim (l : Launch) (hst : l.stackTraces = false) (dC : Nat → ClassId) (dI : Nat → Nat → Nat) (cI : ClassId) (ad : Nat → Nat) (I : Nat → Int32) (F : Nat → Nat → Int32) (sz : Nat) (x1 x2 x3 : Int32) (post : (Nat → Int32) → (Nat → Nat → Int32) → Prop) (px : String → (Nat → Int32) → (Nat → Nat → Int32) → Prop) (h : wX4_postClaim I F x1 x2 x3 post px) : vx_Met l yX4_postClaim wsX4_postClaim { frames := 6, cells := 1, slots := 6, locals := 89 } (va_Pc [.ref (ad 0), .int x1, .int x2, .int x3] (PWt dC dI cI (wC cI ad) I F sz)) (QWv dC dI (wC cI ad) post (va_A (wC cI ad I F) sz)) (XW dC dI (wC cI ad) px (va_A (wC cI ad I F) sz)) 1 6 (va_A (wC cI ad I F) sz) := by
  refine vx_ofW (cc := cX4_postClaim) (maxL := 4) (ret := none) (by decide) rfl ?_
  intro p e s m args below meth c s₁ B hml hout hv
  obtain ⟨rfl, ⟨hsz, ⟨hP, hK, hN⟩, hD0⟩, hT, hZ⟩ := hv
  subst hsz
  have hD := wD_any (wC_fix cI ad) (hD0.self (sz := s.heap.size))
  generalize hAe : va_A (wC cI ad I F) s.heap.size = A at hD hZ ⊢
  have hA : ∀ q : Nat, s.heap.size ≤ q → A q := fun q h => by rw [← hAe]; exact Or.inr h
  clear hAe hD0
  have hx := B.exec
  have hb := B.bytes
  have hr := B.returns
  have hts := atoms_spec (ws := wsX4_postClaim) B.pre
  have hown : s.vm.findClass RX4 = some m.cls := findClass_of_methodNamed B.named
  have hlocks := B.notSynchronized
  have C : Cx p s m _ meth c cX4_postClaim 4 none RX4 wsX4_postClaim := ⟨hx, hb, hml, hown, hts, hr, hlocks⟩
  have hS : va_S A s.heap s.heap [] := va_S.rf
  have hl := lv_entry ([.ref (ad 0), .int x1, .int x2, .int x3]) (n := 4) (Nat.le_of_ble_eq_true rfl)
  rw [lg_entry_eq]
  generalize (lg_sl ([.ref (ad 0), .int x1, .int x2, .int x3]) ++ List.replicate (4 - (lg_sl ([.ref (ad 0), .int x1, .int x2, .int x3])).length) Slot.unset).toArray = ls at hl ⊢
  have hl : lv_has ls 4 [(0, .ref (ad 0)), (1, .int x1), (2, .int x2), (3, .int x3)] := hl
  unfold wX4_postClaim at h
  refine lv_aload_n hx hb dX4_postClaim_0 rfl (lv_at hl 0 rfl) ?_
  refine va_get (D := (dC, dI)) (ci := 4) (v := .ref (ad 4)) (C := RX4) (T := TX4) (N := 5) hx hb hts iX4_postClaim_X4 hown hK hP 0 rfl rfl 3 (by decide) (hts (.fieldLink RX4 33 "CarrierBooks" "journal" "LCarrierBooks$Journal;") (by decide +kernel)) (fun _ h9 => h9) rfl dX4_postClaim_1 ?_
  refine lv_iload_n hx hb dX4_postClaim_4 rfl (lv_at hl 1 rfl) ?_
  refine lv_iload_n hx hb dX4_postClaim_5 rfl (lv_at hl 2 rfl) ?_
  refine lv_iload_n hx hb dX4_postClaim_6 rfl (lv_at hl 3 rfl) ?_
  refine vp_callSi (cr_of (va_runVN (As := [.int x1, .int x2, .int x3]) (rest := []) ⟨hx, hb, hml, hown, hts⟩ (cTX0_hasRoomFor l dC dI cI ad I F x1 x2 x3 _ h) ⟨va_cnB 3 hts gX4_postClaim_X0_hasRoomFor_n187 rfl rfl rfl (hN (.methodLinkNest RX4 187 yX0_hasRoomFor RX4) (by decide +kernel)) (hts (.initialized RX0) (by decide +kernel)) (by decide +kernel) ⟨Nat.le_of_ble_eq_true rfl, Nat.le_of_ble_eq_true rfl⟩, hts (.instanceMethod yX0_hasRoomFor) (by decide +kernel), hts (.selects RX0 yX0_hasRoomFor yX0_hasRoomFor) (by decide +kernel)⟩ (pv_R hP hK hN 4 0 rfl rfl _) rfl rfl hl.1 rfl (lv_room (Nat.le_of_ble_eq_true rfl)) dX4_postClaim_7 ⟨Nat.le_of_ble_eq_true rfl, Nat.le_of_ble_eq_true rfl⟩)) (fun r1 h => ?_)
  refine lv_if_ne (tgt := 21) hx hb dX4_postClaim_10 (by decide) (fun c2 => ?_) (fun c2 => ?_)
  · have h := h.1 c2
    refine lv_aload_n hx hb dX4_postClaim_21 rfl (lv_at hl 0 rfl) ?_
    refine va_get (D := (dC, dI)) (ci := 4) (v := .ref (ad 4)) (C := RX4) (T := TX4) (N := 5) hx hb hts iX4_postClaim_X4 hown hK hP 0 rfl rfl 3 (by decide) (hts (.fieldLink RX4 33 "CarrierBooks" "journal" "LCarrierBooks$Journal;") (by decide +kernel)) (fun _ h9 => h9) rfl dX4_postClaim_22 ?_
    refine lv_iload_n hx hb dX4_postClaim_25 rfl (lv_at hl 1 rfl) ?_
    refine lv_iconst (v := (1 : Int32)) hx hb dX4_postClaim_26 (by decide) ?_
    refine lv_iconst (v := (4 : Int32)) hx hb dX4_postClaim_27 (by decide) ?_
    refine wcall_v (va_runVN (As := [.int x1, .int (1 : Int32), .int (4 : Int32)]) (rest := []) ⟨hx, hb, hml, hown, hts⟩ (cTX0_post l dC dI cI ad I F s.heap.size x1 (1 : Int32) (4 : Int32) _ h) ⟨va_cnB 3 hts gX4_postClaim_X0_post_n193 rfl rfl rfl (hN (.methodLinkNest RX4 193 yX0_post RX4) (by decide +kernel)) (hts (.initialized RX0) (by decide +kernel)) (by decide +kernel) ⟨Nat.le_of_ble_eq_true rfl, Nat.le_of_ble_eq_true rfl⟩, hts (.instanceMethod yX0_post) (by decide +kernel), hts (.selects RX0 yX0_post yX0_post) (by decide +kernel)⟩ (pv_W hP hK hN ((hD _ _).weaken (fun _ _ _ _ => trivial)) 4 0 rfl rfl _) rfl rfl hl.1 rfl (lv_room (Nat.le_of_ble_eq_true rfl)) dX4_postClaim_28 ⟨Nat.le_of_ble_eq_true rfl, Nat.le_of_ble_eq_true rfl⟩) hD hS hA (fun I4 F5 h H locs hP hS => ?_)
    refine lv_aload_n hx hb dX4_postClaim_31 rfl (lv_at hl 0 rfl) ?_
    refine va_get (D := (dC, dI)) (ci := 4) (v := .ref (ad 4)) (C := RX4) (T := TX4) (N := 5) hx hb hts iX4_postClaim_X4 hown hK hP 0 rfl rfl 3 (by decide) (hts (.fieldLink RX4 33 "CarrierBooks" "journal" "LCarrierBooks$Journal;") (by decide +kernel)) (fun _ h9 => h9) rfl dX4_postClaim_32 ?_
    refine lv_iload_n hx hb dX4_postClaim_35 rfl (lv_at hl 2 rfl) ?_
    refine lv_iconst (v := (5 : Int32)) hx hb dX4_postClaim_36 (by decide) ?_
    refine lv_iconst (v := (3 : Int32)) hx hb dX4_postClaim_37 (by decide) ?_
    refine wcall_v (va_runVN (As := [.int x2, .int (5 : Int32), .int (3 : Int32)]) (rest := []) ⟨hx, hb, hml, hown, hts⟩ (cTX0_post l dC dI cI ad I4 F5 H.size x2 (5 : Int32) (3 : Int32) _ h) ⟨va_cnB 3 hts gX4_postClaim_X0_post_n193 rfl rfl rfl (hN (.methodLinkNest RX4 193 yX0_post RX4) (by decide +kernel)) (hts (.initialized RX0) (by decide +kernel)) (by decide +kernel) ⟨Nat.le_of_ble_eq_true rfl, Nat.le_of_ble_eq_true rfl⟩, hts (.instanceMethod yX0_post) (by decide +kernel), hts (.selects RX0 yX0_post yX0_post) (by decide +kernel)⟩ (pv_W hP hK hN ((hD _ _).weaken (fun _ _ _ _ => trivial)) 4 0 rfl rfl _) rfl rfl hl.1 rfl (lv_room (Nat.le_of_ble_eq_true rfl)) dX4_postClaim_38 ⟨Nat.le_of_ble_eq_true rfl, Nat.le_of_ble_eq_true rfl⟩) hD hS hA (fun I7 F8 h H locs hP hS => ?_)
    refine lv_aload_n hx hb dX4_postClaim_41 rfl (lv_at hl 0 rfl) ?_
    refine va_get (D := (dC, dI)) (ci := 4) (v := .ref (ad 4)) (C := RX4) (T := TX4) (N := 5) hx hb hts iX4_postClaim_X4 hown hK hP 0 rfl rfl 3 (by decide) (hts (.fieldLink RX4 33 "CarrierBooks" "journal" "LCarrierBooks$Journal;") (by decide +kernel)) (fun _ h9 => h9) rfl dX4_postClaim_42 ?_
    refine lv_iload_n hx hb dX4_postClaim_45 rfl (lv_at hl 3 rfl) ?_
    refine lv_iconst (v := (3 : Int32)) hx hb dX4_postClaim_46 (by decide) ?_
    refine lv_iconst (v := (2 : Int32)) hx hb dX4_postClaim_47 (by decide) ?_
    refine wcall_v (va_runVN (As := [.int x3, .int (3 : Int32), .int (2 : Int32)]) (rest := []) ⟨hx, hb, hml, hown, hts⟩ (cTX0_post l dC dI cI ad I7 F8 H.size x3 (3 : Int32) (2 : Int32) _ h) ⟨va_cnB 3 hts gX4_postClaim_X0_post_n193 rfl rfl rfl (hN (.methodLinkNest RX4 193 yX0_post RX4) (by decide +kernel)) (hts (.initialized RX0) (by decide +kernel)) (by decide +kernel) ⟨Nat.le_of_ble_eq_true rfl, Nat.le_of_ble_eq_true rfl⟩, hts (.instanceMethod yX0_post) (by decide +kernel), hts (.selects RX0 yX0_post yX0_post) (by decide +kernel)⟩ (pv_W hP hK hN ((hD _ _).weaken (fun _ _ _ _ => trivial)) 4 0 rfl rfl _) rfl rfl hl.1 rfl (lv_room (Nat.le_of_ble_eq_true rfl)) dX4_postClaim_48 ⟨Nat.le_of_ble_eq_true rfl, Nat.le_of_ble_eq_true rfl⟩) hD hS hA (fun I10 F11 h H locs hP hS => ?_)
    refine W.widen (k := 1) (n := 6) (Nat.le_of_ble_eq_true rfl) (Nat.le_of_ble_eq_true rfl) ?_
    exact vx_ret (W.vret hx hb hr (fun t ht hW => ⟨⟨(I10, F11), rfl, h, by show va_P _ _ _ t.heap; rw [ht]; exact hP⟩, hS.F ht⟩) hS.2.2 dX4_postClaim_51)
  · have h := h.2 c2
    exact throw_w (wf := wC cI ad) (own := RX4) (names := exNames) (ik := 190) (ic := 192) (cls := "java/lang/UnsupportedOperationException") hx hb hst hown (by decide +kernel) (by decide +kernel) hts (by decide +kernel) (by decide +kernel) tX4_postClaim_192 hT twm_192 twg_192 hZ hP hS (hl.1.trans hml.symm) dX4_postClaim_13 dX4_postClaim_16 dX4_postClaim_17 dX4_postClaim_20 hout (Nat.le_of_ble_eq_true rfl) (Nat.le_of_ble_eq_true rfl) (Nat.le_of_ble_eq_true rfl) (Nat.le_of_ble_eq_true rfl) hlocks h

theorem iX4_claim_X3 : ∀ w ∈ wsX30, w ∈ wsX4_claim := by decide +kernel
theorem iX4_claim_X4 : ∀ w ∈ wsX40, w ∈ wsX4_claim := by decide +kernel
theorem tX4_claim_47 : ∀ w ∈ (vx_at0 RX4 47 "java/lang/IllegalStateException" exNames).filter goodWord, w ∈ wsX4_claim := by decide +kernel
theorem tX4_claim_57 : ∀ w ∈ (vx_at0 RX4 57 "java/lang/IllegalArgumentException" exNames).filter goodWord, w ∈ wsX4_claim := by decide +kernel
theorem tX4_claim_114 : ∀ w ∈ (vx_at0 RX4 114 "java/util/NoSuchElementException" exNames).filter goodWord, w ∈ wsX4_claim := by decide +kernel
def wX4_claim (I : Nat → Int32) (F : Nat → Nat → Int32) (x1 x2 x3 : Int32) (post : Int32 → (Nat → Int32) → (Nat → Nat → Int32) → Prop) (px : String → (Nat → Int32) → (Nat → Nat → Int32) → Prop) : Prop := wX4_isPolicy I F x1 (fun r1 => ((¬ r1 = (0 : Int32) → wX4_isDay x2 (fun r3 => ((r3 = (0 : Int32) → px "java/lang/IllegalArgumentException" I F) ∧ (¬ r3 = (0 : Int32) → wX4_isWithin (1 : Int32) x3 (9999 : Int32) (fun r5 => ((¬ r5 = (0 : Int32) → wX2_isInForce I F x1 x2 (fun r7 => ((r7 = (0 : Int32) → px "java/lang/IllegalStateException" I F) ∧ (¬ r7 = (0 : Int32) → ((¬ (I 13) = (20 : Int32) → wX3_payable I F x1 x3 (fun r10 => wX4_percentOf r10 (I 0) (fun r11 => wX3_layerPartOf I F (r10 - r11) (fun r12 => wX3_renewedOf I F r12 (fun r13 => wX4_percentOf r13 (I 10) (fun r14 => wX4_postClaim I F r10 (r11 + r12) r14 (fun I16 F17 => wX3_keep I16 F17 x1 x2 r10 r11 r12 r13 (fun I19 F20 => post r10 I19 F20)) px)))))) ∧ ((I 13) = (20 : Int32) → px "java/lang/IllegalStateException" I F)))))) ∧ (r5 = (0 : Int32) → px "java/lang/IllegalArgumentException" I F))))))) ∧ (r1 = (0 : Int32) → px "java/util/NoSuchElementException" I F)))
set_option maxHeartbeats 4000000 in
set_option maxRecDepth 100000 in
theorem cTX4_claim (l : Launch) (hst : l.stackTraces = false) (dC : Nat → ClassId) (dI : Nat → Nat → Nat) (cI : ClassId) (ad : Nat → Nat) (I : Nat → Int32) (F : Nat → Nat → Int32) (sz : Nat) (x1 x2 x3 : Int32) (post : Int32 → (Nat → Int32) → (Nat → Nat → Int32) → Prop) (px : String → (Nat → Int32) → (Nat → Nat → Int32) → Prop) (h : wX4_claim I F x1 x2 x3 post px) : vx_Met l yX4_claim wsX4_claim { frames := 7, cells := 1, slots := 6, locals := 112 } (va_Pc [.ref (ad 0), .int x1, .int x2, .int x3] (PWt dC dI cI (wC cI ad) I F sz)) (QWi dC dI (wC cI ad) post (va_A (wC cI ad I F) sz)) (XW dC dI (wC cI ad) px (va_A (wC cI ad I F) sz)) 1 6 (va_A (wC cI ad I F) sz) := by
  refine vx_ofW (cc := cX4_claim) (maxL := 8) (ret := (some .int)) (by decide) rfl ?_
  intro p e s m args below meth c s₁ B hml hout hv
  obtain ⟨rfl, ⟨hsz, ⟨hP, hK, hN⟩, hD0⟩, hT, hZ⟩ := hv
  subst hsz
  have hD := wD_any (wC_fix cI ad) (hD0.self (sz := s.heap.size))
  generalize hAe : va_A (wC cI ad I F) s.heap.size = A at hD hZ ⊢
  have hA : ∀ q : Nat, s.heap.size ≤ q → A q := fun q h => by rw [← hAe]; exact Or.inr h
  clear hAe hD0
  have hx := B.exec
  have hb := B.bytes
  have hr := B.returns
  have hts := atoms_spec (ws := wsX4_claim) B.pre
  have hown : s.vm.findClass RX4 = some m.cls := findClass_of_methodNamed B.named
  have hlocks := B.notSynchronized
  have C : Cx p s m _ meth c cX4_claim 8 (some .int) RX4 wsX4_claim := ⟨hx, hb, hml, hown, hts, hr, hlocks⟩
  have hS : va_S A s.heap s.heap [] := va_S.rf
  have hl := lv_entry ([.ref (ad 0), .int x1, .int x2, .int x3]) (n := 8) (Nat.le_of_ble_eq_true rfl)
  rw [lg_entry_eq]
  generalize (lg_sl ([.ref (ad 0), .int x1, .int x2, .int x3]) ++ List.replicate (8 - (lg_sl ([.ref (ad 0), .int x1, .int x2, .int x3])).length) Slot.unset).toArray = ls at hl ⊢
  have hl : lv_has ls 8 [(0, .ref (ad 0)), (1, .int x1), (2, .int x2), (3, .int x3)] := hl
  unfold wX4_claim at h
  refine lv_aload_n hx hb dX4_claim_0 rfl (lv_at hl 0 rfl) ?_
  refine lv_iload_n hx hb dX4_claim_1 rfl (lv_at hl 1 rfl) ?_
  refine vp_callSi (cr_of (va_runV (As := [.int x1]) (rest := []) ⟨hx, hb, hml, hown, hts⟩ (cTX4_isPolicy l dC dI cI ad I F x1 _ h) (cwV 1 hts gX4_claim_X4_isPolicy rfl rfl rfl (by decide +kernel) ⟨Nat.le_of_ble_eq_true rfl, Nat.le_of_ble_eq_true rfl⟩) (pv_R hP hK hN 0 4 rfl rfl _) rfl rfl hl.1 rfl (lv_room (Nat.le_of_ble_eq_true rfl)) dX4_claim_2 ⟨Nat.le_of_ble_eq_true rfl, Nat.le_of_ble_eq_true rfl⟩)) (fun r1 h => ?_)
  refine lv_if_ne (tgt := 16) hx hb dX4_claim_5 (by decide) (fun c2 => ?_) (fun c2 => ?_)
  · have h := h.1 c2
    refine lv_iload_n hx hb dX4_claim_16 rfl (lv_at hl 2 rfl) ?_
    refine vp_callSi (cr_of (va_runS (As := [.int x2]) (rest := []) ⟨hx, hb, hml, hown, hts⟩ (cTX4_isDay l x2 _ h) (va_cwS 1 hts gX4_claim_X4_isDay rfl rfl rfl (by decide +kernel) ⟨Nat.le_of_ble_eq_true rfl, Nat.le_of_ble_eq_true rfl⟩) (pv_S _) rfl rfl hl.1 rfl (lv_room (Nat.le_of_ble_eq_true rfl)) dX4_claim_17 ⟨Nat.le_of_ble_eq_true rfl, Nat.le_of_ble_eq_true rfl⟩)) (fun r3 h => ?_)
    refine lv_if_eq (tgt := 34) hx hb dX4_claim_20 (by decide) (fun c4 => ?_) (fun c4 => ?_)
    · have h := h.1 c4
      exact throw_w (wf := wC cI ad) (own := RX4) (names := exNames) (ik := 55) (ic := 57) (cls := "java/lang/IllegalArgumentException") hx hb hst hown (by decide +kernel) (by decide +kernel) hts (by decide +kernel) (by decide +kernel) tX4_claim_57 hT twm_57 twg_57 hZ hP hS (hl.1.trans hml.symm) dX4_claim_34 dX4_claim_37 dX4_claim_38 dX4_claim_41 hout (Nat.le_of_ble_eq_true rfl) (Nat.le_of_ble_eq_true rfl) (Nat.le_of_ble_eq_true rfl) (Nat.le_of_ble_eq_true rfl) hlocks h
    · have h := h.2 c4
      refine lv_iconst (v := (1 : Int32)) hx hb dX4_claim_23 (by decide) ?_
      refine lv_iload_n hx hb dX4_claim_24 rfl (lv_at hl 3 rfl) ?_
      refine lv_sipush (v := (9999 : Int32)) hx hb dX4_claim_25 (by decide) ?_
      refine vp_callSi (cr_of (va_runS (As := [.int (1 : Int32), .int x3, .int (9999 : Int32)]) (rest := []) ⟨hx, hb, hml, hown, hts⟩ (cTX4_isWithin l (1 : Int32) x3 (9999 : Int32) _ h) (va_cwS 3 hts gX4_claim_X4_isWithin rfl rfl rfl (by decide +kernel) ⟨Nat.le_of_ble_eq_true rfl, Nat.le_of_ble_eq_true rfl⟩) (pv_S _) rfl rfl hl.1 rfl (lv_room (Nat.le_of_ble_eq_true rfl)) dX4_claim_28 ⟨Nat.le_of_ble_eq_true rfl, Nat.le_of_ble_eq_true rfl⟩)) (fun r5 h => ?_)
      refine lv_if_ne (tgt := 42) hx hb dX4_claim_31 (by decide) (fun c6 => ?_) (fun c6 => ?_)
      · have h := h.1 c6
        refine lv_aload_n hx hb dX4_claim_42 rfl (lv_at hl 0 rfl) ?_
        refine va_get (D := (dC, dI)) (ci := 4) (v := .ref (ad 2)) (C := RX4) (T := TX4) (N := 5) hx hb hts iX4_claim_X4 hown hK hP 0 rfl rfl 1 (by decide) (hts (.fieldLink RX4 19 "CarrierBooks" "register" "LCarrierBooks$Register;") (by decide +kernel)) (fun _ h9 => h9) rfl dX4_claim_43 ?_
        refine lv_iload_n hx hb dX4_claim_46 rfl (lv_at hl 1 rfl) ?_
        refine lv_iload_n hx hb dX4_claim_47 rfl (lv_at hl 2 rfl) ?_
        refine vp_callSi (cr_of (va_runVN (As := [.int x1, .int x2]) (rest := []) ⟨hx, hb, hml, hown, hts⟩ (cTX2_isInForce l dC dI cI ad I F x1 x2 _ h) ⟨va_cnB 2 hts gX4_claim_X2_isInForce_n118 rfl rfl rfl (hN (.methodLinkNest RX4 118 yX2_isInForce RX4) (by decide +kernel)) (hts (.initialized RX2) (by decide +kernel)) (by decide +kernel) ⟨Nat.le_of_ble_eq_true rfl, Nat.le_of_ble_eq_true rfl⟩, hts (.instanceMethod yX2_isInForce) (by decide +kernel), hts (.selects RX2 yX2_isInForce yX2_isInForce) (by decide +kernel)⟩ (pv_R hP hK hN 2 2 rfl rfl _) rfl rfl hl.1 rfl (lv_room (Nat.le_of_ble_eq_true rfl)) dX4_claim_48 ⟨Nat.le_of_ble_eq_true rfl, Nat.le_of_ble_eq_true rfl⟩)) (fun r7 h => ?_)
        refine lv_if_eq (tgt := 66) hx hb dX4_claim_51 (by decide) (fun c8 => ?_) (fun c8 => ?_)
        · have h := h.1 c8
          exact throw_w (wf := wC cI ad) (own := RX4) (names := exNames) (ik := 45) (ic := 47) (cls := "java/lang/IllegalStateException") hx hb hst hown (by decide +kernel) (by decide +kernel) hts (by decide +kernel) (by decide +kernel) tX4_claim_47 hT twm_47 twg_47 hZ hP hS (hl.1.trans hml.symm) dX4_claim_66 dX4_claim_69 dX4_claim_70 dX4_claim_73 hout (Nat.le_of_ble_eq_true rfl) (Nat.le_of_ble_eq_true rfl) (Nat.le_of_ble_eq_true rfl) (Nat.le_of_ble_eq_true rfl) hlocks h
        · have h := h.2 c8
          refine lv_aload_n hx hb dX4_claim_54 rfl (lv_at hl 0 rfl) ?_
          refine va_get (D := (dC, dI)) (ci := 4) (v := .ref (ad 3)) (C := RX4) (T := TX4) (N := 5) hx hb hts iX4_claim_X4 hown hK hP 0 rfl rfl 2 (by decide) (hts (.fieldLink RX4 26 "CarrierBooks" "settlements" "LCarrierBooks$Settlements;") (by decide +kernel)) (fun _ h9 => h9) rfl dX4_claim_55 ?_
          refine va_getN (host := RX4) (D := (dC, dI)) (ci := 3) (v := .int (I 13)) (C := RX3) (T := TX3) (N := 12) hx hb hts iX4_claim_X3 hown hK hP 3 rfl rfl 11 (by decide) (va_Nw.use rfl (hN (.fieldLinkNest RX4 75 "CarrierBooks$Settlements" "size" "I" RX4) (by decide +kernel))) (fun _ h9 => h9) rfl dX4_claim_58 ?_
          refine lv_bipush (v := (20 : Int32)) hx hb dX4_claim_61 (by decide) ?_
          refine lv_icmp_ne (tgt := 74) hx hb dX4_claim_63 (by decide) (fun c9 => ?_) (fun c9 => ?_)
          · have h := h.1 c9
            refine lv_aload_n hx hb dX4_claim_74 rfl (lv_at hl 0 rfl) ?_
            refine va_get (D := (dC, dI)) (ci := 4) (v := .ref (ad 3)) (C := RX4) (T := TX4) (N := 5) hx hb hts iX4_claim_X4 hown hK hP 0 rfl rfl 2 (by decide) (hts (.fieldLink RX4 26 "CarrierBooks" "settlements" "LCarrierBooks$Settlements;") (by decide +kernel)) (fun _ h9 => h9) rfl dX4_claim_75 ?_
            refine lv_iload_n hx hb dX4_claim_78 rfl (lv_at hl 1 rfl) ?_
            refine lv_iload_n hx hb dX4_claim_79 rfl (lv_at hl 3 rfl) ?_
            refine vp_callSi (cr_of (va_runVN (As := [.int x1, .int x3]) (rest := []) ⟨hx, hb, hml, hown, hts⟩ (cTX3_payable l dC dI cI ad I F x1 x3 _ h) ⟨va_cnB 2 hts gX4_claim_X3_payable_n125 rfl rfl rfl (hN (.methodLinkNest RX4 125 yX3_payable RX4) (by decide +kernel)) (hts (.initialized RX3) (by decide +kernel)) (by decide +kernel) ⟨Nat.le_of_ble_eq_true rfl, Nat.le_of_ble_eq_true rfl⟩, hts (.instanceMethod yX3_payable) (by decide +kernel), hts (.selects RX3 yX3_payable yX3_payable) (by decide +kernel)⟩ (pv_R hP hK hN 3 3 rfl rfl _) rfl rfl hl.1 rfl (lv_room (Nat.le_of_ble_eq_true rfl)) dX4_claim_80 ⟨Nat.le_of_ble_eq_true rfl, Nat.le_of_ble_eq_true rfl⟩)) (fun r10 h => ?_)
            refine lv_istore (lv' := [(4, .int r10), (0, .ref (ad 0)), (1, .int x1), (2, .int x2), (3, .int x3)]) hx hb dX4_claim_83 hl (by decide) rfl (fun ls hl => ?_)
            refine lv_iload hx hb dX4_claim_85 (lv_at hl 0 rfl) ?_
            refine lv_aload_n hx hb dX4_claim_87 rfl (lv_at hl 1 rfl) ?_
            refine va_get (D := (dC, dI)) (ci := 4) (v := .int (I 0)) (C := RX4) (T := TX4) (N := 5) hx hb hts iX4_claim_X4 hown hK hP 0 rfl rfl 4 (by decide) (hts (.fieldLink RX4 72 "CarrierBooks" "quotaPercent" "I") (by decide +kernel)) (fun _ h9 => h9) rfl dX4_claim_88 ?_
            refine vp_callSi (cr_of (va_runS (As := [.int r10, .int (I 0)]) (rest := []) ⟨hx, hb, hml, hown, hts⟩ (cTX4_percentOf l r10 (I 0) _ h) (va_cwS 2 hts gX4_claim_X4_percentOf rfl rfl rfl (by decide +kernel) ⟨Nat.le_of_ble_eq_true rfl, Nat.le_of_ble_eq_true rfl⟩) (pv_S _) rfl rfl hl.1 rfl (lv_room (Nat.le_of_ble_eq_true rfl)) dX4_claim_91 ⟨Nat.le_of_ble_eq_true rfl, Nat.le_of_ble_eq_true rfl⟩)) (fun r11 h => ?_)
            refine lv_istore (lv' := [(5, .int r11), (4, .int r10), (0, .ref (ad 0)), (1, .int x1), (2, .int x2), (3, .int x3)]) hx hb dX4_claim_94 hl (by decide) rfl (fun ls hl => ?_)
            refine lv_aload_n hx hb dX4_claim_96 rfl (lv_at hl 2 rfl) ?_
            refine va_get (D := (dC, dI)) (ci := 4) (v := .ref (ad 3)) (C := RX4) (T := TX4) (N := 5) hx hb hts iX4_claim_X4 hown hK hP 0 rfl rfl 2 (by decide) (hts (.fieldLink RX4 26 "CarrierBooks" "settlements" "LCarrierBooks$Settlements;") (by decide +kernel)) (fun _ h9 => h9) rfl dX4_claim_97 ?_
            refine lv_iload hx hb dX4_claim_100 (lv_at hl 1 rfl) ?_
            refine lv_iload hx hb dX4_claim_102 (lv_at hl 0 rfl) ?_
            refine lv_isub hx hb dX4_claim_104 ?_
            refine vp_callSi (cr_of (va_runVN (As := [.int (r10 - r11)]) (rest := []) ⟨hx, hb, hml, hown, hts⟩ (cTX3_layerPartOf l dC dI cI ad I F (r10 - r11) _ h) ⟨va_cnB 1 hts gX4_claim_X3_layerPartOf_n132 rfl rfl rfl (hN (.methodLinkNest RX4 132 yX3_layerPartOf RX4) (by decide +kernel)) (hts (.initialized RX3) (by decide +kernel)) (by decide +kernel) ⟨Nat.le_of_ble_eq_true rfl, Nat.le_of_ble_eq_true rfl⟩, hts (.instanceMethod yX3_layerPartOf) (by decide +kernel), hts (.selects RX3 yX3_layerPartOf yX3_layerPartOf) (by decide +kernel)⟩ (pv_R hP hK hN 3 3 rfl rfl _) rfl rfl hl.1 rfl (lv_room (Nat.le_of_ble_eq_true rfl)) dX4_claim_105 ⟨Nat.le_of_ble_eq_true rfl, Nat.le_of_ble_eq_true rfl⟩)) (fun r12 h => ?_)
            refine lv_istore (lv' := [(6, .int r12), (5, .int r11), (4, .int r10), (0, .ref (ad 0)), (1, .int x1), (2, .int x2), (3, .int x3)]) hx hb dX4_claim_108 hl (by decide) rfl (fun ls hl => ?_)
            refine lv_aload_n hx hb dX4_claim_110 rfl (lv_at hl 3 rfl) ?_
            refine va_get (D := (dC, dI)) (ci := 4) (v := .ref (ad 3)) (C := RX4) (T := TX4) (N := 5) hx hb hts iX4_claim_X4 hown hK hP 0 rfl rfl 2 (by decide) (hts (.fieldLink RX4 26 "CarrierBooks" "settlements" "LCarrierBooks$Settlements;") (by decide +kernel)) (fun _ h9 => h9) rfl dX4_claim_111 ?_
            refine lv_iload hx hb dX4_claim_114 (lv_at hl 0 rfl) ?_
            refine vp_callSi (cr_of (va_runVN (As := [.int r12]) (rest := []) ⟨hx, hb, hml, hown, hts⟩ (cTX3_renewedOf l dC dI cI ad I F r12 _ h) ⟨va_cnB 1 hts gX4_claim_X3_renewedOf_n136 rfl rfl rfl (hN (.methodLinkNest RX4 136 yX3_renewedOf RX4) (by decide +kernel)) (hts (.initialized RX3) (by decide +kernel)) (by decide +kernel) ⟨Nat.le_of_ble_eq_true rfl, Nat.le_of_ble_eq_true rfl⟩, hts (.instanceMethod yX3_renewedOf) (by decide +kernel), hts (.selects RX3 yX3_renewedOf yX3_renewedOf) (by decide +kernel)⟩ (pv_R hP hK hN 3 3 rfl rfl _) rfl rfl hl.1 rfl (lv_room (Nat.le_of_ble_eq_true rfl)) dX4_claim_116 ⟨Nat.le_of_ble_eq_true rfl, Nat.le_of_ble_eq_true rfl⟩)) (fun r13 h => ?_)
            refine lv_istore (lv' := [(7, .int r13), (6, .int r12), (5, .int r11), (4, .int r10), (0, .ref (ad 0)), (1, .int x1), (2, .int x2), (3, .int x3)]) hx hb dX4_claim_119 hl (by decide) rfl (fun ls hl => ?_)
            refine lv_aload_n hx hb dX4_claim_121 rfl (lv_at hl 4 rfl) ?_
            refine lv_iload hx hb dX4_claim_122 (lv_at hl 3 rfl) ?_
            refine lv_iload hx hb dX4_claim_124 (lv_at hl 2 rfl) ?_
            refine lv_iload hx hb dX4_claim_126 (lv_at hl 1 rfl) ?_
            refine lv_iadd hx hb dX4_claim_128 ?_
            refine lv_iload hx hb dX4_claim_129 (lv_at hl 0 rfl) ?_
            refine lv_aload_n hx hb dX4_claim_131 rfl (lv_at hl 4 rfl) ?_
            refine va_get (D := (dC, dI)) (ci := 4) (v := .ref (ad 3)) (C := RX4) (T := TX4) (N := 5) hx hb hts iX4_claim_X4 hown hK hP 0 rfl rfl 2 (by decide) (hts (.fieldLink RX4 26 "CarrierBooks" "settlements" "LCarrierBooks$Settlements;") (by decide +kernel)) (fun _ h9 => h9) rfl dX4_claim_132 ?_
            refine va_getN (host := RX4) (D := (dC, dI)) (ci := 3) (v := .int (I 10)) (C := RX3) (T := TX3) (N := 12) hx hb hts iX4_claim_X3 hown hK hP 3 rfl rfl 6 (by decide) (va_Nw.use rfl (hN (.fieldLinkNest RX4 139 "CarrierBooks$Settlements" "price" "I" RX4) (by decide +kernel))) (fun _ h9 => h9) rfl dX4_claim_135 ?_
            refine vp_callSi (cr_of (va_runS (As := [.int r13, .int (I 10)]) (rest := [.int (r11 + r12), .int r10, .ref (ad 0)]) ⟨hx, hb, hml, hown, hts⟩ (cTX4_percentOf l r13 (I 10) _ h) (va_cwS 2 hts gX4_claim_X4_percentOf rfl rfl rfl (by decide +kernel) ⟨Nat.le_of_ble_eq_true rfl, Nat.le_of_ble_eq_true rfl⟩) (pv_S _) rfl rfl hl.1 rfl (lv_room (Nat.le_of_ble_eq_true rfl)) dX4_claim_138 ⟨Nat.le_of_ble_eq_true rfl, Nat.le_of_ble_eq_true rfl⟩)) (fun r14 h => ?_)
            refine xcall_v (vx_runV (As := [.int r10, .int (r11 + r12), .int r14]) (rest := []) ⟨hx, hb, hml, hown, hts⟩ (cTX4_postClaim l hst dC dI cI ad I F s.heap.size r10 (r11 + r12) r14 _ px h) (cwV 3 hts gX4_claim_X4_postClaim rfl rfl rfl (by decide +kernel) ⟨Nat.le_of_ble_eq_true rfl, Nat.le_of_ble_eq_true rfl⟩) (pv_T hP hK hN hT hZ hS hD hA 0 4 rfl rfl _) rfl rfl hl.1 rfl (lv_room (Nat.le_of_ble_eq_true rfl)) dX4_claim_141 ⟨Nat.le_of_ble_eq_true rfl, Nat.le_of_ble_eq_true rfl⟩) hD hS hA hout hlocks (fun I16 F17 h H locs hP hS => ?_)
            refine lv_aload_n hx hb dX4_claim_144 rfl (lv_at hl 4 rfl) ?_
            refine va_get (D := (dC, dI)) (ci := 4) (v := .ref (ad 3)) (C := RX4) (T := TX4) (N := 5) hx hb hts iX4_claim_X4 hown hK hP 0 rfl rfl 2 (by decide) (hts (.fieldLink RX4 26 "CarrierBooks" "settlements" "LCarrierBooks$Settlements;") (by decide +kernel)) (fun _ h9 => h9) rfl dX4_claim_145 ?_
            refine lv_iload_n hx hb dX4_claim_148 rfl (lv_at hl 5 rfl) ?_
            refine lv_iload_n hx hb dX4_claim_149 rfl (lv_at hl 6 rfl) ?_
            refine lv_iload hx hb dX4_claim_150 (lv_at hl 3 rfl) ?_
            refine lv_iload hx hb dX4_claim_152 (lv_at hl 2 rfl) ?_
            refine lv_iload hx hb dX4_claim_154 (lv_at hl 1 rfl) ?_
            refine lv_iload hx hb dX4_claim_156 (lv_at hl 0 rfl) ?_
            refine wcall_v (va_runVN (As := [.int x1, .int x2, .int r10, .int r11, .int r12, .int r13]) (rest := []) ⟨hx, hb, hml, hown, hts⟩ (cTX3_keep l dC dI cI ad I16 F17 H.size x1 x2 r10 r11 r12 r13 _ h) ⟨va_cnB 6 hts gX4_claim_X3_keep_n145 rfl rfl rfl (hN (.methodLinkNest RX4 145 yX3_keep RX4) (by decide +kernel)) (hts (.initialized RX3) (by decide +kernel)) (by decide +kernel) ⟨Nat.le_of_ble_eq_true rfl, Nat.le_of_ble_eq_true rfl⟩, hts (.instanceMethod yX3_keep) (by decide +kernel), hts (.selects RX3 yX3_keep yX3_keep) (by decide +kernel)⟩ (pv_W hP hK hN ((hD _ _).weaken (fun _ _ _ _ => trivial)) 3 3 rfl rfl _) rfl rfl hl.1 rfl (lv_room (Nat.le_of_ble_eq_true rfl)) dX4_claim_158 ⟨Nat.le_of_ble_eq_true rfl, Nat.le_of_ble_eq_true rfl⟩) hD hS hA (fun I19 F20 h H locs hP hS => ?_)
            refine lv_iload hx hb dX4_claim_161 (lv_at hl 3 rfl) ?_
            refine W.widen (k := 1) (n := 6) (Nat.le_of_ble_eq_true rfl) (Nat.le_of_ble_eq_true rfl) ?_
            exact vx_ret (W.iret (v := r10) hx hb hr (fun t ht hW => ⟨⟨r10, (I19, F20), rfl, h, by show va_P _ _ _ t.heap; rw [ht]; exact hP⟩, hS.F ht⟩) hS.2.2 dX4_claim_163)
          · have h := h.2 c9
            exact throw_w (wf := wC cI ad) (own := RX4) (names := exNames) (ik := 45) (ic := 47) (cls := "java/lang/IllegalStateException") hx hb hst hown (by decide +kernel) (by decide +kernel) hts (by decide +kernel) (by decide +kernel) tX4_claim_47 hT twm_47 twg_47 hZ hP hS (hl.1.trans hml.symm) dX4_claim_66 dX4_claim_69 dX4_claim_70 dX4_claim_73 hout (Nat.le_of_ble_eq_true rfl) (Nat.le_of_ble_eq_true rfl) (Nat.le_of_ble_eq_true rfl) (Nat.le_of_ble_eq_true rfl) hlocks h
      · have h := h.2 c6
        exact throw_w (wf := wC cI ad) (own := RX4) (names := exNames) (ik := 55) (ic := 57) (cls := "java/lang/IllegalArgumentException") hx hb hst hown (by decide +kernel) (by decide +kernel) hts (by decide +kernel) (by decide +kernel) tX4_claim_57 hT twm_57 twg_57 hZ hP hS (hl.1.trans hml.symm) dX4_claim_34 dX4_claim_37 dX4_claim_38 dX4_claim_41 hout (Nat.le_of_ble_eq_true rfl) (Nat.le_of_ble_eq_true rfl) (Nat.le_of_ble_eq_true rfl) (Nat.le_of_ble_eq_true rfl) hlocks h
  · have h := h.2 c2
    exact throw_w (wf := wC cI ad) (own := RX4) (names := exNames) (ik := 112) (ic := 114) (cls := "java/util/NoSuchElementException") hx hb hst hown (by decide +kernel) (by decide +kernel) hts (by decide +kernel) (by decide +kernel) tX4_claim_114 hT twm_114 twg_114 hZ hP hS (hl.1.trans hml.symm) dX4_claim_8 dX4_claim_11 dX4_claim_12 dX4_claim_15 hout (Nat.le_of_ble_eq_true rfl) (Nat.le_of_ble_eq_true rfl) (Nat.le_of_ble_eq_true rfl) (Nat.le_of_ble_eq_true rfl) hlocks h
