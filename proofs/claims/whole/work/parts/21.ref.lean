theorem iX5_fails_X5 : ∀ w ∈ wsX50, w ∈ wsX5_fails := by decide +kernel
def bX5_fails_26 (post : Int32 → (Nat → Int32) → (Nat → Nat → Int32) → Prop) (I : Nat → Int32) (F : Nat → Nat → Int32) (y0 : Int32) : Prop := ∀ I1 : Nat → Int32, I1 = va_up I 0 y0 → (((I1 0) ≤ (0 : Int32) → post (0 : Int32) I1 F) ∧ (¬ (I1 0) ≤ (0 : Int32) → post (1 : Int32) I1 F))
def wX5_fails (I : Nat → Int32) (F : Nat → Nat → Int32) (x1 x2 x3 : Int32) (post : Int32 → (Nat → Int32) → (Nat → Nat → Int32) → Prop) : Prop := ((x1 = (0 : Int32) → ((x2 = (0 : Int32) → ((x3 = (0 : Int32) → bX5_fails_26 post I F (0 : Int32)) ∧ (¬ x3 = (0 : Int32) → bX5_fails_26 post I F (3 : Int32)))) ∧ (¬ x2 = (0 : Int32) → bX5_fails_26 post I F (2 : Int32)))) ∧ (¬ x1 = (0 : Int32) → bX5_fails_26 post I F (1 : Int32)))
set_option maxHeartbeats 4000000 in
set_option maxRecDepth 100000 in
theorem sX5_fails_26 {p : Program} {l : Launch} {e : Env} {s : State} {m : MethodId} {args : Array Value} {below : List Frame} {meth : Method} {c : Code} {dC : Nat → ClassId} {dI : Nat → Nat → Nat} {cI : ClassId} {ad : Nat → Nat} {A : Nat → Prop} (C : Cx p s m args meth c cX5_fails 4 (some .boolean) RX5 wsX5_fails) (hK : va_K (dC, dI) vwCl [(cI, .int)] s) (hN : NW s) (hD : ∀ I F, va_D A (wM cI ad I F)) (hA : ∀ q : Nat, s.heap.size ≤ q → A q) (post : Int32 → (Nat → Int32) → (Nat → Nat → Int32) → Prop) : ∀ (I : Nat → Int32) (F : Nat → Nat → Int32) (y0 : Int32), bX5_fails_26 post I F y0 → ∀ (H : Heap) (locs : List Loc), va_P (dC, dI) vwCl (wM cI ad I F) H → va_S A s.heap H locs → ∀ (ls : Array Slot), lv_has ls 4 [(0, .ref (ad 0))] → W p l e { frames := 0, cells := 0, slots := 0, locals := 0 } s m args below meth c H locs 0 0 (MQ below (QWi dC dI (wM cI ad) post A) args s 0 0 A) (F0 m 26 ls [.int y0, .ref (ad 0)]) := by
  obtain ⟨hx, hb, hml, hown, hts, hr, hlocks⟩ := id C
  intro I F y0 h H locs hP hS ls hl
  unfold bX5_fails_26 at h
  refine put_w (wf := wM cI ad) (ci := 5) (C := RX5) (T := TX5) (N := 31) hx hb hts iX5_fails_X5 tyX5 tyX5_ok nmX5 hown hK hP hD hS 0 rfl rfl 0 (by decide) (hts (.fieldLink RX5 68 "CarrierBooksModel" "thrown" "I") (by decide +kernel)) (fun _ h9 => h9) rfl 0 (by decide +kernel) (Nat.le_of_ble_eq_true rfl) rfl dX5_fails_26 (fun I1 eI1 H locs hP hS => ?_)
  have h := h I1 eI1
  refine lv_aload_n hx hb dX5_fails_29 rfl (lv_at hl 0 rfl) ?_
  refine va_get (D := (dC, dI)) (ci := 5) (v := .int (I1 0)) (C := RX5) (T := TX5) (N := 31) hx hb hts iX5_fails_X5 hown hK hP 0 rfl rfl 0 (by decide) (hts (.fieldLink RX5 68 "CarrierBooksModel" "thrown" "I") (by decide +kernel)) (fun _ h9 => h9) rfl dX5_fails_30 ?_
  refine lv_if_le (tgt := 40) hx hb dX5_fails_33 (by decide) (fun c2 => ?_) (fun c2 => ?_)
  · have h := h.1 c2
    refine lv_iconst (v := (0 : Int32)) hx hb dX5_fails_40 (by decide) ?_
    exact W.zret (v := (0 : Int32)) hx hb hr rfl (fun t ht hW => ⟨⟨(0 : Int32), (I1, F), rfl, h, by show va_P _ _ _ t.heap; rw [ht]; exact hP⟩, hS.F ht⟩) hS.2.2 dX5_fails_41
  · have h := h.2 c2
    refine lv_iconst (v := (1 : Int32)) hx hb dX5_fails_36 (by decide) ?_
    refine lv_goto (tgt := 41) hx hb dX5_fails_37 (by decide) ?_
    exact W.zret (v := (1 : Int32)) hx hb hr rfl (fun t ht hW => ⟨⟨(1 : Int32), (I1, F), rfl, h, by show va_P _ _ _ t.heap; rw [ht]; exact hP⟩, hS.F ht⟩) hS.2.2 dX5_fails_41
set_option maxHeartbeats 4000000 in
set_option maxRecDepth 100000 in
theorem cTX5_fails (l : Launch) (dC : Nat → ClassId) (dI : Nat → Nat → Nat) (cI : ClassId) (ad : Nat → Nat) (I : Nat → Int32) (F : Nat → Nat → Int32) (sz : Nat) (x1 x2 x3 : Int32) (post : Int32 → (Nat → Int32) → (Nat → Nat → Int32) → Prop) (h : wX5_fails I F x1 x2 x3 post) : Met l yX5_fails wsX5_fails { frames := 0, cells := 0, slots := 0, locals := 0 } (va_Pc [.ref (ad 0), .int x1, .int x2, .int x3] (PWw dC dI cI (wM cI ad) I F sz)) (QWi dC dI (wM cI ad) post (va_A (wM cI ad I F) sz)) 0 0 (va_A (wM cI ad I F) sz) := by
  refine Met.ofW (cc := cX5_fails) (maxL := 4) (ret := (some .boolean)) (by decide) rfl ?_
  intro p e s m args below meth c s₁ B hml hv
  obtain ⟨rfl, hsz, ⟨hP, hK, hN⟩, hD0⟩ := hv
  subst hsz
  have hD := wD_any (wM_fix cI ad) (hD0.self (sz := s.heap.size))
  generalize hAe : va_A (wM cI ad I F) s.heap.size = A at hD ⊢
  have hA : ∀ q : Nat, s.heap.size ≤ q → A q := fun q h => by rw [← hAe]; exact Or.inr h
  clear hAe hD0
  have hx := B.exec
  have hb := B.bytes
  have hr := B.returns
  have hts := atoms_spec (ws := wsX5_fails) B.pre
  have hown : s.vm.findClass RX5 = some m.cls := findClass_of_methodNamed B.named
  have hlocks := B.notSynchronized
  have C : Cx p s m _ meth c cX5_fails 4 (some .boolean) RX5 wsX5_fails := ⟨hx, hb, hml, hown, hts, hr, hlocks⟩
  have hS : va_S A s.heap s.heap [] := va_S.rf
  have hl := lv_entry ([.ref (ad 0), .int x1, .int x2, .int x3]) (n := 4) (Nat.le_of_ble_eq_true rfl)
  rw [lg_entry_eq]
  generalize (lg_sl ([.ref (ad 0), .int x1, .int x2, .int x3]) ++ List.replicate (4 - (lg_sl ([.ref (ad 0), .int x1, .int x2, .int x3])).length) Slot.unset).toArray = ls at hl ⊢
  have hl : lv_has ls 4 [(0, .ref (ad 0)), (1, .int x1), (2, .int x2), (3, .int x3)] := hl
  unfold wX5_fails at h
  refine lv_aload_n hx hb dX5_fails_0 rfl (lv_at hl 0 rfl) ?_
  refine lv_iload_n hx hb dX5_fails_1 rfl (lv_at hl 1 rfl) ?_
  refine lv_if_eq (tgt := 9) hx hb dX5_fails_2 (by decide) (fun c3 => ?_) (fun c3 => ?_)
  · have h := h.1 c3
    refine lv_iload_n hx hb dX5_fails_9 rfl (lv_at hl 2 rfl) ?_
    refine lv_if_eq (tgt := 17) hx hb dX5_fails_10 (by decide) (fun c4 => ?_) (fun c4 => ?_)
    · have h := h.1 c4
      refine lv_iload_n hx hb dX5_fails_17 rfl (lv_at hl 3 rfl) ?_
      refine lv_if_eq (tgt := 25) hx hb dX5_fails_18 (by decide) (fun c5 => ?_) (fun c5 => ?_)
      · have h := h.1 c5
        refine lv_iconst (v := (0 : Int32)) hx hb dX5_fails_25 (by decide) ?_
        exact sX5_fails_26 C hK hN hD hA post I F (0 : Int32) h s.heap [] hP hS ls (lv_sub hl [0] rfl)
      · have h := h.2 c5
        refine lv_iconst (v := (3 : Int32)) hx hb dX5_fails_21 (by decide) ?_
        refine lv_goto (tgt := 26) hx hb dX5_fails_22 (by decide) ?_
        exact sX5_fails_26 C hK hN hD hA post I F (3 : Int32) h s.heap [] hP hS ls (lv_sub hl [0] rfl)
    · have h := h.2 c4
      refine lv_iconst (v := (2 : Int32)) hx hb dX5_fails_13 (by decide) ?_
      refine lv_goto (tgt := 26) hx hb dX5_fails_14 (by decide) ?_
      exact sX5_fails_26 C hK hN hD hA post I F (2 : Int32) h s.heap [] hP hS ls (lv_sub hl [0] rfl)
  · have h := h.2 c3
    refine lv_iconst (v := (1 : Int32)) hx hb dX5_fails_5 (by decide) ?_
    refine lv_goto (tgt := 26) hx hb dX5_fails_6 (by decide) ?_
    exact sX5_fails_26 C hK hN hD hA post I F (1 : Int32) h s.heap [] hP hS ls (lv_sub hl [0] rfl)

theorem iX5_row_X5 : ∀ w ∈ wsX50, w ∈ wsX5_row := by decide +kernel
def bX5_row_72 (post : Int32 → (Nat → Int32) → (Nat → Nat → Int32) → Prop) (I : Nat → Int32) (F : Nat → Nat → Int32) (x1 x2 x3 x4 x5 x6 y0 : Int32) : Prop := wX5_fails I F y0 x6 (0 : Int32) (fun r1 I2 F3 => ((r1 = (0 : Int32) → vp_in ((5 : Int32) * (I2 1)) 40 ∧ ∀ F5 : Nat → Nat → Int32, F5 = va_up F3 1 (upd (F3 1) (Int32.toNatClampNeg ((5 : Int32) * (I2 1))) x1) → vp_in (((5 : Int32) * (I2 1)) + (1 : Int32)) 40 ∧ ∀ F7 : Nat → Nat → Int32, F7 = va_up F5 1 (upd (F5 1) (Int32.toNatClampNeg (((5 : Int32) * (I2 1)) + (1 : Int32))) x2) → vp_in (((5 : Int32) * (I2 1)) + (2 : Int32)) 40 ∧ ∀ F9 : Nat → Nat → Int32, F9 = va_up F7 1 (upd (F7 1) (Int32.toNatClampNeg (((5 : Int32) * (I2 1)) + (2 : Int32))) x3) → vp_in (((5 : Int32) * (I2 1)) + (3 : Int32)) 40 ∧ ∀ F11 : Nat → Nat → Int32, F11 = va_up F9 1 (upd (F9 1) (Int32.toNatClampNeg (((5 : Int32) * (I2 1)) + (3 : Int32))) x4) → vp_in (((5 : Int32) * (I2 1)) + (4 : Int32)) 40 ∧ ∀ F13 : Nat → Nat → Int32, F13 = va_up F11 1 (upd (F11 1) (Int32.toNatClampNeg (((5 : Int32) * (I2 1)) + (4 : Int32))) x5) → ∀ v15 : Int32, v15 = ((I2 1) + (1 : Int32)) → ∀ I16 : Nat → Int32, I16 = va_up I2 1 v15 → post ((I16 1) - (1 : Int32)) I16 F13) ∧ (¬ r1 = (0 : Int32) → post (0 : Int32) I2 F3)))
def bX5_row_48 (post : Int32 → (Nat → Int32) → (Nat → Nat → Int32) → Prop) (I : Nat → Int32) (F : Nat → Nat → Int32) (x1 x2 x3 x4 x5 y0 : Int32) : Prop := (((0 : Int32) < (I 2) → bX5_row_72 post I F x1 x2 x3 x4 x5 y0 (1 : Int32)) ∧ (¬ (0 : Int32) < (I 2) → ((¬ (I 1) = (8 : Int32) → bX5_row_72 post I F x1 x2 x3 x4 x5 y0 (0 : Int32)) ∧ ((I 1) = (8 : Int32) → bX5_row_72 post I F x1 x2 x3 x4 x5 y0 (1 : Int32)))))
def wX5_row (I : Nat → Int32) (F : Nat → Nat → Int32) (x1 x2 x3 x4 x5 : Int32) (post : Int32 → (Nat → Int32) → (Nat → Nat → Int32) → Prop) : Prop := ((x1 < (0 : Int32) → bX5_row_48 post I F x1 x2 x3 x4 x5 (1 : Int32)) ∧ (¬ x1 < (0 : Int32) → (((49 : Int32) < x2 → bX5_row_48 post I F x1 x2 x3 x4 x5 (1 : Int32)) ∧ (¬ (49 : Int32) < x2 → ((x2 < x1 → bX5_row_48 post I F x1 x2 x3 x4 x5 (1 : Int32)) ∧ (¬ x2 < x1 → ((x3 < (0 : Int32) → bX5_row_48 post I F x1 x2 x3 x4 x5 (1 : Int32)) ∧ (¬ x3 < (0 : Int32) → (((9 : Int32) < x4 → bX5_row_48 post I F x1 x2 x3 x4 x5 (1 : Int32)) ∧ (¬ (9 : Int32) < x4 → ((x4 < x3 → bX5_row_48 post I F x1 x2 x3 x4 x5 (1 : Int32)) ∧ (¬ x4 < x3 → wX5_outside x5 (1 : Int32) (99 : Int32) (fun r25 => ((r25 = (0 : Int32) → bX5_row_48 post I F x1 x2 x3 x4 x5 (0 : Int32)) ∧ (¬ r25 = (0 : Int32) → bX5_row_48 post I F x1 x2 x3 x4 x5 (1 : Int32))))))))))))))))
set_option maxHeartbeats 4000000 in
set_option maxRecDepth 100000 in
theorem sX5_row_72 {p : Program} {l : Launch} {e : Env} {s : State} {m : MethodId} {args : Array Value} {below : List Frame} {meth : Method} {c : Code} {dC : Nat → ClassId} {dI : Nat → Nat → Nat} {cI : ClassId} {ad : Nat → Nat} {A : Nat → Prop} (C : Cx p s m args meth c cX5_row 7 (some .int) RX5 wsX5_row) (hK : va_K (dC, dI) vwCl [(cI, .int)] s) (hN : NW s) (hD : ∀ I F, va_D A (wM cI ad I F)) (hA : ∀ q : Nat, s.heap.size ≤ q → A q) (post : Int32 → (Nat → Int32) → (Nat → Nat → Int32) → Prop) : ∀ (I : Nat → Int32) (F : Nat → Nat → Int32) (x1 x2 x3 x4 x5 x6 y0 : Int32), bX5_row_72 post I F x1 x2 x3 x4 x5 x6 y0 → ∀ (H : Heap) (locs : List Loc), va_P (dC, dI) vwCl (wM cI ad I F) H → va_S A s.heap H locs → ∀ (ls : Array Slot), lv_has ls 7 [(0, .ref (ad 0)), (1, .int x1), (2, .int x2), (3, .int x3), (4, .int x4), (5, .int x5), (6, .int x6)] → W p l e { frames := 1, cells := 0, slots := 0, locals := 23 } s m args below meth c H locs 0 0 (MQ below (QWi dC dI (wM cI ad) post A) args s 0 0 A) (F0 m 72 ls [.int y0, .ref (ad 0)]) := by
  obtain ⟨hx, hb, hml, hown, hts, hr, hlocks⟩ := id C
  intro I F x1 x2 x3 x4 x5 x6 y0 h H locs hP hS ls hl
  unfold bX5_row_72 at h
  refine lv_iload hx hb dX5_row_72 (lv_at hl 6 rfl) ?_
  refine lv_iconst (v := (0 : Int32)) hx hb dX5_row_74 (by decide) ?_
  refine wcall_i (va_runV (As := [.int y0, .int x6, .int (0 : Int32)]) (rest := []) ⟨hx, hb, hml, hown, hts⟩ (cTX5_fails l dC dI cI ad I F H.size y0 x6 (0 : Int32) _ h) (cwV 3 hts gX5_row_X5_fails rfl rfl rfl (by decide +kernel) ⟨Nat.le_of_ble_eq_true rfl, Nat.le_of_ble_eq_true rfl⟩) (pv_W hP hK hN ((hD _ _).weaken (fun _ _ _ _ => trivial)) 0 5 rfl rfl _) rfl rfl hl.1 rfl (lv_room (Nat.le_of_ble_eq_true rfl)) dX5_row_75 ⟨Nat.le_of_ble_eq_true rfl, Nat.le_of_ble_eq_true rfl⟩) hD hS hA (fun r1 I2 F3 h H locs hP hS => ?_)
  refine lv_if_eq (tgt := 83) hx hb dX5_row_78 (by decide) (fun c4 => ?_) (fun c4 => ?_)
  · have h := h.1 c4
    refine lv_aload_n hx hb dX5_row_83 rfl (lv_at hl 0 rfl) ?_
    refine va_get (D := (dC, dI)) (ci := 5) (v := .ref (ad 1)) (C := RX5) (T := TX5) (N := 31) hx hb hts iX5_row_X5 hown hK hP 0 rfl rfl 2 (by decide) (hts (.fieldLink RX5 7 "CarrierBooksModel" "plan" "[I") (by decide +kernel)) (fun _ h9 => h9) rfl dX5_row_84 ?_
    refine lv_iconst (v := (5 : Int32)) hx hb dX5_row_87 (by decide) ?_
    refine lv_aload_n hx hb dX5_row_88 rfl (lv_at hl 0 rfl) ?_
    refine va_get (D := (dC, dI)) (ci := 5) (v := .int (I2 1)) (C := RX5) (T := TX5) (N := 31) hx hb hts iX5_row_X5 hown hK hP 0 rfl rfl 1 (by decide) (hts (.fieldLink RX5 78 "CarrierBooksModel" "rows" "I") (by decide +kernel)) (fun _ h9 => h9) rfl dX5_row_89 ?_
    refine lv_imul hx hb dX5_row_92 ?_
    refine lv_iload_n hx hb dX5_row_93 rfl (lv_at hl 1 rfl) ?_
    obtain ⟨hin6, h⟩ := h
    refine ast_w (wf := wM cI ad) hx hb hK hP hD hS 1 1 rfl hin6 rfl dX5_row_94 (fun F5 eF5 H locs hP hS => ?_)
    have h := h F5 eF5
    refine lv_aload_n hx hb dX5_row_95 rfl (lv_at hl 0 rfl) ?_
    refine va_get (D := (dC, dI)) (ci := 5) (v := .ref (ad 1)) (C := RX5) (T := TX5) (N := 31) hx hb hts iX5_row_X5 hown hK hP 0 rfl rfl 2 (by decide) (hts (.fieldLink RX5 7 "CarrierBooksModel" "plan" "[I") (by decide +kernel)) (fun _ h9 => h9) rfl dX5_row_96 ?_
    refine lv_iconst (v := (5 : Int32)) hx hb dX5_row_99 (by decide) ?_
    refine lv_aload_n hx hb dX5_row_100 rfl (lv_at hl 0 rfl) ?_
    refine va_get (D := (dC, dI)) (ci := 5) (v := .int (I2 1)) (C := RX5) (T := TX5) (N := 31) hx hb hts iX5_row_X5 hown hK hP 0 rfl rfl 1 (by decide) (hts (.fieldLink RX5 78 "CarrierBooksModel" "rows" "I") (by decide +kernel)) (fun _ h9 => h9) rfl dX5_row_101 ?_
    refine lv_imul hx hb dX5_row_104 ?_
    refine lv_iconst (v := (1 : Int32)) hx hb dX5_row_105 (by decide) ?_
    refine lv_iadd hx hb dX5_row_106 ?_
    refine lv_iload_n hx hb dX5_row_107 rfl (lv_at hl 2 rfl) ?_
    obtain ⟨hin8, h⟩ := h
    refine ast_w (wf := wM cI ad) hx hb hK hP hD hS 1 1 rfl hin8 rfl dX5_row_108 (fun F7 eF7 H locs hP hS => ?_)
    have h := h F7 eF7
    refine lv_aload_n hx hb dX5_row_109 rfl (lv_at hl 0 rfl) ?_
    refine va_get (D := (dC, dI)) (ci := 5) (v := .ref (ad 1)) (C := RX5) (T := TX5) (N := 31) hx hb hts iX5_row_X5 hown hK hP 0 rfl rfl 2 (by decide) (hts (.fieldLink RX5 7 "CarrierBooksModel" "plan" "[I") (by decide +kernel)) (fun _ h9 => h9) rfl dX5_row_110 ?_
    refine lv_iconst (v := (5 : Int32)) hx hb dX5_row_113 (by decide) ?_
    refine lv_aload_n hx hb dX5_row_114 rfl (lv_at hl 0 rfl) ?_
    refine va_get (D := (dC, dI)) (ci := 5) (v := .int (I2 1)) (C := RX5) (T := TX5) (N := 31) hx hb hts iX5_row_X5 hown hK hP 0 rfl rfl 1 (by decide) (hts (.fieldLink RX5 78 "CarrierBooksModel" "rows" "I") (by decide +kernel)) (fun _ h9 => h9) rfl dX5_row_115 ?_
    refine lv_imul hx hb dX5_row_118 ?_
    refine lv_iconst (v := (2 : Int32)) hx hb dX5_row_119 (by decide) ?_
    refine lv_iadd hx hb dX5_row_120 ?_
    refine lv_iload_n hx hb dX5_row_121 rfl (lv_at hl 3 rfl) ?_
    obtain ⟨hin10, h⟩ := h
    refine ast_w (wf := wM cI ad) hx hb hK hP hD hS 1 1 rfl hin10 rfl dX5_row_122 (fun F9 eF9 H locs hP hS => ?_)
    have h := h F9 eF9
    refine lv_aload_n hx hb dX5_row_123 rfl (lv_at hl 0 rfl) ?_
    refine va_get (D := (dC, dI)) (ci := 5) (v := .ref (ad 1)) (C := RX5) (T := TX5) (N := 31) hx hb hts iX5_row_X5 hown hK hP 0 rfl rfl 2 (by decide) (hts (.fieldLink RX5 7 "CarrierBooksModel" "plan" "[I") (by decide +kernel)) (fun _ h9 => h9) rfl dX5_row_124 ?_
    refine lv_iconst (v := (5 : Int32)) hx hb dX5_row_127 (by decide) ?_
    refine lv_aload_n hx hb dX5_row_128 rfl (lv_at hl 0 rfl) ?_
    refine va_get (D := (dC, dI)) (ci := 5) (v := .int (I2 1)) (C := RX5) (T := TX5) (N := 31) hx hb hts iX5_row_X5 hown hK hP 0 rfl rfl 1 (by decide) (hts (.fieldLink RX5 78 "CarrierBooksModel" "rows" "I") (by decide +kernel)) (fun _ h9 => h9) rfl dX5_row_129 ?_
    refine lv_imul hx hb dX5_row_132 ?_
    refine lv_iconst (v := (3 : Int32)) hx hb dX5_row_133 (by decide) ?_
    refine lv_iadd hx hb dX5_row_134 ?_
    refine lv_iload hx hb dX5_row_135 (lv_at hl 4 rfl) ?_
    obtain ⟨hin12, h⟩ := h
    refine ast_w (wf := wM cI ad) hx hb hK hP hD hS 1 1 rfl hin12 rfl dX5_row_137 (fun F11 eF11 H locs hP hS => ?_)
    have h := h F11 eF11
    refine lv_aload_n hx hb dX5_row_138 rfl (lv_at hl 0 rfl) ?_
    refine va_get (D := (dC, dI)) (ci := 5) (v := .ref (ad 1)) (C := RX5) (T := TX5) (N := 31) hx hb hts iX5_row_X5 hown hK hP 0 rfl rfl 2 (by decide) (hts (.fieldLink RX5 7 "CarrierBooksModel" "plan" "[I") (by decide +kernel)) (fun _ h9 => h9) rfl dX5_row_139 ?_
    refine lv_iconst (v := (5 : Int32)) hx hb dX5_row_142 (by decide) ?_
    refine lv_aload_n hx hb dX5_row_143 rfl (lv_at hl 0 rfl) ?_
    refine va_get (D := (dC, dI)) (ci := 5) (v := .int (I2 1)) (C := RX5) (T := TX5) (N := 31) hx hb hts iX5_row_X5 hown hK hP 0 rfl rfl 1 (by decide) (hts (.fieldLink RX5 78 "CarrierBooksModel" "rows" "I") (by decide +kernel)) (fun _ h9 => h9) rfl dX5_row_144 ?_
    refine lv_imul hx hb dX5_row_147 ?_
    refine lv_iconst (v := (4 : Int32)) hx hb dX5_row_148 (by decide) ?_
    refine lv_iadd hx hb dX5_row_149 ?_
    refine lv_iload hx hb dX5_row_150 (lv_at hl 5 rfl) ?_
    obtain ⟨hin14, h⟩ := h
    refine ast_w (wf := wM cI ad) hx hb hK hP hD hS 1 1 rfl hin14 rfl dX5_row_152 (fun F13 eF13 H locs hP hS => ?_)
    have h := h F13 eF13
    refine lv_aload_n hx hb dX5_row_153 rfl (lv_at hl 0 rfl) ?_
    refine lv_dup hx hb dX5_row_154 rfl ?_
    refine va_get (D := (dC, dI)) (ci := 5) (v := .int (I2 1)) (C := RX5) (T := TX5) (N := 31) hx hb hts iX5_row_X5 hown hK hP 0 rfl rfl 1 (by decide) (hts (.fieldLink RX5 78 "CarrierBooksModel" "rows" "I") (by decide +kernel)) (fun _ h9 => h9) rfl dX5_row_155 ?_
    refine lv_iconst (v := (1 : Int32)) hx hb dX5_row_158 (by decide) ?_
    refine lv_iadd hx hb dX5_row_159 ?_
    refine lv_topi (fun v15 ev15 => ?_)
    have h := h v15 ev15
    refine put_w (wf := wM cI ad) (ci := 5) (C := RX5) (T := TX5) (N := 31) hx hb hts iX5_row_X5 tyX5 tyX5_ok nmX5 hown hK hP hD hS 0 rfl rfl 1 (by decide) (hts (.fieldLink RX5 78 "CarrierBooksModel" "rows" "I") (by decide +kernel)) (fun _ h9 => h9) rfl 1 (by decide +kernel) (Nat.le_of_ble_eq_true rfl) rfl dX5_row_160 (fun I16 eI16 H locs hP hS => ?_)
    have h := h I16 eI16
    refine lv_aload_n hx hb dX5_row_163 rfl (lv_at hl 0 rfl) ?_
    refine va_get (D := (dC, dI)) (ci := 5) (v := .int (I16 1)) (C := RX5) (T := TX5) (N := 31) hx hb hts iX5_row_X5 hown hK hP 0 rfl rfl 1 (by decide) (hts (.fieldLink RX5 78 "CarrierBooksModel" "rows" "I") (by decide +kernel)) (fun _ h9 => h9) rfl dX5_row_164 ?_
    refine lv_iconst (v := (1 : Int32)) hx hb dX5_row_167 (by decide) ?_
    refine lv_isub hx hb dX5_row_168 ?_
    exact W.iret (v := ((I16 1) - (1 : Int32))) hx hb hr (fun t ht hW => ⟨⟨((I16 1) - (1 : Int32)), (I16, F13), rfl, h, by show va_P _ _ _ t.heap; rw [ht]; exact hP⟩, hS.F ht⟩) hS.2.2 dX5_row_169
  · have h := h.2 c4
    refine lv_iconst (v := (0 : Int32)) hx hb dX5_row_81 (by decide) ?_
    exact W.iret (v := (0 : Int32)) hx hb hr (fun t ht hW => ⟨⟨(0 : Int32), (I2, F3), rfl, h, by show va_P _ _ _ t.heap; rw [ht]; exact hP⟩, hS.F ht⟩) hS.2.2 dX5_row_82
set_option maxHeartbeats 4000000 in
set_option maxRecDepth 100000 in
theorem sX5_row_48 {p : Program} {l : Launch} {e : Env} {s : State} {m : MethodId} {args : Array Value} {below : List Frame} {meth : Method} {c : Code} {dC : Nat → ClassId} {dI : Nat → Nat → Nat} {cI : ClassId} {ad : Nat → Nat} {A : Nat → Prop} (C : Cx p s m args meth c cX5_row 7 (some .int) RX5 wsX5_row) (hK : va_K (dC, dI) vwCl [(cI, .int)] s) (hN : NW s) (hD : ∀ I F, va_D A (wM cI ad I F)) (hA : ∀ q : Nat, s.heap.size ≤ q → A q) (post : Int32 → (Nat → Int32) → (Nat → Nat → Int32) → Prop) : ∀ (I : Nat → Int32) (F : Nat → Nat → Int32) (x1 x2 x3 x4 x5 y0 : Int32), bX5_row_48 post I F x1 x2 x3 x4 x5 y0 → ∀ (H : Heap) (locs : List Loc), va_P (dC, dI) vwCl (wM cI ad I F) H → va_S A s.heap H locs → ∀ (ls : Array Slot), lv_has ls 7 [(0, .ref (ad 0)), (1, .int x1), (2, .int x2), (3, .int x3), (4, .int x4), (5, .int x5)] → W p l e { frames := 1, cells := 0, slots := 0, locals := 23 } s m args below meth c H locs 0 0 (MQ below (QWi dC dI (wM cI ad) post A) args s 0 0 A) (F0 m 48 ls [.int y0]) := by
  obtain ⟨hx, hb, hml, hown, hts, hr, hlocks⟩ := id C
  intro I F x1 x2 x3 x4 x5 y0 h H locs hP hS ls hl
  unfold bX5_row_48 at h
  refine lv_istore (lv' := [(6, .int y0), (0, .ref (ad 0)), (1, .int x1), (2, .int x2), (3, .int x3), (4, .int x4), (5, .int x5)]) hx hb dX5_row_48 hl (by decide) rfl (fun ls hl => ?_)
  refine lv_aload_n hx hb dX5_row_50 rfl (lv_at hl 1 rfl) ?_
  refine lv_aload_n hx hb dX5_row_51 rfl (lv_at hl 1 rfl) ?_
  refine va_get (D := (dC, dI)) (ci := 5) (v := .int (I 2)) (C := RX5) (T := TX5) (N := 31) hx hb hts iX5_row_X5 hown hK hP 0 rfl rfl 3 (by decide) (hts (.fieldLink RX5 75 "CarrierBooksModel" "policies" "I") (by decide +kernel)) (fun _ h9 => h9) rfl dX5_row_52 ?_
  refine lv_if_gt (tgt := 67) hx hb dX5_row_55 (by decide) (fun c17 => ?_) (fun c17 => ?_)
  · have h := h.1 c17
    refine lv_iconst (v := (1 : Int32)) hx hb dX5_row_67 (by decide) ?_
    refine lv_goto (tgt := 72) hx hb dX5_row_68 (by decide) ?_
    exact sX5_row_72 C hK hN hD hA post I F x1 x2 x3 x4 x5 y0 (1 : Int32) h H locs hP hS ls (lv_sub hl [1, 2, 3, 4, 5, 6, 0] rfl)
  · have h := h.2 c17
    refine lv_aload_n hx hb dX5_row_58 rfl (lv_at hl 1 rfl) ?_
    refine va_get (D := (dC, dI)) (ci := 5) (v := .int (I 1)) (C := RX5) (T := TX5) (N := 31) hx hb hts iX5_row_X5 hown hK hP 0 rfl rfl 1 (by decide) (hts (.fieldLink RX5 78 "CarrierBooksModel" "rows" "I") (by decide +kernel)) (fun _ h9 => h9) rfl dX5_row_59 ?_
    refine lv_bipush (v := (8 : Int32)) hx hb dX5_row_62 (by decide) ?_
    refine lv_icmp_ne (tgt := 71) hx hb dX5_row_64 (by decide) (fun c18 => ?_) (fun c18 => ?_)
    · have h := h.1 c18
      refine lv_iconst (v := (0 : Int32)) hx hb dX5_row_71 (by decide) ?_
      exact sX5_row_72 C hK hN hD hA post I F x1 x2 x3 x4 x5 y0 (0 : Int32) h H locs hP hS ls (lv_sub hl [1, 2, 3, 4, 5, 6, 0] rfl)
    · have h := h.2 c18
      refine lv_iconst (v := (1 : Int32)) hx hb dX5_row_67 (by decide) ?_
      refine lv_goto (tgt := 72) hx hb dX5_row_68 (by decide) ?_
      exact sX5_row_72 C hK hN hD hA post I F x1 x2 x3 x4 x5 y0 (1 : Int32) h H locs hP hS ls (lv_sub hl [1, 2, 3, 4, 5, 6, 0] rfl)
set_option maxHeartbeats 4000000 in
set_option maxRecDepth 100000 in
theorem cTX5_row (l : Launch) (dC : Nat → ClassId) (dI : Nat → Nat → Nat) (cI : ClassId) (ad : Nat → Nat) (I : Nat → Int32) (F : Nat → Nat → Int32) (sz : Nat) (x1 x2 x3 x4 x5 : Int32) (post : Int32 → (Nat → Int32) → (Nat → Nat → Int32) → Prop) (h : wX5_row I F x1 x2 x3 x4 x5 post) : Met l yX5_row wsX5_row { frames := 1, cells := 0, slots := 0, locals := 23 } (va_Pc [.ref (ad 0), .int x1, .int x2, .int x3, .int x4, .int x5] (PWw dC dI cI (wM cI ad) I F sz)) (QWi dC dI (wM cI ad) post (va_A (wM cI ad I F) sz)) 0 0 (va_A (wM cI ad I F) sz) := by
  refine Met.ofW (cc := cX5_row) (maxL := 7) (ret := (some .int)) (by decide) rfl ?_
  intro p e s m args below meth c s₁ B hml hv
  obtain ⟨rfl, hsz, ⟨hP, hK, hN⟩, hD0⟩ := hv
  subst hsz
  have hD := wD_any (wM_fix cI ad) (hD0.self (sz := s.heap.size))
  generalize hAe : va_A (wM cI ad I F) s.heap.size = A at hD ⊢
  have hA : ∀ q : Nat, s.heap.size ≤ q → A q := fun q h => by rw [← hAe]; exact Or.inr h
  clear hAe hD0
  have hx := B.exec
  have hb := B.bytes
  have hr := B.returns
  have hts := atoms_spec (ws := wsX5_row) B.pre
  have hown : s.vm.findClass RX5 = some m.cls := findClass_of_methodNamed B.named
  have hlocks := B.notSynchronized
  have C : Cx p s m _ meth c cX5_row 7 (some .int) RX5 wsX5_row := ⟨hx, hb, hml, hown, hts, hr, hlocks⟩
  have hS : va_S A s.heap s.heap [] := va_S.rf
  have hl := lv_entry ([.ref (ad 0), .int x1, .int x2, .int x3, .int x4, .int x5]) (n := 7) (Nat.le_of_ble_eq_true rfl)
  rw [lg_entry_eq]
  generalize (lg_sl ([.ref (ad 0), .int x1, .int x2, .int x3, .int x4, .int x5]) ++ List.replicate (7 - (lg_sl ([.ref (ad 0), .int x1, .int x2, .int x3, .int x4, .int x5])).length) Slot.unset).toArray = ls at hl ⊢
  have hl : lv_has ls 7 [(0, .ref (ad 0)), (1, .int x1), (2, .int x2), (3, .int x3), (4, .int x4), (5, .int x5)] := hl
  unfold wX5_row at h
  refine lv_iload_n hx hb dX5_row_0 rfl (lv_at hl 1 rfl) ?_
  refine lv_if_lt (tgt := 43) hx hb dX5_row_1 (by decide) (fun c19 => ?_) (fun c19 => ?_)
  · have h := h.1 c19
    refine lv_iconst (v := (1 : Int32)) hx hb dX5_row_43 (by decide) ?_
    refine lv_goto (tgt := 48) hx hb dX5_row_44 (by decide) ?_
    exact sX5_row_48 C hK hN hD hA post I F x1 x2 x3 x4 x5 (1 : Int32) h s.heap [] hP hS ls (lv_sub hl [0, 1, 2, 3, 4, 5] rfl)
  · have h := h.2 c19
    refine lv_iload_n hx hb dX5_row_4 rfl (lv_at hl 2 rfl) ?_
    refine lv_bipush (v := (49 : Int32)) hx hb dX5_row_5 (by decide) ?_
    refine lv_icmp_gt (tgt := 43) hx hb dX5_row_7 (by decide) (fun c20 => ?_) (fun c20 => ?_)
    · have h := h.1 c20
      refine lv_iconst (v := (1 : Int32)) hx hb dX5_row_43 (by decide) ?_
      refine lv_goto (tgt := 48) hx hb dX5_row_44 (by decide) ?_
      exact sX5_row_48 C hK hN hD hA post I F x1 x2 x3 x4 x5 (1 : Int32) h s.heap [] hP hS ls (lv_sub hl [0, 1, 2, 3, 4, 5] rfl)
    · have h := h.2 c20
      refine lv_iload_n hx hb dX5_row_10 rfl (lv_at hl 1 rfl) ?_
      refine lv_iload_n hx hb dX5_row_11 rfl (lv_at hl 2 rfl) ?_
      refine lv_icmp_gt (tgt := 43) hx hb dX5_row_12 (by decide) (fun c21 => ?_) (fun c21 => ?_)
      · have h := h.1 c21
        refine lv_iconst (v := (1 : Int32)) hx hb dX5_row_43 (by decide) ?_
        refine lv_goto (tgt := 48) hx hb dX5_row_44 (by decide) ?_
        exact sX5_row_48 C hK hN hD hA post I F x1 x2 x3 x4 x5 (1 : Int32) h s.heap [] hP hS ls (lv_sub hl [0, 1, 2, 3, 4, 5] rfl)
      · have h := h.2 c21
        refine lv_iload_n hx hb dX5_row_15 rfl (lv_at hl 3 rfl) ?_
        refine lv_if_lt (tgt := 43) hx hb dX5_row_16 (by decide) (fun c22 => ?_) (fun c22 => ?_)
        · have h := h.1 c22
          refine lv_iconst (v := (1 : Int32)) hx hb dX5_row_43 (by decide) ?_
          refine lv_goto (tgt := 48) hx hb dX5_row_44 (by decide) ?_
          exact sX5_row_48 C hK hN hD hA post I F x1 x2 x3 x4 x5 (1 : Int32) h s.heap [] hP hS ls (lv_sub hl [0, 1, 2, 3, 4, 5] rfl)
        · have h := h.2 c22
          refine lv_iload hx hb dX5_row_19 (lv_at hl 4 rfl) ?_
          refine lv_bipush (v := (9 : Int32)) hx hb dX5_row_21 (by decide) ?_
          refine lv_icmp_gt (tgt := 43) hx hb dX5_row_23 (by decide) (fun c23 => ?_) (fun c23 => ?_)
          · have h := h.1 c23
            refine lv_iconst (v := (1 : Int32)) hx hb dX5_row_43 (by decide) ?_
            refine lv_goto (tgt := 48) hx hb dX5_row_44 (by decide) ?_
            exact sX5_row_48 C hK hN hD hA post I F x1 x2 x3 x4 x5 (1 : Int32) h s.heap [] hP hS ls (lv_sub hl [0, 1, 2, 3, 4, 5] rfl)
          · have h := h.2 c23
            refine lv_iload_n hx hb dX5_row_26 rfl (lv_at hl 3 rfl) ?_
            refine lv_iload hx hb dX5_row_27 (lv_at hl 4 rfl) ?_
            refine lv_icmp_gt (tgt := 43) hx hb dX5_row_29 (by decide) (fun c24 => ?_) (fun c24 => ?_)
            · have h := h.1 c24
              refine lv_iconst (v := (1 : Int32)) hx hb dX5_row_43 (by decide) ?_
              refine lv_goto (tgt := 48) hx hb dX5_row_44 (by decide) ?_
              exact sX5_row_48 C hK hN hD hA post I F x1 x2 x3 x4 x5 (1 : Int32) h s.heap [] hP hS ls (lv_sub hl [0, 1, 2, 3, 4, 5] rfl)
            · have h := h.2 c24
              refine lv_iload hx hb dX5_row_32 (lv_at hl 5 rfl) ?_
              refine lv_iconst (v := (1 : Int32)) hx hb dX5_row_34 (by decide) ?_
              refine lv_bipush (v := (99 : Int32)) hx hb dX5_row_35 (by decide) ?_
              refine vp_callSi (cr_of (va_runS (As := [.int x5, .int (1 : Int32), .int (99 : Int32)]) (rest := []) ⟨hx, hb, hml, hown, hts⟩ (cTX5_outside l x5 (1 : Int32) (99 : Int32) _ h) (va_cwS 3 hts gX5_row_X5_outside rfl rfl rfl (by decide +kernel) ⟨Nat.le_of_ble_eq_true rfl, Nat.le_of_ble_eq_true rfl⟩) (pv_S _) rfl rfl hl.1 rfl (lv_room (Nat.le_of_ble_eq_true rfl)) dX5_row_37 ⟨Nat.le_of_ble_eq_true rfl, Nat.le_of_ble_eq_true rfl⟩)) (fun r25 h => ?_)
              refine lv_if_eq (tgt := 47) hx hb dX5_row_40 (by decide) (fun c26 => ?_) (fun c26 => ?_)
              · have h := h.1 c26
                refine lv_iconst (v := (0 : Int32)) hx hb dX5_row_47 (by decide) ?_
                exact sX5_row_48 C hK hN hD hA post I F x1 x2 x3 x4 x5 (0 : Int32) h s.heap [] hP hS ls (lv_sub hl [0, 1, 2, 3, 4, 5] rfl)
              · have h := h.2 c26
                refine lv_iconst (v := (1 : Int32)) hx hb dX5_row_43 (by decide) ?_
                refine lv_goto (tgt := 48) hx hb dX5_row_44 (by decide) ?_
                exact sX5_row_48 C hK hN hD hA post I F x1 x2 x3 x4 x5 (1 : Int32) h s.heap [] hP hS ls (lv_sub hl [0, 1, 2, 3, 4, 5] rfl)

theorem iX5_undo_X5 : ∀ w ∈ wsX50, w ∈ wsX5_undo := by decide +kernel
def bX5_undo_20 (post : (Nat → Int32) → (Nat → Nat → Int32) → Prop) (I : Nat → Int32) (F : Nat → Nat → Int32) (y0 : Int32) : Prop := wX5_fails I F y0 (0 : Int32) (0 : Int32) (fun r1 I2 F3 => ((¬ r1 = (0 : Int32) → post I2 F3) ∧ (r1 = (0 : Int32) → ∀ v5 : Int32, v5 = ((I2 1) - (1 : Int32)) → ∀ I6 : Nat → Int32, I6 = va_up I2 1 v5 → post I6 F3)))
def wX5_undo (I : Nat → Int32) (F : Nat → Nat → Int32) (post : (Nat → Int32) → (Nat → Nat → Int32) → Prop) : Prop := (((0 : Int32) < (I 2) → bX5_undo_20 post I F (1 : Int32)) ∧ (¬ (0 : Int32) < (I 2) → ((¬ (I 1) = (0 : Int32) → bX5_undo_20 post I F (0 : Int32)) ∧ ((I 1) = (0 : Int32) → bX5_undo_20 post I F (1 : Int32)))))
set_option maxHeartbeats 4000000 in
set_option maxRecDepth 100000 in
theorem sX5_undo_20 {p : Program} {l : Launch} {e : Env} {s : State} {m : MethodId} {args : Array Value} {below : List Frame} {meth : Method} {c : Code} {dC : Nat → ClassId} {dI : Nat → Nat → Nat} {cI : ClassId} {ad : Nat → Nat} {A : Nat → Prop} (C : Cx p s m args meth c cX5_undo 1 none RX5 wsX5_undo) (hK : va_K (dC, dI) vwCl [(cI, .int)] s) (hN : NW s) (hD : ∀ I F, va_D A (wM cI ad I F)) (hA : ∀ q : Nat, s.heap.size ≤ q → A q) (post : (Nat → Int32) → (Nat → Nat → Int32) → Prop) : ∀ (I : Nat → Int32) (F : Nat → Nat → Int32) (y0 : Int32), bX5_undo_20 post I F y0 → ∀ (H : Heap) (locs : List Loc), va_P (dC, dI) vwCl (wM cI ad I F) H → va_S A s.heap H locs → ∀ (ls : Array Slot), lv_has ls 1 [(0, .ref (ad 0))] → W p l e { frames := 1, cells := 0, slots := 0, locals := 23 } s m args below meth c H locs 0 0 (MQ below (QWv dC dI (wM cI ad) post A) args s 0 0 A) (F0 m 20 ls [.int y0, .ref (ad 0)]) := by
  obtain ⟨hx, hb, hml, hown, hts, hr, hlocks⟩ := id C
  intro I F y0 h H locs hP hS ls hl
  unfold bX5_undo_20 at h
  refine lv_iconst (v := (0 : Int32)) hx hb dX5_undo_20 (by decide) ?_
  refine lv_iconst (v := (0 : Int32)) hx hb dX5_undo_21 (by decide) ?_
  refine wcall_i (va_runV (As := [.int y0, .int (0 : Int32), .int (0 : Int32)]) (rest := []) ⟨hx, hb, hml, hown, hts⟩ (cTX5_fails l dC dI cI ad I F H.size y0 (0 : Int32) (0 : Int32) _ h) (cwV 3 hts gX5_undo_X5_fails rfl rfl rfl (by decide +kernel) ⟨Nat.le_of_ble_eq_true rfl, Nat.le_of_ble_eq_true rfl⟩) (pv_W hP hK hN ((hD _ _).weaken (fun _ _ _ _ => trivial)) 0 5 rfl rfl _) rfl rfl hl.1 rfl (lv_room (Nat.le_of_ble_eq_true rfl)) dX5_undo_22 ⟨Nat.le_of_ble_eq_true rfl, Nat.le_of_ble_eq_true rfl⟩) hD hS hA (fun r1 I2 F3 h H locs hP hS => ?_)
  refine lv_if_ne (tgt := 38) hx hb dX5_undo_25 (by decide) (fun c4 => ?_) (fun c4 => ?_)
  · have h := h.1 c4
    exact W.vret hx hb hr (fun t ht hW => ⟨⟨(I2, F3), rfl, h, by show va_P _ _ _ t.heap; rw [ht]; exact hP⟩, hS.F ht⟩) hS.2.2 dX5_undo_38
  · have h := h.2 c4
    refine lv_aload_n hx hb dX5_undo_28 rfl (lv_at hl 0 rfl) ?_
    refine lv_dup hx hb dX5_undo_29 rfl ?_
    refine va_get (D := (dC, dI)) (ci := 5) (v := .int (I2 1)) (C := RX5) (T := TX5) (N := 31) hx hb hts iX5_undo_X5 hown hK hP 0 rfl rfl 1 (by decide) (hts (.fieldLink RX5 78 "CarrierBooksModel" "rows" "I") (by decide +kernel)) (fun _ h9 => h9) rfl dX5_undo_30 ?_
    refine lv_iconst (v := (1 : Int32)) hx hb dX5_undo_33 (by decide) ?_
    refine lv_isub hx hb dX5_undo_34 ?_
    refine lv_topi (fun v5 ev5 => ?_)
    have h := h v5 ev5
    refine put_w (wf := wM cI ad) (ci := 5) (C := RX5) (T := TX5) (N := 31) hx hb hts iX5_undo_X5 tyX5 tyX5_ok nmX5 hown hK hP hD hS 0 rfl rfl 1 (by decide) (hts (.fieldLink RX5 78 "CarrierBooksModel" "rows" "I") (by decide +kernel)) (fun _ h9 => h9) rfl 1 (by decide +kernel) (Nat.le_of_ble_eq_true rfl) rfl dX5_undo_35 (fun I6 eI6 H locs hP hS => ?_)
    have h := h I6 eI6
    exact W.vret hx hb hr (fun t ht hW => ⟨⟨(I6, F3), rfl, h, by show va_P _ _ _ t.heap; rw [ht]; exact hP⟩, hS.F ht⟩) hS.2.2 dX5_undo_38
set_option maxHeartbeats 4000000 in
set_option maxRecDepth 100000 in
theorem cTX5_undo (l : Launch) (dC : Nat → ClassId) (dI : Nat → Nat → Nat) (cI : ClassId) (ad : Nat → Nat) (I : Nat → Int32) (F : Nat → Nat → Int32) (sz : Nat) (post : (Nat → Int32) → (Nat → Nat → Int32) → Prop) (h : wX5_undo I F post) : Met l yX5_undo wsX5_undo { frames := 1, cells := 0, slots := 0, locals := 23 } (va_Pc [.ref (ad 0)] (PWw dC dI cI (wM cI ad) I F sz)) (QWv dC dI (wM cI ad) post (va_A (wM cI ad I F) sz)) 0 0 (va_A (wM cI ad I F) sz) := by
  refine Met.ofW (cc := cX5_undo) (maxL := 1) (ret := none) (by decide) rfl ?_
  intro p e s m args below meth c s₁ B hml hv
  obtain ⟨rfl, hsz, ⟨hP, hK, hN⟩, hD0⟩ := hv
  subst hsz
  have hD := wD_any (wM_fix cI ad) (hD0.self (sz := s.heap.size))
  generalize hAe : va_A (wM cI ad I F) s.heap.size = A at hD ⊢
  have hA : ∀ q : Nat, s.heap.size ≤ q → A q := fun q h => by rw [← hAe]; exact Or.inr h
  clear hAe hD0
  have hx := B.exec
  have hb := B.bytes
  have hr := B.returns
  have hts := atoms_spec (ws := wsX5_undo) B.pre
  have hown : s.vm.findClass RX5 = some m.cls := findClass_of_methodNamed B.named
  have hlocks := B.notSynchronized
  have C : Cx p s m _ meth c cX5_undo 1 none RX5 wsX5_undo := ⟨hx, hb, hml, hown, hts, hr, hlocks⟩
  have hS : va_S A s.heap s.heap [] := va_S.rf
  have hl := lv_entry ([.ref (ad 0)]) (n := 1) (Nat.le_of_ble_eq_true rfl)
  rw [lg_entry_eq]
  generalize (lg_sl ([.ref (ad 0)]) ++ List.replicate (1 - (lg_sl ([.ref (ad 0)])).length) Slot.unset).toArray = ls at hl ⊢
  have hl : lv_has ls 1 [(0, .ref (ad 0))] := hl
  unfold wX5_undo at h
  refine lv_aload_n hx hb dX5_undo_0 rfl (lv_at hl 0 rfl) ?_
  refine lv_aload_n hx hb dX5_undo_1 rfl (lv_at hl 0 rfl) ?_
  refine va_get (D := (dC, dI)) (ci := 5) (v := .int (I 2)) (C := RX5) (T := TX5) (N := 31) hx hb hts iX5_undo_X5 hown hK hP 0 rfl rfl 3 (by decide) (hts (.fieldLink RX5 75 "CarrierBooksModel" "policies" "I") (by decide +kernel)) (fun _ h9 => h9) rfl dX5_undo_2 ?_
  refine lv_if_gt (tgt := 15) hx hb dX5_undo_5 (by decide) (fun c7 => ?_) (fun c7 => ?_)
  · have h := h.1 c7
    refine lv_iconst (v := (1 : Int32)) hx hb dX5_undo_15 (by decide) ?_
    refine lv_goto (tgt := 20) hx hb dX5_undo_16 (by decide) ?_
    exact sX5_undo_20 C hK hN hD hA post I F (1 : Int32) h s.heap [] hP hS ls (lv_sub hl [0] rfl)
  · have h := h.2 c7
    refine lv_aload_n hx hb dX5_undo_8 rfl (lv_at hl 0 rfl) ?_
    refine va_get (D := (dC, dI)) (ci := 5) (v := .int (I 1)) (C := RX5) (T := TX5) (N := 31) hx hb hts iX5_undo_X5 hown hK hP 0 rfl rfl 1 (by decide) (hts (.fieldLink RX5 78 "CarrierBooksModel" "rows" "I") (by decide +kernel)) (fun _ h9 => h9) rfl dX5_undo_9 ?_
    refine lv_if_ne (tgt := 19) hx hb dX5_undo_12 (by decide) (fun c8 => ?_) (fun c8 => ?_)
    · have h := h.1 c8
      refine lv_iconst (v := (0 : Int32)) hx hb dX5_undo_19 (by decide) ?_
      exact sX5_undo_20 C hK hN hD hA post I F (0 : Int32) h s.heap [] hP hS ls (lv_sub hl [0] rfl)
    · have h := h.2 c8
      refine lv_iconst (v := (1 : Int32)) hx hb dX5_undo_15 (by decide) ?_
      refine lv_goto (tgt := 20) hx hb dX5_undo_16 (by decide) ?_
      exact sX5_undo_20 C hK hN hD hA post I F (1 : Int32) h s.heap [] hP hS ls (lv_sub hl [0] rfl)

theorem iX5_witness_X5 : ∀ w ∈ wsX50, w ∈ wsX5_witness := by decide +kernel
def wX5_witness (I : Nat → Int32) (F : Nat → Nat → Int32) (post : Int32 → (Nat → Int32) → (Nat → Nat → Int32) → Prop) : Prop := ∀ I1 : Nat → Int32, I1 = va_up I 0 (0 : Int32) → wX5_flaw I1 F (fun r2 => post r2 I1 F)
set_option maxHeartbeats 4000000 in
set_option maxRecDepth 100000 in
theorem cTX5_witness (l : Launch) (dC : Nat → ClassId) (dI : Nat → Nat → Nat) (cI : ClassId) (ad : Nat → Nat) (I : Nat → Int32) (F : Nat → Nat → Int32) (sz : Nat) (post : Int32 → (Nat → Int32) → (Nat → Nat → Int32) → Prop) (h : wX5_witness I F post) : Met l yX5_witness wsX5_witness { frames := 2, cells := 0, slots := 0, locals := 46 } (va_Pc [.ref (ad 0)] (PWw dC dI cI (wM cI ad) I F sz)) (QWi dC dI (wM cI ad) post (va_A (wM cI ad I F) sz)) 0 0 (va_A (wM cI ad I F) sz) := by
  refine Met.ofW (cc := cX5_witness) (maxL := 1) (ret := (some .int)) (by decide) rfl ?_
  intro p e s m args below meth c s₁ B hml hv
  obtain ⟨rfl, hsz, ⟨hP, hK, hN⟩, hD0⟩ := hv
  subst hsz
  have hD := wD_any (wM_fix cI ad) (hD0.self (sz := s.heap.size))
  generalize hAe : va_A (wM cI ad I F) s.heap.size = A at hD ⊢
  have hA : ∀ q : Nat, s.heap.size ≤ q → A q := fun q h => by rw [← hAe]; exact Or.inr h
  clear hAe hD0
  have hx := B.exec
  have hb := B.bytes
  have hr := B.returns
  have hts := atoms_spec (ws := wsX5_witness) B.pre
  have hown : s.vm.findClass RX5 = some m.cls := findClass_of_methodNamed B.named
  have hlocks := B.notSynchronized
  have C : Cx p s m _ meth c cX5_witness 1 (some .int) RX5 wsX5_witness := ⟨hx, hb, hml, hown, hts, hr, hlocks⟩
  have hS : va_S A s.heap s.heap [] := va_S.rf
  have hl := lv_entry ([.ref (ad 0)]) (n := 1) (Nat.le_of_ble_eq_true rfl)
  rw [lg_entry_eq]
  generalize (lg_sl ([.ref (ad 0)]) ++ List.replicate (1 - (lg_sl ([.ref (ad 0)])).length) Slot.unset).toArray = ls at hl ⊢
  have hl : lv_has ls 1 [(0, .ref (ad 0))] := hl
  unfold wX5_witness at h
  refine lv_aload_n hx hb dX5_witness_0 rfl (lv_at hl 0 rfl) ?_
  refine lv_iconst (v := (0 : Int32)) hx hb dX5_witness_1 (by decide) ?_
  refine put_w (wf := wM cI ad) (ci := 5) (C := RX5) (T := TX5) (N := 31) hx hb hts iX5_witness_X5 tyX5 tyX5_ok nmX5 hown hK hP hD hS 0 rfl rfl 0 (by decide) (hts (.fieldLink RX5 68 "CarrierBooksModel" "thrown" "I") (by decide +kernel)) (fun _ h9 => h9) rfl 0 (by decide +kernel) (Nat.le_of_ble_eq_true rfl) rfl dX5_witness_2 (fun I1 eI1 H locs hP hS => ?_)
  have h := h I1 eI1
  refine lv_aload_n hx hb dX5_witness_5 rfl (lv_at hl 0 rfl) ?_
  refine vp_callSi (cr_of (va_runV (As := []) (rest := []) ⟨hx, hb, hml, hown, hts⟩ (cTX5_flaw l dC dI cI ad I1 F _ h) (cwV 0 hts gX5_witness_X5_flaw rfl rfl rfl (by decide +kernel) ⟨Nat.le_of_ble_eq_true rfl, Nat.le_of_ble_eq_true rfl⟩) (pv_R hP hK hN 0 5 rfl rfl _) rfl rfl hl.1 rfl (lv_room (Nat.le_of_ble_eq_true rfl)) dX5_witness_6 ⟨Nat.le_of_ble_eq_true rfl, Nat.le_of_ble_eq_true rfl⟩)) (fun r2 h => ?_)
  exact W.iret (v := r2) hx hb hr (fun t ht hW => ⟨⟨r2, (I1, F), rfl, h, by show va_P _ _ _ t.heap; rw [ht]; exact hP⟩, hS.F ht⟩) hS.2.2 dX5_witness_9

theorem iX5_quota_X5 : ∀ w ∈ wsX50, w ∈ wsX5_quota := by decide +kernel
def bX5_quota_13 (post : (Nat → Int32) → (Nat → Nat → Int32) → Prop) (I : Nat → Int32) (F : Nat → Nat → Int32) (x1 y0 : Int32) : Prop := wX5_outside x1 (0 : Int32) (90 : Int32) (fun r1 => wX5_fails I F y0 r1 (0 : Int32) (fun r2 I3 F4 => ((¬ r2 = (0 : Int32) → post I3 F4) ∧ (r2 = (0 : Int32) → ∀ I6 : Nat → Int32, I6 = va_up I3 6 x1 → post I6 F4))))
def wX5_quota (I : Nat → Int32) (F : Nat → Nat → Int32) (x1 : Int32) (post : (Nat → Int32) → (Nat → Nat → Int32) → Prop) : Prop := (((I 2) ≤ (0 : Int32) → bX5_quota_13 post I F x1 (0 : Int32)) ∧ (¬ (I 2) ≤ (0 : Int32) → bX5_quota_13 post I F x1 (1 : Int32)))
set_option maxHeartbeats 4000000 in
set_option maxRecDepth 100000 in
theorem sX5_quota_13 {p : Program} {l : Launch} {e : Env} {s : State} {m : MethodId} {args : Array Value} {below : List Frame} {meth : Method} {c : Code} {dC : Nat → ClassId} {dI : Nat → Nat → Nat} {cI : ClassId} {ad : Nat → Nat} {A : Nat → Prop} (C : Cx p s m args meth c cX5_quota 2 none RX5 wsX5_quota) (hK : va_K (dC, dI) vwCl [(cI, .int)] s) (hN : NW s) (hD : ∀ I F, va_D A (wM cI ad I F)) (hA : ∀ q : Nat, s.heap.size ≤ q → A q) (post : (Nat → Int32) → (Nat → Nat → Int32) → Prop) : ∀ (I : Nat → Int32) (F : Nat → Nat → Int32) (x1 y0 : Int32), bX5_quota_13 post I F x1 y0 → ∀ (H : Heap) (locs : List Loc), va_P (dC, dI) vwCl (wM cI ad I F) H → va_S A s.heap H locs → ∀ (ls : Array Slot), lv_has ls 2 [(0, .ref (ad 0)), (1, .int x1)] → W p l e { frames := 1, cells := 0, slots := 0, locals := 23 } s m args below meth c H locs 0 0 (MQ below (QWv dC dI (wM cI ad) post A) args s 0 0 A) (F0 m 13 ls [.int y0, .ref (ad 0)]) := by
  obtain ⟨hx, hb, hml, hown, hts, hr, hlocks⟩ := id C
  intro I F x1 y0 h H locs hP hS ls hl
  unfold bX5_quota_13 at h
  refine lv_iload_n hx hb dX5_quota_13 rfl (lv_at hl 1 rfl) ?_
  refine lv_iconst (v := (0 : Int32)) hx hb dX5_quota_14 (by decide) ?_
  refine lv_bipush (v := (90 : Int32)) hx hb dX5_quota_15 (by decide) ?_
  refine vp_callSi (cr_of (va_runS (As := [.int x1, .int (0 : Int32), .int (90 : Int32)]) (rest := [.int y0, .ref (ad 0)]) ⟨hx, hb, hml, hown, hts⟩ (cTX5_outside l x1 (0 : Int32) (90 : Int32) _ h) (va_cwS 3 hts gX5_quota_X5_outside rfl rfl rfl (by decide +kernel) ⟨Nat.le_of_ble_eq_true rfl, Nat.le_of_ble_eq_true rfl⟩) (pv_S _) rfl rfl hl.1 rfl (lv_room (Nat.le_of_ble_eq_true rfl)) dX5_quota_17 ⟨Nat.le_of_ble_eq_true rfl, Nat.le_of_ble_eq_true rfl⟩)) (fun r1 h => ?_)
  refine lv_iconst (v := (0 : Int32)) hx hb dX5_quota_20 (by decide) ?_
  refine wcall_i (va_runV (As := [.int y0, .int r1, .int (0 : Int32)]) (rest := []) ⟨hx, hb, hml, hown, hts⟩ (cTX5_fails l dC dI cI ad I F H.size y0 r1 (0 : Int32) _ h) (cwV 3 hts gX5_quota_X5_fails rfl rfl rfl (by decide +kernel) ⟨Nat.le_of_ble_eq_true rfl, Nat.le_of_ble_eq_true rfl⟩) (pv_W hP hK hN ((hD _ _).weaken (fun _ _ _ _ => trivial)) 0 5 rfl rfl _) rfl rfl hl.1 rfl (lv_room (Nat.le_of_ble_eq_true rfl)) dX5_quota_21 ⟨Nat.le_of_ble_eq_true rfl, Nat.le_of_ble_eq_true rfl⟩) hD hS hA (fun r2 I3 F4 h H locs hP hS => ?_)
  refine lv_if_ne (tgt := 32) hx hb dX5_quota_24 (by decide) (fun c5 => ?_) (fun c5 => ?_)
  · have h := h.1 c5
    exact W.vret hx hb hr (fun t ht hW => ⟨⟨(I3, F4), rfl, h, by show va_P _ _ _ t.heap; rw [ht]; exact hP⟩, hS.F ht⟩) hS.2.2 dX5_quota_32
  · have h := h.2 c5
    refine lv_aload_n hx hb dX5_quota_27 rfl (lv_at hl 0 rfl) ?_
    refine lv_iload_n hx hb dX5_quota_28 rfl (lv_at hl 1 rfl) ?_
    refine put_w (wf := wM cI ad) (ci := 5) (C := RX5) (T := TX5) (N := 31) hx hb hts iX5_quota_X5 tyX5 tyX5_ok nmX5 hown hK hP hD hS 0 rfl rfl 21 (by decide) (hts (.fieldLink RX5 92 "CarrierBooksModel" "quota" "I") (by decide +kernel)) (fun _ h9 => h9) rfl 6 (by decide +kernel) (Nat.le_of_ble_eq_true rfl) rfl dX5_quota_29 (fun I6 eI6 H locs hP hS => ?_)
    have h := h I6 eI6
    exact W.vret hx hb hr (fun t ht hW => ⟨⟨(I6, F4), rfl, h, by show va_P _ _ _ t.heap; rw [ht]; exact hP⟩, hS.F ht⟩) hS.2.2 dX5_quota_32
set_option maxHeartbeats 4000000 in
set_option maxRecDepth 100000 in
theorem cTX5_quota (l : Launch) (dC : Nat → ClassId) (dI : Nat → Nat → Nat) (cI : ClassId) (ad : Nat → Nat) (I : Nat → Int32) (F : Nat → Nat → Int32) (sz : Nat) (x1 : Int32) (post : (Nat → Int32) → (Nat → Nat → Int32) → Prop) (h : wX5_quota I F x1 post) : Met l yX5_quota wsX5_quota { frames := 1, cells := 0, slots := 0, locals := 23 } (va_Pc [.ref (ad 0), .int x1] (PWw dC dI cI (wM cI ad) I F sz)) (QWv dC dI (wM cI ad) post (va_A (wM cI ad I F) sz)) 0 0 (va_A (wM cI ad I F) sz) := by
  refine Met.ofW (cc := cX5_quota) (maxL := 2) (ret := none) (by decide) rfl ?_
  intro p e s m args below meth c s₁ B hml hv
  obtain ⟨rfl, hsz, ⟨hP, hK, hN⟩, hD0⟩ := hv
  subst hsz
  have hD := wD_any (wM_fix cI ad) (hD0.self (sz := s.heap.size))
  generalize hAe : va_A (wM cI ad I F) s.heap.size = A at hD ⊢
  have hA : ∀ q : Nat, s.heap.size ≤ q → A q := fun q h => by rw [← hAe]; exact Or.inr h
  clear hAe hD0
  have hx := B.exec
  have hb := B.bytes
  have hr := B.returns
  have hts := atoms_spec (ws := wsX5_quota) B.pre
  have hown : s.vm.findClass RX5 = some m.cls := findClass_of_methodNamed B.named
  have hlocks := B.notSynchronized
  have C : Cx p s m _ meth c cX5_quota 2 none RX5 wsX5_quota := ⟨hx, hb, hml, hown, hts, hr, hlocks⟩
  have hS : va_S A s.heap s.heap [] := va_S.rf
  have hl := lv_entry ([.ref (ad 0), .int x1]) (n := 2) (Nat.le_of_ble_eq_true rfl)
  rw [lg_entry_eq]
  generalize (lg_sl ([.ref (ad 0), .int x1]) ++ List.replicate (2 - (lg_sl ([.ref (ad 0), .int x1])).length) Slot.unset).toArray = ls at hl ⊢
  have hl : lv_has ls 2 [(0, .ref (ad 0)), (1, .int x1)] := hl
  unfold wX5_quota at h
  refine lv_aload_n hx hb dX5_quota_0 rfl (lv_at hl 0 rfl) ?_
  refine lv_aload_n hx hb dX5_quota_1 rfl (lv_at hl 0 rfl) ?_
  refine va_get (D := (dC, dI)) (ci := 5) (v := .int (I 2)) (C := RX5) (T := TX5) (N := 31) hx hb hts iX5_quota_X5 hown hK hP 0 rfl rfl 3 (by decide) (hts (.fieldLink RX5 75 "CarrierBooksModel" "policies" "I") (by decide +kernel)) (fun _ h9 => h9) rfl dX5_quota_2 ?_
  refine lv_if_le (tgt := 12) hx hb dX5_quota_5 (by decide) (fun c7 => ?_) (fun c7 => ?_)
  · have h := h.1 c7
    refine lv_iconst (v := (0 : Int32)) hx hb dX5_quota_12 (by decide) ?_
    exact sX5_quota_13 C hK hN hD hA post I F x1 (0 : Int32) h s.heap [] hP hS ls (lv_sub hl [0, 1] rfl)
  · have h := h.2 c7
    refine lv_iconst (v := (1 : Int32)) hx hb dX5_quota_8 (by decide) ?_
    refine lv_goto (tgt := 13) hx hb dX5_quota_9 (by decide) ?_
    exact sX5_quota_13 C hK hN hD hA post I F x1 (1 : Int32) h s.heap [] hP hS ls (lv_sub hl [0, 1] rfl)

theorem iX5_terms_X5 : ∀ w ∈ wsX50, w ∈ wsX5_terms := by decide +kernel
def bX5_terms_51 (post : (Nat → Int32) → (Nat → Nat → Int32) → Prop) (I : Nat → Int32) (F : Nat → Nat → Int32) (x1 x2 x3 y0 y1 : Int32) : Prop := wX5_fails I F y1 y0 (0 : Int32) (fun r1 I2 F3 => ((r1 = (0 : Int32) → ∀ I5 : Nat → Int32, I5 = va_up I2 7 x1 → ∀ I6 : Nat → Int32, I6 = va_up I5 8 x2 → ∀ I7 : Nat → Int32, I7 = va_up I6 9 x3 → post I7 F3) ∧ (¬ r1 = (0 : Int32) → post I2 F3)))
def bX5_terms_13 (post : (Nat → Int32) → (Nat → Nat → Int32) → Prop) (I : Nat → Int32) (F : Nat → Nat → Int32) (x1 x2 x3 y0 : Int32) : Prop := wX5_outside x1 (0 : Int32) (999 : Int32) (fun r8 => ((¬ r8 = (0 : Int32) → bX5_terms_51 post I F x1 x2 x3 (1 : Int32) y0) ∧ (r8 = (0 : Int32) → wX5_outside x2 (1 : Int32) (9999 : Int32) (fun r10 => ((¬ r10 = (0 : Int32) → bX5_terms_51 post I F x1 x2 x3 (1 : Int32) y0) ∧ (r10 = (0 : Int32) → wX5_outside x3 (1 : Int32) (9999 : Int32) (fun r12 => ((r12 = (0 : Int32) → bX5_terms_51 post I F x1 x2 x3 (0 : Int32) y0) ∧ (¬ r12 = (0 : Int32) → bX5_terms_51 post I F x1 x2 x3 (1 : Int32) y0)))))))))
def wX5_terms (I : Nat → Int32) (F : Nat → Nat → Int32) (x1 x2 x3 : Int32) (post : (Nat → Int32) → (Nat → Nat → Int32) → Prop) : Prop := (((I 14) ≤ (0 : Int32) → bX5_terms_13 post I F x1 x2 x3 (0 : Int32)) ∧ (¬ (I 14) ≤ (0 : Int32) → bX5_terms_13 post I F x1 x2 x3 (1 : Int32)))
set_option maxHeartbeats 4000000 in
set_option maxRecDepth 100000 in
theorem sX5_terms_51 {p : Program} {l : Launch} {e : Env} {s : State} {m : MethodId} {args : Array Value} {below : List Frame} {meth : Method} {c : Code} {dC : Nat → ClassId} {dI : Nat → Nat → Nat} {cI : ClassId} {ad : Nat → Nat} {A : Nat → Prop} (C : Cx p s m args meth c cX5_terms 4 none RX5 wsX5_terms) (hK : va_K (dC, dI) vwCl [(cI, .int)] s) (hN : NW s) (hD : ∀ I F, va_D A (wM cI ad I F)) (hA : ∀ q : Nat, s.heap.size ≤ q → A q) (post : (Nat → Int32) → (Nat → Nat → Int32) → Prop) : ∀ (I : Nat → Int32) (F : Nat → Nat → Int32) (x1 x2 x3 y0 y1 : Int32), bX5_terms_51 post I F x1 x2 x3 y0 y1 → ∀ (H : Heap) (locs : List Loc), va_P (dC, dI) vwCl (wM cI ad I F) H → va_S A s.heap H locs → ∀ (ls : Array Slot), lv_has ls 4 [(0, .ref (ad 0)), (1, .int x1), (2, .int x2), (3, .int x3)] → W p l e { frames := 1, cells := 0, slots := 0, locals := 23 } s m args below meth c H locs 0 0 (MQ below (QWv dC dI (wM cI ad) post A) args s 0 0 A) (F0 m 51 ls [.int y0, .int y1, .ref (ad 0)]) := by
  obtain ⟨hx, hb, hml, hown, hts, hr, hlocks⟩ := id C
  intro I F x1 x2 x3 y0 y1 h H locs hP hS ls hl
  unfold bX5_terms_51 at h
  refine lv_iconst (v := (0 : Int32)) hx hb dX5_terms_51 (by decide) ?_
  refine wcall_i (va_runV (As := [.int y1, .int y0, .int (0 : Int32)]) (rest := []) ⟨hx, hb, hml, hown, hts⟩ (cTX5_fails l dC dI cI ad I F H.size y1 y0 (0 : Int32) _ h) (cwV 3 hts gX5_terms_X5_fails rfl rfl rfl (by decide +kernel) ⟨Nat.le_of_ble_eq_true rfl, Nat.le_of_ble_eq_true rfl⟩) (pv_W hP hK hN ((hD _ _).weaken (fun _ _ _ _ => trivial)) 0 5 rfl rfl _) rfl rfl hl.1 rfl (lv_room (Nat.le_of_ble_eq_true rfl)) dX5_terms_52 ⟨Nat.le_of_ble_eq_true rfl, Nat.le_of_ble_eq_true rfl⟩) hD hS hA (fun r1 I2 F3 h H locs hP hS => ?_)
  refine lv_if_eq (tgt := 59) hx hb dX5_terms_55 (by decide) (fun c4 => ?_) (fun c4 => ?_)
  · have h := h.1 c4
    refine lv_aload_n hx hb dX5_terms_59 rfl (lv_at hl 0 rfl) ?_
    refine lv_iload_n hx hb dX5_terms_60 rfl (lv_at hl 1 rfl) ?_
    refine put_w (wf := wM cI ad) (ci := 5) (C := RX5) (T := TX5) (N := 31) hx hb hts iX5_terms_X5 tyX5 tyX5_ok nmX5 hown hK hP hD hS 0 rfl rfl 22 (by decide) (hts (.fieldLink RX5 98 "CarrierBooksModel" "deductible" "I") (by decide +kernel)) (fun _ h9 => h9) rfl 7 (by decide +kernel) (Nat.le_of_ble_eq_true rfl) rfl dX5_terms_61 (fun I5 eI5 H locs hP hS => ?_)
    have h := h I5 eI5
    refine lv_aload_n hx hb dX5_terms_64 rfl (lv_at hl 0 rfl) ?_
    refine lv_iload_n hx hb dX5_terms_65 rfl (lv_at hl 2 rfl) ?_
    refine put_w (wf := wM cI ad) (ci := 5) (C := RX5) (T := TX5) (N := 31) hx hb hts iX5_terms_X5 tyX5 tyX5_ok nmX5 hown hK hP hD hS 0 rfl rfl 23 (by decide) (hts (.fieldLink RX5 55 "CarrierBooksModel" "limit" "I") (by decide +kernel)) (fun _ h9 => h9) rfl 8 (by decide +kernel) (Nat.le_of_ble_eq_true rfl) rfl dX5_terms_66 (fun I6 eI6 H locs hP hS => ?_)
    have h := h I6 eI6
    refine lv_aload_n hx hb dX5_terms_69 rfl (lv_at hl 0 rfl) ?_
    refine lv_iload_n hx hb dX5_terms_70 rfl (lv_at hl 3 rfl) ?_
    refine put_w (wf := wM cI ad) (ci := 5) (C := RX5) (T := TX5) (N := 31) hx hb hts iX5_terms_X5 tyX5 tyX5_ok nmX5 hown hK hP hD hS 0 rfl rfl 24 (by decide) (hts (.fieldLink RX5 59 "CarrierBooksModel" "aggregate" "I") (by decide +kernel)) (fun _ h9 => h9) rfl 9 (by decide +kernel) (Nat.le_of_ble_eq_true rfl) rfl dX5_terms_71 (fun I7 eI7 H locs hP hS => ?_)
    have h := h I7 eI7
    exact W.vret hx hb hr (fun t ht hW => ⟨⟨(I7, F3), rfl, h, by show va_P _ _ _ t.heap; rw [ht]; exact hP⟩, hS.F ht⟩) hS.2.2 dX5_terms_74
  · have h := h.2 c4
    exact W.vret hx hb hr (fun t ht hW => ⟨⟨(I2, F3), rfl, h, by show va_P _ _ _ t.heap; rw [ht]; exact hP⟩, hS.F ht⟩) hS.2.2 dX5_terms_58
set_option maxHeartbeats 4000000 in
set_option maxRecDepth 100000 in
theorem sX5_terms_13 {p : Program} {l : Launch} {e : Env} {s : State} {m : MethodId} {args : Array Value} {below : List Frame} {meth : Method} {c : Code} {dC : Nat → ClassId} {dI : Nat → Nat → Nat} {cI : ClassId} {ad : Nat → Nat} {A : Nat → Prop} (C : Cx p s m args meth c cX5_terms 4 none RX5 wsX5_terms) (hK : va_K (dC, dI) vwCl [(cI, .int)] s) (hN : NW s) (hD : ∀ I F, va_D A (wM cI ad I F)) (hA : ∀ q : Nat, s.heap.size ≤ q → A q) (post : (Nat → Int32) → (Nat → Nat → Int32) → Prop) : ∀ (I : Nat → Int32) (F : Nat → Nat → Int32) (x1 x2 x3 y0 : Int32), bX5_terms_13 post I F x1 x2 x3 y0 → ∀ (H : Heap) (locs : List Loc), va_P (dC, dI) vwCl (wM cI ad I F) H → va_S A s.heap H locs → ∀ (ls : Array Slot), lv_has ls 4 [(0, .ref (ad 0)), (1, .int x1), (2, .int x2), (3, .int x3)] → W p l e { frames := 1, cells := 0, slots := 0, locals := 23 } s m args below meth c H locs 0 0 (MQ below (QWv dC dI (wM cI ad) post A) args s 0 0 A) (F0 m 13 ls [.int y0, .ref (ad 0)]) := by
  obtain ⟨hx, hb, hml, hown, hts, hr, hlocks⟩ := id C
  intro I F x1 x2 x3 y0 h H locs hP hS ls hl
  unfold bX5_terms_13 at h
  refine lv_iload_n hx hb dX5_terms_13 rfl (lv_at hl 1 rfl) ?_
  refine lv_iconst (v := (0 : Int32)) hx hb dX5_terms_14 (by decide) ?_
  refine lv_sipush (v := (999 : Int32)) hx hb dX5_terms_15 (by decide) ?_
  refine vp_callSi (cr_of (va_runS (As := [.int x1, .int (0 : Int32), .int (999 : Int32)]) (rest := [.int y0, .ref (ad 0)]) ⟨hx, hb, hml, hown, hts⟩ (cTX5_outside l x1 (0 : Int32) (999 : Int32) _ h) (va_cwS 3 hts gX5_terms_X5_outside rfl rfl rfl (by decide +kernel) ⟨Nat.le_of_ble_eq_true rfl, Nat.le_of_ble_eq_true rfl⟩) (pv_S _) rfl rfl hl.1 rfl (lv_room (Nat.le_of_ble_eq_true rfl)) dX5_terms_18 ⟨Nat.le_of_ble_eq_true rfl, Nat.le_of_ble_eq_true rfl⟩)) (fun r8 h => ?_)
  refine lv_if_ne (tgt := 46) hx hb dX5_terms_21 (by decide) (fun c9 => ?_) (fun c9 => ?_)
  · have h := h.1 c9
    refine lv_iconst (v := (1 : Int32)) hx hb dX5_terms_46 (by decide) ?_
    refine lv_goto (tgt := 51) hx hb dX5_terms_47 (by decide) ?_
    exact sX5_terms_51 C hK hN hD hA post I F x1 x2 x3 (1 : Int32) y0 h H locs hP hS ls (lv_sub hl [0, 1, 2, 3] rfl)
  · have h := h.2 c9
    refine lv_iload_n hx hb dX5_terms_24 rfl (lv_at hl 2 rfl) ?_
    refine lv_iconst (v := (1 : Int32)) hx hb dX5_terms_25 (by decide) ?_
    refine lv_sipush (v := (9999 : Int32)) hx hb dX5_terms_26 (by decide) ?_
    refine vp_callSi (cr_of (va_runS (As := [.int x2, .int (1 : Int32), .int (9999 : Int32)]) (rest := [.int y0, .ref (ad 0)]) ⟨hx, hb, hml, hown, hts⟩ (cTX5_outside l x2 (1 : Int32) (9999 : Int32) _ h) (va_cwS 3 hts gX5_terms_X5_outside rfl rfl rfl (by decide +kernel) ⟨Nat.le_of_ble_eq_true rfl, Nat.le_of_ble_eq_true rfl⟩) (pv_S _) rfl rfl hl.1 rfl (lv_room (Nat.le_of_ble_eq_true rfl)) dX5_terms_29 ⟨Nat.le_of_ble_eq_true rfl, Nat.le_of_ble_eq_true rfl⟩)) (fun r10 h => ?_)
    refine lv_if_ne (tgt := 46) hx hb dX5_terms_32 (by decide) (fun c11 => ?_) (fun c11 => ?_)
    · have h := h.1 c11
      refine lv_iconst (v := (1 : Int32)) hx hb dX5_terms_46 (by decide) ?_
      refine lv_goto (tgt := 51) hx hb dX5_terms_47 (by decide) ?_
      exact sX5_terms_51 C hK hN hD hA post I F x1 x2 x3 (1 : Int32) y0 h H locs hP hS ls (lv_sub hl [0, 1, 2, 3] rfl)
    · have h := h.2 c11
      refine lv_iload_n hx hb dX5_terms_35 rfl (lv_at hl 3 rfl) ?_
      refine lv_iconst (v := (1 : Int32)) hx hb dX5_terms_36 (by decide) ?_
      refine lv_sipush (v := (9999 : Int32)) hx hb dX5_terms_37 (by decide) ?_
      refine vp_callSi (cr_of (va_runS (As := [.int x3, .int (1 : Int32), .int (9999 : Int32)]) (rest := [.int y0, .ref (ad 0)]) ⟨hx, hb, hml, hown, hts⟩ (cTX5_outside l x3 (1 : Int32) (9999 : Int32) _ h) (va_cwS 3 hts gX5_terms_X5_outside rfl rfl rfl (by decide +kernel) ⟨Nat.le_of_ble_eq_true rfl, Nat.le_of_ble_eq_true rfl⟩) (pv_S _) rfl rfl hl.1 rfl (lv_room (Nat.le_of_ble_eq_true rfl)) dX5_terms_40 ⟨Nat.le_of_ble_eq_true rfl, Nat.le_of_ble_eq_true rfl⟩)) (fun r12 h => ?_)
      refine lv_if_eq (tgt := 50) hx hb dX5_terms_43 (by decide) (fun c13 => ?_) (fun c13 => ?_)
      · have h := h.1 c13
        refine lv_iconst (v := (0 : Int32)) hx hb dX5_terms_50 (by decide) ?_
        exact sX5_terms_51 C hK hN hD hA post I F x1 x2 x3 (0 : Int32) y0 h H locs hP hS ls (lv_sub hl [0, 1, 2, 3] rfl)
      · have h := h.2 c13
        refine lv_iconst (v := (1 : Int32)) hx hb dX5_terms_46 (by decide) ?_
        refine lv_goto (tgt := 51) hx hb dX5_terms_47 (by decide) ?_
        exact sX5_terms_51 C hK hN hD hA post I F x1 x2 x3 (1 : Int32) y0 h H locs hP hS ls (lv_sub hl [0, 1, 2, 3] rfl)
set_option maxHeartbeats 4000000 in
set_option maxRecDepth 100000 in
theorem cTX5_terms (l : Launch) (dC : Nat → ClassId) (dI : Nat → Nat → Nat) (cI : ClassId) (ad : Nat → Nat) (I : Nat → Int32) (F : Nat → Nat → Int32) (sz : Nat) (x1 x2 x3 : Int32) (post : (Nat → Int32) → (Nat → Nat → Int32) → Prop) (h : wX5_terms I F x1 x2 x3 post) : Met l yX5_terms wsX5_terms { frames := 1, cells := 0, slots := 0, locals := 23 } (va_Pc [.ref (ad 0), .int x1, .int x2, .int x3] (PWw dC dI cI (wM cI ad) I F sz)) (QWv dC dI (wM cI ad) post (va_A (wM cI ad I F) sz)) 0 0 (va_A (wM cI ad I F) sz) := by
  refine Met.ofW (cc := cX5_terms) (maxL := 4) (ret := none) (by decide) rfl ?_
  intro p e s m args below meth c s₁ B hml hv
  obtain ⟨rfl, hsz, ⟨hP, hK, hN⟩, hD0⟩ := hv
  subst hsz
  have hD := wD_any (wM_fix cI ad) (hD0.self (sz := s.heap.size))
  generalize hAe : va_A (wM cI ad I F) s.heap.size = A at hD ⊢
  have hA : ∀ q : Nat, s.heap.size ≤ q → A q := fun q h => by rw [← hAe]; exact Or.inr h
  clear hAe hD0
  have hx := B.exec
  have hb := B.bytes
  have hr := B.returns
  have hts := atoms_spec (ws := wsX5_terms) B.pre
  have hown : s.vm.findClass RX5 = some m.cls := findClass_of_methodNamed B.named
  have hlocks := B.notSynchronized
  have C : Cx p s m _ meth c cX5_terms 4 none RX5 wsX5_terms := ⟨hx, hb, hml, hown, hts, hr, hlocks⟩
  have hS : va_S A s.heap s.heap [] := va_S.rf
  have hl := lv_entry ([.ref (ad 0), .int x1, .int x2, .int x3]) (n := 4) (Nat.le_of_ble_eq_true rfl)
  rw [lg_entry_eq]
  generalize (lg_sl ([.ref (ad 0), .int x1, .int x2, .int x3]) ++ List.replicate (4 - (lg_sl ([.ref (ad 0), .int x1, .int x2, .int x3])).length) Slot.unset).toArray = ls at hl ⊢
  have hl : lv_has ls 4 [(0, .ref (ad 0)), (1, .int x1), (2, .int x2), (3, .int x3)] := hl
  unfold wX5_terms at h
  refine lv_aload_n hx hb dX5_terms_0 rfl (lv_at hl 0 rfl) ?_
  refine lv_aload_n hx hb dX5_terms_1 rfl (lv_at hl 0 rfl) ?_
  refine va_get (D := (dC, dI)) (ci := 5) (v := .int (I 14)) (C := RX5) (T := TX5) (N := 31) hx hb hts iX5_terms_X5 hown hK hP 0 rfl rfl 29 (by decide) (hts (.fieldLink RX5 95 "CarrierBooksModel" "claims" "I") (by decide +kernel)) (fun _ h9 => h9) rfl dX5_terms_2 ?_
  refine lv_if_le (tgt := 12) hx hb dX5_terms_5 (by decide) (fun c14 => ?_) (fun c14 => ?_)
  · have h := h.1 c14
    refine lv_iconst (v := (0 : Int32)) hx hb dX5_terms_12 (by decide) ?_
    exact sX5_terms_13 C hK hN hD hA post I F x1 x2 x3 (0 : Int32) h s.heap [] hP hS ls (lv_sub hl [0, 1, 2, 3] rfl)
  · have h := h.2 c14
    refine lv_iconst (v := (1 : Int32)) hx hb dX5_terms_8 (by decide) ?_
    refine lv_goto (tgt := 13) hx hb dX5_terms_9 (by decide) ?_
    exact sX5_terms_13 C hK hN hD hA post I F x1 x2 x3 (1 : Int32) h s.heap [] hP hS ls (lv_sub hl [0, 1, 2, 3] rfl)

theorem iX5_layer_X5 : ∀ w ∈ wsX50, w ∈ wsX5_layer := by decide +kernel
def bX5_layer_60 (post : (Nat → Int32) → (Nat → Nat → Int32) → Prop) (I : Nat → Int32) (F : Nat → Nat → Int32) (x1 x2 x3 x4 y0 y1 : Int32) : Prop := wX5_fails I F y1 y0 (0 : Int32) (fun r1 I2 F3 => ((r1 = (0 : Int32) → ∀ I5 : Nat → Int32, I5 = va_up I2 10 x1 → ∀ I6 : Nat → Int32, I6 = va_up I5 11 x2 → ∀ I7 : Nat → Int32, I7 = va_up I6 12 x3 → ∀ I8 : Nat → Int32, I8 = va_up I7 13 x4 → post I8 F3) ∧ (¬ r1 = (0 : Int32) → post I2 F3)))
def bX5_layer_13 (post : (Nat → Int32) → (Nat → Nat → Int32) → Prop) (I : Nat → Int32) (F : Nat → Nat → Int32) (x1 x2 x3 x4 y0 : Int32) : Prop := wX5_outside x1 (0 : Int32) (9999 : Int32) (fun r9 => ((¬ r9 = (0 : Int32) → bX5_layer_60 post I F x1 x2 x3 x4 (1 : Int32) y0) ∧ (r9 = (0 : Int32) → wX5_outside x2 (0 : Int32) (9999 : Int32) (fun r11 => ((¬ r11 = (0 : Int32) → bX5_layer_60 post I F x1 x2 x3 x4 (1 : Int32) y0) ∧ (r11 = (0 : Int32) → wX5_outside x3 (0 : Int32) (3 : Int32) (fun r13 => ((¬ r13 = (0 : Int32) → bX5_layer_60 post I F x1 x2 x3 x4 (1 : Int32) y0) ∧ (r13 = (0 : Int32) → wX5_outside x4 (0 : Int32) (99 : Int32) (fun r15 => ((r15 = (0 : Int32) → bX5_layer_60 post I F x1 x2 x3 x4 (0 : Int32) y0) ∧ (¬ r15 = (0 : Int32) → bX5_layer_60 post I F x1 x2 x3 x4 (1 : Int32) y0))))))))))))
def wX5_layer (I : Nat → Int32) (F : Nat → Nat → Int32) (x1 x2 x3 x4 : Int32) (post : (Nat → Int32) → (Nat → Nat → Int32) → Prop) : Prop := (((I 14) ≤ (0 : Int32) → bX5_layer_13 post I F x1 x2 x3 x4 (0 : Int32)) ∧ (¬ (I 14) ≤ (0 : Int32) → bX5_layer_13 post I F x1 x2 x3 x4 (1 : Int32)))
set_option maxHeartbeats 4000000 in
set_option maxRecDepth 100000 in
theorem sX5_layer_60 {p : Program} {l : Launch} {e : Env} {s : State} {m : MethodId} {args : Array Value} {below : List Frame} {meth : Method} {c : Code} {dC : Nat → ClassId} {dI : Nat → Nat → Nat} {cI : ClassId} {ad : Nat → Nat} {A : Nat → Prop} (C : Cx p s m args meth c cX5_layer 5 none RX5 wsX5_layer) (hK : va_K (dC, dI) vwCl [(cI, .int)] s) (hN : NW s) (hD : ∀ I F, va_D A (wM cI ad I F)) (hA : ∀ q : Nat, s.heap.size ≤ q → A q) (post : (Nat → Int32) → (Nat → Nat → Int32) → Prop) : ∀ (I : Nat → Int32) (F : Nat → Nat → Int32) (x1 x2 x3 x4 y0 y1 : Int32), bX5_layer_60 post I F x1 x2 x3 x4 y0 y1 → ∀ (H : Heap) (locs : List Loc), va_P (dC, dI) vwCl (wM cI ad I F) H → va_S A s.heap H locs → ∀ (ls : Array Slot), lv_has ls 5 [(0, .ref (ad 0)), (1, .int x1), (2, .int x2), (3, .int x3), (4, .int x4)] → W p l e { frames := 1, cells := 0, slots := 0, locals := 23 } s m args below meth c H locs 0 0 (MQ below (QWv dC dI (wM cI ad) post A) args s 0 0 A) (F0 m 60 ls [.int y0, .int y1, .ref (ad 0)]) := by
  obtain ⟨hx, hb, hml, hown, hts, hr, hlocks⟩ := id C
  intro I F x1 x2 x3 x4 y0 y1 h H locs hP hS ls hl
  unfold bX5_layer_60 at h
  refine lv_iconst (v := (0 : Int32)) hx hb dX5_layer_60 (by decide) ?_
  refine wcall_i (va_runV (As := [.int y1, .int y0, .int (0 : Int32)]) (rest := []) ⟨hx, hb, hml, hown, hts⟩ (cTX5_fails l dC dI cI ad I F H.size y1 y0 (0 : Int32) _ h) (cwV 3 hts gX5_layer_X5_fails rfl rfl rfl (by decide +kernel) ⟨Nat.le_of_ble_eq_true rfl, Nat.le_of_ble_eq_true rfl⟩) (pv_W hP hK hN ((hD _ _).weaken (fun _ _ _ _ => trivial)) 0 5 rfl rfl _) rfl rfl hl.1 rfl (lv_room (Nat.le_of_ble_eq_true rfl)) dX5_layer_61 ⟨Nat.le_of_ble_eq_true rfl, Nat.le_of_ble_eq_true rfl⟩) hD hS hA (fun r1 I2 F3 h H locs hP hS => ?_)
  refine lv_if_eq (tgt := 68) hx hb dX5_layer_64 (by decide) (fun c4 => ?_) (fun c4 => ?_)
  · have h := h.1 c4
    refine lv_aload_n hx hb dX5_layer_68 rfl (lv_at hl 0 rfl) ?_
    refine lv_iload_n hx hb dX5_layer_69 rfl (lv_at hl 1 rfl) ?_
    refine put_w (wf := wM cI ad) (ci := 5) (C := RX5) (T := TX5) (N := 31) hx hb hts iX5_layer_X5 tyX5 tyX5_ok nmX5 hown hK hP hD hS 0 rfl rfl 25 (by decide) (hts (.fieldLink RX5 62 "CarrierBooksModel" "retention" "I") (by decide +kernel)) (fun _ h9 => h9) rfl 10 (by decide +kernel) (Nat.le_of_ble_eq_true rfl) rfl dX5_layer_70 (fun I5 eI5 H locs hP hS => ?_)
    have h := h I5 eI5
    refine lv_aload_n hx hb dX5_layer_73 rfl (lv_at hl 0 rfl) ?_
    refine lv_iload_n hx hb dX5_layer_74 rfl (lv_at hl 2 rfl) ?_
    refine put_w (wf := wM cI ad) (ci := 5) (C := RX5) (T := TX5) (N := 31) hx hb hts iX5_layer_X5 tyX5 tyX5_ok nmX5 hown hK hP hD hS 0 rfl rfl 26 (by decide) (hts (.fieldLink RX5 101 "CarrierBooksModel" "layer" "I") (by decide +kernel)) (fun _ h9 => h9) rfl 11 (by decide +kernel) (Nat.le_of_ble_eq_true rfl) rfl dX5_layer_75 (fun I6 eI6 H locs hP hS => ?_)
    have h := h I6 eI6
    refine lv_aload_n hx hb dX5_layer_78 rfl (lv_at hl 0 rfl) ?_
    refine lv_iload_n hx hb dX5_layer_79 rfl (lv_at hl 3 rfl) ?_
    refine put_w (wf := wM cI ad) (ci := 5) (C := RX5) (T := TX5) (N := 31) hx hb hts iX5_layer_X5 tyX5 tyX5_ok nmX5 hown hK hP hD hS 0 rfl rfl 27 (by decide) (hts (.fieldLink RX5 104 "CarrierBooksModel" "times" "I") (by decide +kernel)) (fun _ h9 => h9) rfl 12 (by decide +kernel) (Nat.le_of_ble_eq_true rfl) rfl dX5_layer_80 (fun I7 eI7 H locs hP hS => ?_)
    have h := h I7 eI7
    refine lv_aload_n hx hb dX5_layer_83 rfl (lv_at hl 0 rfl) ?_
    refine lv_iload hx hb dX5_layer_84 (lv_at hl 4 rfl) ?_
    refine put_w (wf := wM cI ad) (ci := 5) (C := RX5) (T := TX5) (N := 31) hx hb hts iX5_layer_X5 tyX5 tyX5_ok nmX5 hown hK hP hD hS 0 rfl rfl 28 (by decide) (hts (.fieldLink RX5 107 "CarrierBooksModel" "price" "I") (by decide +kernel)) (fun _ h9 => h9) rfl 13 (by decide +kernel) (Nat.le_of_ble_eq_true rfl) rfl dX5_layer_86 (fun I8 eI8 H locs hP hS => ?_)
    have h := h I8 eI8
    exact W.vret hx hb hr (fun t ht hW => ⟨⟨(I8, F3), rfl, h, by show va_P _ _ _ t.heap; rw [ht]; exact hP⟩, hS.F ht⟩) hS.2.2 dX5_layer_89
  · have h := h.2 c4
    exact W.vret hx hb hr (fun t ht hW => ⟨⟨(I2, F3), rfl, h, by show va_P _ _ _ t.heap; rw [ht]; exact hP⟩, hS.F ht⟩) hS.2.2 dX5_layer_67
set_option maxHeartbeats 4000000 in
set_option maxRecDepth 100000 in
theorem sX5_layer_13 {p : Program} {l : Launch} {e : Env} {s : State} {m : MethodId} {args : Array Value} {below : List Frame} {meth : Method} {c : Code} {dC : Nat → ClassId} {dI : Nat → Nat → Nat} {cI : ClassId} {ad : Nat → Nat} {A : Nat → Prop} (C : Cx p s m args meth c cX5_layer 5 none RX5 wsX5_layer) (hK : va_K (dC, dI) vwCl [(cI, .int)] s) (hN : NW s) (hD : ∀ I F, va_D A (wM cI ad I F)) (hA : ∀ q : Nat, s.heap.size ≤ q → A q) (post : (Nat → Int32) → (Nat → Nat → Int32) → Prop) : ∀ (I : Nat → Int32) (F : Nat → Nat → Int32) (x1 x2 x3 x4 y0 : Int32), bX5_layer_13 post I F x1 x2 x3 x4 y0 → ∀ (H : Heap) (locs : List Loc), va_P (dC, dI) vwCl (wM cI ad I F) H → va_S A s.heap H locs → ∀ (ls : Array Slot), lv_has ls 5 [(0, .ref (ad 0)), (1, .int x1), (2, .int x2), (3, .int x3), (4, .int x4)] → W p l e { frames := 1, cells := 0, slots := 0, locals := 23 } s m args below meth c H locs 0 0 (MQ below (QWv dC dI (wM cI ad) post A) args s 0 0 A) (F0 m 13 ls [.int y0, .ref (ad 0)]) := by
  obtain ⟨hx, hb, hml, hown, hts, hr, hlocks⟩ := id C
  intro I F x1 x2 x3 x4 y0 h H locs hP hS ls hl
  unfold bX5_layer_13 at h
  refine lv_iload_n hx hb dX5_layer_13 rfl (lv_at hl 1 rfl) ?_
  refine lv_iconst (v := (0 : Int32)) hx hb dX5_layer_14 (by decide) ?_
  refine lv_sipush (v := (9999 : Int32)) hx hb dX5_layer_15 (by decide) ?_
  refine vp_callSi (cr_of (va_runS (As := [.int x1, .int (0 : Int32), .int (9999 : Int32)]) (rest := [.int y0, .ref (ad 0)]) ⟨hx, hb, hml, hown, hts⟩ (cTX5_outside l x1 (0 : Int32) (9999 : Int32) _ h) (va_cwS 3 hts gX5_layer_X5_outside rfl rfl rfl (by decide +kernel) ⟨Nat.le_of_ble_eq_true rfl, Nat.le_of_ble_eq_true rfl⟩) (pv_S _) rfl rfl hl.1 rfl (lv_room (Nat.le_of_ble_eq_true rfl)) dX5_layer_18 ⟨Nat.le_of_ble_eq_true rfl, Nat.le_of_ble_eq_true rfl⟩)) (fun r9 h => ?_)
  refine lv_if_ne (tgt := 55) hx hb dX5_layer_21 (by decide) (fun c10 => ?_) (fun c10 => ?_)
  · have h := h.1 c10
    refine lv_iconst (v := (1 : Int32)) hx hb dX5_layer_55 (by decide) ?_
    refine lv_goto (tgt := 60) hx hb dX5_layer_56 (by decide) ?_
    exact sX5_layer_60 C hK hN hD hA post I F x1 x2 x3 x4 (1 : Int32) y0 h H locs hP hS ls (lv_sub hl [0, 1, 2, 3, 4] rfl)
  · have h := h.2 c10
    refine lv_iload_n hx hb dX5_layer_24 rfl (lv_at hl 2 rfl) ?_
    refine lv_iconst (v := (0 : Int32)) hx hb dX5_layer_25 (by decide) ?_
    refine lv_sipush (v := (9999 : Int32)) hx hb dX5_layer_26 (by decide) ?_
    refine vp_callSi (cr_of (va_runS (As := [.int x2, .int (0 : Int32), .int (9999 : Int32)]) (rest := [.int y0, .ref (ad 0)]) ⟨hx, hb, hml, hown, hts⟩ (cTX5_outside l x2 (0 : Int32) (9999 : Int32) _ h) (va_cwS 3 hts gX5_layer_X5_outside rfl rfl rfl (by decide +kernel) ⟨Nat.le_of_ble_eq_true rfl, Nat.le_of_ble_eq_true rfl⟩) (pv_S _) rfl rfl hl.1 rfl (lv_room (Nat.le_of_ble_eq_true rfl)) dX5_layer_29 ⟨Nat.le_of_ble_eq_true rfl, Nat.le_of_ble_eq_true rfl⟩)) (fun r11 h => ?_)
    refine lv_if_ne (tgt := 55) hx hb dX5_layer_32 (by decide) (fun c12 => ?_) (fun c12 => ?_)
    · have h := h.1 c12
      refine lv_iconst (v := (1 : Int32)) hx hb dX5_layer_55 (by decide) ?_
      refine lv_goto (tgt := 60) hx hb dX5_layer_56 (by decide) ?_
      exact sX5_layer_60 C hK hN hD hA post I F x1 x2 x3 x4 (1 : Int32) y0 h H locs hP hS ls (lv_sub hl [0, 1, 2, 3, 4] rfl)
    · have h := h.2 c12
      refine lv_iload_n hx hb dX5_layer_35 rfl (lv_at hl 3 rfl) ?_
      refine lv_iconst (v := (0 : Int32)) hx hb dX5_layer_36 (by decide) ?_
      refine lv_iconst (v := (3 : Int32)) hx hb dX5_layer_37 (by decide) ?_
      refine vp_callSi (cr_of (va_runS (As := [.int x3, .int (0 : Int32), .int (3 : Int32)]) (rest := [.int y0, .ref (ad 0)]) ⟨hx, hb, hml, hown, hts⟩ (cTX5_outside l x3 (0 : Int32) (3 : Int32) _ h) (va_cwS 3 hts gX5_layer_X5_outside rfl rfl rfl (by decide +kernel) ⟨Nat.le_of_ble_eq_true rfl, Nat.le_of_ble_eq_true rfl⟩) (pv_S _) rfl rfl hl.1 rfl (lv_room (Nat.le_of_ble_eq_true rfl)) dX5_layer_38 ⟨Nat.le_of_ble_eq_true rfl, Nat.le_of_ble_eq_true rfl⟩)) (fun r13 h => ?_)
      refine lv_if_ne (tgt := 55) hx hb dX5_layer_41 (by decide) (fun c14 => ?_) (fun c14 => ?_)
      · have h := h.1 c14
        refine lv_iconst (v := (1 : Int32)) hx hb dX5_layer_55 (by decide) ?_
        refine lv_goto (tgt := 60) hx hb dX5_layer_56 (by decide) ?_
        exact sX5_layer_60 C hK hN hD hA post I F x1 x2 x3 x4 (1 : Int32) y0 h H locs hP hS ls (lv_sub hl [0, 1, 2, 3, 4] rfl)
      · have h := h.2 c14
        refine lv_iload hx hb dX5_layer_44 (lv_at hl 4 rfl) ?_
        refine lv_iconst (v := (0 : Int32)) hx hb dX5_layer_46 (by decide) ?_
        refine lv_bipush (v := (99 : Int32)) hx hb dX5_layer_47 (by decide) ?_
        refine vp_callSi (cr_of (va_runS (As := [.int x4, .int (0 : Int32), .int (99 : Int32)]) (rest := [.int y0, .ref (ad 0)]) ⟨hx, hb, hml, hown, hts⟩ (cTX5_outside l x4 (0 : Int32) (99 : Int32) _ h) (va_cwS 3 hts gX5_layer_X5_outside rfl rfl rfl (by decide +kernel) ⟨Nat.le_of_ble_eq_true rfl, Nat.le_of_ble_eq_true rfl⟩) (pv_S _) rfl rfl hl.1 rfl (lv_room (Nat.le_of_ble_eq_true rfl)) dX5_layer_49 ⟨Nat.le_of_ble_eq_true rfl, Nat.le_of_ble_eq_true rfl⟩)) (fun r15 h => ?_)
        refine lv_if_eq (tgt := 59) hx hb dX5_layer_52 (by decide) (fun c16 => ?_) (fun c16 => ?_)
        · have h := h.1 c16
          refine lv_iconst (v := (0 : Int32)) hx hb dX5_layer_59 (by decide) ?_
          exact sX5_layer_60 C hK hN hD hA post I F x1 x2 x3 x4 (0 : Int32) y0 h H locs hP hS ls (lv_sub hl [0, 1, 2, 3, 4] rfl)
        · have h := h.2 c16
          refine lv_iconst (v := (1 : Int32)) hx hb dX5_layer_55 (by decide) ?_
          refine lv_goto (tgt := 60) hx hb dX5_layer_56 (by decide) ?_
          exact sX5_layer_60 C hK hN hD hA post I F x1 x2 x3 x4 (1 : Int32) y0 h H locs hP hS ls (lv_sub hl [0, 1, 2, 3, 4] rfl)
set_option maxHeartbeats 4000000 in
set_option maxRecDepth 100000 in
theorem cTX5_layer (l : Launch) (dC : Nat → ClassId) (dI : Nat → Nat → Nat) (cI : ClassId) (ad : Nat → Nat) (I : Nat → Int32) (F : Nat → Nat → Int32) (sz : Nat) (x1 x2 x3 x4 : Int32) (post : (Nat → Int32) → (Nat → Nat → Int32) → Prop) (h : wX5_layer I F x1 x2 x3 x4 post) : Met l yX5_layer wsX5_layer { frames := 1, cells := 0, slots := 0, locals := 23 } (va_Pc [.ref (ad 0), .int x1, .int x2, .int x3, .int x4] (PWw dC dI cI (wM cI ad) I F sz)) (QWv dC dI (wM cI ad) post (va_A (wM cI ad I F) sz)) 0 0 (va_A (wM cI ad I F) sz) := by
  refine Met.ofW (cc := cX5_layer) (maxL := 5) (ret := none) (by decide) rfl ?_
  intro p e s m args below meth c s₁ B hml hv
  obtain ⟨rfl, hsz, ⟨hP, hK, hN⟩, hD0⟩ := hv
  subst hsz
  have hD := wD_any (wM_fix cI ad) (hD0.self (sz := s.heap.size))
  generalize hAe : va_A (wM cI ad I F) s.heap.size = A at hD ⊢
  have hA : ∀ q : Nat, s.heap.size ≤ q → A q := fun q h => by rw [← hAe]; exact Or.inr h
  clear hAe hD0
  have hx := B.exec
  have hb := B.bytes
  have hr := B.returns
  have hts := atoms_spec (ws := wsX5_layer) B.pre
  have hown : s.vm.findClass RX5 = some m.cls := findClass_of_methodNamed B.named
  have hlocks := B.notSynchronized
  have C : Cx p s m _ meth c cX5_layer 5 none RX5 wsX5_layer := ⟨hx, hb, hml, hown, hts, hr, hlocks⟩
  have hS : va_S A s.heap s.heap [] := va_S.rf
  have hl := lv_entry ([.ref (ad 0), .int x1, .int x2, .int x3, .int x4]) (n := 5) (Nat.le_of_ble_eq_true rfl)
  rw [lg_entry_eq]
  generalize (lg_sl ([.ref (ad 0), .int x1, .int x2, .int x3, .int x4]) ++ List.replicate (5 - (lg_sl ([.ref (ad 0), .int x1, .int x2, .int x3, .int x4])).length) Slot.unset).toArray = ls at hl ⊢
  have hl : lv_has ls 5 [(0, .ref (ad 0)), (1, .int x1), (2, .int x2), (3, .int x3), (4, .int x4)] := hl
  unfold wX5_layer at h
  refine lv_aload_n hx hb dX5_layer_0 rfl (lv_at hl 0 rfl) ?_
  refine lv_aload_n hx hb dX5_layer_1 rfl (lv_at hl 0 rfl) ?_
  refine va_get (D := (dC, dI)) (ci := 5) (v := .int (I 14)) (C := RX5) (T := TX5) (N := 31) hx hb hts iX5_layer_X5 hown hK hP 0 rfl rfl 29 (by decide) (hts (.fieldLink RX5 95 "CarrierBooksModel" "claims" "I") (by decide +kernel)) (fun _ h9 => h9) rfl dX5_layer_2 ?_
  refine lv_if_le (tgt := 12) hx hb dX5_layer_5 (by decide) (fun c17 => ?_) (fun c17 => ?_)
  · have h := h.1 c17
    refine lv_iconst (v := (0 : Int32)) hx hb dX5_layer_12 (by decide) ?_
    exact sX5_layer_13 C hK hN hD hA post I F x1 x2 x3 x4 (0 : Int32) h s.heap [] hP hS ls (lv_sub hl [0, 1, 2, 3, 4] rfl)
  · have h := h.2 c17
    refine lv_iconst (v := (1 : Int32)) hx hb dX5_layer_8 (by decide) ?_
    refine lv_goto (tgt := 13) hx hb dX5_layer_9 (by decide) ?_
    exact sX5_layer_13 C hK hN hD hA post I F x1 x2 x3 x4 (1 : Int32) h s.heap [] hP hS ls (lv_sub hl [0, 1, 2, 3, 4] rfl)

theorem iX5_look_X5 : ∀ w ∈ wsX50, w ∈ wsX5_look := by decide +kernel
def bX5_look_186 (K73 : (Nat → Int32) → (Nat → Nat → Int32) → Int32 → Int32 → Int32 → Int32 → Int32 → Int32 → Prop) (post : (Nat → Int32) → (Nat → Nat → Int32) → Prop) (I : Nat → Int32) (F : Nat → Nat → Int32) (x1 x2 x3 x4 x5 x6 : Int32) : Prop := vp_in x6 4 ∧ ∀ F1 : Nat → Nat → Int32, F1 = va_up F 9 (upd (F 9) (Int32.toNatClampNeg x6) x4) → ∀ v3 : Int32, v3 = x6 + (1 : Int32) → K73 I F1 x1 x2 x3 x4 x5 v3
def bX5_look_147 (K73 : (Nat → Int32) → (Nat → Nat → Int32) → Int32 → Int32 → Int32 → Int32 → Int32 → Int32 → Prop) (post : (Nat → Int32) → (Nat → Nat → Int32) → Prop) (I : Nat → Int32) (F : Nat → Nat → Int32) (x1 x2 x3 x4 x5 x6 y0 : Int32) : Prop := ((y0 = (0 : Int32) → ∀ v5 : Int32, v5 = x6 + (1 : Int32) → K73 I F x1 x2 x3 x4 x5 v5) ∧ (¬ y0 = (0 : Int32) → vp_in x6 4 ∧ (((F 9 (Int32.toNatClampNeg x6)) < (0 : Int32) → bX5_look_186 K73 post I F x1 x2 x3 x4 x5 x6) ∧ (¬ (F 9 (Int32.toNatClampNeg x6)) < (0 : Int32) → vp_in x4 40 ∧ vp_in x6 4 ∧ vp_in (F 9 (Int32.toNatClampNeg x6)) 40 ∧ (((F 6 (Int32.toNatClampNeg x4)) < (F 6 (Int32.toNatClampNeg (F 9 (Int32.toNatClampNeg x6)))) → ∀ v12 : Int32, v12 = x6 + (1 : Int32) → K73 I F x1 x2 x3 x4 x5 v12) ∧ (¬ (F 6 (Int32.toNatClampNeg x4)) < (F 6 (Int32.toNatClampNeg (F 9 (Int32.toNatClampNeg x6)))) → bX5_look_186 K73 post I F x1 x2 x3 x4 x5 x6))))))
def bX5_look_73 (K26 : (Nat → Int32) → (Nat → Nat → Int32) → Int32 → Int32 → Int32 → Int32 → Prop) (post : (Nat → Int32) → (Nat → Nat → Int32) → Prop) : Nat → (Nat → Int32) → (Nat → Nat → Int32) → Int32 → Int32 → Int32 → Int32 → Int32 → Int32 → Prop
  | 0 => fun _ _ _ _ _ _ _ _ => False
  | n + 1 => fun I F x1 x2 x3 x4 x5 x6 => (((4 : Int32) ≤ x6 → ∀ v14 : Int32, v14 = x4 + (1 : Int32) → K26 I F x1 x2 x3 v14) ∧ (¬ (4 : Int32) ≤ x6 → ((x5 = (0 : Int32) → ∀ v16 : Int32, v16 = x4 + (1 : Int32) → K26 I F x1 x2 x3 v16) ∧ (¬ x5 = (0 : Int32) → ((¬ x6 = (3 : Int32) → vp_in x4 40 ∧ (((F 4 (Int32.toNatClampNeg x4)) = (0 : Int32) → bX5_look_147 (bX5_look_73 K26 post n) post I F x1 x2 x3 x4 x5 x6 (1 : Int32)) ∧ (¬ (F 4 (Int32.toNatClampNeg x4)) = (0 : Int32) → vp_in x4 40 ∧ ((¬ (F 4 (Int32.toNatClampNeg x4)) = (1 : Int32) → bX5_look_147 (bX5_look_73 K26 post n) post I F x1 x2 x3 x4 x5 x6 (0 : Int32)) ∧ ((F 4 (Int32.toNatClampNeg x4)) = (1 : Int32) → vp_in x4 40 ∧ ((¬ (F 7 (Int32.toNatClampNeg x4)) = x6 → bX5_look_147 (bX5_look_73 K26 post n) post I F x1 x2 x3 x4 x5 x6 (0 : Int32)) ∧ ((F 7 (Int32.toNatClampNeg x4)) = x6 → bX5_look_147 (bX5_look_73 K26 post n) post I F x1 x2 x3 x4 x5 x6 (1 : Int32)))))))) ∧ (x6 = (3 : Int32) → vp_in x4 40 ∧ (((F 4 (Int32.toNatClampNeg x4)) ≤ (1 : Int32) → bX5_look_147 (bX5_look_73 K26 post n) post I F x1 x2 x3 x4 x5 x6 (0 : Int32)) ∧ (¬ (F 4 (Int32.toNatClampNeg x4)) ≤ (1 : Int32) → bX5_look_147 (bX5_look_73 K26 post n) post I F x1 x2 x3 x4 x5 x6 (1 : Int32)))))))))
def bX5_look_26 (post : (Nat → Int32) → (Nat → Nat → Int32) → Prop) : Nat → (Nat → Int32) → (Nat → Nat → Int32) → Int32 → Int32 → Int32 → Int32 → Prop
  | 0 => fun _ _ _ _ _ _ => False
  | n + 1 => fun I F x1 x2 x3 x4 => (((I 3) ≤ x4 → post I F) ∧ (¬ (I 3) ≤ x4 → ((x3 < x4 → post I F) ∧ (¬ x3 < x4 → vp_in x4 40 ∧ ((¬ (F 5 (Int32.toNatClampNeg x4)) = x1 → ∃ n73 : Nat, bX5_look_73 (bX5_look_26 post n) post n73 I F x1 x2 x3 x4 (0 : Int32) (0 : Int32)) ∧ ((F 5 (Int32.toNatClampNeg x4)) = x1 → vp_in x4 40 ∧ ((x2 < (F 6 (Int32.toNatClampNeg x4)) → ∃ n73 : Nat, bX5_look_73 (bX5_look_26 post n) post n73 I F x1 x2 x3 x4 (0 : Int32) (0 : Int32)) ∧ (¬ x2 < (F 6 (Int32.toNatClampNeg x4)) → ∃ n73 : Nat, bX5_look_73 (bX5_look_26 post n) post n73 I F x1 x2 x3 x4 (1 : Int32) (0 : Int32)))))))))
def bX5_look_3 (post : (Nat → Int32) → (Nat → Nat → Int32) → Prop) : Nat → (Nat → Int32) → (Nat → Nat → Int32) → Int32 → Int32 → Int32 → Int32 → Prop
  | 0 => fun _ _ _ _ _ _ => False
  | n + 1 => fun I F x1 x2 x3 x4 => (((4 : Int32) ≤ x4 → ∃ n26 : Nat, bX5_look_26 post n26 I F x1 x2 x3 (0 : Int32)) ∧ (¬ (4 : Int32) ≤ x4 → vp_in x4 4 ∧ ∀ F33 : Nat → Nat → Int32, F33 = va_up F 9 (upd (F 9) (Int32.toNatClampNeg x4) (-1 : Int32)) → ∀ v35 : Int32, v35 = x4 + (1 : Int32) → bX5_look_3 post n I F33 x1 x2 x3 v35))
def wX5_look (I : Nat → Int32) (F : Nat → Nat → Int32) (x1 x2 x3 : Int32) (post : (Nat → Int32) → (Nat → Nat → Int32) → Prop) : Prop := ∃ n3 : Nat, bX5_look_3 post n3 I F x1 x2 x3 (0 : Int32)
set_option maxHeartbeats 4000000 in
set_option maxRecDepth 100000 in
theorem sX5_look_186 {p : Program} {l : Launch} {e : Env} {s : State} {m : MethodId} {args : Array Value} {below : List Frame} {meth : Method} {c : Code} {dC : Nat → ClassId} {dI : Nat → Nat → Nat} {cI : ClassId} {ad : Nat → Nat} {A : Nat → Prop} (C : Cx p s m args meth c cX5_look 8 none RX5 wsX5_look) (hK : va_K (dC, dI) vwCl [(cI, .int)] s) (hN : NW s) (hD : ∀ I F, va_D A (wM cI ad I F)) (hA : ∀ q : Nat, s.heap.size ≤ q → A q) (post : (Nat → Int32) → (Nat → Nat → Int32) → Prop) (K73 : (Nat → Int32) → (Nat → Nat → Int32) → Int32 → Int32 → Int32 → Int32 → Int32 → Int32 → Prop) (hK73 : ∀ (I : Nat → Int32) (F : Nat → Nat → Int32) (x1 x2 x3 x4 x5 x6 : Int32), K73 I F x1 x2 x3 x4 x5 x6 → ∀ (H : Heap) (locs : List Loc), va_P (dC, dI) vwCl (wM cI ad I F) H → va_S A s.heap H locs → ∀ (ls : Array Slot), lv_has ls 8 [(0, .ref (ad 0)), (1, .int x1), (2, .int x2), (3, .int x3), (4, .int x4), (5, .int x5), (6, .int x6)] → W p l e { frames := 0, cells := 0, slots := 0, locals := 0 } s m args below meth c H locs 0 0 (MQ below (QWv dC dI (wM cI ad) post A) args s 0 0 A) (F0 m 73 ls [])) : ∀ (I : Nat → Int32) (F : Nat → Nat → Int32) (x1 x2 x3 x4 x5 x6 : Int32), bX5_look_186 K73 post I F x1 x2 x3 x4 x5 x6 → ∀ (H : Heap) (locs : List Loc), va_P (dC, dI) vwCl (wM cI ad I F) H → va_S A s.heap H locs → ∀ (ls : Array Slot), lv_has ls 8 [(0, .ref (ad 0)), (1, .int x1), (2, .int x2), (3, .int x3), (4, .int x4), (5, .int x5), (6, .int x6)] → W p l e { frames := 0, cells := 0, slots := 0, locals := 0 } s m args below meth c H locs 0 0 (MQ below (QWv dC dI (wM cI ad) post A) args s 0 0 A) (F0 m 186 ls []) := by
  obtain ⟨hx, hb, hml, hown, hts, hr, hlocks⟩ := id C
  intro I F x1 x2 x3 x4 x5 x6 h H locs hP hS ls hl
  unfold bX5_look_186 at h
  refine lv_aload_n hx hb dX5_look_186 rfl (lv_at hl 0 rfl) ?_
  refine va_get (D := (dC, dI)) (ci := 5) (v := .ref (ad 9)) (C := RX5) (T := TX5) (N := 31) hx hb hts iX5_look_X5 hown hK hP 0 rfl rfl 12 (by decide) (hts (.fieldLink RX5 34 "CarrierBooksModel" "best" "[I") (by decide +kernel)) (fun _ h9 => h9) rfl dX5_look_187 ?_
  refine lv_iload hx hb dX5_look_190 (lv_at hl 6 rfl) ?_
  refine lv_iload hx hb dX5_look_192 (lv_at hl 4 rfl) ?_
  obtain ⟨hin2, h⟩ := h
  refine ast_w (wf := wM cI ad) hx hb hK hP hD hS 9 9 rfl hin2 rfl dX5_look_194 (fun F1 eF1 H locs hP hS => ?_)
  have h := h F1 eF1
  obtain ⟨v3, ev3⟩ : ∃ y : Int32, y = x6 + (1 : Int32) := ⟨_, rfl⟩
  have h := h v3 ev3
  refine lv_iinc (v := v3) (lv' := [(6, .int v3), (0, .ref (ad 0)), (1, .int x1), (2, .int x2), (3, .int x3), (4, .int x4), (5, .int x5)]) hx hb dX5_look_195 hl (k := 6) rfl (by rw [ev3]; rfl) (by decide) rfl (fun ls hl => ?_)
  refine lv_goto (tgt := 73) hx hb dX5_look_198 (by decide) ?_
  exact hK73 I F1 x1 x2 x3 x4 x5 v3 h H locs hP hS ls (lv_sub hl [1, 2, 3, 4, 5, 6, 0] rfl)
set_option maxHeartbeats 4000000 in
set_option maxRecDepth 100000 in
theorem sX5_look_147 {p : Program} {l : Launch} {e : Env} {s : State} {m : MethodId} {args : Array Value} {below : List Frame} {meth : Method} {c : Code} {dC : Nat → ClassId} {dI : Nat → Nat → Nat} {cI : ClassId} {ad : Nat → Nat} {A : Nat → Prop} (C : Cx p s m args meth c cX5_look 8 none RX5 wsX5_look) (hK : va_K (dC, dI) vwCl [(cI, .int)] s) (hN : NW s) (hD : ∀ I F, va_D A (wM cI ad I F)) (hA : ∀ q : Nat, s.heap.size ≤ q → A q) (post : (Nat → Int32) → (Nat → Nat → Int32) → Prop) (K73 : (Nat → Int32) → (Nat → Nat → Int32) → Int32 → Int32 → Int32 → Int32 → Int32 → Int32 → Prop) (hK73 : ∀ (I : Nat → Int32) (F : Nat → Nat → Int32) (x1 x2 x3 x4 x5 x6 : Int32), K73 I F x1 x2 x3 x4 x5 x6 → ∀ (H : Heap) (locs : List Loc), va_P (dC, dI) vwCl (wM cI ad I F) H → va_S A s.heap H locs → ∀ (ls : Array Slot), lv_has ls 8 [(0, .ref (ad 0)), (1, .int x1), (2, .int x2), (3, .int x3), (4, .int x4), (5, .int x5), (6, .int x6)] → W p l e { frames := 0, cells := 0, slots := 0, locals := 0 } s m args below meth c H locs 0 0 (MQ below (QWv dC dI (wM cI ad) post A) args s 0 0 A) (F0 m 73 ls [])) : ∀ (I : Nat → Int32) (F : Nat → Nat → Int32) (x1 x2 x3 x4 x5 x6 y0 : Int32), bX5_look_147 K73 post I F x1 x2 x3 x4 x5 x6 y0 → ∀ (H : Heap) (locs : List Loc), va_P (dC, dI) vwCl (wM cI ad I F) H → va_S A s.heap H locs → ∀ (ls : Array Slot), lv_has ls 8 [(0, .ref (ad 0)), (1, .int x1), (2, .int x2), (3, .int x3), (4, .int x4), (5, .int x5), (6, .int x6)] → W p l e { frames := 0, cells := 0, slots := 0, locals := 0 } s m args below meth c H locs 0 0 (MQ below (QWv dC dI (wM cI ad) post A) args s 0 0 A) (F0 m 147 ls [.int y0]) := by
  obtain ⟨hx, hb, hml, hown, hts, hr, hlocks⟩ := id C
  intro I F x1 x2 x3 x4 x5 x6 y0 h H locs hP hS ls hl
  unfold bX5_look_147 at h
  refine lv_istore (lv' := [(7, .int y0), (0, .ref (ad 0)), (1, .int x1), (2, .int x2), (3, .int x3), (4, .int x4), (5, .int x5), (6, .int x6)]) hx hb dX5_look_147 hl (by decide) rfl (fun ls hl => ?_)
  refine lv_iload hx hb dX5_look_149 (lv_at hl 0 rfl) ?_
  refine lv_if_eq (tgt := 195) hx hb dX5_look_151 (by decide) (fun c4 => ?_) (fun c4 => ?_)
  · have h := h.1 c4
    obtain ⟨v5, ev5⟩ : ∃ y : Int32, y = x6 + (1 : Int32) := ⟨_, rfl⟩
    have h := h v5 ev5
    refine lv_iinc (v := v5) (lv' := [(6, .int v5), (7, .int y0), (0, .ref (ad 0)), (1, .int x1), (2, .int x2), (3, .int x3), (4, .int x4), (5, .int x5)]) hx hb dX5_look_195 hl (k := 7) rfl (by rw [ev5]; rfl) (by decide) rfl (fun ls hl => ?_)
    refine lv_goto (tgt := 73) hx hb dX5_look_198 (by decide) ?_
    exact hK73 I F x1 x2 x3 x4 x5 v5 h H locs hP hS ls (lv_sub hl [2, 3, 4, 5, 6, 7, 0] rfl)
  · have h := h.2 c4
    refine lv_aload_n hx hb dX5_look_154 rfl (lv_at hl 1 rfl) ?_
    refine va_get (D := (dC, dI)) (ci := 5) (v := .ref (ad 9)) (C := RX5) (T := TX5) (N := 31) hx hb hts iX5_look_X5 hown hK hP 0 rfl rfl 12 (by decide) (hts (.fieldLink RX5 34 "CarrierBooksModel" "best" "[I") (by decide +kernel)) (fun _ h9 => h9) rfl dX5_look_155 ?_
    refine lv_iload hx hb dX5_look_158 (lv_at hl 7 rfl) ?_
    obtain ⟨hin6, h⟩ := h
    refine va_iald hx hb hK hP 9 0 rfl rfl hin6 dX5_look_160 ?_
    refine lv_if_lt (tgt := 186) hx hb dX5_look_161 (by decide) (fun c7 => ?_) (fun c7 => ?_)
    · have h := h.1 c7
      exact sX5_look_186 C hK hN hD hA post K73 hK73 I F x1 x2 x3 x4 x5 x6 h H locs hP hS ls (lv_sub hl [1, 2, 3, 4, 5, 6, 7] rfl)
    · have h := h.2 c7
      refine lv_aload_n hx hb dX5_look_164 rfl (lv_at hl 1 rfl) ?_
      refine va_get (D := (dC, dI)) (ci := 5) (v := .ref (ad 6)) (C := RX5) (T := TX5) (N := 31) hx hb hts iX5_look_X5 hown hK hP 0 rfl rfl 9 (by decide) (hts (.fieldLink RX5 25 "CarrierBooksModel" "day" "[I") (by decide +kernel)) (fun _ h9 => h9) rfl dX5_look_165 ?_
      refine lv_iload hx hb dX5_look_168 (lv_at hl 5 rfl) ?_
      obtain ⟨hin8, h⟩ := h
      refine va_iald hx hb hK hP 6 0 rfl rfl hin8 dX5_look_170 ?_
      refine lv_aload_n hx hb dX5_look_171 rfl (lv_at hl 1 rfl) ?_
      refine va_get (D := (dC, dI)) (ci := 5) (v := .ref (ad 6)) (C := RX5) (T := TX5) (N := 31) hx hb hts iX5_look_X5 hown hK hP 0 rfl rfl 9 (by decide) (hts (.fieldLink RX5 25 "CarrierBooksModel" "day" "[I") (by decide +kernel)) (fun _ h9 => h9) rfl dX5_look_172 ?_
      refine lv_aload_n hx hb dX5_look_175 rfl (lv_at hl 1 rfl) ?_
      refine va_get (D := (dC, dI)) (ci := 5) (v := .ref (ad 9)) (C := RX5) (T := TX5) (N := 31) hx hb hts iX5_look_X5 hown hK hP 0 rfl rfl 12 (by decide) (hts (.fieldLink RX5 34 "CarrierBooksModel" "best" "[I") (by decide +kernel)) (fun _ h9 => h9) rfl dX5_look_176 ?_
      refine lv_iload hx hb dX5_look_179 (lv_at hl 7 rfl) ?_
      obtain ⟨hin9, h⟩ := h
      refine va_iald hx hb hK hP 9 0 rfl rfl hin9 dX5_look_181 ?_
      obtain ⟨hin10, h⟩ := h
      refine va_iald hx hb hK hP 6 0 rfl rfl hin10 dX5_look_182 ?_
      refine lv_icmp_lt (tgt := 195) hx hb dX5_look_183 (by decide) (fun c11 => ?_) (fun c11 => ?_)
      · have h := h.1 c11
        obtain ⟨v12, ev12⟩ : ∃ y : Int32, y = x6 + (1 : Int32) := ⟨_, rfl⟩
        have h := h v12 ev12
        refine lv_iinc (v := v12) (lv' := [(6, .int v12), (7, .int y0), (0, .ref (ad 0)), (1, .int x1), (2, .int x2), (3, .int x3), (4, .int x4), (5, .int x5)]) hx hb dX5_look_195 hl (k := 7) rfl (by rw [ev12]; rfl) (by decide) rfl (fun ls hl => ?_)
        refine lv_goto (tgt := 73) hx hb dX5_look_198 (by decide) ?_
        exact hK73 I F x1 x2 x3 x4 x5 v12 h H locs hP hS ls (lv_sub hl [2, 3, 4, 5, 6, 7, 0] rfl)
      · have h := h.2 c11
        exact sX5_look_186 C hK hN hD hA post K73 hK73 I F x1 x2 x3 x4 x5 x6 h H locs hP hS ls (lv_sub hl [1, 2, 3, 4, 5, 6, 7] rfl)
set_option maxHeartbeats 4000000 in
set_option maxRecDepth 100000 in
theorem sX5_look_73 {p : Program} {l : Launch} {e : Env} {s : State} {m : MethodId} {args : Array Value} {below : List Frame} {meth : Method} {c : Code} {dC : Nat → ClassId} {dI : Nat → Nat → Nat} {cI : ClassId} {ad : Nat → Nat} {A : Nat → Prop} (C : Cx p s m args meth c cX5_look 8 none RX5 wsX5_look) (hK : va_K (dC, dI) vwCl [(cI, .int)] s) (hN : NW s) (hD : ∀ I F, va_D A (wM cI ad I F)) (hA : ∀ q : Nat, s.heap.size ≤ q → A q) (post : (Nat → Int32) → (Nat → Nat → Int32) → Prop) (K26 : (Nat → Int32) → (Nat → Nat → Int32) → Int32 → Int32 → Int32 → Int32 → Prop) (hK26 : ∀ (I : Nat → Int32) (F : Nat → Nat → Int32) (x1 x2 x3 x4 : Int32), K26 I F x1 x2 x3 x4 → ∀ (H : Heap) (locs : List Loc), va_P (dC, dI) vwCl (wM cI ad I F) H → va_S A s.heap H locs → ∀ (ls : Array Slot), lv_has ls 8 [(0, .ref (ad 0)), (1, .int x1), (2, .int x2), (3, .int x3), (4, .int x4)] → W p l e { frames := 0, cells := 0, slots := 0, locals := 0 } s m args below meth c H locs 0 0 (MQ below (QWv dC dI (wM cI ad) post A) args s 0 0 A) (F0 m 26 ls [])) : ∀ (n : Nat) (I : Nat → Int32) (F : Nat → Nat → Int32) (x1 x2 x3 x4 x5 x6 : Int32), bX5_look_73 K26 post n I F x1 x2 x3 x4 x5 x6 → ∀ (H : Heap) (locs : List Loc), va_P (dC, dI) vwCl (wM cI ad I F) H → va_S A s.heap H locs → ∀ (ls : Array Slot), lv_has ls 8 [(0, .ref (ad 0)), (1, .int x1), (2, .int x2), (3, .int x3), (4, .int x4), (5, .int x5), (6, .int x6)] → W p l e { frames := 0, cells := 0, slots := 0, locals := 0 } s m args below meth c H locs 0 0 (MQ below (QWv dC dI (wM cI ad) post A) args s 0 0 A) (F0 m 73 ls []) := by
  obtain ⟨hx, hb, hml, hown, hts, hr, hlocks⟩ := id C
  intro n
  induction n with
  | zero =>
    intro I F x1 x2 x3 x4 x5 x6 h H locs hP hS ls hl
    exact h.elim
  | succ n ih =>
    intro I F x1 x2 x3 x4 x5 x6 h H locs hP hS ls hl
    unfold bX5_look_73 at h
    refine lv_iload hx hb dX5_look_73 (lv_at hl 6 rfl) ?_
    refine lv_iconst (v := (4 : Int32)) hx hb dX5_look_75 (by decide) ?_
    refine lv_icmp_ge (tgt := 201) hx hb dX5_look_76 (by decide) (fun c13 => ?_) (fun c13 => ?_)
    · have h := h.1 c13
      obtain ⟨v14, ev14⟩ : ∃ y : Int32, y = x4 + (1 : Int32) := ⟨_, rfl⟩
      have h := h v14 ev14
      refine lv_iinc (v := v14) (lv' := [(4, .int v14), (0, .ref (ad 0)), (1, .int x1), (2, .int x2), (3, .int x3), (5, .int x5), (6, .int x6)]) hx hb dX5_look_201 hl (k := 4) rfl (by rw [ev14]; rfl) (by decide) rfl (fun ls hl => ?_)
      refine lv_goto (tgt := 26) hx hb dX5_look_204 (by decide) ?_
      exact hK26 I F x1 x2 x3 v14 h H locs hP hS ls (lv_sub hl [1, 2, 3, 4, 0] rfl)
    · have h := h.2 c13
      refine lv_iload hx hb dX5_look_79 (lv_at hl 5 rfl) ?_
      refine lv_if_eq (tgt := 201) hx hb dX5_look_81 (by decide) (fun c15 => ?_) (fun c15 => ?_)
      · have h := h.1 c15
        obtain ⟨v16, ev16⟩ : ∃ y : Int32, y = x4 + (1 : Int32) := ⟨_, rfl⟩
        have h := h v16 ev16
        refine lv_iinc (v := v16) (lv' := [(4, .int v16), (0, .ref (ad 0)), (1, .int x1), (2, .int x2), (3, .int x3), (5, .int x5), (6, .int x6)]) hx hb dX5_look_201 hl (k := 4) rfl (by rw [ev16]; rfl) (by decide) rfl (fun ls hl => ?_)
        refine lv_goto (tgt := 26) hx hb dX5_look_204 (by decide) ?_
        exact hK26 I F x1 x2 x3 v16 h H locs hP hS ls (lv_sub hl [1, 2, 3, 4, 0] rfl)
      · have h := h.2 c15
        refine lv_iload hx hb dX5_look_84 (lv_at hl 6 rfl) ?_
        refine lv_iconst (v := (3 : Int32)) hx hb dX5_look_86 (by decide) ?_
        refine lv_icmp_ne (tgt := 109) hx hb dX5_look_87 (by decide) (fun c17 => ?_) (fun c17 => ?_)
        · have h := h.1 c17
          refine lv_aload_n hx hb dX5_look_109 rfl (lv_at hl 0 rfl) ?_
          refine va_get (D := (dC, dI)) (ci := 5) (v := .ref (ad 4)) (C := RX5) (T := TX5) (N := 31) hx hb hts iX5_look_X5 hown hK hP 0 rfl rfl 7 (by decide) (hts (.fieldLink RX5 19 "CarrierBooksModel" "kind" "[I") (by decide +kernel)) (fun _ h9 => h9) rfl dX5_look_110 ?_
          refine lv_iload hx hb dX5_look_113 (lv_at hl 4 rfl) ?_
          obtain ⟨hin18, h⟩ := h
          refine va_iald hx hb hK hP 4 0 rfl rfl hin18 dX5_look_115 ?_
          refine lv_if_eq (tgt := 142) hx hb dX5_look_116 (by decide) (fun c19 => ?_) (fun c19 => ?_)
          · have h := h.1 c19
            refine lv_iconst (v := (1 : Int32)) hx hb dX5_look_142 (by decide) ?_
            refine lv_goto (tgt := 147) hx hb dX5_look_143 (by decide) ?_
            exact sX5_look_147 C hK hN hD hA post (bX5_look_73 K26 post n) ih I F x1 x2 x3 x4 x5 x6 (1 : Int32) h H locs hP hS ls (lv_sub hl [0, 1, 2, 3, 4, 5, 6] rfl)
          · have h := h.2 c19
            refine lv_aload_n hx hb dX5_look_119 rfl (lv_at hl 0 rfl) ?_
            refine va_get (D := (dC, dI)) (ci := 5) (v := .ref (ad 4)) (C := RX5) (T := TX5) (N := 31) hx hb hts iX5_look_X5 hown hK hP 0 rfl rfl 7 (by decide) (hts (.fieldLink RX5 19 "CarrierBooksModel" "kind" "[I") (by decide +kernel)) (fun _ h9 => h9) rfl dX5_look_120 ?_
            refine lv_iload hx hb dX5_look_123 (lv_at hl 4 rfl) ?_
            obtain ⟨hin20, h⟩ := h
            refine va_iald hx hb hK hP 4 0 rfl rfl hin20 dX5_look_125 ?_
            refine lv_iconst (v := (1 : Int32)) hx hb dX5_look_126 (by decide) ?_
            refine lv_icmp_ne (tgt := 146) hx hb dX5_look_127 (by decide) (fun c21 => ?_) (fun c21 => ?_)
            · have h := h.1 c21
              refine lv_iconst (v := (0 : Int32)) hx hb dX5_look_146 (by decide) ?_
              exact sX5_look_147 C hK hN hD hA post (bX5_look_73 K26 post n) ih I F x1 x2 x3 x4 x5 x6 (0 : Int32) h H locs hP hS ls (lv_sub hl [0, 1, 2, 3, 4, 5, 6] rfl)
            · have h := h.2 c21
              refine lv_aload_n hx hb dX5_look_130 rfl (lv_at hl 0 rfl) ?_
              refine va_get (D := (dC, dI)) (ci := 5) (v := .ref (ad 7)) (C := RX5) (T := TX5) (N := 31) hx hb hts iX5_look_X5 hown hK hP 0 rfl rfl 10 (by decide) (hts (.fieldLink RX5 28 "CarrierBooksModel" "told" "[I") (by decide +kernel)) (fun _ h9 => h9) rfl dX5_look_131 ?_
              refine lv_iload hx hb dX5_look_134 (lv_at hl 4 rfl) ?_
              obtain ⟨hin22, h⟩ := h
              refine va_iald hx hb hK hP 7 0 rfl rfl hin22 dX5_look_136 ?_
              refine lv_iload hx hb dX5_look_137 (lv_at hl 6 rfl) ?_
              refine lv_icmp_ne (tgt := 146) hx hb dX5_look_139 (by decide) (fun c23 => ?_) (fun c23 => ?_)
              · have h := h.1 c23
                refine lv_iconst (v := (0 : Int32)) hx hb dX5_look_146 (by decide) ?_
                exact sX5_look_147 C hK hN hD hA post (bX5_look_73 K26 post n) ih I F x1 x2 x3 x4 x5 x6 (0 : Int32) h H locs hP hS ls (lv_sub hl [0, 1, 2, 3, 4, 5, 6] rfl)
              · have h := h.2 c23
                refine lv_iconst (v := (1 : Int32)) hx hb dX5_look_142 (by decide) ?_
                refine lv_goto (tgt := 147) hx hb dX5_look_143 (by decide) ?_
                exact sX5_look_147 C hK hN hD hA post (bX5_look_73 K26 post n) ih I F x1 x2 x3 x4 x5 x6 (1 : Int32) h H locs hP hS ls (lv_sub hl [0, 1, 2, 3, 4, 5, 6] rfl)
        · have h := h.2 c17
          refine lv_aload_n hx hb dX5_look_90 rfl (lv_at hl 0 rfl) ?_
          refine va_get (D := (dC, dI)) (ci := 5) (v := .ref (ad 4)) (C := RX5) (T := TX5) (N := 31) hx hb hts iX5_look_X5 hown hK hP 0 rfl rfl 7 (by decide) (hts (.fieldLink RX5 19 "CarrierBooksModel" "kind" "[I") (by decide +kernel)) (fun _ h9 => h9) rfl dX5_look_91 ?_
          refine lv_iload hx hb dX5_look_94 (lv_at hl 4 rfl) ?_
          obtain ⟨hin24, h⟩ := h
          refine va_iald hx hb hK hP 4 0 rfl rfl hin24 dX5_look_96 ?_
          refine lv_iconst (v := (1 : Int32)) hx hb dX5_look_97 (by decide) ?_
          refine lv_icmp_le (tgt := 105) hx hb dX5_look_98 (by decide) (fun c25 => ?_) (fun c25 => ?_)
          · have h := h.1 c25
            refine lv_iconst (v := (0 : Int32)) hx hb dX5_look_105 (by decide) ?_
            refine lv_goto (tgt := 147) hx hb dX5_look_106 (by decide) ?_
            exact sX5_look_147 C hK hN hD hA post (bX5_look_73 K26 post n) ih I F x1 x2 x3 x4 x5 x6 (0 : Int32) h H locs hP hS ls (lv_sub hl [0, 1, 2, 3, 4, 5, 6] rfl)
          · have h := h.2 c25
            refine lv_iconst (v := (1 : Int32)) hx hb dX5_look_101 (by decide) ?_
            refine lv_goto (tgt := 147) hx hb dX5_look_102 (by decide) ?_
            exact sX5_look_147 C hK hN hD hA post (bX5_look_73 K26 post n) ih I F x1 x2 x3 x4 x5 x6 (1 : Int32) h H locs hP hS ls (lv_sub hl [0, 1, 2, 3, 4, 5, 6] rfl)
set_option maxHeartbeats 4000000 in
set_option maxRecDepth 100000 in
theorem sX5_look_26 {p : Program} {l : Launch} {e : Env} {s : State} {m : MethodId} {args : Array Value} {below : List Frame} {meth : Method} {c : Code} {dC : Nat → ClassId} {dI : Nat → Nat → Nat} {cI : ClassId} {ad : Nat → Nat} {A : Nat → Prop} (C : Cx p s m args meth c cX5_look 8 none RX5 wsX5_look) (hK : va_K (dC, dI) vwCl [(cI, .int)] s) (hN : NW s) (hD : ∀ I F, va_D A (wM cI ad I F)) (hA : ∀ q : Nat, s.heap.size ≤ q → A q) (post : (Nat → Int32) → (Nat → Nat → Int32) → Prop) : ∀ (n : Nat) (I : Nat → Int32) (F : Nat → Nat → Int32) (x1 x2 x3 x4 : Int32), bX5_look_26 post n I F x1 x2 x3 x4 → ∀ (H : Heap) (locs : List Loc), va_P (dC, dI) vwCl (wM cI ad I F) H → va_S A s.heap H locs → ∀ (ls : Array Slot), lv_has ls 8 [(0, .ref (ad 0)), (1, .int x1), (2, .int x2), (3, .int x3), (4, .int x4)] → W p l e { frames := 0, cells := 0, slots := 0, locals := 0 } s m args below meth c H locs 0 0 (MQ below (QWv dC dI (wM cI ad) post A) args s 0 0 A) (F0 m 26 ls []) := by
  obtain ⟨hx, hb, hml, hown, hts, hr, hlocks⟩ := id C
  intro n
  induction n with
  | zero =>
    intro I F x1 x2 x3 x4 h H locs hP hS ls hl
    exact h.elim
  | succ n ih =>
    intro I F x1 x2 x3 x4 h H locs hP hS ls hl
    unfold bX5_look_26 at h
    refine lv_iload hx hb dX5_look_26 (lv_at hl 4 rfl) ?_
    refine lv_aload_n hx hb dX5_look_28 rfl (lv_at hl 0 rfl) ?_
    refine va_get (D := (dC, dI)) (ci := 5) (v := .int (I 3)) (C := RX5) (T := TX5) (N := 31) hx hb hts iX5_look_X5 hown hK hP 0 rfl rfl 6 (by decide) (hts (.fieldLink RX5 110 "CarrierBooksModel" "bookings" "I") (by decide +kernel)) (fun _ h9 => h9) rfl dX5_look_29 ?_
    refine lv_icmp_ge (tgt := 207) hx hb dX5_look_32 (by decide) (fun c26 => ?_) (fun c26 => ?_)
    · have h := h.1 c26
      exact W.vret hx hb hr (fun t ht hW => ⟨⟨(I, F), rfl, h, by show va_P _ _ _ t.heap; rw [ht]; exact hP⟩, hS.F ht⟩) hS.2.2 dX5_look_207
    · have h := h.2 c26
      refine lv_iload hx hb dX5_look_35 (lv_at hl 4 rfl) ?_
      refine lv_iload_n hx hb dX5_look_37 rfl (lv_at hl 3 rfl) ?_
      refine lv_icmp_gt (tgt := 207) hx hb dX5_look_38 (by decide) (fun c27 => ?_) (fun c27 => ?_)
      · have h := h.1 c27
        exact W.vret hx hb hr (fun t ht hW => ⟨⟨(I, F), rfl, h, by show va_P _ _ _ t.heap; rw [ht]; exact hP⟩, hS.F ht⟩) hS.2.2 dX5_look_207
      · have h := h.2 c27
        refine lv_aload_n hx hb dX5_look_41 rfl (lv_at hl 0 rfl) ?_
        refine va_get (D := (dC, dI)) (ci := 5) (v := .ref (ad 5)) (C := RX5) (T := TX5) (N := 31) hx hb hts iX5_look_X5 hown hK hP 0 rfl rfl 8 (by decide) (hts (.fieldLink RX5 22 "CarrierBooksModel" "of" "[I") (by decide +kernel)) (fun _ h9 => h9) rfl dX5_look_42 ?_
        refine lv_iload hx hb dX5_look_45 (lv_at hl 4 rfl) ?_
        obtain ⟨hin28, h⟩ := h
        refine va_iald hx hb hK hP 5 0 rfl rfl hin28 dX5_look_47 ?_
        refine lv_iload_n hx hb dX5_look_48 rfl (lv_at hl 1 rfl) ?_
        refine lv_icmp_ne (tgt := 67) hx hb dX5_look_49 (by decide) (fun c29 => ?_) (fun c29 => ?_)
        · have h := h.1 c29
          refine lv_iconst (v := (0 : Int32)) hx hb dX5_look_67 (by decide) ?_
          refine lv_istore (lv' := [(5, .int (0 : Int32)), (0, .ref (ad 0)), (1, .int x1), (2, .int x2), (3, .int x3), (4, .int x4)]) hx hb dX5_look_68 hl (by decide) rfl (fun ls hl => ?_)
          refine lv_iconst (v := (0 : Int32)) hx hb dX5_look_70 (by decide) ?_
          refine lv_istore (lv' := [(6, .int (0 : Int32)), (5, .int (0 : Int32)), (0, .ref (ad 0)), (1, .int x1), (2, .int x2), (3, .int x3), (4, .int x4)]) hx hb dX5_look_71 hl (by decide) rfl (fun ls hl => ?_)
          obtain ⟨n9, h⟩ := h
          exact sX5_look_73 C hK hN hD hA post (bX5_look_26 post n) ih n9 I F x1 x2 x3 x4 (0 : Int32) (0 : Int32) h H locs hP hS ls (lv_sub hl [2, 3, 4, 5, 6, 1, 0] rfl)
        · have h := h.2 c29
          refine lv_aload_n hx hb dX5_look_52 rfl (lv_at hl 0 rfl) ?_
          refine va_get (D := (dC, dI)) (ci := 5) (v := .ref (ad 6)) (C := RX5) (T := TX5) (N := 31) hx hb hts iX5_look_X5 hown hK hP 0 rfl rfl 9 (by decide) (hts (.fieldLink RX5 25 "CarrierBooksModel" "day" "[I") (by decide +kernel)) (fun _ h9 => h9) rfl dX5_look_53 ?_
          refine lv_iload hx hb dX5_look_56 (lv_at hl 4 rfl) ?_
          obtain ⟨hin30, h⟩ := h
          refine va_iald hx hb hK hP 6 0 rfl rfl hin30 dX5_look_58 ?_
          refine lv_iload_n hx hb dX5_look_59 rfl (lv_at hl 2 rfl) ?_
          refine lv_icmp_gt (tgt := 67) hx hb dX5_look_60 (by decide) (fun c31 => ?_) (fun c31 => ?_)
          · have h := h.1 c31
            refine lv_iconst (v := (0 : Int32)) hx hb dX5_look_67 (by decide) ?_
            refine lv_istore (lv' := [(5, .int (0 : Int32)), (0, .ref (ad 0)), (1, .int x1), (2, .int x2), (3, .int x3), (4, .int x4)]) hx hb dX5_look_68 hl (by decide) rfl (fun ls hl => ?_)
            refine lv_iconst (v := (0 : Int32)) hx hb dX5_look_70 (by decide) ?_
            refine lv_istore (lv' := [(6, .int (0 : Int32)), (5, .int (0 : Int32)), (0, .ref (ad 0)), (1, .int x1), (2, .int x2), (3, .int x3), (4, .int x4)]) hx hb dX5_look_71 hl (by decide) rfl (fun ls hl => ?_)
            obtain ⟨n9, h⟩ := h
            exact sX5_look_73 C hK hN hD hA post (bX5_look_26 post n) ih n9 I F x1 x2 x3 x4 (0 : Int32) (0 : Int32) h H locs hP hS ls (lv_sub hl [2, 3, 4, 5, 6, 1, 0] rfl)
          · have h := h.2 c31
            refine lv_iconst (v := (1 : Int32)) hx hb dX5_look_63 (by decide) ?_
            refine lv_goto (tgt := 68) hx hb dX5_look_64 (by decide) ?_
            refine lv_istore (lv' := [(5, .int (1 : Int32)), (0, .ref (ad 0)), (1, .int x1), (2, .int x2), (3, .int x3), (4, .int x4)]) hx hb dX5_look_68 hl (by decide) rfl (fun ls hl => ?_)
            refine lv_iconst (v := (0 : Int32)) hx hb dX5_look_70 (by decide) ?_
            refine lv_istore (lv' := [(6, .int (0 : Int32)), (5, .int (1 : Int32)), (0, .ref (ad 0)), (1, .int x1), (2, .int x2), (3, .int x3), (4, .int x4)]) hx hb dX5_look_71 hl (by decide) rfl (fun ls hl => ?_)
            obtain ⟨n9, h⟩ := h
            exact sX5_look_73 C hK hN hD hA post (bX5_look_26 post n) ih n9 I F x1 x2 x3 x4 (1 : Int32) (0 : Int32) h H locs hP hS ls (lv_sub hl [2, 3, 4, 5, 6, 1, 0] rfl)
set_option maxHeartbeats 4000000 in
set_option maxRecDepth 100000 in
theorem sX5_look_3 {p : Program} {l : Launch} {e : Env} {s : State} {m : MethodId} {args : Array Value} {below : List Frame} {meth : Method} {c : Code} {dC : Nat → ClassId} {dI : Nat → Nat → Nat} {cI : ClassId} {ad : Nat → Nat} {A : Nat → Prop} (C : Cx p s m args meth c cX5_look 8 none RX5 wsX5_look) (hK : va_K (dC, dI) vwCl [(cI, .int)] s) (hN : NW s) (hD : ∀ I F, va_D A (wM cI ad I F)) (hA : ∀ q : Nat, s.heap.size ≤ q → A q) (post : (Nat → Int32) → (Nat → Nat → Int32) → Prop) : ∀ (n : Nat) (I : Nat → Int32) (F : Nat → Nat → Int32) (x1 x2 x3 x4 : Int32), bX5_look_3 post n I F x1 x2 x3 x4 → ∀ (H : Heap) (locs : List Loc), va_P (dC, dI) vwCl (wM cI ad I F) H → va_S A s.heap H locs → ∀ (ls : Array Slot), lv_has ls 8 [(0, .ref (ad 0)), (1, .int x1), (2, .int x2), (3, .int x3), (4, .int x4)] → W p l e { frames := 0, cells := 0, slots := 0, locals := 0 } s m args below meth c H locs 0 0 (MQ below (QWv dC dI (wM cI ad) post A) args s 0 0 A) (F0 m 3 ls []) := by
  obtain ⟨hx, hb, hml, hown, hts, hr, hlocks⟩ := id C
  intro n
  induction n with
  | zero =>
    intro I F x1 x2 x3 x4 h H locs hP hS ls hl
    exact h.elim
  | succ n ih =>
    intro I F x1 x2 x3 x4 h H locs hP hS ls hl
    unfold bX5_look_3 at h
    refine lv_iload hx hb dX5_look_3 (lv_at hl 4 rfl) ?_
    refine lv_iconst (v := (4 : Int32)) hx hb dX5_look_5 (by decide) ?_
    refine lv_icmp_ge (tgt := 23) hx hb dX5_look_6 (by decide) (fun c32 => ?_) (fun c32 => ?_)
    · have h := h.1 c32
      refine lv_iconst (v := (0 : Int32)) hx hb dX5_look_23 (by decide) ?_
      refine lv_istore (lv' := [(4, .int (0 : Int32)), (0, .ref (ad 0)), (1, .int x1), (2, .int x2), (3, .int x3)]) hx hb dX5_look_24 hl (by decide) rfl (fun ls hl => ?_)
      obtain ⟨n9, h⟩ := h
      exact sX5_look_26 C hK hN hD hA post n9 I F x1 x2 x3 (0 : Int32) h H locs hP hS ls (lv_sub hl [1, 2, 3, 4, 0] rfl)
    · have h := h.2 c32
      refine lv_aload_n hx hb dX5_look_9 rfl (lv_at hl 0 rfl) ?_
      refine va_get (D := (dC, dI)) (ci := 5) (v := .ref (ad 9)) (C := RX5) (T := TX5) (N := 31) hx hb hts iX5_look_X5 hown hK hP 0 rfl rfl 12 (by decide) (hts (.fieldLink RX5 34 "CarrierBooksModel" "best" "[I") (by decide +kernel)) (fun _ h9 => h9) rfl dX5_look_10 ?_
      refine lv_iload hx hb dX5_look_13 (lv_at hl 4 rfl) ?_
      refine lv_iconst (v := (-1 : Int32)) hx hb dX5_look_15 (by decide) ?_
      obtain ⟨hin34, h⟩ := h
      refine ast_w (wf := wM cI ad) hx hb hK hP hD hS 9 9 rfl hin34 rfl dX5_look_16 (fun F33 eF33 H locs hP hS => ?_)
      have h := h F33 eF33
      obtain ⟨v35, ev35⟩ : ∃ y : Int32, y = x4 + (1 : Int32) := ⟨_, rfl⟩
      have h := h v35 ev35
      refine lv_iinc (v := v35) (lv' := [(4, .int v35), (0, .ref (ad 0)), (1, .int x1), (2, .int x2), (3, .int x3)]) hx hb dX5_look_17 hl (k := 4) rfl (by rw [ev35]; rfl) (by decide) rfl (fun ls hl => ?_)
      refine lv_goto (tgt := 3) hx hb dX5_look_20 (by decide) ?_
      exact ih I F33 x1 x2 x3 v35 h H locs hP hS ls (lv_sub hl [1, 2, 3, 4, 0] rfl)
set_option maxHeartbeats 4000000 in
set_option maxRecDepth 100000 in
theorem cTX5_look (l : Launch) (dC : Nat → ClassId) (dI : Nat → Nat → Nat) (cI : ClassId) (ad : Nat → Nat) (I : Nat → Int32) (F : Nat → Nat → Int32) (sz : Nat) (x1 x2 x3 : Int32) (post : (Nat → Int32) → (Nat → Nat → Int32) → Prop) (h : wX5_look I F x1 x2 x3 post) : Met l yX5_look wsX5_look { frames := 0, cells := 0, slots := 0, locals := 0 } (va_Pc [.ref (ad 0), .int x1, .int x2, .int x3] (PWw dC dI cI (wM cI ad) I F sz)) (QWv dC dI (wM cI ad) post (va_A (wM cI ad I F) sz)) 0 0 (va_A (wM cI ad I F) sz) := by
  refine Met.ofW (cc := cX5_look) (maxL := 8) (ret := none) (by decide) rfl ?_
  intro p e s m args below meth c s₁ B hml hv
  obtain ⟨rfl, hsz, ⟨hP, hK, hN⟩, hD0⟩ := hv
  subst hsz
  have hD := wD_any (wM_fix cI ad) (hD0.self (sz := s.heap.size))
  generalize hAe : va_A (wM cI ad I F) s.heap.size = A at hD ⊢
  have hA : ∀ q : Nat, s.heap.size ≤ q → A q := fun q h => by rw [← hAe]; exact Or.inr h
  clear hAe hD0
  have hx := B.exec
  have hb := B.bytes
  have hr := B.returns
  have hts := atoms_spec (ws := wsX5_look) B.pre
  have hown : s.vm.findClass RX5 = some m.cls := findClass_of_methodNamed B.named
  have hlocks := B.notSynchronized
  have C : Cx p s m _ meth c cX5_look 8 none RX5 wsX5_look := ⟨hx, hb, hml, hown, hts, hr, hlocks⟩
  have hS : va_S A s.heap s.heap [] := va_S.rf
  have hl := lv_entry ([.ref (ad 0), .int x1, .int x2, .int x3]) (n := 8) (Nat.le_of_ble_eq_true rfl)
  rw [lg_entry_eq]
  generalize (lg_sl ([.ref (ad 0), .int x1, .int x2, .int x3]) ++ List.replicate (8 - (lg_sl ([.ref (ad 0), .int x1, .int x2, .int x3])).length) Slot.unset).toArray = ls at hl ⊢
  have hl : lv_has ls 8 [(0, .ref (ad 0)), (1, .int x1), (2, .int x2), (3, .int x3)] := hl
  unfold wX5_look at h
  refine lv_iconst (v := (0 : Int32)) hx hb dX5_look_0 (by decide) ?_
  refine lv_istore (lv' := [(4, .int (0 : Int32)), (0, .ref (ad 0)), (1, .int x1), (2, .int x2), (3, .int x3)]) hx hb dX5_look_1 hl (by decide) rfl (fun ls hl => ?_)
  obtain ⟨n9, h⟩ := h
  exact sX5_look_3 C hK hN hD hA post n9 I F x1 x2 x3 (0 : Int32) h s.heap [] hP hS ls (lv_sub hl [1, 2, 3, 4, 0] rfl)

theorem iX5_bound_X5 : ∀ w ∈ wsX50, w ∈ wsX5_bound := by decide +kernel
def wX5_bound (I : Nat → Int32) (F : Nat → Nat → Int32) (x1 x2 : Int32) (post : Int32 → (Nat → Int32) → (Nat → Nat → Int32) → Prop) : Prop := wX5_look I F x1 (999 : Int32) x2 (fun I2 F3 => vp_in (0 : Int32) 4 ∧ (((F3 9 (Int32.toNatClampNeg (0 : Int32))) < (0 : Int32) → post (0 : Int32) I2 F3) ∧ (¬ (F3 9 (Int32.toNatClampNeg (0 : Int32))) < (0 : Int32) → post (1 : Int32) I2 F3)))
set_option maxHeartbeats 4000000 in
set_option maxRecDepth 100000 in
theorem cTX5_bound (l : Launch) (dC : Nat → ClassId) (dI : Nat → Nat → Nat) (cI : ClassId) (ad : Nat → Nat) (I : Nat → Int32) (F : Nat → Nat → Int32) (sz : Nat) (x1 x2 : Int32) (post : Int32 → (Nat → Int32) → (Nat → Nat → Int32) → Prop) (h : wX5_bound I F x1 x2 post) : Met l yX5_bound wsX5_bound { frames := 1, cells := 0, slots := 0, locals := 27 } (va_Pc [.ref (ad 0), .int x1, .int x2] (PWw dC dI cI (wM cI ad) I F sz)) (QWi dC dI (wM cI ad) post (va_A (wM cI ad I F) sz)) 0 0 (va_A (wM cI ad I F) sz) := by
  refine Met.ofW (cc := cX5_bound) (maxL := 3) (ret := (some .boolean)) (by decide) rfl ?_
  intro p e s m args below meth c s₁ B hml hv
  obtain ⟨rfl, hsz, ⟨hP, hK, hN⟩, hD0⟩ := hv
  subst hsz
  have hD := wD_any (wM_fix cI ad) (hD0.self (sz := s.heap.size))
  generalize hAe : va_A (wM cI ad I F) s.heap.size = A at hD ⊢
  have hA : ∀ q : Nat, s.heap.size ≤ q → A q := fun q h => by rw [← hAe]; exact Or.inr h
  clear hAe hD0
  have hx := B.exec
  have hb := B.bytes
  have hr := B.returns
  have hts := atoms_spec (ws := wsX5_bound) B.pre
  have hown : s.vm.findClass RX5 = some m.cls := findClass_of_methodNamed B.named
  have hlocks := B.notSynchronized
  have C : Cx p s m _ meth c cX5_bound 3 (some .boolean) RX5 wsX5_bound := ⟨hx, hb, hml, hown, hts, hr, hlocks⟩
  have hS : va_S A s.heap s.heap [] := va_S.rf
  have hl := lv_entry ([.ref (ad 0), .int x1, .int x2]) (n := 3) (Nat.le_of_ble_eq_true rfl)
  rw [lg_entry_eq]
  generalize (lg_sl ([.ref (ad 0), .int x1, .int x2]) ++ List.replicate (3 - (lg_sl ([.ref (ad 0), .int x1, .int x2])).length) Slot.unset).toArray = ls at hl ⊢
  have hl : lv_has ls 3 [(0, .ref (ad 0)), (1, .int x1), (2, .int x2)] := hl
  unfold wX5_bound at h
  refine lv_aload_n hx hb dX5_bound_0 rfl (lv_at hl 0 rfl) ?_
  refine lv_iload_n hx hb dX5_bound_1 rfl (lv_at hl 1 rfl) ?_
  refine lv_sipush (v := (999 : Int32)) hx hb dX5_bound_2 (by decide) ?_
  refine lv_iload_n hx hb dX5_bound_5 rfl (lv_at hl 2 rfl) ?_
  refine wcall_v (va_runV (As := [.int x1, .int (999 : Int32), .int x2]) (rest := []) ⟨hx, hb, hml, hown, hts⟩ (cTX5_look l dC dI cI ad I F s.heap.size x1 (999 : Int32) x2 _ h) (cwV 3 hts gX5_bound_X5_look rfl rfl rfl (by decide +kernel) ⟨Nat.le_of_ble_eq_true rfl, Nat.le_of_ble_eq_true rfl⟩) (pv_W hP hK hN ((hD _ _).weaken (fun _ _ _ _ => trivial)) 0 5 rfl rfl _) rfl rfl hl.1 rfl (lv_room (Nat.le_of_ble_eq_true rfl)) dX5_bound_6 ⟨Nat.le_of_ble_eq_true rfl, Nat.le_of_ble_eq_true rfl⟩) hD hS hA (fun I2 F3 h H locs hP hS => ?_)
  refine lv_aload_n hx hb dX5_bound_9 rfl (lv_at hl 0 rfl) ?_
  refine va_get (D := (dC, dI)) (ci := 5) (v := .ref (ad 9)) (C := RX5) (T := TX5) (N := 31) hx hb hts iX5_bound_X5 hown hK hP 0 rfl rfl 12 (by decide) (hts (.fieldLink RX5 34 "CarrierBooksModel" "best" "[I") (by decide +kernel)) (fun _ h9 => h9) rfl dX5_bound_10 ?_
  refine lv_iconst (v := (0 : Int32)) hx hb dX5_bound_13 (by decide) ?_
  obtain ⟨hin4, h⟩ := h
  refine va_iald hx hb hK hP 9 0 rfl rfl hin4 dX5_bound_14 ?_
  refine lv_if_lt (tgt := 22) hx hb dX5_bound_15 (by decide) (fun c5 => ?_) (fun c5 => ?_)
  · have h := h.1 c5
    refine lv_iconst (v := (0 : Int32)) hx hb dX5_bound_22 (by decide) ?_
    exact W.zret (v := (0 : Int32)) hx hb hr rfl (fun t ht hW => ⟨⟨(0 : Int32), (I2, F3), rfl, h, by show va_P _ _ _ t.heap; rw [ht]; exact hP⟩, hS.F ht⟩) hS.2.2 dX5_bound_23
  · have h := h.2 c5
    refine lv_iconst (v := (1 : Int32)) hx hb dX5_bound_18 (by decide) ?_
    refine lv_goto (tgt := 23) hx hb dX5_bound_19 (by decide) ?_
    exact W.zret (v := (1 : Int32)) hx hb hr rfl (fun t ht hW => ⟨⟨(1 : Int32), (I2, F3), rfl, h, by show va_P _ _ _ t.heap; rw [ht]; exact hP⟩, hS.F ht⟩) hS.2.2 dX5_bound_23

def wX5_inForce (I : Nat → Int32) (F : Nat → Nat → Int32) (x1 x2 x3 : Int32) (post : Int32 → (Nat → Int32) → (Nat → Nat → Int32) → Prop) : Prop := wX5_inTerm I F x1 x2 (fun r1 => ((¬ r1 = (0 : Int32) → wX5_look I F x1 x2 x3 (fun I4 F5 => wX5_runs I4 F5 (fun r6 => (narrow FieldType.boolean (.int r6) = .int r6 ∧ post r6 I4 F5)))) ∧ (r1 = (0 : Int32) → post (0 : Int32) I F)))
set_option maxHeartbeats 4000000 in
set_option maxRecDepth 100000 in
theorem cTX5_inForce (l : Launch) (dC : Nat → ClassId) (dI : Nat → Nat → Nat) (cI : ClassId) (ad : Nat → Nat) (I : Nat → Int32) (F : Nat → Nat → Int32) (sz : Nat) (x1 x2 x3 : Int32) (post : Int32 → (Nat → Int32) → (Nat → Nat → Int32) → Prop) (h : wX5_inForce I F x1 x2 x3 post) : Met l yX5_inForce wsX5_inForce { frames := 1, cells := 0, slots := 0, locals := 27 } (va_Pc [.ref (ad 0), .int x1, .int x2, .int x3] (PWw dC dI cI (wM cI ad) I F sz)) (QWi dC dI (wM cI ad) post (va_A (wM cI ad I F) sz)) 0 0 (va_A (wM cI ad I F) sz) := by
  refine Met.ofW (cc := cX5_inForce) (maxL := 4) (ret := (some .boolean)) (by decide) rfl ?_
  intro p e s m args below meth c s₁ B hml hv
  obtain ⟨rfl, hsz, ⟨hP, hK, hN⟩, hD0⟩ := hv
  subst hsz
  have hD := wD_any (wM_fix cI ad) (hD0.self (sz := s.heap.size))
  generalize hAe : va_A (wM cI ad I F) s.heap.size = A at hD ⊢
  have hA : ∀ q : Nat, s.heap.size ≤ q → A q := fun q h => by rw [← hAe]; exact Or.inr h
  clear hAe hD0
  have hx := B.exec
  have hb := B.bytes
  have hr := B.returns
  have hts := atoms_spec (ws := wsX5_inForce) B.pre
  have hown : s.vm.findClass RX5 = some m.cls := findClass_of_methodNamed B.named
  have hlocks := B.notSynchronized
  have C : Cx p s m _ meth c cX5_inForce 4 (some .boolean) RX5 wsX5_inForce := ⟨hx, hb, hml, hown, hts, hr, hlocks⟩
  have hS : va_S A s.heap s.heap [] := va_S.rf
  have hl := lv_entry ([.ref (ad 0), .int x1, .int x2, .int x3]) (n := 4) (Nat.le_of_ble_eq_true rfl)
  rw [lg_entry_eq]
  generalize (lg_sl ([.ref (ad 0), .int x1, .int x2, .int x3]) ++ List.replicate (4 - (lg_sl ([.ref (ad 0), .int x1, .int x2, .int x3])).length) Slot.unset).toArray = ls at hl ⊢
  have hl : lv_has ls 4 [(0, .ref (ad 0)), (1, .int x1), (2, .int x2), (3, .int x3)] := hl
  unfold wX5_inForce at h
  refine lv_aload_n hx hb dX5_inForce_0 rfl (lv_at hl 0 rfl) ?_
  refine lv_iload_n hx hb dX5_inForce_1 rfl (lv_at hl 1 rfl) ?_
  refine lv_iload_n hx hb dX5_inForce_2 rfl (lv_at hl 2 rfl) ?_
  refine vp_callSi (cr_of (va_runV (As := [.int x1, .int x2]) (rest := []) ⟨hx, hb, hml, hown, hts⟩ (cTX5_inTerm l dC dI cI ad I F x1 x2 _ h) (cwV 2 hts gX5_inForce_X5_inTerm rfl rfl rfl (by decide +kernel) ⟨Nat.le_of_ble_eq_true rfl, Nat.le_of_ble_eq_true rfl⟩) (pv_R hP hK hN 0 5 rfl rfl _) rfl rfl hl.1 rfl (lv_room (Nat.le_of_ble_eq_true rfl)) dX5_inForce_3 ⟨Nat.le_of_ble_eq_true rfl, Nat.le_of_ble_eq_true rfl⟩)) (fun r1 h => ?_)
  refine lv_if_ne (tgt := 11) hx hb dX5_inForce_6 (by decide) (fun c2 => ?_) (fun c2 => ?_)
  · have h := h.1 c2
    refine lv_aload_n hx hb dX5_inForce_11 rfl (lv_at hl 0 rfl) ?_
    refine lv_iload_n hx hb dX5_inForce_12 rfl (lv_at hl 1 rfl) ?_
    refine lv_iload_n hx hb dX5_inForce_13 rfl (lv_at hl 2 rfl) ?_
    refine lv_iload_n hx hb dX5_inForce_14 rfl (lv_at hl 3 rfl) ?_
    refine wcall_v (va_runV (As := [.int x1, .int x2, .int x3]) (rest := []) ⟨hx, hb, hml, hown, hts⟩ (cTX5_look l dC dI cI ad I F s.heap.size x1 x2 x3 _ h) (cwV 3 hts gX5_inForce_X5_look rfl rfl rfl (by decide +kernel) ⟨Nat.le_of_ble_eq_true rfl, Nat.le_of_ble_eq_true rfl⟩) (pv_W hP hK hN ((hD _ _).weaken (fun _ _ _ _ => trivial)) 0 5 rfl rfl _) rfl rfl hl.1 rfl (lv_room (Nat.le_of_ble_eq_true rfl)) dX5_inForce_15 ⟨Nat.le_of_ble_eq_true rfl, Nat.le_of_ble_eq_true rfl⟩) hD hS hA (fun I4 F5 h H locs hP hS => ?_)
    refine lv_aload_n hx hb dX5_inForce_18 rfl (lv_at hl 0 rfl) ?_
    refine vp_callSi (cr_of (va_runV (As := []) (rest := []) ⟨hx, hb, hml, hown, hts⟩ (cTX5_runs l dC dI cI ad I4 F5 _ h) (cwV 0 hts gX5_inForce_X5_runs rfl rfl rfl (by decide +kernel) ⟨Nat.le_of_ble_eq_true rfl, Nat.le_of_ble_eq_true rfl⟩) (pv_R hP hK hN 0 5 rfl rfl _) rfl rfl hl.1 rfl (lv_room (Nat.le_of_ble_eq_true rfl)) dX5_inForce_19 ⟨Nat.le_of_ble_eq_true rfl, Nat.le_of_ble_eq_true rfl⟩)) (fun r6 h => ?_)
    obtain ⟨hnr, h⟩ := h
    exact W.zret (v := r6) hx hb hr hnr (fun t ht hW => ⟨⟨r6, (I4, F5), rfl, h, by show va_P _ _ _ t.heap; rw [ht]; exact hP⟩, hS.F ht⟩) hS.2.2 dX5_inForce_22
  · have h := h.2 c2
    refine lv_iconst (v := (0 : Int32)) hx hb dX5_inForce_9 (by decide) ?_
    exact W.zret (v := (0 : Int32)) hx hb hr rfl (fun t ht hW => ⟨⟨(0 : Int32), (I, F), rfl, h, by show va_P _ _ _ t.heap; rw [ht]; exact hP⟩, hS.F ht⟩) hS.2.2 dX5_inForce_10

def wX5_charge (I : Nat → Int32) (F : Nat → Nat → Int32) (x1 x2 x3 : Int32) (post : Int32 → (Nat → Int32) → (Nat → Nat → Int32) → Prop) : Prop := wX5_look I F x1 x2 x3 (fun I2 F3 => wX5_runs I2 F3 (fun r4 => ((r4 = (0 : Int32) → post (0 : Int32) I2 F3) ∧ (¬ r4 = (0 : Int32) → wX5_known I2 F3 (2 : Int32) (fun r6 => wX5_known I2 F3 (0 : Int32) (fun r7 => wX5_known I2 F3 (1 : Int32) (fun r8 => wX5_rate I2 F3 r7 r8 (fun r9 => post (r6 * r9) I2 F3))))))))
set_option maxHeartbeats 4000000 in
set_option maxRecDepth 100000 in
theorem cTX5_charge (l : Launch) (dC : Nat → ClassId) (dI : Nat → Nat → Nat) (cI : ClassId) (ad : Nat → Nat) (I : Nat → Int32) (F : Nat → Nat → Int32) (sz : Nat) (x1 x2 x3 : Int32) (post : Int32 → (Nat → Int32) → (Nat → Nat → Int32) → Prop) (h : wX5_charge I F x1 x2 x3 post) : Met l yX5_charge wsX5_charge { frames := 2, cells := 0, slots := 0, locals := 47 } (va_Pc [.ref (ad 0), .int x1, .int x2, .int x3] (PWw dC dI cI (wM cI ad) I F sz)) (QWi dC dI (wM cI ad) post (va_A (wM cI ad I F) sz)) 0 0 (va_A (wM cI ad I F) sz) := by
  refine Met.ofW (cc := cX5_charge) (maxL := 4) (ret := (some .int)) (by decide) rfl ?_
  intro p e s m args below meth c s₁ B hml hv
  obtain ⟨rfl, hsz, ⟨hP, hK, hN⟩, hD0⟩ := hv
  subst hsz
  have hD := wD_any (wM_fix cI ad) (hD0.self (sz := s.heap.size))
  generalize hAe : va_A (wM cI ad I F) s.heap.size = A at hD ⊢
  have hA : ∀ q : Nat, s.heap.size ≤ q → A q := fun q h => by rw [← hAe]; exact Or.inr h
  clear hAe hD0
  have hx := B.exec
  have hb := B.bytes
  have hr := B.returns
  have hts := atoms_spec (ws := wsX5_charge) B.pre
  have hown : s.vm.findClass RX5 = some m.cls := findClass_of_methodNamed B.named
  have hlocks := B.notSynchronized
  have C : Cx p s m _ meth c cX5_charge 4 (some .int) RX5 wsX5_charge := ⟨hx, hb, hml, hown, hts, hr, hlocks⟩
  have hS : va_S A s.heap s.heap [] := va_S.rf
  have hl := lv_entry ([.ref (ad 0), .int x1, .int x2, .int x3]) (n := 4) (Nat.le_of_ble_eq_true rfl)
  rw [lg_entry_eq]
  generalize (lg_sl ([.ref (ad 0), .int x1, .int x2, .int x3]) ++ List.replicate (4 - (lg_sl ([.ref (ad 0), .int x1, .int x2, .int x3])).length) Slot.unset).toArray = ls at hl ⊢
  have hl : lv_has ls 4 [(0, .ref (ad 0)), (1, .int x1), (2, .int x2), (3, .int x3)] := hl
  unfold wX5_charge at h
  refine lv_aload_n hx hb dX5_charge_0 rfl (lv_at hl 0 rfl) ?_
  refine lv_iload_n hx hb dX5_charge_1 rfl (lv_at hl 1 rfl) ?_
  refine lv_iload_n hx hb dX5_charge_2 rfl (lv_at hl 2 rfl) ?_
  refine lv_iload_n hx hb dX5_charge_3 rfl (lv_at hl 3 rfl) ?_
  refine wcall_v (va_runV (As := [.int x1, .int x2, .int x3]) (rest := []) ⟨hx, hb, hml, hown, hts⟩ (cTX5_look l dC dI cI ad I F s.heap.size x1 x2 x3 _ h) (cwV 3 hts gX5_charge_X5_look rfl rfl rfl (by decide +kernel) ⟨Nat.le_of_ble_eq_true rfl, Nat.le_of_ble_eq_true rfl⟩) (pv_W hP hK hN ((hD _ _).weaken (fun _ _ _ _ => trivial)) 0 5 rfl rfl _) rfl rfl hl.1 rfl (lv_room (Nat.le_of_ble_eq_true rfl)) dX5_charge_4 ⟨Nat.le_of_ble_eq_true rfl, Nat.le_of_ble_eq_true rfl⟩) hD hS hA (fun I2 F3 h H locs hP hS => ?_)
  refine lv_aload_n hx hb dX5_charge_7 rfl (lv_at hl 0 rfl) ?_
  refine vp_callSi (cr_of (va_runV (As := []) (rest := []) ⟨hx, hb, hml, hown, hts⟩ (cTX5_runs l dC dI cI ad I2 F3 _ h) (cwV 0 hts gX5_charge_X5_runs rfl rfl rfl (by decide +kernel) ⟨Nat.le_of_ble_eq_true rfl, Nat.le_of_ble_eq_true rfl⟩) (pv_R hP hK hN 0 5 rfl rfl _) rfl rfl hl.1 rfl (lv_room (Nat.le_of_ble_eq_true rfl)) dX5_charge_8 ⟨Nat.le_of_ble_eq_true rfl, Nat.le_of_ble_eq_true rfl⟩)) (fun r4 h => ?_)
  refine lv_if_eq (tgt := 37) hx hb dX5_charge_11 (by decide) (fun c5 => ?_) (fun c5 => ?_)
  · have h := h.1 c5
    refine lv_iconst (v := (0 : Int32)) hx hb dX5_charge_37 (by decide) ?_
    exact W.iret (v := (0 : Int32)) hx hb hr (fun t ht hW => ⟨⟨(0 : Int32), (I2, F3), rfl, h, by show va_P _ _ _ t.heap; rw [ht]; exact hP⟩, hS.F ht⟩) hS.2.2 dX5_charge_38
  · have h := h.2 c5
    refine lv_aload_n hx hb dX5_charge_14 rfl (lv_at hl 0 rfl) ?_
    refine lv_iconst (v := (2 : Int32)) hx hb dX5_charge_15 (by decide) ?_
    refine vp_callSi (cr_of (va_runV (As := [.int (2 : Int32)]) (rest := []) ⟨hx, hb, hml, hown, hts⟩ (cTX5_known l dC dI cI ad I2 F3 (2 : Int32) _ h) (cwV 1 hts gX5_charge_X5_known rfl rfl rfl (by decide +kernel) ⟨Nat.le_of_ble_eq_true rfl, Nat.le_of_ble_eq_true rfl⟩) (pv_R hP hK hN 0 5 rfl rfl _) rfl rfl hl.1 rfl (lv_room (Nat.le_of_ble_eq_true rfl)) dX5_charge_16 ⟨Nat.le_of_ble_eq_true rfl, Nat.le_of_ble_eq_true rfl⟩)) (fun r6 h => ?_)
    refine lv_aload_n hx hb dX5_charge_19 rfl (lv_at hl 0 rfl) ?_
    refine lv_aload_n hx hb dX5_charge_20 rfl (lv_at hl 0 rfl) ?_
    refine lv_iconst (v := (0 : Int32)) hx hb dX5_charge_21 (by decide) ?_
    refine vp_callSi (cr_of (va_runV (As := [.int (0 : Int32)]) (rest := [.ref (ad 0), .int r6]) ⟨hx, hb, hml, hown, hts⟩ (cTX5_known l dC dI cI ad I2 F3 (0 : Int32) _ h) (cwV 1 hts gX5_charge_X5_known rfl rfl rfl (by decide +kernel) ⟨Nat.le_of_ble_eq_true rfl, Nat.le_of_ble_eq_true rfl⟩) (pv_R hP hK hN 0 5 rfl rfl _) rfl rfl hl.1 rfl (lv_room (Nat.le_of_ble_eq_true rfl)) dX5_charge_22 ⟨Nat.le_of_ble_eq_true rfl, Nat.le_of_ble_eq_true rfl⟩)) (fun r7 h => ?_)
    refine lv_aload_n hx hb dX5_charge_25 rfl (lv_at hl 0 rfl) ?_
    refine lv_iconst (v := (1 : Int32)) hx hb dX5_charge_26 (by decide) ?_
    refine vp_callSi (cr_of (va_runV (As := [.int (1 : Int32)]) (rest := [.int r7, .ref (ad 0), .int r6]) ⟨hx, hb, hml, hown, hts⟩ (cTX5_known l dC dI cI ad I2 F3 (1 : Int32) _ h) (cwV 1 hts gX5_charge_X5_known rfl rfl rfl (by decide +kernel) ⟨Nat.le_of_ble_eq_true rfl, Nat.le_of_ble_eq_true rfl⟩) (pv_R hP hK hN 0 5 rfl rfl _) rfl rfl hl.1 rfl (lv_room (Nat.le_of_ble_eq_true rfl)) dX5_charge_27 ⟨Nat.le_of_ble_eq_true rfl, Nat.le_of_ble_eq_true rfl⟩)) (fun r8 h => ?_)
    refine vp_callSi (cr_of (va_runV (As := [.int r7, .int r8]) (rest := [.int r6]) ⟨hx, hb, hml, hown, hts⟩ (cTX5_rate l dC dI cI ad I2 F3 r7 r8 _ h) (cwV 2 hts gX5_charge_X5_rate rfl rfl rfl (by decide +kernel) ⟨Nat.le_of_ble_eq_true rfl, Nat.le_of_ble_eq_true rfl⟩) (pv_R hP hK hN 0 5 rfl rfl _) rfl rfl hl.1 rfl (lv_room (Nat.le_of_ble_eq_true rfl)) dX5_charge_30 ⟨Nat.le_of_ble_eq_true rfl, Nat.le_of_ble_eq_true rfl⟩)) (fun r9 h => ?_)
    refine lv_imul hx hb dX5_charge_33 ?_
    refine lv_goto (tgt := 38) hx hb dX5_charge_34 (by decide) ?_
    exact W.iret (v := (r6 * r9)) hx hb hr (fun t ht hW => ⟨⟨(r6 * r9), (I2, F3), rfl, h, by show va_P _ _ _ t.heap; rw [ht]; exact hP⟩, hS.F ht⟩) hS.2.2 dX5_charge_38

theorem iX5_charges_X5 : ∀ w ∈ wsX50, w ∈ wsX5_charges := by decide +kernel
def bX5_charges_11 (post : Int32 → (Nat → Int32) → (Nat → Nat → Int32) → Prop) : Nat → (Nat → Int32) → (Nat → Nat → Int32) → Int32 → Int32 → Int32 → Int32 → Int32 → Prop
  | 0 => fun _ _ _ _ _ _ _ => False
  | n + 1 => fun I F x1 x2 x3 x4 x5 => vp_in x1 6 ∧ (((F 3 (Int32.toNatClampNeg x1)) < x5 → post (x4 / (1000 : Int32)) I F) ∧ (¬ (F 3 (Int32.toNatClampNeg x1)) < x5 → ((x2 ≤ x5 → post (x4 / (1000 : Int32)) I F) ∧ (¬ x2 ≤ x5 → wX5_charge I F x1 x5 x3 (fun r4 I5 F6 => ∀ v7 : Int32, v7 = (x4 + r4) → ∀ v8 : Int32, v8 = x5 + (1 : Int32) → bX5_charges_11 post n I5 F6 x1 x2 x3 v7 v8)))))
def wX5_charges (I : Nat → Int32) (F : Nat → Nat → Int32) (x1 x2 x3 : Int32) (post : Int32 → (Nat → Int32) → (Nat → Nat → Int32) → Prop) : Prop := vp_in x1 6 ∧ ∀ v10 : Int32, v10 = (F 2 (Int32.toNatClampNeg x1)) → ∃ n11 : Nat, bX5_charges_11 post n11 I F x1 x2 x3 (0 : Int32) v10
set_option maxHeartbeats 4000000 in
set_option maxRecDepth 100000 in
theorem sX5_charges_11 {p : Program} {l : Launch} {e : Env} {s : State} {m : MethodId} {args : Array Value} {below : List Frame} {meth : Method} {c : Code} {dC : Nat → ClassId} {dI : Nat → Nat → Nat} {cI : ClassId} {ad : Nat → Nat} {A : Nat → Prop} (C : Cx p s m args meth c cX5_charges 6 (some .int) RX5 wsX5_charges) (hK : va_K (dC, dI) vwCl [(cI, .int)] s) (hN : NW s) (hD : ∀ I F, va_D A (wM cI ad I F)) (hA : ∀ q : Nat, s.heap.size ≤ q → A q) (post : Int32 → (Nat → Int32) → (Nat → Nat → Int32) → Prop) : ∀ (n : Nat) (I : Nat → Int32) (F : Nat → Nat → Int32) (x1 x2 x3 x4 x5 : Int32), bX5_charges_11 post n I F x1 x2 x3 x4 x5 → ∀ (H : Heap) (locs : List Loc), va_P (dC, dI) vwCl (wM cI ad I F) H → va_S A s.heap H locs → ∀ (ls : Array Slot), lv_has ls 6 [(0, .ref (ad 0)), (1, .int x1), (2, .int x2), (3, .int x3), (4, .int x4), (5, .int x5)] → W p l e { frames := 3, cells := 0, slots := 0, locals := 70 } s m args below meth c H locs 0 0 (MQ below (QWi dC dI (wM cI ad) post A) args s 0 0 A) (F0 m 11 ls []) := by
  obtain ⟨hx, hb, hml, hown, hts, hr, hlocks⟩ := id C
  intro n
  induction n with
  | zero =>
    intro I F x1 x2 x3 x4 x5 h H locs hP hS ls hl
    exact h.elim
  | succ n ih =>
    intro I F x1 x2 x3 x4 x5 h H locs hP hS ls hl
    unfold bX5_charges_11 at h
    refine lv_iload hx hb dX5_charges_11 (lv_at hl 5 rfl) ?_
    refine lv_aload_n hx hb dX5_charges_13 rfl (lv_at hl 0 rfl) ?_
    refine va_get (D := (dC, dI)) (ci := 5) (v := .ref (ad 3)) (C := RX5) (T := TX5) (N := 31) hx hb hts iX5_charges_X5 hown hK hP 0 rfl rfl 5 (by decide) (hts (.fieldLink RX5 16 "CarrierBooksModel" "last" "[I") (by decide +kernel)) (fun _ h9 => h9) rfl dX5_charges_14 ?_
    refine lv_iload_n hx hb dX5_charges_17 rfl (lv_at hl 1 rfl) ?_
    obtain ⟨hin1, h⟩ := h
    refine va_iald hx hb hK hP 3 0 rfl rfl hin1 dX5_charges_18 ?_
    refine lv_icmp_gt (tgt := 47) hx hb dX5_charges_19 (by decide) (fun c2 => ?_) (fun c2 => ?_)
    · have h := h.1 c2
      refine lv_iload hx hb dX5_charges_47 (lv_at hl 4 rfl) ?_
      refine lv_sipush (v := (1000 : Int32)) hx hb dX5_charges_49 (by decide) ?_
      refine lv_idiv hx hb dX5_charges_52 (by decide) ?_
      exact W.iret (v := (x4 / (1000 : Int32))) hx hb hr (fun t ht hW => ⟨⟨(x4 / (1000 : Int32)), (I, F), rfl, h, by show va_P _ _ _ t.heap; rw [ht]; exact hP⟩, hS.F ht⟩) hS.2.2 dX5_charges_53
    · have h := h.2 c2
      refine lv_iload hx hb dX5_charges_22 (lv_at hl 5 rfl) ?_
      refine lv_iload_n hx hb dX5_charges_24 rfl (lv_at hl 2 rfl) ?_
      refine lv_icmp_ge (tgt := 47) hx hb dX5_charges_25 (by decide) (fun c3 => ?_) (fun c3 => ?_)
      · have h := h.1 c3
        refine lv_iload hx hb dX5_charges_47 (lv_at hl 4 rfl) ?_
        refine lv_sipush (v := (1000 : Int32)) hx hb dX5_charges_49 (by decide) ?_
        refine lv_idiv hx hb dX5_charges_52 (by decide) ?_
        exact W.iret (v := (x4 / (1000 : Int32))) hx hb hr (fun t ht hW => ⟨⟨(x4 / (1000 : Int32)), (I, F), rfl, h, by show va_P _ _ _ t.heap; rw [ht]; exact hP⟩, hS.F ht⟩) hS.2.2 dX5_charges_53
      · have h := h.2 c3
        refine lv_iload hx hb dX5_charges_28 (lv_at hl 4 rfl) ?_
        refine lv_aload_n hx hb dX5_charges_30 rfl (lv_at hl 0 rfl) ?_
        refine lv_iload_n hx hb dX5_charges_31 rfl (lv_at hl 1 rfl) ?_
        refine lv_iload hx hb dX5_charges_32 (lv_at hl 5 rfl) ?_
        refine lv_iload_n hx hb dX5_charges_34 rfl (lv_at hl 3 rfl) ?_
        refine wcall_i (va_runV (As := [.int x1, .int x5, .int x3]) (rest := [.int x4]) ⟨hx, hb, hml, hown, hts⟩ (cTX5_charge l dC dI cI ad I F H.size x1 x5 x3 _ h) (cwV 3 hts gX5_charges_X5_charge rfl rfl rfl (by decide +kernel) ⟨Nat.le_of_ble_eq_true rfl, Nat.le_of_ble_eq_true rfl⟩) (pv_W hP hK hN ((hD _ _).weaken (fun _ _ _ _ => trivial)) 0 5 rfl rfl _) rfl rfl hl.1 rfl (lv_room (Nat.le_of_ble_eq_true rfl)) dX5_charges_35 ⟨Nat.le_of_ble_eq_true rfl, Nat.le_of_ble_eq_true rfl⟩) hD hS hA (fun r4 I5 F6 h H locs hP hS => ?_)
        refine lv_iadd hx hb dX5_charges_38 ?_
        refine lv_topi (fun v7 ev7 => ?_)
        have h := h v7 ev7
        refine lv_istore (lv' := [(4, .int v7), (0, .ref (ad 0)), (1, .int x1), (2, .int x2), (3, .int x3), (5, .int x5)]) hx hb dX5_charges_39 hl (by decide) rfl (fun ls hl => ?_)
        obtain ⟨v8, ev8⟩ : ∃ y : Int32, y = x5 + (1 : Int32) := ⟨_, rfl⟩
        have h := h v8 ev8
        refine lv_iinc (v := v8) (lv' := [(5, .int v8), (4, .int v7), (0, .ref (ad 0)), (1, .int x1), (2, .int x2), (3, .int x3)]) hx hb dX5_charges_41 hl (k := 5) rfl (by rw [ev8]; rfl) (by decide) rfl (fun ls hl => ?_)
        refine lv_goto (tgt := 11) hx hb dX5_charges_44 (by decide) ?_
        exact ih I5 F6 x1 x2 x3 v7 v8 h H locs hP hS ls (lv_sub hl [2, 3, 4, 5, 1, 0] rfl)
set_option maxHeartbeats 4000000 in
set_option maxRecDepth 100000 in
theorem cTX5_charges (l : Launch) (dC : Nat → ClassId) (dI : Nat → Nat → Nat) (cI : ClassId) (ad : Nat → Nat) (I : Nat → Int32) (F : Nat → Nat → Int32) (sz : Nat) (x1 x2 x3 : Int32) (post : Int32 → (Nat → Int32) → (Nat → Nat → Int32) → Prop) (h : wX5_charges I F x1 x2 x3 post) : Met l yX5_charges wsX5_charges { frames := 3, cells := 0, slots := 0, locals := 70 } (va_Pc [.ref (ad 0), .int x1, .int x2, .int x3] (PWw dC dI cI (wM cI ad) I F sz)) (QWi dC dI (wM cI ad) post (va_A (wM cI ad I F) sz)) 0 0 (va_A (wM cI ad I F) sz) := by
  refine Met.ofW (cc := cX5_charges) (maxL := 6) (ret := (some .int)) (by decide) rfl ?_
  intro p e s m args below meth c s₁ B hml hv
  obtain ⟨rfl, hsz, ⟨hP, hK, hN⟩, hD0⟩ := hv
  subst hsz
  have hD := wD_any (wM_fix cI ad) (hD0.self (sz := s.heap.size))
  generalize hAe : va_A (wM cI ad I F) s.heap.size = A at hD ⊢
  have hA : ∀ q : Nat, s.heap.size ≤ q → A q := fun q h => by rw [← hAe]; exact Or.inr h
  clear hAe hD0
  have hx := B.exec
  have hb := B.bytes
  have hr := B.returns
  have hts := atoms_spec (ws := wsX5_charges) B.pre
  have hown : s.vm.findClass RX5 = some m.cls := findClass_of_methodNamed B.named
  have hlocks := B.notSynchronized
  have C : Cx p s m _ meth c cX5_charges 6 (some .int) RX5 wsX5_charges := ⟨hx, hb, hml, hown, hts, hr, hlocks⟩
  have hS : va_S A s.heap s.heap [] := va_S.rf
  have hl := lv_entry ([.ref (ad 0), .int x1, .int x2, .int x3]) (n := 6) (Nat.le_of_ble_eq_true rfl)
  rw [lg_entry_eq]
  generalize (lg_sl ([.ref (ad 0), .int x1, .int x2, .int x3]) ++ List.replicate (6 - (lg_sl ([.ref (ad 0), .int x1, .int x2, .int x3])).length) Slot.unset).toArray = ls at hl ⊢
  have hl : lv_has ls 6 [(0, .ref (ad 0)), (1, .int x1), (2, .int x2), (3, .int x3)] := hl
  unfold wX5_charges at h
  refine lv_iconst (v := (0 : Int32)) hx hb dX5_charges_0 (by decide) ?_
  refine lv_istore (lv' := [(4, .int (0 : Int32)), (0, .ref (ad 0)), (1, .int x1), (2, .int x2), (3, .int x3)]) hx hb dX5_charges_1 hl (by decide) rfl (fun ls hl => ?_)
  refine lv_aload_n hx hb dX5_charges_3 rfl (lv_at hl 1 rfl) ?_
  refine va_get (D := (dC, dI)) (ci := 5) (v := .ref (ad 2)) (C := RX5) (T := TX5) (N := 31) hx hb hts iX5_charges_X5 hown hK hP 0 rfl rfl 4 (by decide) (hts (.fieldLink RX5 13 "CarrierBooksModel" "start" "[I") (by decide +kernel)) (fun _ h9 => h9) rfl dX5_charges_4 ?_
  refine lv_iload_n hx hb dX5_charges_7 rfl (lv_at hl 2 rfl) ?_
  obtain ⟨hin9, h⟩ := h
  refine va_iald hx hb hK hP 2 0 rfl rfl hin9 dX5_charges_8 ?_
  refine lv_topi (fun v10 ev10 => ?_)
  have h := h v10 ev10
  refine lv_istore (lv' := [(5, .int v10), (4, .int (0 : Int32)), (0, .ref (ad 0)), (1, .int x1), (2, .int x2), (3, .int x3)]) hx hb dX5_charges_9 hl (by decide) rfl (fun ls hl => ?_)
  obtain ⟨n9, h⟩ := h
  exact sX5_charges_11 C hK hN hD hA post n9 I F x1 x2 x3 (0 : Int32) v10 h s.heap [] hP hS ls (lv_sub hl [2, 3, 4, 5, 1, 0] rfl)

theorem iX5_drafted_X5 : ∀ w ∈ wsX50, w ∈ wsX5_drafted := by decide +kernel
def bX5_drafted_59 (post : (Nat → Int32) → (Nat → Nat → Int32) → Prop) (I : Nat → Int32) (F : Nat → Nat → Int32) (y0 y1 : Int32) : Prop := vp_in y1 3 ∧ ∀ F1 : Nat → Nat → Int32, F1 = va_up F 15 (upd (F 15) (Int32.toNatClampNeg y1) y0) → ∀ v3 : Int32, v3 = ((I 5) + (1 : Int32)) → ∀ I4 : Nat → Int32, I4 = va_up I 5 v3 → post I4 F1
def bX5_drafted_40 (post : (Nat → Int32) → (Nat → Nat → Int32) → Prop) (I : Nat → Int32) (F : Nat → Nat → Int32) (x1 y0 y1 : Int32) : Prop := vp_in y1 3 ∧ ∀ F5 : Nat → Nat → Int32, F5 = va_up F 14 (upd (F 14) (Int32.toNatClampNeg y1) y0) → ((x1 ≤ (0 : Int32) → bX5_drafted_59 post I F5 (-x1) (I 5)) ∧ (¬ x1 ≤ (0 : Int32) → bX5_drafted_59 post I F5 x1 (I 5)))
def bX5_drafted_22 (post : (Nat → Int32) → (Nat → Nat → Int32) → Prop) (I : Nat → Int32) (F : Nat → Nat → Int32) (x1 x2 x3 y0 y1 : Int32) : Prop := vp_in y1 3 ∧ ∀ F8 : Nat → Nat → Int32, F8 = va_up F 13 (upd (F 13) (Int32.toNatClampNeg y1) y0) → ((x1 ≤ (0 : Int32) → bX5_drafted_40 post I F8 x1 x2 (I 5)) ∧ (¬ x1 ≤ (0 : Int32) → bX5_drafted_40 post I F8 x1 x3 (I 5)))
def wX5_drafted (I : Nat → Int32) (F : Nat → Nat → Int32) (x1 x2 x3 : Int32) (post : (Nat → Int32) → (Nat → Nat → Int32) → Prop) : Prop := ((¬ x1 = (0 : Int32) → ((x1 ≤ (0 : Int32) → bX5_drafted_22 post I F x1 x2 x3 x3 (I 5)) ∧ (¬ x1 ≤ (0 : Int32) → bX5_drafted_22 post I F x1 x2 x3 x2 (I 5)))) ∧ (x1 = (0 : Int32) → post I F))
set_option maxHeartbeats 4000000 in
set_option maxRecDepth 100000 in
theorem sX5_drafted_59 {p : Program} {l : Launch} {e : Env} {s : State} {m : MethodId} {args : Array Value} {below : List Frame} {meth : Method} {c : Code} {dC : Nat → ClassId} {dI : Nat → Nat → Nat} {cI : ClassId} {ad : Nat → Nat} {A : Nat → Prop} (C : Cx p s m args meth c cX5_drafted 4 none RX5 wsX5_drafted) (hK : va_K (dC, dI) vwCl [(cI, .int)] s) (hN : NW s) (hD : ∀ I F, va_D A (wM cI ad I F)) (hA : ∀ q : Nat, s.heap.size ≤ q → A q) (post : (Nat → Int32) → (Nat → Nat → Int32) → Prop) : ∀ (I : Nat → Int32) (F : Nat → Nat → Int32) (y0 y1 : Int32), bX5_drafted_59 post I F y0 y1 → ∀ (H : Heap) (locs : List Loc), va_P (dC, dI) vwCl (wM cI ad I F) H → va_S A s.heap H locs → ∀ (ls : Array Slot), lv_has ls 4 [(0, .ref (ad 0))] → W p l e { frames := 0, cells := 0, slots := 0, locals := 0 } s m args below meth c H locs 0 0 (MQ below (QWv dC dI (wM cI ad) post A) args s 0 0 A) (F0 m 59 ls [.int y0, .int y1, .ref (ad 15)]) := by
  obtain ⟨hx, hb, hml, hown, hts, hr, hlocks⟩ := id C
  intro I F y0 y1 h H locs hP hS ls hl
  unfold bX5_drafted_59 at h
  obtain ⟨hin2, h⟩ := h
  refine ast_w (wf := wM cI ad) hx hb hK hP hD hS 15 15 rfl hin2 rfl dX5_drafted_59 (fun F1 eF1 H locs hP hS => ?_)
  have h := h F1 eF1
  refine lv_aload_n hx hb dX5_drafted_60 rfl (lv_at hl 0 rfl) ?_
  refine lv_dup hx hb dX5_drafted_61 rfl ?_
  refine va_get (D := (dC, dI)) (ci := 5) (v := .int (I 5)) (C := RX5) (T := TX5) (N := 31) hx hb hts iX5_drafted_X5 hown hK hP 0 rfl rfl 17 (by decide) (hts (.fieldLink RX5 138 "CarrierBooksModel" "drafts" "I") (by decide +kernel)) (fun _ h9 => h9) rfl dX5_drafted_62 ?_
  refine lv_iconst (v := (1 : Int32)) hx hb dX5_drafted_65 (by decide) ?_
  refine lv_iadd hx hb dX5_drafted_66 ?_
  refine lv_topi (fun v3 ev3 => ?_)
  have h := h v3 ev3
  refine put_w (wf := wM cI ad) (ci := 5) (C := RX5) (T := TX5) (N := 31) hx hb hts iX5_drafted_X5 tyX5 tyX5_ok nmX5 hown hK hP hD hS 0 rfl rfl 17 (by decide) (hts (.fieldLink RX5 138 "CarrierBooksModel" "drafts" "I") (by decide +kernel)) (fun _ h9 => h9) rfl 5 (by decide +kernel) (Nat.le_of_ble_eq_true rfl) rfl dX5_drafted_67 (fun I4 eI4 H locs hP hS => ?_)
  have h := h I4 eI4
  exact W.vret hx hb hr (fun t ht hW => ⟨⟨(I4, F1), rfl, h, by show va_P _ _ _ t.heap; rw [ht]; exact hP⟩, hS.F ht⟩) hS.2.2 dX5_drafted_70
set_option maxHeartbeats 4000000 in
set_option maxRecDepth 100000 in
theorem sX5_drafted_40 {p : Program} {l : Launch} {e : Env} {s : State} {m : MethodId} {args : Array Value} {below : List Frame} {meth : Method} {c : Code} {dC : Nat → ClassId} {dI : Nat → Nat → Nat} {cI : ClassId} {ad : Nat → Nat} {A : Nat → Prop} (C : Cx p s m args meth c cX5_drafted 4 none RX5 wsX5_drafted) (hK : va_K (dC, dI) vwCl [(cI, .int)] s) (hN : NW s) (hD : ∀ I F, va_D A (wM cI ad I F)) (hA : ∀ q : Nat, s.heap.size ≤ q → A q) (post : (Nat → Int32) → (Nat → Nat → Int32) → Prop) : ∀ (I : Nat → Int32) (F : Nat → Nat → Int32) (x1 y0 y1 : Int32), bX5_drafted_40 post I F x1 y0 y1 → ∀ (H : Heap) (locs : List Loc), va_P (dC, dI) vwCl (wM cI ad I F) H → va_S A s.heap H locs → ∀ (ls : Array Slot), lv_has ls 4 [(0, .ref (ad 0)), (1, .int x1)] → W p l e { frames := 0, cells := 0, slots := 0, locals := 0 } s m args below meth c H locs 0 0 (MQ below (QWv dC dI (wM cI ad) post A) args s 0 0 A) (F0 m 40 ls [.int y0, .int y1, .ref (ad 14)]) := by
  obtain ⟨hx, hb, hml, hown, hts, hr, hlocks⟩ := id C
  intro I F x1 y0 y1 h H locs hP hS ls hl
  unfold bX5_drafted_40 at h
  obtain ⟨hin6, h⟩ := h
  refine ast_w (wf := wM cI ad) hx hb hK hP hD hS 14 14 rfl hin6 rfl dX5_drafted_40 (fun F5 eF5 H locs hP hS => ?_)
  have h := h F5 eF5
  refine lv_aload_n hx hb dX5_drafted_41 rfl (lv_at hl 0 rfl) ?_
  refine va_get (D := (dC, dI)) (ci := 5) (v := .ref (ad 15)) (C := RX5) (T := TX5) (N := 31) hx hb hts iX5_drafted_X5 hown hK hP 0 rfl rfl 20 (by decide) (hts (.fieldLink RX5 52 "CarrierBooksModel" "draftAmount" "[I") (by decide +kernel)) (fun _ h9 => h9) rfl dX5_drafted_42 ?_
  refine lv_aload_n hx hb dX5_drafted_45 rfl (lv_at hl 0 rfl) ?_
  refine va_get (D := (dC, dI)) (ci := 5) (v := .int (I 5)) (C := RX5) (T := TX5) (N := 31) hx hb hts iX5_drafted_X5 hown hK hP 0 rfl rfl 17 (by decide) (hts (.fieldLink RX5 138 "CarrierBooksModel" "drafts" "I") (by decide +kernel)) (fun _ h9 => h9) rfl dX5_drafted_46 ?_
  refine lv_iload_n hx hb dX5_drafted_49 rfl (lv_at hl 1 rfl) ?_
  refine lv_if_le (tgt := 57) hx hb dX5_drafted_50 (by decide) (fun c7 => ?_) (fun c7 => ?_)
  · have h := h.1 c7
    refine lv_iload_n hx hb dX5_drafted_57 rfl (lv_at hl 1 rfl) ?_
    refine lv_ineg hx hb dX5_drafted_58 ?_
    exact sX5_drafted_59 C hK hN hD hA post I F5 (-x1) (I 5) h H locs hP hS ls (lv_sub hl [0] rfl)
  · have h := h.2 c7
    refine lv_iload_n hx hb dX5_drafted_53 rfl (lv_at hl 1 rfl) ?_
    refine lv_goto (tgt := 59) hx hb dX5_drafted_54 (by decide) ?_
    exact sX5_drafted_59 C hK hN hD hA post I F5 x1 (I 5) h H locs hP hS ls (lv_sub hl [0] rfl)
set_option maxHeartbeats 4000000 in
set_option maxRecDepth 100000 in
theorem sX5_drafted_22 {p : Program} {l : Launch} {e : Env} {s : State} {m : MethodId} {args : Array Value} {below : List Frame} {meth : Method} {c : Code} {dC : Nat → ClassId} {dI : Nat → Nat → Nat} {cI : ClassId} {ad : Nat → Nat} {A : Nat → Prop} (C : Cx p s m args meth c cX5_drafted 4 none RX5 wsX5_drafted) (hK : va_K (dC, dI) vwCl [(cI, .int)] s) (hN : NW s) (hD : ∀ I F, va_D A (wM cI ad I F)) (hA : ∀ q : Nat, s.heap.size ≤ q → A q) (post : (Nat → Int32) → (Nat → Nat → Int32) → Prop) : ∀ (I : Nat → Int32) (F : Nat → Nat → Int32) (x1 x2 x3 y0 y1 : Int32), bX5_drafted_22 post I F x1 x2 x3 y0 y1 → ∀ (H : Heap) (locs : List Loc), va_P (dC, dI) vwCl (wM cI ad I F) H → va_S A s.heap H locs → ∀ (ls : Array Slot), lv_has ls 4 [(0, .ref (ad 0)), (1, .int x1), (2, .int x2), (3, .int x3)] → W p l e { frames := 0, cells := 0, slots := 0, locals := 0 } s m args below meth c H locs 0 0 (MQ below (QWv dC dI (wM cI ad) post A) args s 0 0 A) (F0 m 22 ls [.int y0, .int y1, .ref (ad 13)]) := by
  obtain ⟨hx, hb, hml, hown, hts, hr, hlocks⟩ := id C
  intro I F x1 x2 x3 y0 y1 h H locs hP hS ls hl
  unfold bX5_drafted_22 at h
  obtain ⟨hin9, h⟩ := h
  refine ast_w (wf := wM cI ad) hx hb hK hP hD hS 13 13 rfl hin9 rfl dX5_drafted_22 (fun F8 eF8 H locs hP hS => ?_)
  have h := h F8 eF8
  refine lv_aload_n hx hb dX5_drafted_23 rfl (lv_at hl 0 rfl) ?_
  refine va_get (D := (dC, dI)) (ci := 5) (v := .ref (ad 14)) (C := RX5) (T := TX5) (N := 31) hx hb hts iX5_drafted_X5 hown hK hP 0 rfl rfl 19 (by decide) (hts (.fieldLink RX5 49 "CarrierBooksModel" "draftTo" "[I") (by decide +kernel)) (fun _ h9 => h9) rfl dX5_drafted_24 ?_
  refine lv_aload_n hx hb dX5_drafted_27 rfl (lv_at hl 0 rfl) ?_
  refine va_get (D := (dC, dI)) (ci := 5) (v := .int (I 5)) (C := RX5) (T := TX5) (N := 31) hx hb hts iX5_drafted_X5 hown hK hP 0 rfl rfl 17 (by decide) (hts (.fieldLink RX5 138 "CarrierBooksModel" "drafts" "I") (by decide +kernel)) (fun _ h9 => h9) rfl dX5_drafted_28 ?_
  refine lv_iload_n hx hb dX5_drafted_31 rfl (lv_at hl 1 rfl) ?_
  refine lv_if_le (tgt := 39) hx hb dX5_drafted_32 (by decide) (fun c10 => ?_) (fun c10 => ?_)
  · have h := h.1 c10
    refine lv_iload_n hx hb dX5_drafted_39 rfl (lv_at hl 2 rfl) ?_
    exact sX5_drafted_40 C hK hN hD hA post I F8 x1 x2 (I 5) h H locs hP hS ls (lv_sub hl [0, 1] rfl)
  · have h := h.2 c10
    refine lv_iload_n hx hb dX5_drafted_35 rfl (lv_at hl 3 rfl) ?_
    refine lv_goto (tgt := 40) hx hb dX5_drafted_36 (by decide) ?_
    exact sX5_drafted_40 C hK hN hD hA post I F8 x1 x3 (I 5) h H locs hP hS ls (lv_sub hl [0, 1] rfl)
set_option maxHeartbeats 4000000 in
set_option maxRecDepth 100000 in
theorem cTX5_drafted (l : Launch) (dC : Nat → ClassId) (dI : Nat → Nat → Nat) (cI : ClassId) (ad : Nat → Nat) (I : Nat → Int32) (F : Nat → Nat → Int32) (sz : Nat) (x1 x2 x3 : Int32) (post : (Nat → Int32) → (Nat → Nat → Int32) → Prop) (h : wX5_drafted I F x1 x2 x3 post) : Met l yX5_drafted wsX5_drafted { frames := 0, cells := 0, slots := 0, locals := 0 } (va_Pc [.ref (ad 0), .int x1, .int x2, .int x3] (PWw dC dI cI (wM cI ad) I F sz)) (QWv dC dI (wM cI ad) post (va_A (wM cI ad I F) sz)) 0 0 (va_A (wM cI ad I F) sz) := by
  refine Met.ofW (cc := cX5_drafted) (maxL := 4) (ret := none) (by decide) rfl ?_
  intro p e s m args below meth c s₁ B hml hv
  obtain ⟨rfl, hsz, ⟨hP, hK, hN⟩, hD0⟩ := hv
  subst hsz
  have hD := wD_any (wM_fix cI ad) (hD0.self (sz := s.heap.size))
  generalize hAe : va_A (wM cI ad I F) s.heap.size = A at hD ⊢
  have hA : ∀ q : Nat, s.heap.size ≤ q → A q := fun q h => by rw [← hAe]; exact Or.inr h
  clear hAe hD0
  have hx := B.exec
  have hb := B.bytes
  have hr := B.returns
  have hts := atoms_spec (ws := wsX5_drafted) B.pre
  have hown : s.vm.findClass RX5 = some m.cls := findClass_of_methodNamed B.named
  have hlocks := B.notSynchronized
  have C : Cx p s m _ meth c cX5_drafted 4 none RX5 wsX5_drafted := ⟨hx, hb, hml, hown, hts, hr, hlocks⟩
  have hS : va_S A s.heap s.heap [] := va_S.rf
  have hl := lv_entry ([.ref (ad 0), .int x1, .int x2, .int x3]) (n := 4) (Nat.le_of_ble_eq_true rfl)
  rw [lg_entry_eq]
  generalize (lg_sl ([.ref (ad 0), .int x1, .int x2, .int x3]) ++ List.replicate (4 - (lg_sl ([.ref (ad 0), .int x1, .int x2, .int x3])).length) Slot.unset).toArray = ls at hl ⊢
  have hl : lv_has ls 4 [(0, .ref (ad 0)), (1, .int x1), (2, .int x2), (3, .int x3)] := hl
  unfold wX5_drafted at h
  refine lv_iload_n hx hb dX5_drafted_0 rfl (lv_at hl 1 rfl) ?_
  refine lv_if_ne (tgt := 5) hx hb dX5_drafted_1 (by decide) (fun c11 => ?_) (fun c11 => ?_)
  · have h := h.1 c11
    refine lv_aload_n hx hb dX5_drafted_5 rfl (lv_at hl 0 rfl) ?_
    refine va_get (D := (dC, dI)) (ci := 5) (v := .ref (ad 13)) (C := RX5) (T := TX5) (N := 31) hx hb hts iX5_drafted_X5 hown hK hP 0 rfl rfl 18 (by decide) (hts (.fieldLink RX5 46 "CarrierBooksModel" "draftFrom" "[I") (by decide +kernel)) (fun _ h9 => h9) rfl dX5_drafted_6 ?_
    refine lv_aload_n hx hb dX5_drafted_9 rfl (lv_at hl 0 rfl) ?_
    refine va_get (D := (dC, dI)) (ci := 5) (v := .int (I 5)) (C := RX5) (T := TX5) (N := 31) hx hb hts iX5_drafted_X5 hown hK hP 0 rfl rfl 17 (by decide) (hts (.fieldLink RX5 138 "CarrierBooksModel" "drafts" "I") (by decide +kernel)) (fun _ h9 => h9) rfl dX5_drafted_10 ?_
    refine lv_iload_n hx hb dX5_drafted_13 rfl (lv_at hl 1 rfl) ?_
    refine lv_if_le (tgt := 21) hx hb dX5_drafted_14 (by decide) (fun c12 => ?_) (fun c12 => ?_)
    · have h := h.1 c12
      refine lv_iload_n hx hb dX5_drafted_21 rfl (lv_at hl 3 rfl) ?_
      exact sX5_drafted_22 C hK hN hD hA post I F x1 x2 x3 x3 (I 5) h s.heap [] hP hS ls (lv_sub hl [0, 1, 2, 3] rfl)
    · have h := h.2 c12
      refine lv_iload_n hx hb dX5_drafted_17 rfl (lv_at hl 2 rfl) ?_
      refine lv_goto (tgt := 22) hx hb dX5_drafted_18 (by decide) ?_
      exact sX5_drafted_22 C hK hN hD hA post I F x1 x2 x3 x2 (I 5) h s.heap [] hP hS ls (lv_sub hl [0, 1, 2, 3] rfl)
  · have h := h.2 c11
    exact W.vret hx hb hr (fun t ht hW => ⟨⟨(I, F), rfl, h, by show va_P _ _ _ t.heap; rw [ht]; exact hP⟩, hS.F ht⟩) hS.2.2 dX5_drafted_4

theorem iX5_posts_X5 : ∀ w ∈ wsX50, w ∈ wsX5_posts := by decide +kernel
def bX5_posts_18 (post : Int32 → (Nat → Int32) → (Nat → Nat → Int32) → Prop) : Nat → (Nat → Int32) → (Nat → Nat → Int32) → Int32 → Prop
  | 0 => fun _ _ _ => False
  | n + 1 => fun I F x1 => (((I 5) ≤ x1 → post (1 : Int32) I F) ∧ (¬ (I 5) ≤ x1 → vp_in x1 3 ∧ ∀ v3 : Int32, v3 = (F 13 (Int32.toNatClampNeg x1)) → vp_in (I 4) 90 ∧ ∀ F4 : Nat → Nat → Int32, F4 = va_up F 10 (upd (F 10) (Int32.toNatClampNeg (I 4)) v3) → vp_in x1 3 ∧ ∀ v7 : Int32, v7 = (F4 14 (Int32.toNatClampNeg x1)) → vp_in (I 4) 90 ∧ ∀ F8 : Nat → Nat → Int32, F8 = va_up F4 11 (upd (F4 11) (Int32.toNatClampNeg (I 4)) v7) → vp_in x1 3 ∧ ∀ v11 : Int32, v11 = (F8 15 (Int32.toNatClampNeg x1)) → vp_in (I 4) 90 ∧ ∀ F12 : Nat → Nat → Int32, F12 = va_up F8 12 (upd (F8 12) (Int32.toNatClampNeg (I 4)) v11) → ∀ v14 : Int32, v14 = ((I 4) + (1 : Int32)) → ∀ I15 : Nat → Int32, I15 = va_up I 4 v14 → ∀ v16 : Int32, v16 = x1 + (1 : Int32) → bX5_posts_18 post n I15 F12 v16))
def wX5_posts (I : Nat → Int32) (F : Nat → Nat → Int32) (post : Int32 → (Nat → Int32) → (Nat → Nat → Int32) → Prop) : Prop := ((((I 4) + (I 5)) ≤ (90 : Int32) → ∃ n18 : Nat, bX5_posts_18 post n18 I F (0 : Int32)) ∧ (¬ ((I 4) + (I 5)) ≤ (90 : Int32) → post (0 : Int32) I F))
set_option maxHeartbeats 4000000 in
set_option maxRecDepth 100000 in
theorem sX5_posts_18 {p : Program} {l : Launch} {e : Env} {s : State} {m : MethodId} {args : Array Value} {below : List Frame} {meth : Method} {c : Code} {dC : Nat → ClassId} {dI : Nat → Nat → Nat} {cI : ClassId} {ad : Nat → Nat} {A : Nat → Prop} (C : Cx p s m args meth c cX5_posts 2 (some .boolean) RX5 wsX5_posts) (hK : va_K (dC, dI) vwCl [(cI, .int)] s) (hN : NW s) (hD : ∀ I F, va_D A (wM cI ad I F)) (hA : ∀ q : Nat, s.heap.size ≤ q → A q) (post : Int32 → (Nat → Int32) → (Nat → Nat → Int32) → Prop) : ∀ (n : Nat) (I : Nat → Int32) (F : Nat → Nat → Int32) (x1 : Int32), bX5_posts_18 post n I F x1 → ∀ (H : Heap) (locs : List Loc), va_P (dC, dI) vwCl (wM cI ad I F) H → va_S A s.heap H locs → ∀ (ls : Array Slot), lv_has ls 2 [(0, .ref (ad 0)), (1, .int x1)] → W p l e { frames := 0, cells := 0, slots := 0, locals := 0 } s m args below meth c H locs 0 0 (MQ below (QWi dC dI (wM cI ad) post A) args s 0 0 A) (F0 m 18 ls []) := by
  obtain ⟨hx, hb, hml, hown, hts, hr, hlocks⟩ := id C
  intro n
  induction n with
  | zero =>
    intro I F x1 h H locs hP hS ls hl
    exact h.elim
  | succ n ih =>
    intro I F x1 h H locs hP hS ls hl
    unfold bX5_posts_18 at h
    refine lv_iload_n hx hb dX5_posts_18 rfl (lv_at hl 1 rfl) ?_
    refine lv_aload_n hx hb dX5_posts_19 rfl (lv_at hl 0 rfl) ?_
    refine va_get (D := (dC, dI)) (ci := 5) (v := .int (I 5)) (C := RX5) (T := TX5) (N := 31) hx hb hts iX5_posts_X5 hown hK hP 0 rfl rfl 17 (by decide) (hts (.fieldLink RX5 138 "CarrierBooksModel" "drafts" "I") (by decide +kernel)) (fun _ h9 => h9) rfl dX5_posts_20 ?_
    refine lv_icmp_ge (tgt := 87) hx hb dX5_posts_23 (by decide) (fun c1 => ?_) (fun c1 => ?_)
    · have h := h.1 c1
      refine lv_iconst (v := (1 : Int32)) hx hb dX5_posts_87 (by decide) ?_
      exact W.zret (v := (1 : Int32)) hx hb hr rfl (fun t ht hW => ⟨⟨(1 : Int32), (I, F), rfl, h, by show va_P _ _ _ t.heap; rw [ht]; exact hP⟩, hS.F ht⟩) hS.2.2 dX5_posts_88
    · have h := h.2 c1
      refine lv_aload_n hx hb dX5_posts_26 rfl (lv_at hl 0 rfl) ?_
      refine va_get (D := (dC, dI)) (ci := 5) (v := .ref (ad 10)) (C := RX5) (T := TX5) (N := 31) hx hb hts iX5_posts_X5 hown hK hP 0 rfl rfl 14 (by decide) (hts (.fieldLink RX5 37 "CarrierBooksModel" "source" "[I") (by decide +kernel)) (fun _ h9 => h9) rfl dX5_posts_27 ?_
      refine lv_aload_n hx hb dX5_posts_30 rfl (lv_at hl 0 rfl) ?_
      refine va_get (D := (dC, dI)) (ci := 5) (v := .int (I 4)) (C := RX5) (T := TX5) (N := 31) hx hb hts iX5_posts_X5 hown hK hP 0 rfl rfl 13 (by decide) (hts (.fieldLink RX5 141 "CarrierBooksModel" "postings" "I") (by decide +kernel)) (fun _ h9 => h9) rfl dX5_posts_31 ?_
      refine lv_aload_n hx hb dX5_posts_34 rfl (lv_at hl 0 rfl) ?_
      refine va_get (D := (dC, dI)) (ci := 5) (v := .ref (ad 13)) (C := RX5) (T := TX5) (N := 31) hx hb hts iX5_posts_X5 hown hK hP 0 rfl rfl 18 (by decide) (hts (.fieldLink RX5 46 "CarrierBooksModel" "draftFrom" "[I") (by decide +kernel)) (fun _ h9 => h9) rfl dX5_posts_35 ?_
      refine lv_iload_n hx hb dX5_posts_38 rfl (lv_at hl 1 rfl) ?_
      obtain ⟨hin2, h⟩ := h
      refine va_iald hx hb hK hP 13 0 rfl rfl hin2 dX5_posts_39 ?_
      refine lv_topi (fun v3 ev3 => ?_)
      have h := h v3 ev3
      obtain ⟨hin5, h⟩ := h
      refine ast_w (wf := wM cI ad) hx hb hK hP hD hS 10 10 rfl hin5 rfl dX5_posts_40 (fun F4 eF4 H locs hP hS => ?_)
      have h := h F4 eF4
      refine lv_aload_n hx hb dX5_posts_41 rfl (lv_at hl 0 rfl) ?_
      refine va_get (D := (dC, dI)) (ci := 5) (v := .ref (ad 11)) (C := RX5) (T := TX5) (N := 31) hx hb hts iX5_posts_X5 hown hK hP 0 rfl rfl 15 (by decide) (hts (.fieldLink RX5 40 "CarrierBooksModel" "target" "[I") (by decide +kernel)) (fun _ h9 => h9) rfl dX5_posts_42 ?_
      refine lv_aload_n hx hb dX5_posts_45 rfl (lv_at hl 0 rfl) ?_
      refine va_get (D := (dC, dI)) (ci := 5) (v := .int (I 4)) (C := RX5) (T := TX5) (N := 31) hx hb hts iX5_posts_X5 hown hK hP 0 rfl rfl 13 (by decide) (hts (.fieldLink RX5 141 "CarrierBooksModel" "postings" "I") (by decide +kernel)) (fun _ h9 => h9) rfl dX5_posts_46 ?_
      refine lv_aload_n hx hb dX5_posts_49 rfl (lv_at hl 0 rfl) ?_
      refine va_get (D := (dC, dI)) (ci := 5) (v := .ref (ad 14)) (C := RX5) (T := TX5) (N := 31) hx hb hts iX5_posts_X5 hown hK hP 0 rfl rfl 19 (by decide) (hts (.fieldLink RX5 49 "CarrierBooksModel" "draftTo" "[I") (by decide +kernel)) (fun _ h9 => h9) rfl dX5_posts_50 ?_
      refine lv_iload_n hx hb dX5_posts_53 rfl (lv_at hl 1 rfl) ?_
      obtain ⟨hin6, h⟩ := h
      refine va_iald hx hb hK hP 14 0 rfl rfl hin6 dX5_posts_54 ?_
      refine lv_topi (fun v7 ev7 => ?_)
      have h := h v7 ev7
      obtain ⟨hin9, h⟩ := h
      refine ast_w (wf := wM cI ad) hx hb hK hP hD hS 11 11 rfl hin9 rfl dX5_posts_55 (fun F8 eF8 H locs hP hS => ?_)
      have h := h F8 eF8
      refine lv_aload_n hx hb dX5_posts_56 rfl (lv_at hl 0 rfl) ?_
      refine va_get (D := (dC, dI)) (ci := 5) (v := .ref (ad 12)) (C := RX5) (T := TX5) (N := 31) hx hb hts iX5_posts_X5 hown hK hP 0 rfl rfl 16 (by decide) (hts (.fieldLink RX5 43 "CarrierBooksModel" "amount" "[I") (by decide +kernel)) (fun _ h9 => h9) rfl dX5_posts_57 ?_
      refine lv_aload_n hx hb dX5_posts_60 rfl (lv_at hl 0 rfl) ?_
      refine va_get (D := (dC, dI)) (ci := 5) (v := .int (I 4)) (C := RX5) (T := TX5) (N := 31) hx hb hts iX5_posts_X5 hown hK hP 0 rfl rfl 13 (by decide) (hts (.fieldLink RX5 141 "CarrierBooksModel" "postings" "I") (by decide +kernel)) (fun _ h9 => h9) rfl dX5_posts_61 ?_
      refine lv_aload_n hx hb dX5_posts_64 rfl (lv_at hl 0 rfl) ?_
      refine va_get (D := (dC, dI)) (ci := 5) (v := .ref (ad 15)) (C := RX5) (T := TX5) (N := 31) hx hb hts iX5_posts_X5 hown hK hP 0 rfl rfl 20 (by decide) (hts (.fieldLink RX5 52 "CarrierBooksModel" "draftAmount" "[I") (by decide +kernel)) (fun _ h9 => h9) rfl dX5_posts_65 ?_
      refine lv_iload_n hx hb dX5_posts_68 rfl (lv_at hl 1 rfl) ?_
      obtain ⟨hin10, h⟩ := h
      refine va_iald hx hb hK hP 15 0 rfl rfl hin10 dX5_posts_69 ?_
      refine lv_topi (fun v11 ev11 => ?_)
      have h := h v11 ev11
      obtain ⟨hin13, h⟩ := h
      refine ast_w (wf := wM cI ad) hx hb hK hP hD hS 12 12 rfl hin13 rfl dX5_posts_70 (fun F12 eF12 H locs hP hS => ?_)
      have h := h F12 eF12
      refine lv_aload_n hx hb dX5_posts_71 rfl (lv_at hl 0 rfl) ?_
      refine lv_dup hx hb dX5_posts_72 rfl ?_
      refine va_get (D := (dC, dI)) (ci := 5) (v := .int (I 4)) (C := RX5) (T := TX5) (N := 31) hx hb hts iX5_posts_X5 hown hK hP 0 rfl rfl 13 (by decide) (hts (.fieldLink RX5 141 "CarrierBooksModel" "postings" "I") (by decide +kernel)) (fun _ h9 => h9) rfl dX5_posts_73 ?_
      refine lv_iconst (v := (1 : Int32)) hx hb dX5_posts_76 (by decide) ?_
      refine lv_iadd hx hb dX5_posts_77 ?_
      refine lv_topi (fun v14 ev14 => ?_)
      have h := h v14 ev14
      refine put_w (wf := wM cI ad) (ci := 5) (C := RX5) (T := TX5) (N := 31) hx hb hts iX5_posts_X5 tyX5 tyX5_ok nmX5 hown hK hP hD hS 0 rfl rfl 13 (by decide) (hts (.fieldLink RX5 141 "CarrierBooksModel" "postings" "I") (by decide +kernel)) (fun _ h9 => h9) rfl 4 (by decide +kernel) (Nat.le_of_ble_eq_true rfl) rfl dX5_posts_78 (fun I15 eI15 H locs hP hS => ?_)
      have h := h I15 eI15
      obtain ⟨v16, ev16⟩ : ∃ y : Int32, y = x1 + (1 : Int32) := ⟨_, rfl⟩
      have h := h v16 ev16
      refine lv_iinc (v := v16) (lv' := [(1, .int v16), (0, .ref (ad 0))]) hx hb dX5_posts_81 hl (k := 1) rfl (by rw [ev16]; rfl) (by decide) rfl (fun ls hl => ?_)
      refine lv_goto (tgt := 18) hx hb dX5_posts_84 (by decide) ?_
      exact ih I15 F12 v16 h H locs hP hS ls (lv_sub hl [1, 0] rfl)
set_option maxHeartbeats 4000000 in
set_option maxRecDepth 100000 in
theorem cTX5_posts (l : Launch) (dC : Nat → ClassId) (dI : Nat → Nat → Nat) (cI : ClassId) (ad : Nat → Nat) (I : Nat → Int32) (F : Nat → Nat → Int32) (sz : Nat) (post : Int32 → (Nat → Int32) → (Nat → Nat → Int32) → Prop) (h : wX5_posts I F post) : Met l yX5_posts wsX5_posts { frames := 0, cells := 0, slots := 0, locals := 0 } (va_Pc [.ref (ad 0)] (PWw dC dI cI (wM cI ad) I F sz)) (QWi dC dI (wM cI ad) post (va_A (wM cI ad I F) sz)) 0 0 (va_A (wM cI ad I F) sz) := by
  refine Met.ofW (cc := cX5_posts) (maxL := 2) (ret := (some .boolean)) (by decide) rfl ?_
  intro p e s m args below meth c s₁ B hml hv
  obtain ⟨rfl, hsz, ⟨hP, hK, hN⟩, hD0⟩ := hv
  subst hsz
  have hD := wD_any (wM_fix cI ad) (hD0.self (sz := s.heap.size))
  generalize hAe : va_A (wM cI ad I F) s.heap.size = A at hD ⊢
  have hA : ∀ q : Nat, s.heap.size ≤ q → A q := fun q h => by rw [← hAe]; exact Or.inr h
  clear hAe hD0
  have hx := B.exec
  have hb := B.bytes
  have hr := B.returns
  have hts := atoms_spec (ws := wsX5_posts) B.pre
  have hown : s.vm.findClass RX5 = some m.cls := findClass_of_methodNamed B.named
  have hlocks := B.notSynchronized
  have C : Cx p s m _ meth c cX5_posts 2 (some .boolean) RX5 wsX5_posts := ⟨hx, hb, hml, hown, hts, hr, hlocks⟩
  have hS : va_S A s.heap s.heap [] := va_S.rf
  have hl := lv_entry ([.ref (ad 0)]) (n := 2) (Nat.le_of_ble_eq_true rfl)
  rw [lg_entry_eq]
  generalize (lg_sl ([.ref (ad 0)]) ++ List.replicate (2 - (lg_sl ([.ref (ad 0)])).length) Slot.unset).toArray = ls at hl ⊢
  have hl : lv_has ls 2 [(0, .ref (ad 0))] := hl
  unfold wX5_posts at h
  refine lv_aload_n hx hb dX5_posts_0 rfl (lv_at hl 0 rfl) ?_
  refine va_get (D := (dC, dI)) (ci := 5) (v := .int (I 4)) (C := RX5) (T := TX5) (N := 31) hx hb hts iX5_posts_X5 hown hK hP 0 rfl rfl 13 (by decide) (hts (.fieldLink RX5 141 "CarrierBooksModel" "postings" "I") (by decide +kernel)) (fun _ h9 => h9) rfl dX5_posts_1 ?_
  refine lv_aload_n hx hb dX5_posts_4 rfl (lv_at hl 0 rfl) ?_
  refine va_get (D := (dC, dI)) (ci := 5) (v := .int (I 5)) (C := RX5) (T := TX5) (N := 31) hx hb hts iX5_posts_X5 hown hK hP 0 rfl rfl 17 (by decide) (hts (.fieldLink RX5 138 "CarrierBooksModel" "drafts" "I") (by decide +kernel)) (fun _ h9 => h9) rfl dX5_posts_5 ?_
  refine lv_iadd hx hb dX5_posts_8 ?_
  refine lv_bipush (v := (90 : Int32)) hx hb dX5_posts_9 (by decide) ?_
  refine lv_icmp_le (tgt := 16) hx hb dX5_posts_11 (by decide) (fun c17 => ?_) (fun c17 => ?_)
  · have h := h.1 c17
    refine lv_iconst (v := (0 : Int32)) hx hb dX5_posts_16 (by decide) ?_
    refine lv_istore_n (lv' := [(1, .int (0 : Int32)), (0, .ref (ad 0))]) hx hb dX5_posts_17 rfl hl (by decide) rfl (fun ls hl => ?_)
    obtain ⟨n9, h⟩ := h
    exact sX5_posts_18 C hK hN hD hA post n9 I F (0 : Int32) h s.heap [] hP hS ls (lv_sub hl [1, 0] rfl)
  · have h := h.2 c17
    refine lv_iconst (v := (0 : Int32)) hx hb dX5_posts_14 (by decide) ?_
    exact W.zret (v := (0 : Int32)) hx hb hr rfl (fun t ht hW => ⟨⟨(0 : Int32), (I, F), rfl, h, by show va_P _ _ _ t.heap; rw [ht]; exact hP⟩, hS.F ht⟩) hS.2.2 dX5_posts_15
