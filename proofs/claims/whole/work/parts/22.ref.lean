theorem iX5_books_X5 : ∀ w ∈ wsX50, w ∈ wsX5_books := by decide +kernel
def bX5_books_99 (post : Int32 → (Nat → Int32) → (Nat → Nat → Int32) → Prop) (I : Nat → Int32) (F : Nat → Nat → Int32) : Prop := wX5_posts I F (fun r1 I2 F3 => ((r1 = (0 : Int32) → ∀ v5 : Int32, v5 = ((I2 3) - (1 : Int32)) → ∀ I6 : Nat → Int32, I6 = va_up I2 3 v5 → post (-1 : Int32) I6 F3) ∧ (¬ r1 = (0 : Int32) → post ((I2 3) - (1 : Int32)) I2 F3)))
def wX5_books (I : Nat → Int32) (F : Nat → Nat → Int32) (x1 : Int32) (post : Int32 → (Nat → Int32) → (Nat → Nat → Int32) → Prop) : Prop := vp_in (I 3) 40 ∧ ∀ v8 : Int32, v8 = (F 5 (Int32.toNatClampNeg (I 3))) → ∀ v9 : Int32, v9 = ((I 3) + (1 : Int32)) → ∀ I10 : Nat → Int32, I10 = va_up I 3 v9 → wX5_charges I10 F v8 (1000 : Int32) ((I10 3) - (1 : Int32)) (fun r11 I12 F13 => wX5_charges I12 F13 v8 (1000 : Int32) ((I12 3) - (2 : Int32)) (fun r14 I15 F16 => ∀ v17 : Int32, v17 = (r11 - r14) → ∀ I18 : Nat → Int32, I18 = va_up I15 5 (0 : Int32) → wX5_drafted I18 F16 v17 (0 : Int32) (1 : Int32) (fun I20 F21 => wX5_down (v17 * (I20 6)) (100 : Int32) (fun r22 => wX5_drafted I20 F21 r22 (3 : Int32) (2 : Int32) (fun I24 F25 => ((x1 = (0 : Int32) → bX5_books_99 post I24 F25) ∧ (¬ x1 = (0 : Int32) → (((0 : Int32) ≤ v17 → bX5_books_99 post I24 F25) ∧ (¬ (0 : Int32) ≤ v17 → wX5_drafted I24 F25 ((-v17) / (10 : Int32)) (6 : Int32) (1 : Int32) (fun I29 F30 => bX5_books_99 post I29 F30))))))))))
set_option maxHeartbeats 4000000 in
set_option maxRecDepth 100000 in
theorem sX5_books_99 {p : Program} {l : Launch} {e : Env} {s : State} {m : MethodId} {args : Array Value} {below : List Frame} {meth : Method} {c : Code} {dC : Nat → ClassId} {dI : Nat → Nat → Nat} {cI : ClassId} {ad : Nat → Nat} {A : Nat → Prop} (C : Cx p s m args meth c cX5_books 4 (some .int) RX5 wsX5_books) (hK : va_K (dC, dI) vwCl [(cI, .int)] s) (hN : NW s) (hD : ∀ I F, va_D A (wM cI ad I F)) (hA : ∀ q : Nat, s.heap.size ≤ q → A q) (post : Int32 → (Nat → Int32) → (Nat → Nat → Int32) → Prop) : ∀ (I : Nat → Int32) (F : Nat → Nat → Int32) , bX5_books_99 post I F → ∀ (H : Heap) (locs : List Loc), va_P (dC, dI) vwCl (wM cI ad I F) H → va_S A s.heap H locs → ∀ (ls : Array Slot), lv_has ls 4 [(0, .ref (ad 0))] → W p l e { frames := 4, cells := 0, slots := 0, locals := 95 } s m args below meth c H locs 0 0 (MQ below (QWi dC dI (wM cI ad) post A) args s 0 0 A) (F0 m 99 ls []) := by
  obtain ⟨hx, hb, hml, hown, hts, hr, hlocks⟩ := id C
  intro I F h H locs hP hS ls hl
  unfold bX5_books_99 at h
  refine lv_aload_n hx hb dX5_books_99 rfl (lv_at hl 0 rfl) ?_
  refine wcall_i (va_runV (As := []) (rest := []) ⟨hx, hb, hml, hown, hts⟩ (cTX5_posts l dC dI cI ad I F H.size _ h) (cwV 0 hts gX5_books_X5_posts rfl rfl rfl (by decide +kernel) ⟨Nat.le_of_ble_eq_true rfl, Nat.le_of_ble_eq_true rfl⟩) (pv_W hP hK hN ((hD _ _).weaken (fun _ _ _ _ => trivial)) 0 5 rfl rfl _) rfl rfl hl.1 rfl (lv_room (Nat.le_of_ble_eq_true rfl)) dX5_books_100 ⟨Nat.le_of_ble_eq_true rfl, Nat.le_of_ble_eq_true rfl⟩) hD hS hA (fun r1 I2 F3 h H locs hP hS => ?_)
  refine lv_if_eq (tgt := 113) hx hb dX5_books_103 (by decide) (fun c4 => ?_) (fun c4 => ?_)
  · have h := h.1 c4
    refine lv_aload_n hx hb dX5_books_113 rfl (lv_at hl 0 rfl) ?_
    refine lv_dup hx hb dX5_books_114 rfl ?_
    refine va_get (D := (dC, dI)) (ci := 5) (v := .int (I2 3)) (C := RX5) (T := TX5) (N := 31) hx hb hts iX5_books_X5 hown hK hP 0 rfl rfl 6 (by decide) (hts (.fieldLink RX5 110 "CarrierBooksModel" "bookings" "I") (by decide +kernel)) (fun _ h9 => h9) rfl dX5_books_115 ?_
    refine lv_iconst (v := (1 : Int32)) hx hb dX5_books_118 (by decide) ?_
    refine lv_isub hx hb dX5_books_119 ?_
    refine lv_topi (fun v5 ev5 => ?_)
    have h := h v5 ev5
    refine put_w (wf := wM cI ad) (ci := 5) (C := RX5) (T := TX5) (N := 31) hx hb hts iX5_books_X5 tyX5 tyX5_ok nmX5 hown hK hP hD hS 0 rfl rfl 6 (by decide) (hts (.fieldLink RX5 110 "CarrierBooksModel" "bookings" "I") (by decide +kernel)) (fun _ h9 => h9) rfl 3 (by decide +kernel) (Nat.le_of_ble_eq_true rfl) rfl dX5_books_120 (fun I6 eI6 H locs hP hS => ?_)
    have h := h I6 eI6
    refine lv_iconst (v := (-1 : Int32)) hx hb dX5_books_123 (by decide) ?_
    exact W.iret (v := (-1 : Int32)) hx hb hr (fun t ht hW => ⟨⟨(-1 : Int32), (I6, F3), rfl, h, by show va_P _ _ _ t.heap; rw [ht]; exact hP⟩, hS.F ht⟩) hS.2.2 dX5_books_124
  · have h := h.2 c4
    refine lv_aload_n hx hb dX5_books_106 rfl (lv_at hl 0 rfl) ?_
    refine va_get (D := (dC, dI)) (ci := 5) (v := .int (I2 3)) (C := RX5) (T := TX5) (N := 31) hx hb hts iX5_books_X5 hown hK hP 0 rfl rfl 6 (by decide) (hts (.fieldLink RX5 110 "CarrierBooksModel" "bookings" "I") (by decide +kernel)) (fun _ h9 => h9) rfl dX5_books_107 ?_
    refine lv_iconst (v := (1 : Int32)) hx hb dX5_books_110 (by decide) ?_
    refine lv_isub hx hb dX5_books_111 ?_
    exact W.iret (v := ((I2 3) - (1 : Int32))) hx hb hr (fun t ht hW => ⟨⟨((I2 3) - (1 : Int32)), (I2, F3), rfl, h, by show va_P _ _ _ t.heap; rw [ht]; exact hP⟩, hS.F ht⟩) hS.2.2 dX5_books_112
set_option maxHeartbeats 4000000 in
set_option maxRecDepth 100000 in
theorem cTX5_books (l : Launch) (dC : Nat → ClassId) (dI : Nat → Nat → Nat) (cI : ClassId) (ad : Nat → Nat) (I : Nat → Int32) (F : Nat → Nat → Int32) (sz : Nat) (x1 : Int32) (post : Int32 → (Nat → Int32) → (Nat → Nat → Int32) → Prop) (h : wX5_books I F x1 post) : Met l yX5_books wsX5_books { frames := 4, cells := 0, slots := 0, locals := 95 } (va_Pc [.ref (ad 0), .int x1] (PWw dC dI cI (wM cI ad) I F sz)) (QWi dC dI (wM cI ad) post (va_A (wM cI ad I F) sz)) 0 0 (va_A (wM cI ad I F) sz) := by
  refine Met.ofW (cc := cX5_books) (maxL := 4) (ret := (some .int)) (by decide) rfl ?_
  intro p e s m args below meth c s₁ B hml hv
  obtain ⟨rfl, hsz, ⟨hP, hK, hN⟩, hD0⟩ := hv
  subst hsz
  have hD := wD_any (wM_fix cI ad) (hD0.self (sz := s.heap.size))
  generalize hAe : va_A (wM cI ad I F) s.heap.size = A at hD ⊢
  have hA : ∀ q : Nat, s.heap.size ≤ q → A q := fun q h => by rw [← hAe]; exact Or.inr h
  clear hAe hD0
  have hx := B.exec
  have hb := B.bytes
  have hr := B.returns
  have hts := atoms_spec (ws := wsX5_books) B.pre
  have hown : s.vm.findClass RX5 = some m.cls := findClass_of_methodNamed B.named
  have hlocks := B.notSynchronized
  have C : Cx p s m _ meth c cX5_books 4 (some .int) RX5 wsX5_books := ⟨hx, hb, hml, hown, hts, hr, hlocks⟩
  have hS : va_S A s.heap s.heap [] := va_S.rf
  have hl := lv_entry ([.ref (ad 0), .int x1]) (n := 4) (Nat.le_of_ble_eq_true rfl)
  rw [lg_entry_eq]
  generalize (lg_sl ([.ref (ad 0), .int x1]) ++ List.replicate (4 - (lg_sl ([.ref (ad 0), .int x1])).length) Slot.unset).toArray = ls at hl ⊢
  have hl : lv_has ls 4 [(0, .ref (ad 0)), (1, .int x1)] := hl
  unfold wX5_books at h
  refine lv_aload_n hx hb dX5_books_0 rfl (lv_at hl 0 rfl) ?_
  refine va_get (D := (dC, dI)) (ci := 5) (v := .ref (ad 5)) (C := RX5) (T := TX5) (N := 31) hx hb hts iX5_books_X5 hown hK hP 0 rfl rfl 8 (by decide) (hts (.fieldLink RX5 22 "CarrierBooksModel" "of" "[I") (by decide +kernel)) (fun _ h9 => h9) rfl dX5_books_1 ?_
  refine lv_aload_n hx hb dX5_books_4 rfl (lv_at hl 0 rfl) ?_
  refine va_get (D := (dC, dI)) (ci := 5) (v := .int (I 3)) (C := RX5) (T := TX5) (N := 31) hx hb hts iX5_books_X5 hown hK hP 0 rfl rfl 6 (by decide) (hts (.fieldLink RX5 110 "CarrierBooksModel" "bookings" "I") (by decide +kernel)) (fun _ h9 => h9) rfl dX5_books_5 ?_
  obtain ⟨hin7, h⟩ := h
  refine va_iald hx hb hK hP 5 0 rfl rfl hin7 dX5_books_8 ?_
  refine lv_topi (fun v8 ev8 => ?_)
  have h := h v8 ev8
  refine lv_istore_n (lv' := [(2, .int v8), (0, .ref (ad 0)), (1, .int x1)]) hx hb dX5_books_9 rfl hl (by decide) rfl (fun ls hl => ?_)
  refine lv_aload_n hx hb dX5_books_10 rfl (lv_at hl 1 rfl) ?_
  refine lv_dup hx hb dX5_books_11 rfl ?_
  refine va_get (D := (dC, dI)) (ci := 5) (v := .int (I 3)) (C := RX5) (T := TX5) (N := 31) hx hb hts iX5_books_X5 hown hK hP 0 rfl rfl 6 (by decide) (hts (.fieldLink RX5 110 "CarrierBooksModel" "bookings" "I") (by decide +kernel)) (fun _ h9 => h9) rfl dX5_books_12 ?_
  refine lv_iconst (v := (1 : Int32)) hx hb dX5_books_15 (by decide) ?_
  refine lv_iadd hx hb dX5_books_16 ?_
  refine lv_topi (fun v9 ev9 => ?_)
  have h := h v9 ev9
  refine put_w (wf := wM cI ad) (ci := 5) (C := RX5) (T := TX5) (N := 31) hx hb hts iX5_books_X5 tyX5 tyX5_ok nmX5 hown hK hP hD hS 0 rfl rfl 6 (by decide) (hts (.fieldLink RX5 110 "CarrierBooksModel" "bookings" "I") (by decide +kernel)) (fun _ h9 => h9) rfl 3 (by decide +kernel) (Nat.le_of_ble_eq_true rfl) rfl dX5_books_17 (fun I10 eI10 H locs hP hS => ?_)
  have h := h I10 eI10
  refine lv_aload_n hx hb dX5_books_20 rfl (lv_at hl 1 rfl) ?_
  refine lv_iload_n hx hb dX5_books_21 rfl (lv_at hl 0 rfl) ?_
  refine lv_sipush (v := (1000 : Int32)) hx hb dX5_books_22 (by decide) ?_
  refine lv_aload_n hx hb dX5_books_25 rfl (lv_at hl 1 rfl) ?_
  refine va_get (D := (dC, dI)) (ci := 5) (v := .int (I10 3)) (C := RX5) (T := TX5) (N := 31) hx hb hts iX5_books_X5 hown hK hP 0 rfl rfl 6 (by decide) (hts (.fieldLink RX5 110 "CarrierBooksModel" "bookings" "I") (by decide +kernel)) (fun _ h9 => h9) rfl dX5_books_26 ?_
  refine lv_iconst (v := (1 : Int32)) hx hb dX5_books_29 (by decide) ?_
  refine lv_isub hx hb dX5_books_30 ?_
  refine wcall_i (va_runV (As := [.int v8, .int (1000 : Int32), .int ((I10 3) - (1 : Int32))]) (rest := []) ⟨hx, hb, hml, hown, hts⟩ (cTX5_charges l dC dI cI ad I10 F H.size v8 (1000 : Int32) ((I10 3) - (1 : Int32)) _ h) (cwV 3 hts gX5_books_X5_charges rfl rfl rfl (by decide +kernel) ⟨Nat.le_of_ble_eq_true rfl, Nat.le_of_ble_eq_true rfl⟩) (pv_W hP hK hN ((hD _ _).weaken (fun _ _ _ _ => trivial)) 0 5 rfl rfl _) rfl rfl hl.1 rfl (lv_room (Nat.le_of_ble_eq_true rfl)) dX5_books_31 ⟨Nat.le_of_ble_eq_true rfl, Nat.le_of_ble_eq_true rfl⟩) hD hS hA (fun r11 I12 F13 h H locs hP hS => ?_)
  refine lv_aload_n hx hb dX5_books_34 rfl (lv_at hl 1 rfl) ?_
  refine lv_iload_n hx hb dX5_books_35 rfl (lv_at hl 0 rfl) ?_
  refine lv_sipush (v := (1000 : Int32)) hx hb dX5_books_36 (by decide) ?_
  refine lv_aload_n hx hb dX5_books_39 rfl (lv_at hl 1 rfl) ?_
  refine va_get (D := (dC, dI)) (ci := 5) (v := .int (I12 3)) (C := RX5) (T := TX5) (N := 31) hx hb hts iX5_books_X5 hown hK hP 0 rfl rfl 6 (by decide) (hts (.fieldLink RX5 110 "CarrierBooksModel" "bookings" "I") (by decide +kernel)) (fun _ h9 => h9) rfl dX5_books_40 ?_
  refine lv_iconst (v := (2 : Int32)) hx hb dX5_books_43 (by decide) ?_
  refine lv_isub hx hb dX5_books_44 ?_
  refine wcall_i (va_runV (As := [.int v8, .int (1000 : Int32), .int ((I12 3) - (2 : Int32))]) (rest := [.int r11]) ⟨hx, hb, hml, hown, hts⟩ (cTX5_charges l dC dI cI ad I12 F13 H.size v8 (1000 : Int32) ((I12 3) - (2 : Int32)) _ h) (cwV 3 hts gX5_books_X5_charges rfl rfl rfl (by decide +kernel) ⟨Nat.le_of_ble_eq_true rfl, Nat.le_of_ble_eq_true rfl⟩) (pv_W hP hK hN ((hD _ _).weaken (fun _ _ _ _ => trivial)) 0 5 rfl rfl _) rfl rfl hl.1 rfl (lv_room (Nat.le_of_ble_eq_true rfl)) dX5_books_45 ⟨Nat.le_of_ble_eq_true rfl, Nat.le_of_ble_eq_true rfl⟩) hD hS hA (fun r14 I15 F16 h H locs hP hS => ?_)
  refine lv_isub hx hb dX5_books_48 ?_
  refine lv_topi (fun v17 ev17 => ?_)
  have h := h v17 ev17
  refine lv_istore_n (lv' := [(3, .int v17), (2, .int v8), (0, .ref (ad 0)), (1, .int x1)]) hx hb dX5_books_49 rfl hl (by decide) rfl (fun ls hl => ?_)
  refine lv_aload_n hx hb dX5_books_50 rfl (lv_at hl 2 rfl) ?_
  refine lv_iconst (v := (0 : Int32)) hx hb dX5_books_51 (by decide) ?_
  refine put_w (wf := wM cI ad) (ci := 5) (C := RX5) (T := TX5) (N := 31) hx hb hts iX5_books_X5 tyX5 tyX5_ok nmX5 hown hK hP hD hS 0 rfl rfl 17 (by decide) (hts (.fieldLink RX5 138 "CarrierBooksModel" "drafts" "I") (by decide +kernel)) (fun _ h9 => h9) rfl 5 (by decide +kernel) (Nat.le_of_ble_eq_true rfl) rfl dX5_books_52 (fun I18 eI18 H locs hP hS => ?_)
  have h := h I18 eI18
  refine lv_aload_n hx hb dX5_books_55 rfl (lv_at hl 2 rfl) ?_
  refine lv_iload_n hx hb dX5_books_56 rfl (lv_at hl 0 rfl) ?_
  refine lv_iconst (v := (0 : Int32)) hx hb dX5_books_57 (by decide) ?_
  refine lv_iconst (v := (1 : Int32)) hx hb dX5_books_58 (by decide) ?_
  refine wcall_v (va_runV (As := [.int v17, .int (0 : Int32), .int (1 : Int32)]) (rest := []) ⟨hx, hb, hml, hown, hts⟩ (cTX5_drafted l dC dI cI ad I18 F16 H.size v17 (0 : Int32) (1 : Int32) _ h) (cwV 3 hts gX5_books_X5_drafted rfl rfl rfl (by decide +kernel) ⟨Nat.le_of_ble_eq_true rfl, Nat.le_of_ble_eq_true rfl⟩) (pv_W hP hK hN ((hD _ _).weaken (fun _ _ _ _ => trivial)) 0 5 rfl rfl _) rfl rfl hl.1 rfl (lv_room (Nat.le_of_ble_eq_true rfl)) dX5_books_59 ⟨Nat.le_of_ble_eq_true rfl, Nat.le_of_ble_eq_true rfl⟩) hD hS hA (fun I20 F21 h H locs hP hS => ?_)
  refine lv_aload_n hx hb dX5_books_62 rfl (lv_at hl 2 rfl) ?_
  refine lv_iload_n hx hb dX5_books_63 rfl (lv_at hl 0 rfl) ?_
  refine lv_aload_n hx hb dX5_books_64 rfl (lv_at hl 2 rfl) ?_
  refine va_get (D := (dC, dI)) (ci := 5) (v := .int (I20 6)) (C := RX5) (T := TX5) (N := 31) hx hb hts iX5_books_X5 hown hK hP 0 rfl rfl 21 (by decide) (hts (.fieldLink RX5 92 "CarrierBooksModel" "quota" "I") (by decide +kernel)) (fun _ h9 => h9) rfl dX5_books_65 ?_
  refine lv_imul hx hb dX5_books_68 ?_
  refine lv_bipush (v := (100 : Int32)) hx hb dX5_books_69 (by decide) ?_
  refine vp_callSi (cr_of (va_runS (As := [.int (v17 * (I20 6)), .int (100 : Int32)]) (rest := [.ref (ad 0)]) ⟨hx, hb, hml, hown, hts⟩ (cTX5_down l (v17 * (I20 6)) (100 : Int32) _ h) (va_cwS 2 hts gX5_books_X5_down rfl rfl rfl (by decide +kernel) ⟨Nat.le_of_ble_eq_true rfl, Nat.le_of_ble_eq_true rfl⟩) (pv_S _) rfl rfl hl.1 rfl (lv_room (Nat.le_of_ble_eq_true rfl)) dX5_books_71 ⟨Nat.le_of_ble_eq_true rfl, Nat.le_of_ble_eq_true rfl⟩)) (fun r22 h => ?_)
  refine lv_iconst (v := (3 : Int32)) hx hb dX5_books_74 (by decide) ?_
  refine lv_iconst (v := (2 : Int32)) hx hb dX5_books_75 (by decide) ?_
  refine wcall_v (va_runV (As := [.int r22, .int (3 : Int32), .int (2 : Int32)]) (rest := []) ⟨hx, hb, hml, hown, hts⟩ (cTX5_drafted l dC dI cI ad I20 F21 H.size r22 (3 : Int32) (2 : Int32) _ h) (cwV 3 hts gX5_books_X5_drafted rfl rfl rfl (by decide +kernel) ⟨Nat.le_of_ble_eq_true rfl, Nat.le_of_ble_eq_true rfl⟩) (pv_W hP hK hN ((hD _ _).weaken (fun _ _ _ _ => trivial)) 0 5 rfl rfl _) rfl rfl hl.1 rfl (lv_room (Nat.le_of_ble_eq_true rfl)) dX5_books_76 ⟨Nat.le_of_ble_eq_true rfl, Nat.le_of_ble_eq_true rfl⟩) hD hS hA (fun I24 F25 h H locs hP hS => ?_)
  refine lv_iload_n hx hb dX5_books_79 rfl (lv_at hl 3 rfl) ?_
  refine lv_if_eq (tgt := 99) hx hb dX5_books_80 (by decide) (fun c26 => ?_) (fun c26 => ?_)
  · have h := h.1 c26
    exact sX5_books_99 C hK hN hD hA post I24 F25 h H locs hP hS ls (lv_sub hl [2] rfl)
  · have h := h.2 c26
    refine lv_iload_n hx hb dX5_books_83 rfl (lv_at hl 0 rfl) ?_
    refine lv_if_ge (tgt := 99) hx hb dX5_books_84 (by decide) (fun c27 => ?_) (fun c27 => ?_)
    · have h := h.1 c27
      exact sX5_books_99 C hK hN hD hA post I24 F25 h H locs hP hS ls (lv_sub hl [2] rfl)
    · have h := h.2 c27
      refine lv_aload_n hx hb dX5_books_87 rfl (lv_at hl 2 rfl) ?_
      refine lv_iload_n hx hb dX5_books_88 rfl (lv_at hl 0 rfl) ?_
      refine lv_ineg hx hb dX5_books_89 ?_
      refine lv_bipush (v := (10 : Int32)) hx hb dX5_books_90 (by decide) ?_
      refine lv_idiv hx hb dX5_books_92 (by decide) ?_
      refine lv_bipush (v := (6 : Int32)) hx hb dX5_books_93 (by decide) ?_
      refine lv_iconst (v := (1 : Int32)) hx hb dX5_books_95 (by decide) ?_
      refine wcall_v (va_runV (As := [.int ((-v17) / (10 : Int32)), .int (6 : Int32), .int (1 : Int32)]) (rest := []) ⟨hx, hb, hml, hown, hts⟩ (cTX5_drafted l dC dI cI ad I24 F25 H.size ((-v17) / (10 : Int32)) (6 : Int32) (1 : Int32) _ h) (cwV 3 hts gX5_books_X5_drafted rfl rfl rfl (by decide +kernel) ⟨Nat.le_of_ble_eq_true rfl, Nat.le_of_ble_eq_true rfl⟩) (pv_W hP hK hN ((hD _ _).weaken (fun _ _ _ _ => trivial)) 0 5 rfl rfl _) rfl rfl hl.1 rfl (lv_room (Nat.le_of_ble_eq_true rfl)) dX5_books_96 ⟨Nat.le_of_ble_eq_true rfl, Nat.le_of_ble_eq_true rfl⟩) hD hS hA (fun I29 F30 h H locs hP hS => ?_)
      exact sX5_books_99 C hK hN hD hA post I29 F30 h H locs hP hS ls (lv_sub hl [2] rfl)

theorem iX5_lay_X5 : ∀ w ∈ wsX50, w ∈ wsX5_lay := by decide +kernel
def wX5_lay (I : Nat → Int32) (F : Nat → Nat → Int32) (x1 x2 x3 x4 x5 : Int32) (post : (Nat → Int32) → (Nat → Nat → Int32) → Prop) : Prop := vp_in (I 3) 40 ∧ ∀ F1 : Nat → Nat → Int32, F1 = va_up F 4 (upd (F 4) (Int32.toNatClampNeg (I 3)) x1) → vp_in (I 3) 40 ∧ ∀ F3 : Nat → Nat → Int32, F3 = va_up F1 5 (upd (F1 5) (Int32.toNatClampNeg (I 3)) x2) → vp_in (I 3) 40 ∧ ∀ F5 : Nat → Nat → Int32, F5 = va_up F3 6 (upd (F3 6) (Int32.toNatClampNeg (I 3)) x3) → vp_in (I 3) 40 ∧ ∀ F7 : Nat → Nat → Int32, F7 = va_up F5 7 (upd (F5 7) (Int32.toNatClampNeg (I 3)) x4) → vp_in (I 3) 40 ∧ ∀ F9 : Nat → Nat → Int32, F9 = va_up F7 8 (upd (F7 8) (Int32.toNatClampNeg (I 3)) x5) → post I F9
set_option maxHeartbeats 4000000 in
set_option maxRecDepth 100000 in
theorem cTX5_lay (l : Launch) (dC : Nat → ClassId) (dI : Nat → Nat → Nat) (cI : ClassId) (ad : Nat → Nat) (I : Nat → Int32) (F : Nat → Nat → Int32) (sz : Nat) (x1 x2 x3 x4 x5 : Int32) (post : (Nat → Int32) → (Nat → Nat → Int32) → Prop) (h : wX5_lay I F x1 x2 x3 x4 x5 post) : Met l yX5_lay wsX5_lay { frames := 0, cells := 0, slots := 0, locals := 0 } (va_Pc [.ref (ad 0), .int x1, .int x2, .int x3, .int x4, .int x5] (PWw dC dI cI (wM cI ad) I F sz)) (QWv dC dI (wM cI ad) post (va_A (wM cI ad I F) sz)) 0 0 (va_A (wM cI ad I F) sz) := by
  refine Met.ofW (cc := cX5_lay) (maxL := 6) (ret := none) (by decide) rfl ?_
  intro p e s m args below meth c s₁ B hml hv
  obtain ⟨rfl, hsz, ⟨hP, hK, hN⟩, hD0⟩ := hv
  subst hsz
  have hD := wD_any (wM_fix cI ad) (hD0.self (sz := s.heap.size))
  generalize hAe : va_A (wM cI ad I F) s.heap.size = A at hD ⊢
  have hA : ∀ q : Nat, s.heap.size ≤ q → A q := fun q h => by rw [← hAe]; exact Or.inr h
  clear hAe hD0
  have hx := B.exec
  have hb := B.bytes
  have hr := B.returns
  have hts := atoms_spec (ws := wsX5_lay) B.pre
  have hown : s.vm.findClass RX5 = some m.cls := findClass_of_methodNamed B.named
  have hlocks := B.notSynchronized
  have C : Cx p s m _ meth c cX5_lay 6 none RX5 wsX5_lay := ⟨hx, hb, hml, hown, hts, hr, hlocks⟩
  have hS : va_S A s.heap s.heap [] := va_S.rf
  have hl := lv_entry ([.ref (ad 0), .int x1, .int x2, .int x3, .int x4, .int x5]) (n := 6) (Nat.le_of_ble_eq_true rfl)
  rw [lg_entry_eq]
  generalize (lg_sl ([.ref (ad 0), .int x1, .int x2, .int x3, .int x4, .int x5]) ++ List.replicate (6 - (lg_sl ([.ref (ad 0), .int x1, .int x2, .int x3, .int x4, .int x5])).length) Slot.unset).toArray = ls at hl ⊢
  have hl : lv_has ls 6 [(0, .ref (ad 0)), (1, .int x1), (2, .int x2), (3, .int x3), (4, .int x4), (5, .int x5)] := hl
  unfold wX5_lay at h
  refine lv_aload_n hx hb dX5_lay_0 rfl (lv_at hl 0 rfl) ?_
  refine va_get (D := (dC, dI)) (ci := 5) (v := .ref (ad 4)) (C := RX5) (T := TX5) (N := 31) hx hb hts iX5_lay_X5 hown hK hP 0 rfl rfl 7 (by decide) (hts (.fieldLink RX5 19 "CarrierBooksModel" "kind" "[I") (by decide +kernel)) (fun _ h9 => h9) rfl dX5_lay_1 ?_
  refine lv_aload_n hx hb dX5_lay_4 rfl (lv_at hl 0 rfl) ?_
  refine va_get (D := (dC, dI)) (ci := 5) (v := .int (I 3)) (C := RX5) (T := TX5) (N := 31) hx hb hts iX5_lay_X5 hown hK hP 0 rfl rfl 6 (by decide) (hts (.fieldLink RX5 110 "CarrierBooksModel" "bookings" "I") (by decide +kernel)) (fun _ h9 => h9) rfl dX5_lay_5 ?_
  refine lv_iload_n hx hb dX5_lay_8 rfl (lv_at hl 1 rfl) ?_
  obtain ⟨hin2, h⟩ := h
  refine ast_w (wf := wM cI ad) hx hb hK hP hD hS 4 4 rfl hin2 rfl dX5_lay_9 (fun F1 eF1 H locs hP hS => ?_)
  have h := h F1 eF1
  refine lv_aload_n hx hb dX5_lay_10 rfl (lv_at hl 0 rfl) ?_
  refine va_get (D := (dC, dI)) (ci := 5) (v := .ref (ad 5)) (C := RX5) (T := TX5) (N := 31) hx hb hts iX5_lay_X5 hown hK hP 0 rfl rfl 8 (by decide) (hts (.fieldLink RX5 22 "CarrierBooksModel" "of" "[I") (by decide +kernel)) (fun _ h9 => h9) rfl dX5_lay_11 ?_
  refine lv_aload_n hx hb dX5_lay_14 rfl (lv_at hl 0 rfl) ?_
  refine va_get (D := (dC, dI)) (ci := 5) (v := .int (I 3)) (C := RX5) (T := TX5) (N := 31) hx hb hts iX5_lay_X5 hown hK hP 0 rfl rfl 6 (by decide) (hts (.fieldLink RX5 110 "CarrierBooksModel" "bookings" "I") (by decide +kernel)) (fun _ h9 => h9) rfl dX5_lay_15 ?_
  refine lv_iload_n hx hb dX5_lay_18 rfl (lv_at hl 2 rfl) ?_
  obtain ⟨hin4, h⟩ := h
  refine ast_w (wf := wM cI ad) hx hb hK hP hD hS 5 5 rfl hin4 rfl dX5_lay_19 (fun F3 eF3 H locs hP hS => ?_)
  have h := h F3 eF3
  refine lv_aload_n hx hb dX5_lay_20 rfl (lv_at hl 0 rfl) ?_
  refine va_get (D := (dC, dI)) (ci := 5) (v := .ref (ad 6)) (C := RX5) (T := TX5) (N := 31) hx hb hts iX5_lay_X5 hown hK hP 0 rfl rfl 9 (by decide) (hts (.fieldLink RX5 25 "CarrierBooksModel" "day" "[I") (by decide +kernel)) (fun _ h9 => h9) rfl dX5_lay_21 ?_
  refine lv_aload_n hx hb dX5_lay_24 rfl (lv_at hl 0 rfl) ?_
  refine va_get (D := (dC, dI)) (ci := 5) (v := .int (I 3)) (C := RX5) (T := TX5) (N := 31) hx hb hts iX5_lay_X5 hown hK hP 0 rfl rfl 6 (by decide) (hts (.fieldLink RX5 110 "CarrierBooksModel" "bookings" "I") (by decide +kernel)) (fun _ h9 => h9) rfl dX5_lay_25 ?_
  refine lv_iload_n hx hb dX5_lay_28 rfl (lv_at hl 3 rfl) ?_
  obtain ⟨hin6, h⟩ := h
  refine ast_w (wf := wM cI ad) hx hb hK hP hD hS 6 6 rfl hin6 rfl dX5_lay_29 (fun F5 eF5 H locs hP hS => ?_)
  have h := h F5 eF5
  refine lv_aload_n hx hb dX5_lay_30 rfl (lv_at hl 0 rfl) ?_
  refine va_get (D := (dC, dI)) (ci := 5) (v := .ref (ad 7)) (C := RX5) (T := TX5) (N := 31) hx hb hts iX5_lay_X5 hown hK hP 0 rfl rfl 10 (by decide) (hts (.fieldLink RX5 28 "CarrierBooksModel" "told" "[I") (by decide +kernel)) (fun _ h9 => h9) rfl dX5_lay_31 ?_
  refine lv_aload_n hx hb dX5_lay_34 rfl (lv_at hl 0 rfl) ?_
  refine va_get (D := (dC, dI)) (ci := 5) (v := .int (I 3)) (C := RX5) (T := TX5) (N := 31) hx hb hts iX5_lay_X5 hown hK hP 0 rfl rfl 6 (by decide) (hts (.fieldLink RX5 110 "CarrierBooksModel" "bookings" "I") (by decide +kernel)) (fun _ h9 => h9) rfl dX5_lay_35 ?_
  refine lv_iload hx hb dX5_lay_38 (lv_at hl 4 rfl) ?_
  obtain ⟨hin8, h⟩ := h
  refine ast_w (wf := wM cI ad) hx hb hK hP hD hS 7 7 rfl hin8 rfl dX5_lay_40 (fun F7 eF7 H locs hP hS => ?_)
  have h := h F7 eF7
  refine lv_aload_n hx hb dX5_lay_41 rfl (lv_at hl 0 rfl) ?_
  refine va_get (D := (dC, dI)) (ci := 5) (v := .ref (ad 8)) (C := RX5) (T := TX5) (N := 31) hx hb hts iX5_lay_X5 hown hK hP 0 rfl rfl 11 (by decide) (hts (.fieldLink RX5 31 "CarrierBooksModel" "value" "[I") (by decide +kernel)) (fun _ h9 => h9) rfl dX5_lay_42 ?_
  refine lv_aload_n hx hb dX5_lay_45 rfl (lv_at hl 0 rfl) ?_
  refine va_get (D := (dC, dI)) (ci := 5) (v := .int (I 3)) (C := RX5) (T := TX5) (N := 31) hx hb hts iX5_lay_X5 hown hK hP 0 rfl rfl 6 (by decide) (hts (.fieldLink RX5 110 "CarrierBooksModel" "bookings" "I") (by decide +kernel)) (fun _ h9 => h9) rfl dX5_lay_46 ?_
  refine lv_iload hx hb dX5_lay_49 (lv_at hl 5 rfl) ?_
  obtain ⟨hin10, h⟩ := h
  refine ast_w (wf := wM cI ad) hx hb hK hP hD hS 8 8 rfl hin10 rfl dX5_lay_51 (fun F9 eF9 H locs hP hS => ?_)
  have h := h F9 eF9
  exact W.vret hx hb hr (fun t ht hW => ⟨⟨(I, F9), rfl, h, by show va_P _ _ _ t.heap; rw [ht]; exact hP⟩, hS.F ht⟩) hS.2.2 dX5_lay_52

theorem iX5_bind_X5 : ∀ w ∈ wsX50, w ∈ wsX5_bind := by decide +kernel
def bX5_bind_86 (post : Int32 → (Nat → Int32) → (Nat → Nat → Int32) → Prop) (I : Nat → Int32) (F : Nat → Nat → Int32) (x1 x2 x3 x4 x5 x6 y0 : Int32) : Prop := wX5_fails I F y0 x6 (0 : Int32) (fun r1 I2 F3 => ((r1 = (0 : Int32) → vp_in (I2 2) 6 ∧ ∀ F5 : Nat → Nat → Int32, F5 = va_up F3 2 (upd (F3 2) (Int32.toNatClampNeg (I2 2)) x1) → wX5_least (999 : Int32) ((x1 + x2) - (1 : Int32)) (fun r7 => vp_in (I2 2) 6 ∧ ∀ F8 : Nat → Nat → Int32, F8 = va_up F5 3 (upd (F5 3) (Int32.toNatClampNeg (I2 2)) r7) → wX5_lay I2 F8 (0 : Int32) (I2 2) x1 (0 : Int32) ((((1000000 : Int32) * x3) + ((1000 : Int32) * x4)) + x5) (fun I11 F12 => ∀ v13 : Int32, v13 = ((I11 2) + (1 : Int32)) → ∀ I14 : Nat → Int32, I14 = va_up I11 2 v13 → wX5_books I14 F12 (0 : Int32) (fun r15 I16 F17 => (((0 : Int32) ≤ r15 → post ((I16 2) - (1 : Int32)) I16 F17) ∧ (¬ (0 : Int32) ≤ r15 → ∀ v19 : Int32, v19 = ((I16 2) - (1 : Int32)) → ∀ I20 : Nat → Int32, I20 = va_up I16 2 v19 → ∀ I21 : Nat → Int32, I21 = va_up I20 0 (3 : Int32) → post (0 : Int32) I21 F17)))))) ∧ (¬ r1 = (0 : Int32) → post (0 : Int32) I2 F3)))
def bX5_bind_53 (post : Int32 → (Nat → Int32) → (Nat → Nat → Int32) → Prop) (I : Nat → Int32) (F : Nat → Nat → Int32) (x1 x2 x3 x4 x5 y0 : Int32) : Prop := wX5_flaw I F (fun r22 => (((0 : Int32) ≤ r22 → bX5_bind_86 post I F x1 x2 x3 x4 x5 y0 (1 : Int32)) ∧ (¬ (0 : Int32) ≤ r22 → (((I 2) = (6 : Int32) → bX5_bind_86 post I F x1 x2 x3 x4 x5 y0 (1 : Int32)) ∧ (¬ (I 2) = (6 : Int32) → ((¬ (I 3) = (40 : Int32) → bX5_bind_86 post I F x1 x2 x3 x4 x5 y0 (0 : Int32)) ∧ ((I 3) = (40 : Int32) → bX5_bind_86 post I F x1 x2 x3 x4 x5 y0 (1 : Int32))))))))
def wX5_bind (I : Nat → Int32) (F : Nat → Nat → Int32) (x1 x2 x3 x4 x5 : Int32) (post : Int32 → (Nat → Int32) → (Nat → Nat → Int32) → Prop) : Prop := wX5_outside x1 (0 : Int32) (999 : Int32) (fun r26 => ((¬ r26 = (0 : Int32) → bX5_bind_53 post I F x1 x2 x3 x4 x5 (1 : Int32)) ∧ (r26 = (0 : Int32) → wX5_outside x2 (1 : Int32) (200 : Int32) (fun r28 => ((¬ r28 = (0 : Int32) → bX5_bind_53 post I F x1 x2 x3 x4 x5 (1 : Int32)) ∧ (r28 = (0 : Int32) → wX5_isValue (0 : Int32) x3 (fun r30 => ((r30 = (0 : Int32) → bX5_bind_53 post I F x1 x2 x3 x4 x5 (1 : Int32)) ∧ (¬ r30 = (0 : Int32) → wX5_isValue (1 : Int32) x4 (fun r32 => ((r32 = (0 : Int32) → bX5_bind_53 post I F x1 x2 x3 x4 x5 (1 : Int32)) ∧ (¬ r32 = (0 : Int32) → wX5_isValue (2 : Int32) x5 (fun r34 => ((¬ r34 = (0 : Int32) → bX5_bind_53 post I F x1 x2 x3 x4 x5 (0 : Int32)) ∧ (r34 = (0 : Int32) → bX5_bind_53 post I F x1 x2 x3 x4 x5 (1 : Int32))))))))))))))))
set_option maxHeartbeats 4000000 in
set_option maxRecDepth 100000 in
theorem sX5_bind_86 {p : Program} {l : Launch} {e : Env} {s : State} {m : MethodId} {args : Array Value} {below : List Frame} {meth : Method} {c : Code} {dC : Nat → ClassId} {dI : Nat → Nat → Nat} {cI : ClassId} {ad : Nat → Nat} {A : Nat → Prop} (C : Cx p s m args meth c cX5_bind 7 (some .int) RX5 wsX5_bind) (hK : va_K (dC, dI) vwCl [(cI, .int)] s) (hN : NW s) (hD : ∀ I F, va_D A (wM cI ad I F)) (hA : ∀ q : Nat, s.heap.size ≤ q → A q) (post : Int32 → (Nat → Int32) → (Nat → Nat → Int32) → Prop) : ∀ (I : Nat → Int32) (F : Nat → Nat → Int32) (x1 x2 x3 x4 x5 x6 y0 : Int32), bX5_bind_86 post I F x1 x2 x3 x4 x5 x6 y0 → ∀ (H : Heap) (locs : List Loc), va_P (dC, dI) vwCl (wM cI ad I F) H → va_S A s.heap H locs → ∀ (ls : Array Slot), lv_has ls 7 [(0, .ref (ad 0)), (1, .int x1), (2, .int x2), (3, .int x3), (4, .int x4), (5, .int x5), (6, .int x6)] → W p l e { frames := 5, cells := 0, slots := 0, locals := 118 } s m args below meth c H locs 0 0 (MQ below (QWi dC dI (wM cI ad) post A) args s 0 0 A) (F0 m 86 ls [.int y0, .ref (ad 0)]) := by
  obtain ⟨hx, hb, hml, hown, hts, hr, hlocks⟩ := id C
  intro I F x1 x2 x3 x4 x5 x6 y0 h H locs hP hS ls hl
  unfold bX5_bind_86 at h
  refine lv_iload hx hb dX5_bind_86 (lv_at hl 6 rfl) ?_
  refine lv_iconst (v := (0 : Int32)) hx hb dX5_bind_88 (by decide) ?_
  refine wcall_i (va_runV (As := [.int y0, .int x6, .int (0 : Int32)]) (rest := []) ⟨hx, hb, hml, hown, hts⟩ (cTX5_fails l dC dI cI ad I F H.size y0 x6 (0 : Int32) _ h) (cwV 3 hts gX5_bind_X5_fails rfl rfl rfl (by decide +kernel) ⟨Nat.le_of_ble_eq_true rfl, Nat.le_of_ble_eq_true rfl⟩) (pv_W hP hK hN ((hD _ _).weaken (fun _ _ _ _ => trivial)) 0 5 rfl rfl _) rfl rfl hl.1 rfl (lv_room (Nat.le_of_ble_eq_true rfl)) dX5_bind_89 ⟨Nat.le_of_ble_eq_true rfl, Nat.le_of_ble_eq_true rfl⟩) hD hS hA (fun r1 I2 F3 h H locs hP hS => ?_)
  refine lv_if_eq (tgt := 97) hx hb dX5_bind_92 (by decide) (fun c4 => ?_) (fun c4 => ?_)
  · have h := h.1 c4
    refine lv_aload_n hx hb dX5_bind_97 rfl (lv_at hl 0 rfl) ?_
    refine va_get (D := (dC, dI)) (ci := 5) (v := .ref (ad 2)) (C := RX5) (T := TX5) (N := 31) hx hb hts iX5_bind_X5 hown hK hP 0 rfl rfl 4 (by decide) (hts (.fieldLink RX5 13 "CarrierBooksModel" "start" "[I") (by decide +kernel)) (fun _ h9 => h9) rfl dX5_bind_98 ?_
    refine lv_aload_n hx hb dX5_bind_101 rfl (lv_at hl 0 rfl) ?_
    refine va_get (D := (dC, dI)) (ci := 5) (v := .int (I2 2)) (C := RX5) (T := TX5) (N := 31) hx hb hts iX5_bind_X5 hown hK hP 0 rfl rfl 3 (by decide) (hts (.fieldLink RX5 75 "CarrierBooksModel" "policies" "I") (by decide +kernel)) (fun _ h9 => h9) rfl dX5_bind_102 ?_
    refine lv_iload_n hx hb dX5_bind_105 rfl (lv_at hl 1 rfl) ?_
    obtain ⟨hin6, h⟩ := h
    refine ast_w (wf := wM cI ad) hx hb hK hP hD hS 2 2 rfl hin6 rfl dX5_bind_106 (fun F5 eF5 H locs hP hS => ?_)
    have h := h F5 eF5
    refine lv_aload_n hx hb dX5_bind_107 rfl (lv_at hl 0 rfl) ?_
    refine va_get (D := (dC, dI)) (ci := 5) (v := .ref (ad 3)) (C := RX5) (T := TX5) (N := 31) hx hb hts iX5_bind_X5 hown hK hP 0 rfl rfl 5 (by decide) (hts (.fieldLink RX5 16 "CarrierBooksModel" "last" "[I") (by decide +kernel)) (fun _ h9 => h9) rfl dX5_bind_108 ?_
    refine lv_aload_n hx hb dX5_bind_111 rfl (lv_at hl 0 rfl) ?_
    refine va_get (D := (dC, dI)) (ci := 5) (v := .int (I2 2)) (C := RX5) (T := TX5) (N := 31) hx hb hts iX5_bind_X5 hown hK hP 0 rfl rfl 3 (by decide) (hts (.fieldLink RX5 75 "CarrierBooksModel" "policies" "I") (by decide +kernel)) (fun _ h9 => h9) rfl dX5_bind_112 ?_
    refine lv_sipush (v := (999 : Int32)) hx hb dX5_bind_115 (by decide) ?_
    refine lv_iload_n hx hb dX5_bind_118 rfl (lv_at hl 1 rfl) ?_
    refine lv_iload_n hx hb dX5_bind_119 rfl (lv_at hl 2 rfl) ?_
    refine lv_iadd hx hb dX5_bind_120 ?_
    refine lv_iconst (v := (1 : Int32)) hx hb dX5_bind_121 (by decide) ?_
    refine lv_isub hx hb dX5_bind_122 ?_
    refine vp_callSi (cr_of (va_runS (As := [.int (999 : Int32), .int ((x1 + x2) - (1 : Int32))]) (rest := [.int (I2 2), .ref (ad 3)]) ⟨hx, hb, hml, hown, hts⟩ (cTX5_least l (999 : Int32) ((x1 + x2) - (1 : Int32)) _ h) (va_cwS 2 hts gX5_bind_X5_least rfl rfl rfl (by decide +kernel) ⟨Nat.le_of_ble_eq_true rfl, Nat.le_of_ble_eq_true rfl⟩) (pv_S _) rfl rfl hl.1 rfl (lv_room (Nat.le_of_ble_eq_true rfl)) dX5_bind_123 ⟨Nat.le_of_ble_eq_true rfl, Nat.le_of_ble_eq_true rfl⟩)) (fun r7 h => ?_)
    obtain ⟨hin9, h⟩ := h
    refine ast_w (wf := wM cI ad) hx hb hK hP hD hS 3 3 rfl hin9 rfl dX5_bind_126 (fun F8 eF8 H locs hP hS => ?_)
    have h := h F8 eF8
    refine lv_aload_n hx hb dX5_bind_127 rfl (lv_at hl 0 rfl) ?_
    refine lv_iconst (v := (0 : Int32)) hx hb dX5_bind_128 (by decide) ?_
    refine lv_aload_n hx hb dX5_bind_129 rfl (lv_at hl 0 rfl) ?_
    refine va_get (D := (dC, dI)) (ci := 5) (v := .int (I2 2)) (C := RX5) (T := TX5) (N := 31) hx hb hts iX5_bind_X5 hown hK hP 0 rfl rfl 3 (by decide) (hts (.fieldLink RX5 75 "CarrierBooksModel" "policies" "I") (by decide +kernel)) (fun _ h9 => h9) rfl dX5_bind_130 ?_
    refine lv_iload_n hx hb dX5_bind_133 rfl (lv_at hl 1 rfl) ?_
    refine lv_iconst (v := (0 : Int32)) hx hb dX5_bind_134 (by decide) ?_
    refine lv_ldc (v := (1000000 : Int32)) hx hb hown (hts (.constant RX5 113 1000000) (by decide +kernel)) dX5_bind_135 ?_
    refine lv_iload_n hx hb dX5_bind_137 rfl (lv_at hl 3 rfl) ?_
    refine lv_imul hx hb dX5_bind_138 ?_
    refine lv_sipush (v := (1000 : Int32)) hx hb dX5_bind_139 (by decide) ?_
    refine lv_iload hx hb dX5_bind_142 (lv_at hl 4 rfl) ?_
    refine lv_imul hx hb dX5_bind_144 ?_
    refine lv_iadd hx hb dX5_bind_145 ?_
    refine lv_iload hx hb dX5_bind_146 (lv_at hl 5 rfl) ?_
    refine lv_iadd hx hb dX5_bind_148 ?_
    refine wcall_v (va_runV (As := [.int (0 : Int32), .int (I2 2), .int x1, .int (0 : Int32), .int ((((1000000 : Int32) * x3) + ((1000 : Int32) * x4)) + x5)]) (rest := []) ⟨hx, hb, hml, hown, hts⟩ (cTX5_lay l dC dI cI ad I2 F8 H.size (0 : Int32) (I2 2) x1 (0 : Int32) ((((1000000 : Int32) * x3) + ((1000 : Int32) * x4)) + x5) _ h) (cwV 5 hts gX5_bind_X5_lay rfl rfl rfl (by decide +kernel) ⟨Nat.le_of_ble_eq_true rfl, Nat.le_of_ble_eq_true rfl⟩) (pv_W hP hK hN ((hD _ _).weaken (fun _ _ _ _ => trivial)) 0 5 rfl rfl _) rfl rfl hl.1 rfl (lv_room (Nat.le_of_ble_eq_true rfl)) dX5_bind_149 ⟨Nat.le_of_ble_eq_true rfl, Nat.le_of_ble_eq_true rfl⟩) hD hS hA (fun I11 F12 h H locs hP hS => ?_)
    refine lv_aload_n hx hb dX5_bind_152 rfl (lv_at hl 0 rfl) ?_
    refine lv_dup hx hb dX5_bind_153 rfl ?_
    refine va_get (D := (dC, dI)) (ci := 5) (v := .int (I11 2)) (C := RX5) (T := TX5) (N := 31) hx hb hts iX5_bind_X5 hown hK hP 0 rfl rfl 3 (by decide) (hts (.fieldLink RX5 75 "CarrierBooksModel" "policies" "I") (by decide +kernel)) (fun _ h9 => h9) rfl dX5_bind_154 ?_
    refine lv_iconst (v := (1 : Int32)) hx hb dX5_bind_157 (by decide) ?_
    refine lv_iadd hx hb dX5_bind_158 ?_
    refine lv_topi (fun v13 ev13 => ?_)
    have h := h v13 ev13
    refine put_w (wf := wM cI ad) (ci := 5) (C := RX5) (T := TX5) (N := 31) hx hb hts iX5_bind_X5 tyX5 tyX5_ok nmX5 hown hK hP hD hS 0 rfl rfl 3 (by decide) (hts (.fieldLink RX5 75 "CarrierBooksModel" "policies" "I") (by decide +kernel)) (fun _ h9 => h9) rfl 2 (by decide +kernel) (Nat.le_of_ble_eq_true rfl) rfl dX5_bind_159 (fun I14 eI14 H locs hP hS => ?_)
    have h := h I14 eI14
    refine lv_aload_n hx hb dX5_bind_162 rfl (lv_at hl 0 rfl) ?_
    refine lv_iconst (v := (0 : Int32)) hx hb dX5_bind_163 (by decide) ?_
    refine wcall_i (va_runV (As := [.int (0 : Int32)]) (rest := []) ⟨hx, hb, hml, hown, hts⟩ (cTX5_books l dC dI cI ad I14 F12 H.size (0 : Int32) _ h) (cwV 1 hts gX5_bind_X5_books rfl rfl rfl (by decide +kernel) ⟨Nat.le_of_ble_eq_true rfl, Nat.le_of_ble_eq_true rfl⟩) (pv_W hP hK hN ((hD _ _).weaken (fun _ _ _ _ => trivial)) 0 5 rfl rfl _) rfl rfl hl.1 rfl (lv_room (Nat.le_of_ble_eq_true rfl)) dX5_bind_164 ⟨Nat.le_of_ble_eq_true rfl, Nat.le_of_ble_eq_true rfl⟩) hD hS hA (fun r15 I16 F17 h H locs hP hS => ?_)
    refine lv_if_ge (tgt := 187) hx hb dX5_bind_167 (by decide) (fun c18 => ?_) (fun c18 => ?_)
    · have h := h.1 c18
      refine lv_aload_n hx hb dX5_bind_187 rfl (lv_at hl 0 rfl) ?_
      refine va_get (D := (dC, dI)) (ci := 5) (v := .int (I16 2)) (C := RX5) (T := TX5) (N := 31) hx hb hts iX5_bind_X5 hown hK hP 0 rfl rfl 3 (by decide) (hts (.fieldLink RX5 75 "CarrierBooksModel" "policies" "I") (by decide +kernel)) (fun _ h9 => h9) rfl dX5_bind_188 ?_
      refine lv_iconst (v := (1 : Int32)) hx hb dX5_bind_191 (by decide) ?_
      refine lv_isub hx hb dX5_bind_192 ?_
      exact W.iret (v := ((I16 2) - (1 : Int32))) hx hb hr (fun t ht hW => ⟨⟨((I16 2) - (1 : Int32)), (I16, F17), rfl, h, by show va_P _ _ _ t.heap; rw [ht]; exact hP⟩, hS.F ht⟩) hS.2.2 dX5_bind_193
    · have h := h.2 c18
      refine lv_aload_n hx hb dX5_bind_170 rfl (lv_at hl 0 rfl) ?_
      refine lv_dup hx hb dX5_bind_171 rfl ?_
      refine va_get (D := (dC, dI)) (ci := 5) (v := .int (I16 2)) (C := RX5) (T := TX5) (N := 31) hx hb hts iX5_bind_X5 hown hK hP 0 rfl rfl 3 (by decide) (hts (.fieldLink RX5 75 "CarrierBooksModel" "policies" "I") (by decide +kernel)) (fun _ h9 => h9) rfl dX5_bind_172 ?_
      refine lv_iconst (v := (1 : Int32)) hx hb dX5_bind_175 (by decide) ?_
      refine lv_isub hx hb dX5_bind_176 ?_
      refine lv_topi (fun v19 ev19 => ?_)
      have h := h v19 ev19
      refine put_w (wf := wM cI ad) (ci := 5) (C := RX5) (T := TX5) (N := 31) hx hb hts iX5_bind_X5 tyX5 tyX5_ok nmX5 hown hK hP hD hS 0 rfl rfl 3 (by decide) (hts (.fieldLink RX5 75 "CarrierBooksModel" "policies" "I") (by decide +kernel)) (fun _ h9 => h9) rfl 2 (by decide +kernel) (Nat.le_of_ble_eq_true rfl) rfl dX5_bind_177 (fun I20 eI20 H locs hP hS => ?_)
      have h := h I20 eI20
      refine lv_aload_n hx hb dX5_bind_180 rfl (lv_at hl 0 rfl) ?_
      refine lv_iconst (v := (3 : Int32)) hx hb dX5_bind_181 (by decide) ?_
      refine put_w (wf := wM cI ad) (ci := 5) (C := RX5) (T := TX5) (N := 31) hx hb hts iX5_bind_X5 tyX5 tyX5_ok nmX5 hown hK hP hD hS 0 rfl rfl 0 (by decide) (hts (.fieldLink RX5 68 "CarrierBooksModel" "thrown" "I") (by decide +kernel)) (fun _ h9 => h9) rfl 0 (by decide +kernel) (Nat.le_of_ble_eq_true rfl) rfl dX5_bind_182 (fun I21 eI21 H locs hP hS => ?_)
      have h := h I21 eI21
      refine lv_iconst (v := (0 : Int32)) hx hb dX5_bind_185 (by decide) ?_
      exact W.iret (v := (0 : Int32)) hx hb hr (fun t ht hW => ⟨⟨(0 : Int32), (I21, F17), rfl, h, by show va_P _ _ _ t.heap; rw [ht]; exact hP⟩, hS.F ht⟩) hS.2.2 dX5_bind_186
  · have h := h.2 c4
    refine lv_iconst (v := (0 : Int32)) hx hb dX5_bind_95 (by decide) ?_
    exact W.iret (v := (0 : Int32)) hx hb hr (fun t ht hW => ⟨⟨(0 : Int32), (I2, F3), rfl, h, by show va_P _ _ _ t.heap; rw [ht]; exact hP⟩, hS.F ht⟩) hS.2.2 dX5_bind_96
set_option maxHeartbeats 4000000 in
set_option maxRecDepth 100000 in
theorem sX5_bind_53 {p : Program} {l : Launch} {e : Env} {s : State} {m : MethodId} {args : Array Value} {below : List Frame} {meth : Method} {c : Code} {dC : Nat → ClassId} {dI : Nat → Nat → Nat} {cI : ClassId} {ad : Nat → Nat} {A : Nat → Prop} (C : Cx p s m args meth c cX5_bind 7 (some .int) RX5 wsX5_bind) (hK : va_K (dC, dI) vwCl [(cI, .int)] s) (hN : NW s) (hD : ∀ I F, va_D A (wM cI ad I F)) (hA : ∀ q : Nat, s.heap.size ≤ q → A q) (post : Int32 → (Nat → Int32) → (Nat → Nat → Int32) → Prop) : ∀ (I : Nat → Int32) (F : Nat → Nat → Int32) (x1 x2 x3 x4 x5 y0 : Int32), bX5_bind_53 post I F x1 x2 x3 x4 x5 y0 → ∀ (H : Heap) (locs : List Loc), va_P (dC, dI) vwCl (wM cI ad I F) H → va_S A s.heap H locs → ∀ (ls : Array Slot), lv_has ls 7 [(0, .ref (ad 0)), (1, .int x1), (2, .int x2), (3, .int x3), (4, .int x4), (5, .int x5)] → W p l e { frames := 5, cells := 0, slots := 0, locals := 118 } s m args below meth c H locs 0 0 (MQ below (QWi dC dI (wM cI ad) post A) args s 0 0 A) (F0 m 53 ls [.int y0]) := by
  obtain ⟨hx, hb, hml, hown, hts, hr, hlocks⟩ := id C
  intro I F x1 x2 x3 x4 x5 y0 h H locs hP hS ls hl
  unfold bX5_bind_53 at h
  refine lv_istore (lv' := [(6, .int y0), (0, .ref (ad 0)), (1, .int x1), (2, .int x2), (3, .int x3), (4, .int x4), (5, .int x5)]) hx hb dX5_bind_53 hl (by decide) rfl (fun ls hl => ?_)
  refine lv_aload_n hx hb dX5_bind_55 rfl (lv_at hl 1 rfl) ?_
  refine lv_aload_n hx hb dX5_bind_56 rfl (lv_at hl 1 rfl) ?_
  refine vp_callSi (cr_of (va_runV (As := []) (rest := [.ref (ad 0)]) ⟨hx, hb, hml, hown, hts⟩ (cTX5_flaw l dC dI cI ad I F _ h) (cwV 0 hts gX5_bind_X5_flaw rfl rfl rfl (by decide +kernel) ⟨Nat.le_of_ble_eq_true rfl, Nat.le_of_ble_eq_true rfl⟩) (pv_R hP hK hN 0 5 rfl rfl _) rfl rfl hl.1 rfl (lv_room (Nat.le_of_ble_eq_true rfl)) dX5_bind_57 ⟨Nat.le_of_ble_eq_true rfl, Nat.le_of_ble_eq_true rfl⟩)) (fun r22 h => ?_)
  refine lv_if_ge (tgt := 81) hx hb dX5_bind_60 (by decide) (fun c23 => ?_) (fun c23 => ?_)
  · have h := h.1 c23
    refine lv_iconst (v := (1 : Int32)) hx hb dX5_bind_81 (by decide) ?_
    refine lv_goto (tgt := 86) hx hb dX5_bind_82 (by decide) ?_
    exact sX5_bind_86 C hK hN hD hA post I F x1 x2 x3 x4 x5 y0 (1 : Int32) h H locs hP hS ls (lv_sub hl [1, 2, 3, 4, 5, 6, 0] rfl)
  · have h := h.2 c23
    refine lv_aload_n hx hb dX5_bind_63 rfl (lv_at hl 1 rfl) ?_
    refine va_get (D := (dC, dI)) (ci := 5) (v := .int (I 2)) (C := RX5) (T := TX5) (N := 31) hx hb hts iX5_bind_X5 hown hK hP 0 rfl rfl 3 (by decide) (hts (.fieldLink RX5 75 "CarrierBooksModel" "policies" "I") (by decide +kernel)) (fun _ h9 => h9) rfl dX5_bind_64 ?_
    refine lv_bipush (v := (6 : Int32)) hx hb dX5_bind_67 (by decide) ?_
    refine lv_icmp_eq (tgt := 81) hx hb dX5_bind_69 (by decide) (fun c24 => ?_) (fun c24 => ?_)
    · have h := h.1 c24
      refine lv_iconst (v := (1 : Int32)) hx hb dX5_bind_81 (by decide) ?_
      refine lv_goto (tgt := 86) hx hb dX5_bind_82 (by decide) ?_
      exact sX5_bind_86 C hK hN hD hA post I F x1 x2 x3 x4 x5 y0 (1 : Int32) h H locs hP hS ls (lv_sub hl [1, 2, 3, 4, 5, 6, 0] rfl)
    · have h := h.2 c24
      refine lv_aload_n hx hb dX5_bind_72 rfl (lv_at hl 1 rfl) ?_
      refine va_get (D := (dC, dI)) (ci := 5) (v := .int (I 3)) (C := RX5) (T := TX5) (N := 31) hx hb hts iX5_bind_X5 hown hK hP 0 rfl rfl 6 (by decide) (hts (.fieldLink RX5 110 "CarrierBooksModel" "bookings" "I") (by decide +kernel)) (fun _ h9 => h9) rfl dX5_bind_73 ?_
      refine lv_bipush (v := (40 : Int32)) hx hb dX5_bind_76 (by decide) ?_
      refine lv_icmp_ne (tgt := 85) hx hb dX5_bind_78 (by decide) (fun c25 => ?_) (fun c25 => ?_)
      · have h := h.1 c25
        refine lv_iconst (v := (0 : Int32)) hx hb dX5_bind_85 (by decide) ?_
        exact sX5_bind_86 C hK hN hD hA post I F x1 x2 x3 x4 x5 y0 (0 : Int32) h H locs hP hS ls (lv_sub hl [1, 2, 3, 4, 5, 6, 0] rfl)
      · have h := h.2 c25
        refine lv_iconst (v := (1 : Int32)) hx hb dX5_bind_81 (by decide) ?_
        refine lv_goto (tgt := 86) hx hb dX5_bind_82 (by decide) ?_
        exact sX5_bind_86 C hK hN hD hA post I F x1 x2 x3 x4 x5 y0 (1 : Int32) h H locs hP hS ls (lv_sub hl [1, 2, 3, 4, 5, 6, 0] rfl)
set_option maxHeartbeats 4000000 in
set_option maxRecDepth 100000 in
theorem cTX5_bind (l : Launch) (dC : Nat → ClassId) (dI : Nat → Nat → Nat) (cI : ClassId) (ad : Nat → Nat) (I : Nat → Int32) (F : Nat → Nat → Int32) (sz : Nat) (x1 x2 x3 x4 x5 : Int32) (post : Int32 → (Nat → Int32) → (Nat → Nat → Int32) → Prop) (h : wX5_bind I F x1 x2 x3 x4 x5 post) : Met l yX5_bind wsX5_bind { frames := 5, cells := 0, slots := 0, locals := 118 } (va_Pc [.ref (ad 0), .int x1, .int x2, .int x3, .int x4, .int x5] (PWw dC dI cI (wM cI ad) I F sz)) (QWi dC dI (wM cI ad) post (va_A (wM cI ad I F) sz)) 0 0 (va_A (wM cI ad I F) sz) := by
  refine Met.ofW (cc := cX5_bind) (maxL := 7) (ret := (some .int)) (by decide) rfl ?_
  intro p e s m args below meth c s₁ B hml hv
  obtain ⟨rfl, hsz, ⟨hP, hK, hN⟩, hD0⟩ := hv
  subst hsz
  have hD := wD_any (wM_fix cI ad) (hD0.self (sz := s.heap.size))
  generalize hAe : va_A (wM cI ad I F) s.heap.size = A at hD ⊢
  have hA : ∀ q : Nat, s.heap.size ≤ q → A q := fun q h => by rw [← hAe]; exact Or.inr h
  clear hAe hD0
  have hx := B.exec
  have hb := B.bytes
  have hr := B.returns
  have hts := atoms_spec (ws := wsX5_bind) B.pre
  have hown : s.vm.findClass RX5 = some m.cls := findClass_of_methodNamed B.named
  have hlocks := B.notSynchronized
  have C : Cx p s m _ meth c cX5_bind 7 (some .int) RX5 wsX5_bind := ⟨hx, hb, hml, hown, hts, hr, hlocks⟩
  have hS : va_S A s.heap s.heap [] := va_S.rf
  have hl := lv_entry ([.ref (ad 0), .int x1, .int x2, .int x3, .int x4, .int x5]) (n := 7) (Nat.le_of_ble_eq_true rfl)
  rw [lg_entry_eq]
  generalize (lg_sl ([.ref (ad 0), .int x1, .int x2, .int x3, .int x4, .int x5]) ++ List.replicate (7 - (lg_sl ([.ref (ad 0), .int x1, .int x2, .int x3, .int x4, .int x5])).length) Slot.unset).toArray = ls at hl ⊢
  have hl : lv_has ls 7 [(0, .ref (ad 0)), (1, .int x1), (2, .int x2), (3, .int x3), (4, .int x4), (5, .int x5)] := hl
  unfold wX5_bind at h
  refine lv_iload_n hx hb dX5_bind_0 rfl (lv_at hl 1 rfl) ?_
  refine lv_iconst (v := (0 : Int32)) hx hb dX5_bind_1 (by decide) ?_
  refine lv_sipush (v := (999 : Int32)) hx hb dX5_bind_2 (by decide) ?_
  refine vp_callSi (cr_of (va_runS (As := [.int x1, .int (0 : Int32), .int (999 : Int32)]) (rest := []) ⟨hx, hb, hml, hown, hts⟩ (cTX5_outside l x1 (0 : Int32) (999 : Int32) _ h) (va_cwS 3 hts gX5_bind_X5_outside rfl rfl rfl (by decide +kernel) ⟨Nat.le_of_ble_eq_true rfl, Nat.le_of_ble_eq_true rfl⟩) (pv_S _) rfl rfl hl.1 rfl (lv_room (Nat.le_of_ble_eq_true rfl)) dX5_bind_5 ⟨Nat.le_of_ble_eq_true rfl, Nat.le_of_ble_eq_true rfl⟩)) (fun r26 h => ?_)
  refine lv_if_ne (tgt := 48) hx hb dX5_bind_8 (by decide) (fun c27 => ?_) (fun c27 => ?_)
  · have h := h.1 c27
    refine lv_iconst (v := (1 : Int32)) hx hb dX5_bind_48 (by decide) ?_
    refine lv_goto (tgt := 53) hx hb dX5_bind_49 (by decide) ?_
    exact sX5_bind_53 C hK hN hD hA post I F x1 x2 x3 x4 x5 (1 : Int32) h s.heap [] hP hS ls (lv_sub hl [0, 1, 2, 3, 4, 5] rfl)
  · have h := h.2 c27
    refine lv_iload_n hx hb dX5_bind_11 rfl (lv_at hl 2 rfl) ?_
    refine lv_iconst (v := (1 : Int32)) hx hb dX5_bind_12 (by decide) ?_
    refine lv_sipush (v := (200 : Int32)) hx hb dX5_bind_13 (by decide) ?_
    refine vp_callSi (cr_of (va_runS (As := [.int x2, .int (1 : Int32), .int (200 : Int32)]) (rest := []) ⟨hx, hb, hml, hown, hts⟩ (cTX5_outside l x2 (1 : Int32) (200 : Int32) _ h) (va_cwS 3 hts gX5_bind_X5_outside rfl rfl rfl (by decide +kernel) ⟨Nat.le_of_ble_eq_true rfl, Nat.le_of_ble_eq_true rfl⟩) (pv_S _) rfl rfl hl.1 rfl (lv_room (Nat.le_of_ble_eq_true rfl)) dX5_bind_16 ⟨Nat.le_of_ble_eq_true rfl, Nat.le_of_ble_eq_true rfl⟩)) (fun r28 h => ?_)
    refine lv_if_ne (tgt := 48) hx hb dX5_bind_19 (by decide) (fun c29 => ?_) (fun c29 => ?_)
    · have h := h.1 c29
      refine lv_iconst (v := (1 : Int32)) hx hb dX5_bind_48 (by decide) ?_
      refine lv_goto (tgt := 53) hx hb dX5_bind_49 (by decide) ?_
      exact sX5_bind_53 C hK hN hD hA post I F x1 x2 x3 x4 x5 (1 : Int32) h s.heap [] hP hS ls (lv_sub hl [0, 1, 2, 3, 4, 5] rfl)
    · have h := h.2 c29
      refine lv_iconst (v := (0 : Int32)) hx hb dX5_bind_22 (by decide) ?_
      refine lv_iload_n hx hb dX5_bind_23 rfl (lv_at hl 3 rfl) ?_
      refine vp_callSi (cr_of (va_runS (As := [.int (0 : Int32), .int x3]) (rest := []) ⟨hx, hb, hml, hown, hts⟩ (cTX5_isValue l (0 : Int32) x3 _ h) (va_cwS 2 hts gX5_bind_X5_isValue rfl rfl rfl (by decide +kernel) ⟨Nat.le_of_ble_eq_true rfl, Nat.le_of_ble_eq_true rfl⟩) (pv_S _) rfl rfl hl.1 rfl (lv_room (Nat.le_of_ble_eq_true rfl)) dX5_bind_24 ⟨Nat.le_of_ble_eq_true rfl, Nat.le_of_ble_eq_true rfl⟩)) (fun r30 h => ?_)
      refine lv_if_eq (tgt := 48) hx hb dX5_bind_27 (by decide) (fun c31 => ?_) (fun c31 => ?_)
      · have h := h.1 c31
        refine lv_iconst (v := (1 : Int32)) hx hb dX5_bind_48 (by decide) ?_
        refine lv_goto (tgt := 53) hx hb dX5_bind_49 (by decide) ?_
        exact sX5_bind_53 C hK hN hD hA post I F x1 x2 x3 x4 x5 (1 : Int32) h s.heap [] hP hS ls (lv_sub hl [0, 1, 2, 3, 4, 5] rfl)
      · have h := h.2 c31
        refine lv_iconst (v := (1 : Int32)) hx hb dX5_bind_30 (by decide) ?_
        refine lv_iload hx hb dX5_bind_31 (lv_at hl 4 rfl) ?_
        refine vp_callSi (cr_of (va_runS (As := [.int (1 : Int32), .int x4]) (rest := []) ⟨hx, hb, hml, hown, hts⟩ (cTX5_isValue l (1 : Int32) x4 _ h) (va_cwS 2 hts gX5_bind_X5_isValue rfl rfl rfl (by decide +kernel) ⟨Nat.le_of_ble_eq_true rfl, Nat.le_of_ble_eq_true rfl⟩) (pv_S _) rfl rfl hl.1 rfl (lv_room (Nat.le_of_ble_eq_true rfl)) dX5_bind_33 ⟨Nat.le_of_ble_eq_true rfl, Nat.le_of_ble_eq_true rfl⟩)) (fun r32 h => ?_)
        refine lv_if_eq (tgt := 48) hx hb dX5_bind_36 (by decide) (fun c33 => ?_) (fun c33 => ?_)
        · have h := h.1 c33
          refine lv_iconst (v := (1 : Int32)) hx hb dX5_bind_48 (by decide) ?_
          refine lv_goto (tgt := 53) hx hb dX5_bind_49 (by decide) ?_
          exact sX5_bind_53 C hK hN hD hA post I F x1 x2 x3 x4 x5 (1 : Int32) h s.heap [] hP hS ls (lv_sub hl [0, 1, 2, 3, 4, 5] rfl)
        · have h := h.2 c33
          refine lv_iconst (v := (2 : Int32)) hx hb dX5_bind_39 (by decide) ?_
          refine lv_iload hx hb dX5_bind_40 (lv_at hl 5 rfl) ?_
          refine vp_callSi (cr_of (va_runS (As := [.int (2 : Int32), .int x5]) (rest := []) ⟨hx, hb, hml, hown, hts⟩ (cTX5_isValue l (2 : Int32) x5 _ h) (va_cwS 2 hts gX5_bind_X5_isValue rfl rfl rfl (by decide +kernel) ⟨Nat.le_of_ble_eq_true rfl, Nat.le_of_ble_eq_true rfl⟩) (pv_S _) rfl rfl hl.1 rfl (lv_room (Nat.le_of_ble_eq_true rfl)) dX5_bind_42 ⟨Nat.le_of_ble_eq_true rfl, Nat.le_of_ble_eq_true rfl⟩)) (fun r34 h => ?_)
          refine lv_if_ne (tgt := 52) hx hb dX5_bind_45 (by decide) (fun c35 => ?_) (fun c35 => ?_)
          · have h := h.1 c35
            refine lv_iconst (v := (0 : Int32)) hx hb dX5_bind_52 (by decide) ?_
            exact sX5_bind_53 C hK hN hD hA post I F x1 x2 x3 x4 x5 (0 : Int32) h s.heap [] hP hS ls (lv_sub hl [0, 1, 2, 3, 4, 5] rfl)
          · have h := h.2 c35
            refine lv_iconst (v := (1 : Int32)) hx hb dX5_bind_48 (by decide) ?_
            refine lv_goto (tgt := 53) hx hb dX5_bind_49 (by decide) ?_
            exact sX5_bind_53 C hK hN hD hA post I F x1 x2 x3 x4 x5 (1 : Int32) h s.heap [] hP hS ls (lv_sub hl [0, 1, 2, 3, 4, 5] rfl)

theorem iX5_bookedOr_X5 : ∀ w ∈ wsX50, w ∈ wsX5_bookedOr := by decide +kernel
def bX5_bookedOr_16 (post : Int32 → (Nat → Int32) → (Nat → Nat → Int32) → Prop) (I : Nat → Int32) (F : Nat → Nat → Int32) (x2 y0 : Int32) : Prop := ∀ I1 : Nat → Int32, I1 = va_up I 0 y0 → (((0 : Int32) ≤ x2 → post x2 I1 F) ∧ (¬ (0 : Int32) ≤ x2 → post (0 : Int32) I1 F))
def wX5_bookedOr (I : Nat → Int32) (F : Nat → Nat → Int32) (x1 : Int32) (post : Int32 → (Nat → Int32) → (Nat → Nat → Int32) → Prop) : Prop := wX5_books I F x1 (fun r3 I4 F5 => (((0 : Int32) ≤ r3 → bX5_bookedOr_16 post I4 F5 r3 (0 : Int32)) ∧ (¬ (0 : Int32) ≤ r3 → bX5_bookedOr_16 post I4 F5 r3 (4 : Int32))))
set_option maxHeartbeats 4000000 in
set_option maxRecDepth 100000 in
theorem sX5_bookedOr_16 {p : Program} {l : Launch} {e : Env} {s : State} {m : MethodId} {args : Array Value} {below : List Frame} {meth : Method} {c : Code} {dC : Nat → ClassId} {dI : Nat → Nat → Nat} {cI : ClassId} {ad : Nat → Nat} {A : Nat → Prop} (C : Cx p s m args meth c cX5_bookedOr 3 (some .int) RX5 wsX5_bookedOr) (hK : va_K (dC, dI) vwCl [(cI, .int)] s) (hN : NW s) (hD : ∀ I F, va_D A (wM cI ad I F)) (hA : ∀ q : Nat, s.heap.size ≤ q → A q) (post : Int32 → (Nat → Int32) → (Nat → Nat → Int32) → Prop) : ∀ (I : Nat → Int32) (F : Nat → Nat → Int32) (x2 y0 : Int32), bX5_bookedOr_16 post I F x2 y0 → ∀ (H : Heap) (locs : List Loc), va_P (dC, dI) vwCl (wM cI ad I F) H → va_S A s.heap H locs → ∀ (ls : Array Slot), lv_has ls 3 [(2, .int x2)] → W p l e { frames := 5, cells := 0, slots := 0, locals := 118 } s m args below meth c H locs 0 0 (MQ below (QWi dC dI (wM cI ad) post A) args s 0 0 A) (F0 m 16 ls [.int y0, .ref (ad 0)]) := by
  obtain ⟨hx, hb, hml, hown, hts, hr, hlocks⟩ := id C
  intro I F x2 y0 h H locs hP hS ls hl
  unfold bX5_bookedOr_16 at h
  refine put_w (wf := wM cI ad) (ci := 5) (C := RX5) (T := TX5) (N := 31) hx hb hts iX5_bookedOr_X5 tyX5 tyX5_ok nmX5 hown hK hP hD hS 0 rfl rfl 0 (by decide) (hts (.fieldLink RX5 68 "CarrierBooksModel" "thrown" "I") (by decide +kernel)) (fun _ h9 => h9) rfl 0 (by decide +kernel) (Nat.le_of_ble_eq_true rfl) rfl dX5_bookedOr_16 (fun I1 eI1 H locs hP hS => ?_)
  have h := h I1 eI1
  refine lv_iload_n hx hb dX5_bookedOr_19 rfl (lv_at hl 0 rfl) ?_
  refine lv_if_ge (tgt := 27) hx hb dX5_bookedOr_20 (by decide) (fun c2 => ?_) (fun c2 => ?_)
  · have h := h.1 c2
    refine lv_iload_n hx hb dX5_bookedOr_27 rfl (lv_at hl 0 rfl) ?_
    exact W.iret (v := x2) hx hb hr (fun t ht hW => ⟨⟨x2, (I1, F), rfl, h, by show va_P _ _ _ t.heap; rw [ht]; exact hP⟩, hS.F ht⟩) hS.2.2 dX5_bookedOr_28
  · have h := h.2 c2
    refine lv_iconst (v := (0 : Int32)) hx hb dX5_bookedOr_23 (by decide) ?_
    refine lv_goto (tgt := 28) hx hb dX5_bookedOr_24 (by decide) ?_
    exact W.iret (v := (0 : Int32)) hx hb hr (fun t ht hW => ⟨⟨(0 : Int32), (I1, F), rfl, h, by show va_P _ _ _ t.heap; rw [ht]; exact hP⟩, hS.F ht⟩) hS.2.2 dX5_bookedOr_28
set_option maxHeartbeats 4000000 in
set_option maxRecDepth 100000 in
theorem cTX5_bookedOr (l : Launch) (dC : Nat → ClassId) (dI : Nat → Nat → Nat) (cI : ClassId) (ad : Nat → Nat) (I : Nat → Int32) (F : Nat → Nat → Int32) (sz : Nat) (x1 : Int32) (post : Int32 → (Nat → Int32) → (Nat → Nat → Int32) → Prop) (h : wX5_bookedOr I F x1 post) : Met l yX5_bookedOr wsX5_bookedOr { frames := 5, cells := 0, slots := 0, locals := 118 } (va_Pc [.ref (ad 0), .int x1] (PWw dC dI cI (wM cI ad) I F sz)) (QWi dC dI (wM cI ad) post (va_A (wM cI ad I F) sz)) 0 0 (va_A (wM cI ad I F) sz) := by
  refine Met.ofW (cc := cX5_bookedOr) (maxL := 3) (ret := (some .int)) (by decide) rfl ?_
  intro p e s m args below meth c s₁ B hml hv
  obtain ⟨rfl, hsz, ⟨hP, hK, hN⟩, hD0⟩ := hv
  subst hsz
  have hD := wD_any (wM_fix cI ad) (hD0.self (sz := s.heap.size))
  generalize hAe : va_A (wM cI ad I F) s.heap.size = A at hD ⊢
  have hA : ∀ q : Nat, s.heap.size ≤ q → A q := fun q h => by rw [← hAe]; exact Or.inr h
  clear hAe hD0
  have hx := B.exec
  have hb := B.bytes
  have hr := B.returns
  have hts := atoms_spec (ws := wsX5_bookedOr) B.pre
  have hown : s.vm.findClass RX5 = some m.cls := findClass_of_methodNamed B.named
  have hlocks := B.notSynchronized
  have C : Cx p s m _ meth c cX5_bookedOr 3 (some .int) RX5 wsX5_bookedOr := ⟨hx, hb, hml, hown, hts, hr, hlocks⟩
  have hS : va_S A s.heap s.heap [] := va_S.rf
  have hl := lv_entry ([.ref (ad 0), .int x1]) (n := 3) (Nat.le_of_ble_eq_true rfl)
  rw [lg_entry_eq]
  generalize (lg_sl ([.ref (ad 0), .int x1]) ++ List.replicate (3 - (lg_sl ([.ref (ad 0), .int x1])).length) Slot.unset).toArray = ls at hl ⊢
  have hl : lv_has ls 3 [(0, .ref (ad 0)), (1, .int x1)] := hl
  unfold wX5_bookedOr at h
  refine lv_aload_n hx hb dX5_bookedOr_0 rfl (lv_at hl 0 rfl) ?_
  refine lv_iload_n hx hb dX5_bookedOr_1 rfl (lv_at hl 1 rfl) ?_
  refine wcall_i (va_runV (As := [.int x1]) (rest := []) ⟨hx, hb, hml, hown, hts⟩ (cTX5_books l dC dI cI ad I F s.heap.size x1 _ h) (cwV 1 hts gX5_bookedOr_X5_books rfl rfl rfl (by decide +kernel) ⟨Nat.le_of_ble_eq_true rfl, Nat.le_of_ble_eq_true rfl⟩) (pv_W hP hK hN ((hD _ _).weaken (fun _ _ _ _ => trivial)) 0 5 rfl rfl _) rfl rfl hl.1 rfl (lv_room (Nat.le_of_ble_eq_true rfl)) dX5_bookedOr_2 ⟨Nat.le_of_ble_eq_true rfl, Nat.le_of_ble_eq_true rfl⟩) hD hS hA (fun r3 I4 F5 h H locs hP hS => ?_)
  refine lv_istore_n (lv' := [(2, .int r3), (0, .ref (ad 0)), (1, .int x1)]) hx hb dX5_bookedOr_5 rfl hl (by decide) rfl (fun ls hl => ?_)
  refine lv_aload_n hx hb dX5_bookedOr_6 rfl (lv_at hl 1 rfl) ?_
  refine lv_iload_n hx hb dX5_bookedOr_7 rfl (lv_at hl 0 rfl) ?_
  refine lv_if_ge (tgt := 15) hx hb dX5_bookedOr_8 (by decide) (fun c6 => ?_) (fun c6 => ?_)
  · have h := h.1 c6
    refine lv_iconst (v := (0 : Int32)) hx hb dX5_bookedOr_15 (by decide) ?_
    exact sX5_bookedOr_16 C hK hN hD hA post I4 F5 r3 (0 : Int32) h H locs hP hS ls (lv_sub hl [0] rfl)
  · have h := h.2 c6
    refine lv_iconst (v := (4 : Int32)) hx hb dX5_bookedOr_11 (by decide) ?_
    refine lv_goto (tgt := 16) hx hb dX5_bookedOr_12 (by decide) ?_
    exact sX5_bookedOr_16 C hK hN hD hA post I4 F5 r3 (4 : Int32) h H locs hP hS ls (lv_sub hl [0] rfl)

theorem iX5_change_X5 : ∀ w ∈ wsX50, w ∈ wsX5_change := by decide +kernel
def bX5_change_85 (post : Int32 → (Nat → Int32) → (Nat → Nat → Int32) → Prop) (I : Nat → Int32) (F : Nat → Nat → Int32) (x1 x2 x3 x4 y0 y1 y2 : Int32) : Prop := wX5_fails I F y2 y1 y0 (fun r1 I2 F3 => ((r1 = (0 : Int32) → wX5_lay I2 F3 (1 : Int32) x1 x2 x3 x4 (fun I6 F7 => wX5_bookedOr I6 F7 (0 : Int32) (fun r8 I9 F10 => post r8 I9 F10))) ∧ (¬ r1 = (0 : Int32) → post (0 : Int32) I2 F3)))
def bX5_change_55 (post : Int32 → (Nat → Int32) → (Nat → Nat → Int32) → Prop) (I : Nat → Int32) (F : Nat → Nat → Int32) (x1 x2 x3 x4 x5 y0 y1 : Int32) : Prop := ((¬ x5 = (0 : Int32) → bX5_change_85 post I F x1 x2 x3 x4 (0 : Int32) y0 y1) ∧ (x5 = (0 : Int32) → wX5_inForce I F x1 x2 (99 : Int32) (fun r12 I13 F14 => ((r12 = (0 : Int32) → bX5_change_85 post I13 F14 x1 x2 x3 x4 (1 : Int32) y0 y1) ∧ (¬ r12 = (0 : Int32) → ((¬ (I13 3) = (40 : Int32) → bX5_change_85 post I13 F14 x1 x2 x3 x4 (0 : Int32) y0 y1) ∧ ((I13 3) = (40 : Int32) → bX5_change_85 post I13 F14 x1 x2 x3 x4 (1 : Int32) y0 y1)))))))
def bX5_change_22 (post : Int32 → (Nat → Int32) → (Nat → Nat → Int32) → Prop) (I : Nat → Int32) (F : Nat → Nat → Int32) (x1 x2 x3 x4 y0 : Int32) : Prop := ((¬ y0 = (0 : Int32) → bX5_change_55 post I F x1 x2 x3 x4 y0 (0 : Int32) y0) ∧ (y0 = (0 : Int32) → wX5_inTerm I F x1 x2 (fun r18 => ((r18 = (0 : Int32) → bX5_change_55 post I F x1 x2 x3 x4 y0 (1 : Int32) y0) ∧ (¬ r18 = (0 : Int32) → wX5_isValue x3 x4 (fun r20 => ((¬ r20 = (0 : Int32) → bX5_change_55 post I F x1 x2 x3 x4 y0 (0 : Int32) y0) ∧ (r20 = (0 : Int32) → bX5_change_55 post I F x1 x2 x3 x4 y0 (1 : Int32) y0))))))))
def wX5_change (I : Nat → Int32) (F : Nat → Nat → Int32) (x1 x2 x3 x4 : Int32) (post : Int32 → (Nat → Int32) → (Nat → Nat → Int32) → Prop) : Prop := wX5_isPolicy I F x1 (fun r22 => ((r22 = (0 : Int32) → bX5_change_22 post I F x1 x2 x3 x4 (1 : Int32)) ∧ (¬ r22 = (0 : Int32) → wX5_outside x3 (0 : Int32) (2 : Int32) (fun r24 => ((r24 = (0 : Int32) → bX5_change_22 post I F x1 x2 x3 x4 (0 : Int32)) ∧ (¬ r24 = (0 : Int32) → bX5_change_22 post I F x1 x2 x3 x4 (1 : Int32)))))))
set_option maxHeartbeats 4000000 in
set_option maxRecDepth 100000 in
theorem sX5_change_85 {p : Program} {l : Launch} {e : Env} {s : State} {m : MethodId} {args : Array Value} {below : List Frame} {meth : Method} {c : Code} {dC : Nat → ClassId} {dI : Nat → Nat → Nat} {cI : ClassId} {ad : Nat → Nat} {A : Nat → Prop} (C : Cx p s m args meth c cX5_change 6 (some .int) RX5 wsX5_change) (hK : va_K (dC, dI) vwCl [(cI, .int)] s) (hN : NW s) (hD : ∀ I F, va_D A (wM cI ad I F)) (hA : ∀ q : Nat, s.heap.size ≤ q → A q) (post : Int32 → (Nat → Int32) → (Nat → Nat → Int32) → Prop) : ∀ (I : Nat → Int32) (F : Nat → Nat → Int32) (x1 x2 x3 x4 y0 y1 y2 : Int32), bX5_change_85 post I F x1 x2 x3 x4 y0 y1 y2 → ∀ (H : Heap) (locs : List Loc), va_P (dC, dI) vwCl (wM cI ad I F) H → va_S A s.heap H locs → ∀ (ls : Array Slot), lv_has ls 6 [(0, .ref (ad 0)), (1, .int x1), (2, .int x2), (3, .int x3), (4, .int x4)] → W p l e { frames := 6, cells := 0, slots := 0, locals := 140 } s m args below meth c H locs 0 0 (MQ below (QWi dC dI (wM cI ad) post A) args s 0 0 A) (F0 m 85 ls [.int y0, .int y1, .int y2, .ref (ad 0)]) := by
  obtain ⟨hx, hb, hml, hown, hts, hr, hlocks⟩ := id C
  intro I F x1 x2 x3 x4 y0 y1 y2 h H locs hP hS ls hl
  unfold bX5_change_85 at h
  refine wcall_i (va_runV (As := [.int y2, .int y1, .int y0]) (rest := []) ⟨hx, hb, hml, hown, hts⟩ (cTX5_fails l dC dI cI ad I F H.size y2 y1 y0 _ h) (cwV 3 hts gX5_change_X5_fails rfl rfl rfl (by decide +kernel) ⟨Nat.le_of_ble_eq_true rfl, Nat.le_of_ble_eq_true rfl⟩) (pv_W hP hK hN ((hD _ _).weaken (fun _ _ _ _ => trivial)) 0 5 rfl rfl _) rfl rfl hl.1 rfl (lv_room (Nat.le_of_ble_eq_true rfl)) dX5_change_85 ⟨Nat.le_of_ble_eq_true rfl, Nat.le_of_ble_eq_true rfl⟩) hD hS hA (fun r1 I2 F3 h H locs hP hS => ?_)
  refine lv_if_eq (tgt := 93) hx hb dX5_change_88 (by decide) (fun c4 => ?_) (fun c4 => ?_)
  · have h := h.1 c4
    refine lv_aload_n hx hb dX5_change_93 rfl (lv_at hl 0 rfl) ?_
    refine lv_iconst (v := (1 : Int32)) hx hb dX5_change_94 (by decide) ?_
    refine lv_iload_n hx hb dX5_change_95 rfl (lv_at hl 1 rfl) ?_
    refine lv_iload_n hx hb dX5_change_96 rfl (lv_at hl 2 rfl) ?_
    refine lv_iload_n hx hb dX5_change_97 rfl (lv_at hl 3 rfl) ?_
    refine lv_iload hx hb dX5_change_98 (lv_at hl 4 rfl) ?_
    refine wcall_v (va_runV (As := [.int (1 : Int32), .int x1, .int x2, .int x3, .int x4]) (rest := []) ⟨hx, hb, hml, hown, hts⟩ (cTX5_lay l dC dI cI ad I2 F3 H.size (1 : Int32) x1 x2 x3 x4 _ h) (cwV 5 hts gX5_change_X5_lay rfl rfl rfl (by decide +kernel) ⟨Nat.le_of_ble_eq_true rfl, Nat.le_of_ble_eq_true rfl⟩) (pv_W hP hK hN ((hD _ _).weaken (fun _ _ _ _ => trivial)) 0 5 rfl rfl _) rfl rfl hl.1 rfl (lv_room (Nat.le_of_ble_eq_true rfl)) dX5_change_100 ⟨Nat.le_of_ble_eq_true rfl, Nat.le_of_ble_eq_true rfl⟩) hD hS hA (fun I6 F7 h H locs hP hS => ?_)
    refine lv_aload_n hx hb dX5_change_103 rfl (lv_at hl 0 rfl) ?_
    refine lv_iconst (v := (0 : Int32)) hx hb dX5_change_104 (by decide) ?_
    refine wcall_i (va_runV (As := [.int (0 : Int32)]) (rest := []) ⟨hx, hb, hml, hown, hts⟩ (cTX5_bookedOr l dC dI cI ad I6 F7 H.size (0 : Int32) _ h) (cwV 1 hts gX5_change_X5_bookedOr rfl rfl rfl (by decide +kernel) ⟨Nat.le_of_ble_eq_true rfl, Nat.le_of_ble_eq_true rfl⟩) (pv_W hP hK hN ((hD _ _).weaken (fun _ _ _ _ => trivial)) 0 5 rfl rfl _) rfl rfl hl.1 rfl (lv_room (Nat.le_of_ble_eq_true rfl)) dX5_change_105 ⟨Nat.le_of_ble_eq_true rfl, Nat.le_of_ble_eq_true rfl⟩) hD hS hA (fun r8 I9 F10 h H locs hP hS => ?_)
    exact W.iret (v := r8) hx hb hr (fun t ht hW => ⟨⟨r8, (I9, F10), rfl, h, by show va_P _ _ _ t.heap; rw [ht]; exact hP⟩, hS.F ht⟩) hS.2.2 dX5_change_108
  · have h := h.2 c4
    refine lv_iconst (v := (0 : Int32)) hx hb dX5_change_91 (by decide) ?_
    exact W.iret (v := (0 : Int32)) hx hb hr (fun t ht hW => ⟨⟨(0 : Int32), (I2, F3), rfl, h, by show va_P _ _ _ t.heap; rw [ht]; exact hP⟩, hS.F ht⟩) hS.2.2 dX5_change_92
set_option maxHeartbeats 4000000 in
set_option maxRecDepth 100000 in
theorem sX5_change_55 {p : Program} {l : Launch} {e : Env} {s : State} {m : MethodId} {args : Array Value} {below : List Frame} {meth : Method} {c : Code} {dC : Nat → ClassId} {dI : Nat → Nat → Nat} {cI : ClassId} {ad : Nat → Nat} {A : Nat → Prop} (C : Cx p s m args meth c cX5_change 6 (some .int) RX5 wsX5_change) (hK : va_K (dC, dI) vwCl [(cI, .int)] s) (hN : NW s) (hD : ∀ I F, va_D A (wM cI ad I F)) (hA : ∀ q : Nat, s.heap.size ≤ q → A q) (post : Int32 → (Nat → Int32) → (Nat → Nat → Int32) → Prop) : ∀ (I : Nat → Int32) (F : Nat → Nat → Int32) (x1 x2 x3 x4 x5 y0 y1 : Int32), bX5_change_55 post I F x1 x2 x3 x4 x5 y0 y1 → ∀ (H : Heap) (locs : List Loc), va_P (dC, dI) vwCl (wM cI ad I F) H → va_S A s.heap H locs → ∀ (ls : Array Slot), lv_has ls 6 [(0, .ref (ad 0)), (1, .int x1), (2, .int x2), (3, .int x3), (4, .int x4), (5, .int x5)] → W p l e { frames := 6, cells := 0, slots := 0, locals := 140 } s m args below meth c H locs 0 0 (MQ below (QWi dC dI (wM cI ad) post A) args s 0 0 A) (F0 m 55 ls [.int y0, .int y1, .ref (ad 0)]) := by
  obtain ⟨hx, hb, hml, hown, hts, hr, hlocks⟩ := id C
  intro I F x1 x2 x3 x4 x5 y0 y1 h H locs hP hS ls hl
  unfold bX5_change_55 at h
  refine lv_iload hx hb dX5_change_55 (lv_at hl 5 rfl) ?_
  refine lv_if_ne (tgt := 84) hx hb dX5_change_57 (by decide) (fun c11 => ?_) (fun c11 => ?_)
  · have h := h.1 c11
    refine lv_iconst (v := (0 : Int32)) hx hb dX5_change_84 (by decide) ?_
    exact sX5_change_85 C hK hN hD hA post I F x1 x2 x3 x4 (0 : Int32) y0 y1 h H locs hP hS ls (lv_sub hl [0, 1, 2, 3, 4] rfl)
  · have h := h.2 c11
    refine lv_aload_n hx hb dX5_change_60 rfl (lv_at hl 0 rfl) ?_
    refine lv_iload_n hx hb dX5_change_61 rfl (lv_at hl 1 rfl) ?_
    refine lv_iload_n hx hb dX5_change_62 rfl (lv_at hl 2 rfl) ?_
    refine lv_bipush (v := (99 : Int32)) hx hb dX5_change_63 (by decide) ?_
    refine wcall_i (va_runV (As := [.int x1, .int x2, .int (99 : Int32)]) (rest := [.int y0, .int y1, .ref (ad 0)]) ⟨hx, hb, hml, hown, hts⟩ (cTX5_inForce l dC dI cI ad I F H.size x1 x2 (99 : Int32) _ h) (cwV 3 hts gX5_change_X5_inForce rfl rfl rfl (by decide +kernel) ⟨Nat.le_of_ble_eq_true rfl, Nat.le_of_ble_eq_true rfl⟩) (pv_W hP hK hN ((hD _ _).weaken (fun _ _ _ _ => trivial)) 0 5 rfl rfl _) rfl rfl hl.1 rfl (lv_room (Nat.le_of_ble_eq_true rfl)) dX5_change_65 ⟨Nat.le_of_ble_eq_true rfl, Nat.le_of_ble_eq_true rfl⟩) hD hS hA (fun r12 I13 F14 h H locs hP hS => ?_)
    refine lv_if_eq (tgt := 80) hx hb dX5_change_68 (by decide) (fun c15 => ?_) (fun c15 => ?_)
    · have h := h.1 c15
      refine lv_iconst (v := (1 : Int32)) hx hb dX5_change_80 (by decide) ?_
      refine lv_goto (tgt := 85) hx hb dX5_change_81 (by decide) ?_
      exact sX5_change_85 C hK hN hD hA post I13 F14 x1 x2 x3 x4 (1 : Int32) y0 y1 h H locs hP hS ls (lv_sub hl [0, 1, 2, 3, 4] rfl)
    · have h := h.2 c15
      refine lv_aload_n hx hb dX5_change_71 rfl (lv_at hl 0 rfl) ?_
      refine va_get (D := (dC, dI)) (ci := 5) (v := .int (I13 3)) (C := RX5) (T := TX5) (N := 31) hx hb hts iX5_change_X5 hown hK hP 0 rfl rfl 6 (by decide) (hts (.fieldLink RX5 110 "CarrierBooksModel" "bookings" "I") (by decide +kernel)) (fun _ h9 => h9) rfl dX5_change_72 ?_
      refine lv_bipush (v := (40 : Int32)) hx hb dX5_change_75 (by decide) ?_
      refine lv_icmp_ne (tgt := 84) hx hb dX5_change_77 (by decide) (fun c16 => ?_) (fun c16 => ?_)
      · have h := h.1 c16
        refine lv_iconst (v := (0 : Int32)) hx hb dX5_change_84 (by decide) ?_
        exact sX5_change_85 C hK hN hD hA post I13 F14 x1 x2 x3 x4 (0 : Int32) y0 y1 h H locs hP hS ls (lv_sub hl [0, 1, 2, 3, 4] rfl)
      · have h := h.2 c16
        refine lv_iconst (v := (1 : Int32)) hx hb dX5_change_80 (by decide) ?_
        refine lv_goto (tgt := 85) hx hb dX5_change_81 (by decide) ?_
        exact sX5_change_85 C hK hN hD hA post I13 F14 x1 x2 x3 x4 (1 : Int32) y0 y1 h H locs hP hS ls (lv_sub hl [0, 1, 2, 3, 4] rfl)
set_option maxHeartbeats 4000000 in
set_option maxRecDepth 100000 in
theorem sX5_change_22 {p : Program} {l : Launch} {e : Env} {s : State} {m : MethodId} {args : Array Value} {below : List Frame} {meth : Method} {c : Code} {dC : Nat → ClassId} {dI : Nat → Nat → Nat} {cI : ClassId} {ad : Nat → Nat} {A : Nat → Prop} (C : Cx p s m args meth c cX5_change 6 (some .int) RX5 wsX5_change) (hK : va_K (dC, dI) vwCl [(cI, .int)] s) (hN : NW s) (hD : ∀ I F, va_D A (wM cI ad I F)) (hA : ∀ q : Nat, s.heap.size ≤ q → A q) (post : Int32 → (Nat → Int32) → (Nat → Nat → Int32) → Prop) : ∀ (I : Nat → Int32) (F : Nat → Nat → Int32) (x1 x2 x3 x4 y0 : Int32), bX5_change_22 post I F x1 x2 x3 x4 y0 → ∀ (H : Heap) (locs : List Loc), va_P (dC, dI) vwCl (wM cI ad I F) H → va_S A s.heap H locs → ∀ (ls : Array Slot), lv_has ls 6 [(0, .ref (ad 0)), (1, .int x1), (2, .int x2), (3, .int x3), (4, .int x4)] → W p l e { frames := 6, cells := 0, slots := 0, locals := 140 } s m args below meth c H locs 0 0 (MQ below (QWi dC dI (wM cI ad) post A) args s 0 0 A) (F0 m 22 ls [.int y0]) := by
  obtain ⟨hx, hb, hml, hown, hts, hr, hlocks⟩ := id C
  intro I F x1 x2 x3 x4 y0 h H locs hP hS ls hl
  unfold bX5_change_22 at h
  refine lv_istore (lv' := [(5, .int y0), (0, .ref (ad 0)), (1, .int x1), (2, .int x2), (3, .int x3), (4, .int x4)]) hx hb dX5_change_22 hl (by decide) rfl (fun ls hl => ?_)
  refine lv_aload_n hx hb dX5_change_24 rfl (lv_at hl 1 rfl) ?_
  refine lv_iload hx hb dX5_change_25 (lv_at hl 0 rfl) ?_
  refine lv_iload hx hb dX5_change_27 (lv_at hl 0 rfl) ?_
  refine lv_if_ne (tgt := 54) hx hb dX5_change_29 (by decide) (fun c17 => ?_) (fun c17 => ?_)
  · have h := h.1 c17
    refine lv_iconst (v := (0 : Int32)) hx hb dX5_change_54 (by decide) ?_
    exact sX5_change_55 C hK hN hD hA post I F x1 x2 x3 x4 y0 (0 : Int32) y0 h H locs hP hS ls (lv_sub hl [1, 2, 3, 4, 5, 0] rfl)
  · have h := h.2 c17
    refine lv_aload_n hx hb dX5_change_32 rfl (lv_at hl 1 rfl) ?_
    refine lv_iload_n hx hb dX5_change_33 rfl (lv_at hl 2 rfl) ?_
    refine lv_iload_n hx hb dX5_change_34 rfl (lv_at hl 3 rfl) ?_
    refine vp_callSi (cr_of (va_runV (As := [.int x1, .int x2]) (rest := [.int y0, .ref (ad 0)]) ⟨hx, hb, hml, hown, hts⟩ (cTX5_inTerm l dC dI cI ad I F x1 x2 _ h) (cwV 2 hts gX5_change_X5_inTerm rfl rfl rfl (by decide +kernel) ⟨Nat.le_of_ble_eq_true rfl, Nat.le_of_ble_eq_true rfl⟩) (pv_R hP hK hN 0 5 rfl rfl _) rfl rfl hl.1 rfl (lv_room (Nat.le_of_ble_eq_true rfl)) dX5_change_35 ⟨Nat.le_of_ble_eq_true rfl, Nat.le_of_ble_eq_true rfl⟩)) (fun r18 h => ?_)
    refine lv_if_eq (tgt := 50) hx hb dX5_change_38 (by decide) (fun c19 => ?_) (fun c19 => ?_)
    · have h := h.1 c19
      refine lv_iconst (v := (1 : Int32)) hx hb dX5_change_50 (by decide) ?_
      refine lv_goto (tgt := 55) hx hb dX5_change_51 (by decide) ?_
      exact sX5_change_55 C hK hN hD hA post I F x1 x2 x3 x4 y0 (1 : Int32) y0 h H locs hP hS ls (lv_sub hl [1, 2, 3, 4, 5, 0] rfl)
    · have h := h.2 c19
      refine lv_iload_n hx hb dX5_change_41 rfl (lv_at hl 4 rfl) ?_
      refine lv_iload hx hb dX5_change_42 (lv_at hl 5 rfl) ?_
      refine vp_callSi (cr_of (va_runS (As := [.int x3, .int x4]) (rest := [.int y0, .ref (ad 0)]) ⟨hx, hb, hml, hown, hts⟩ (cTX5_isValue l x3 x4 _ h) (va_cwS 2 hts gX5_change_X5_isValue rfl rfl rfl (by decide +kernel) ⟨Nat.le_of_ble_eq_true rfl, Nat.le_of_ble_eq_true rfl⟩) (pv_S _) rfl rfl hl.1 rfl (lv_room (Nat.le_of_ble_eq_true rfl)) dX5_change_44 ⟨Nat.le_of_ble_eq_true rfl, Nat.le_of_ble_eq_true rfl⟩)) (fun r20 h => ?_)
      refine lv_if_ne (tgt := 54) hx hb dX5_change_47 (by decide) (fun c21 => ?_) (fun c21 => ?_)
      · have h := h.1 c21
        refine lv_iconst (v := (0 : Int32)) hx hb dX5_change_54 (by decide) ?_
        exact sX5_change_55 C hK hN hD hA post I F x1 x2 x3 x4 y0 (0 : Int32) y0 h H locs hP hS ls (lv_sub hl [1, 2, 3, 4, 5, 0] rfl)
      · have h := h.2 c21
        refine lv_iconst (v := (1 : Int32)) hx hb dX5_change_50 (by decide) ?_
        refine lv_goto (tgt := 55) hx hb dX5_change_51 (by decide) ?_
        exact sX5_change_55 C hK hN hD hA post I F x1 x2 x3 x4 y0 (1 : Int32) y0 h H locs hP hS ls (lv_sub hl [1, 2, 3, 4, 5, 0] rfl)
set_option maxHeartbeats 4000000 in
set_option maxRecDepth 100000 in
theorem cTX5_change (l : Launch) (dC : Nat → ClassId) (dI : Nat → Nat → Nat) (cI : ClassId) (ad : Nat → Nat) (I : Nat → Int32) (F : Nat → Nat → Int32) (sz : Nat) (x1 x2 x3 x4 : Int32) (post : Int32 → (Nat → Int32) → (Nat → Nat → Int32) → Prop) (h : wX5_change I F x1 x2 x3 x4 post) : Met l yX5_change wsX5_change { frames := 6, cells := 0, slots := 0, locals := 140 } (va_Pc [.ref (ad 0), .int x1, .int x2, .int x3, .int x4] (PWw dC dI cI (wM cI ad) I F sz)) (QWi dC dI (wM cI ad) post (va_A (wM cI ad I F) sz)) 0 0 (va_A (wM cI ad I F) sz) := by
  refine Met.ofW (cc := cX5_change) (maxL := 6) (ret := (some .int)) (by decide) rfl ?_
  intro p e s m args below meth c s₁ B hml hv
  obtain ⟨rfl, hsz, ⟨hP, hK, hN⟩, hD0⟩ := hv
  subst hsz
  have hD := wD_any (wM_fix cI ad) (hD0.self (sz := s.heap.size))
  generalize hAe : va_A (wM cI ad I F) s.heap.size = A at hD ⊢
  have hA : ∀ q : Nat, s.heap.size ≤ q → A q := fun q h => by rw [← hAe]; exact Or.inr h
  clear hAe hD0
  have hx := B.exec
  have hb := B.bytes
  have hr := B.returns
  have hts := atoms_spec (ws := wsX5_change) B.pre
  have hown : s.vm.findClass RX5 = some m.cls := findClass_of_methodNamed B.named
  have hlocks := B.notSynchronized
  have C : Cx p s m _ meth c cX5_change 6 (some .int) RX5 wsX5_change := ⟨hx, hb, hml, hown, hts, hr, hlocks⟩
  have hS : va_S A s.heap s.heap [] := va_S.rf
  have hl := lv_entry ([.ref (ad 0), .int x1, .int x2, .int x3, .int x4]) (n := 6) (Nat.le_of_ble_eq_true rfl)
  rw [lg_entry_eq]
  generalize (lg_sl ([.ref (ad 0), .int x1, .int x2, .int x3, .int x4]) ++ List.replicate (6 - (lg_sl ([.ref (ad 0), .int x1, .int x2, .int x3, .int x4])).length) Slot.unset).toArray = ls at hl ⊢
  have hl : lv_has ls 6 [(0, .ref (ad 0)), (1, .int x1), (2, .int x2), (3, .int x3), (4, .int x4)] := hl
  unfold wX5_change at h
  refine lv_aload_n hx hb dX5_change_0 rfl (lv_at hl 0 rfl) ?_
  refine lv_iload_n hx hb dX5_change_1 rfl (lv_at hl 1 rfl) ?_
  refine vp_callSi (cr_of (va_runV (As := [.int x1]) (rest := []) ⟨hx, hb, hml, hown, hts⟩ (cTX5_isPolicy l dC dI cI ad I F x1 _ h) (cwV 1 hts gX5_change_X5_isPolicy rfl rfl rfl (by decide +kernel) ⟨Nat.le_of_ble_eq_true rfl, Nat.le_of_ble_eq_true rfl⟩) (pv_R hP hK hN 0 5 rfl rfl _) rfl rfl hl.1 rfl (lv_room (Nat.le_of_ble_eq_true rfl)) dX5_change_2 ⟨Nat.le_of_ble_eq_true rfl, Nat.le_of_ble_eq_true rfl⟩)) (fun r22 h => ?_)
  refine lv_if_eq (tgt := 17) hx hb dX5_change_5 (by decide) (fun c23 => ?_) (fun c23 => ?_)
  · have h := h.1 c23
    refine lv_iconst (v := (1 : Int32)) hx hb dX5_change_17 (by decide) ?_
    refine lv_goto (tgt := 22) hx hb dX5_change_18 (by decide) ?_
    exact sX5_change_22 C hK hN hD hA post I F x1 x2 x3 x4 (1 : Int32) h s.heap [] hP hS ls (lv_sub hl [0, 1, 2, 3, 4] rfl)
  · have h := h.2 c23
    refine lv_iload_n hx hb dX5_change_8 rfl (lv_at hl 3 rfl) ?_
    refine lv_iconst (v := (0 : Int32)) hx hb dX5_change_9 (by decide) ?_
    refine lv_iconst (v := (2 : Int32)) hx hb dX5_change_10 (by decide) ?_
    refine vp_callSi (cr_of (va_runS (As := [.int x3, .int (0 : Int32), .int (2 : Int32)]) (rest := []) ⟨hx, hb, hml, hown, hts⟩ (cTX5_outside l x3 (0 : Int32) (2 : Int32) _ h) (va_cwS 3 hts gX5_change_X5_outside rfl rfl rfl (by decide +kernel) ⟨Nat.le_of_ble_eq_true rfl, Nat.le_of_ble_eq_true rfl⟩) (pv_S _) rfl rfl hl.1 rfl (lv_room (Nat.le_of_ble_eq_true rfl)) dX5_change_11 ⟨Nat.le_of_ble_eq_true rfl, Nat.le_of_ble_eq_true rfl⟩)) (fun r24 h => ?_)
    refine lv_if_eq (tgt := 21) hx hb dX5_change_14 (by decide) (fun c25 => ?_) (fun c25 => ?_)
    · have h := h.1 c25
      refine lv_iconst (v := (0 : Int32)) hx hb dX5_change_21 (by decide) ?_
      exact sX5_change_22 C hK hN hD hA post I F x1 x2 x3 x4 (0 : Int32) h s.heap [] hP hS ls (lv_sub hl [0, 1, 2, 3, 4] rfl)
    · have h := h.2 c25
      refine lv_iconst (v := (1 : Int32)) hx hb dX5_change_17 (by decide) ?_
      refine lv_goto (tgt := 22) hx hb dX5_change_18 (by decide) ?_
      exact sX5_change_22 C hK hN hD hA post I F x1 x2 x3 x4 (1 : Int32) h s.heap [] hP hS ls (lv_sub hl [0, 1, 2, 3, 4] rfl)

theorem iX5_turns_X5 : ∀ w ∈ wsX50, w ∈ wsX5_turns := by decide +kernel
def bX5_turns_77 (post : Int32 → (Nat → Int32) → (Nat → Nat → Int32) → Prop) (I : Nat → Int32) (F : Nat → Nat → Int32) (x1 x2 x3 x4 y0 y1 y2 : Int32) : Prop := wX5_fails I F y2 y1 y0 (fun r1 I2 F3 => ((r1 = (0 : Int32) → wX5_lay I2 F3 x1 x2 x3 (0 : Int32) (0 : Int32) (fun I6 F7 => wX5_bookedOr I6 F7 x4 (fun r8 I9 F10 => post r8 I9 F10))) ∧ (¬ r1 = (0 : Int32) → post (0 : Int32) I2 F3)))
def bX5_turns_60 (post : Int32 → (Nat → Int32) → (Nat → Nat → Int32) → Prop) (I : Nat → Int32) (F : Nat → Nat → Int32) (x1 x2 x3 x4 y0 y1 y2 y3 : Int32) : Prop := ((y1 = y0 → bX5_turns_77 post I F x1 x2 x3 x4 (1 : Int32) y2 y3) ∧ (¬ y1 = y0 → ((¬ (I 3) = (40 : Int32) → bX5_turns_77 post I F x1 x2 x3 x4 (0 : Int32) y2 y3) ∧ ((I 3) = (40 : Int32) → bX5_turns_77 post I F x1 x2 x3 x4 (1 : Int32) y2 y3))))
def bX5_turns_37 (post : Int32 → (Nat → Int32) → (Nat → Nat → Int32) → Prop) (I : Nat → Int32) (F : Nat → Nat → Int32) (x1 x2 x3 x4 x5 y0 y1 : Int32) : Prop := ((x5 = (0 : Int32) → bX5_turns_77 post I F x1 x2 x3 x4 (0 : Int32) y0 y1) ∧ (¬ x5 = (0 : Int32) → wX5_inForce I F x2 x3 (99 : Int32) (fun r14 I15 F16 => ((¬ x1 = (3 : Int32) → bX5_turns_60 post I15 F16 x1 x2 x3 x4 (0 : Int32) r14 y0 y1) ∧ (x1 = (3 : Int32) → bX5_turns_60 post I15 F16 x1 x2 x3 x4 (1 : Int32) r14 y0 y1)))))
def bX5_turns_18 (post : Int32 → (Nat → Int32) → (Nat → Nat → Int32) → Prop) (I : Nat → Int32) (F : Nat → Nat → Int32) (x1 x2 x3 x4 x5 y0 : Int32) : Prop := ((x5 = (0 : Int32) → bX5_turns_37 post I F x1 x2 x3 x4 x5 (0 : Int32) y0) ∧ (¬ x5 = (0 : Int32) → wX5_inTerm I F x2 x3 (fun r19 => ((¬ r19 = (0 : Int32) → bX5_turns_37 post I F x1 x2 x3 x4 x5 (0 : Int32) y0) ∧ (r19 = (0 : Int32) → bX5_turns_37 post I F x1 x2 x3 x4 x5 (1 : Int32) y0)))))
def wX5_turns (I : Nat → Int32) (F : Nat → Nat → Int32) (x1 x2 x3 x4 : Int32) (post : Int32 → (Nat → Int32) → (Nat → Nat → Int32) → Prop) : Prop := wX5_isPolicy I F x2 (fun r21 => ((¬ r21 = (0 : Int32) → bX5_turns_18 post I F x1 x2 x3 x4 r21 (0 : Int32)) ∧ (r21 = (0 : Int32) → bX5_turns_18 post I F x1 x2 x3 x4 r21 (1 : Int32))))
set_option maxHeartbeats 4000000 in
set_option maxRecDepth 100000 in
theorem sX5_turns_77 {p : Program} {l : Launch} {e : Env} {s : State} {m : MethodId} {args : Array Value} {below : List Frame} {meth : Method} {c : Code} {dC : Nat → ClassId} {dI : Nat → Nat → Nat} {cI : ClassId} {ad : Nat → Nat} {A : Nat → Prop} (C : Cx p s m args meth c cX5_turns 6 (some .int) RX5 wsX5_turns) (hK : va_K (dC, dI) vwCl [(cI, .int)] s) (hN : NW s) (hD : ∀ I F, va_D A (wM cI ad I F)) (hA : ∀ q : Nat, s.heap.size ≤ q → A q) (post : Int32 → (Nat → Int32) → (Nat → Nat → Int32) → Prop) : ∀ (I : Nat → Int32) (F : Nat → Nat → Int32) (x1 x2 x3 x4 y0 y1 y2 : Int32), bX5_turns_77 post I F x1 x2 x3 x4 y0 y1 y2 → ∀ (H : Heap) (locs : List Loc), va_P (dC, dI) vwCl (wM cI ad I F) H → va_S A s.heap H locs → ∀ (ls : Array Slot), lv_has ls 6 [(0, .ref (ad 0)), (1, .int x1), (2, .int x2), (3, .int x3), (4, .int x4)] → W p l e { frames := 6, cells := 0, slots := 0, locals := 140 } s m args below meth c H locs 0 0 (MQ below (QWi dC dI (wM cI ad) post A) args s 0 0 A) (F0 m 77 ls [.int y0, .int y1, .int y2, .ref (ad 0)]) := by
  obtain ⟨hx, hb, hml, hown, hts, hr, hlocks⟩ := id C
  intro I F x1 x2 x3 x4 y0 y1 y2 h H locs hP hS ls hl
  unfold bX5_turns_77 at h
  refine wcall_i (va_runV (As := [.int y2, .int y1, .int y0]) (rest := []) ⟨hx, hb, hml, hown, hts⟩ (cTX5_fails l dC dI cI ad I F H.size y2 y1 y0 _ h) (cwV 3 hts gX5_turns_X5_fails rfl rfl rfl (by decide +kernel) ⟨Nat.le_of_ble_eq_true rfl, Nat.le_of_ble_eq_true rfl⟩) (pv_W hP hK hN ((hD _ _).weaken (fun _ _ _ _ => trivial)) 0 5 rfl rfl _) rfl rfl hl.1 rfl (lv_room (Nat.le_of_ble_eq_true rfl)) dX5_turns_77 ⟨Nat.le_of_ble_eq_true rfl, Nat.le_of_ble_eq_true rfl⟩) hD hS hA (fun r1 I2 F3 h H locs hP hS => ?_)
  refine lv_if_eq (tgt := 85) hx hb dX5_turns_80 (by decide) (fun c4 => ?_) (fun c4 => ?_)
  · have h := h.1 c4
    refine lv_aload_n hx hb dX5_turns_85 rfl (lv_at hl 0 rfl) ?_
    refine lv_iload_n hx hb dX5_turns_86 rfl (lv_at hl 1 rfl) ?_
    refine lv_iload_n hx hb dX5_turns_87 rfl (lv_at hl 2 rfl) ?_
    refine lv_iload_n hx hb dX5_turns_88 rfl (lv_at hl 3 rfl) ?_
    refine lv_iconst (v := (0 : Int32)) hx hb dX5_turns_89 (by decide) ?_
    refine lv_iconst (v := (0 : Int32)) hx hb dX5_turns_90 (by decide) ?_
    refine wcall_v (va_runV (As := [.int x1, .int x2, .int x3, .int (0 : Int32), .int (0 : Int32)]) (rest := []) ⟨hx, hb, hml, hown, hts⟩ (cTX5_lay l dC dI cI ad I2 F3 H.size x1 x2 x3 (0 : Int32) (0 : Int32) _ h) (cwV 5 hts gX5_turns_X5_lay rfl rfl rfl (by decide +kernel) ⟨Nat.le_of_ble_eq_true rfl, Nat.le_of_ble_eq_true rfl⟩) (pv_W hP hK hN ((hD _ _).weaken (fun _ _ _ _ => trivial)) 0 5 rfl rfl _) rfl rfl hl.1 rfl (lv_room (Nat.le_of_ble_eq_true rfl)) dX5_turns_91 ⟨Nat.le_of_ble_eq_true rfl, Nat.le_of_ble_eq_true rfl⟩) hD hS hA (fun I6 F7 h H locs hP hS => ?_)
    refine lv_aload_n hx hb dX5_turns_94 rfl (lv_at hl 0 rfl) ?_
    refine lv_iload hx hb dX5_turns_95 (lv_at hl 4 rfl) ?_
    refine wcall_i (va_runV (As := [.int x4]) (rest := []) ⟨hx, hb, hml, hown, hts⟩ (cTX5_bookedOr l dC dI cI ad I6 F7 H.size x4 _ h) (cwV 1 hts gX5_turns_X5_bookedOr rfl rfl rfl (by decide +kernel) ⟨Nat.le_of_ble_eq_true rfl, Nat.le_of_ble_eq_true rfl⟩) (pv_W hP hK hN ((hD _ _).weaken (fun _ _ _ _ => trivial)) 0 5 rfl rfl _) rfl rfl hl.1 rfl (lv_room (Nat.le_of_ble_eq_true rfl)) dX5_turns_97 ⟨Nat.le_of_ble_eq_true rfl, Nat.le_of_ble_eq_true rfl⟩) hD hS hA (fun r8 I9 F10 h H locs hP hS => ?_)
    exact W.iret (v := r8) hx hb hr (fun t ht hW => ⟨⟨r8, (I9, F10), rfl, h, by show va_P _ _ _ t.heap; rw [ht]; exact hP⟩, hS.F ht⟩) hS.2.2 dX5_turns_100
  · have h := h.2 c4
    refine lv_iconst (v := (0 : Int32)) hx hb dX5_turns_83 (by decide) ?_
    exact W.iret (v := (0 : Int32)) hx hb hr (fun t ht hW => ⟨⟨(0 : Int32), (I2, F3), rfl, h, by show va_P _ _ _ t.heap; rw [ht]; exact hP⟩, hS.F ht⟩) hS.2.2 dX5_turns_84
set_option maxHeartbeats 4000000 in
set_option maxRecDepth 100000 in
theorem sX5_turns_60 {p : Program} {l : Launch} {e : Env} {s : State} {m : MethodId} {args : Array Value} {below : List Frame} {meth : Method} {c : Code} {dC : Nat → ClassId} {dI : Nat → Nat → Nat} {cI : ClassId} {ad : Nat → Nat} {A : Nat → Prop} (C : Cx p s m args meth c cX5_turns 6 (some .int) RX5 wsX5_turns) (hK : va_K (dC, dI) vwCl [(cI, .int)] s) (hN : NW s) (hD : ∀ I F, va_D A (wM cI ad I F)) (hA : ∀ q : Nat, s.heap.size ≤ q → A q) (post : Int32 → (Nat → Int32) → (Nat → Nat → Int32) → Prop) : ∀ (I : Nat → Int32) (F : Nat → Nat → Int32) (x1 x2 x3 x4 y0 y1 y2 y3 : Int32), bX5_turns_60 post I F x1 x2 x3 x4 y0 y1 y2 y3 → ∀ (H : Heap) (locs : List Loc), va_P (dC, dI) vwCl (wM cI ad I F) H → va_S A s.heap H locs → ∀ (ls : Array Slot), lv_has ls 6 [(0, .ref (ad 0)), (1, .int x1), (2, .int x2), (3, .int x3), (4, .int x4)] → W p l e { frames := 6, cells := 0, slots := 0, locals := 140 } s m args below meth c H locs 0 0 (MQ below (QWi dC dI (wM cI ad) post A) args s 0 0 A) (F0 m 60 ls [.int y0, .int y1, .int y2, .int y3, .ref (ad 0)]) := by
  obtain ⟨hx, hb, hml, hown, hts, hr, hlocks⟩ := id C
  intro I F x1 x2 x3 x4 y0 y1 y2 y3 h H locs hP hS ls hl
  unfold bX5_turns_60 at h
  refine lv_icmp_eq (tgt := 72) hx hb dX5_turns_60 (by decide) (fun c11 => ?_) (fun c11 => ?_)
  · have h := h.1 c11
    refine lv_iconst (v := (1 : Int32)) hx hb dX5_turns_72 (by decide) ?_
    refine lv_goto (tgt := 77) hx hb dX5_turns_73 (by decide) ?_
    exact sX5_turns_77 C hK hN hD hA post I F x1 x2 x3 x4 (1 : Int32) y2 y3 h H locs hP hS ls (lv_sub hl [0, 1, 2, 3, 4] rfl)
  · have h := h.2 c11
    refine lv_aload_n hx hb dX5_turns_63 rfl (lv_at hl 0 rfl) ?_
    refine va_get (D := (dC, dI)) (ci := 5) (v := .int (I 3)) (C := RX5) (T := TX5) (N := 31) hx hb hts iX5_turns_X5 hown hK hP 0 rfl rfl 6 (by decide) (hts (.fieldLink RX5 110 "CarrierBooksModel" "bookings" "I") (by decide +kernel)) (fun _ h9 => h9) rfl dX5_turns_64 ?_
    refine lv_bipush (v := (40 : Int32)) hx hb dX5_turns_67 (by decide) ?_
    refine lv_icmp_ne (tgt := 76) hx hb dX5_turns_69 (by decide) (fun c12 => ?_) (fun c12 => ?_)
    · have h := h.1 c12
      refine lv_iconst (v := (0 : Int32)) hx hb dX5_turns_76 (by decide) ?_
      exact sX5_turns_77 C hK hN hD hA post I F x1 x2 x3 x4 (0 : Int32) y2 y3 h H locs hP hS ls (lv_sub hl [0, 1, 2, 3, 4] rfl)
    · have h := h.2 c12
      refine lv_iconst (v := (1 : Int32)) hx hb dX5_turns_72 (by decide) ?_
      refine lv_goto (tgt := 77) hx hb dX5_turns_73 (by decide) ?_
      exact sX5_turns_77 C hK hN hD hA post I F x1 x2 x3 x4 (1 : Int32) y2 y3 h H locs hP hS ls (lv_sub hl [0, 1, 2, 3, 4] rfl)
set_option maxHeartbeats 4000000 in
set_option maxRecDepth 100000 in
theorem sX5_turns_37 {p : Program} {l : Launch} {e : Env} {s : State} {m : MethodId} {args : Array Value} {below : List Frame} {meth : Method} {c : Code} {dC : Nat → ClassId} {dI : Nat → Nat → Nat} {cI : ClassId} {ad : Nat → Nat} {A : Nat → Prop} (C : Cx p s m args meth c cX5_turns 6 (some .int) RX5 wsX5_turns) (hK : va_K (dC, dI) vwCl [(cI, .int)] s) (hN : NW s) (hD : ∀ I F, va_D A (wM cI ad I F)) (hA : ∀ q : Nat, s.heap.size ≤ q → A q) (post : Int32 → (Nat → Int32) → (Nat → Nat → Int32) → Prop) : ∀ (I : Nat → Int32) (F : Nat → Nat → Int32) (x1 x2 x3 x4 x5 y0 y1 : Int32), bX5_turns_37 post I F x1 x2 x3 x4 x5 y0 y1 → ∀ (H : Heap) (locs : List Loc), va_P (dC, dI) vwCl (wM cI ad I F) H → va_S A s.heap H locs → ∀ (ls : Array Slot), lv_has ls 6 [(0, .ref (ad 0)), (1, .int x1), (2, .int x2), (3, .int x3), (4, .int x4), (5, .int x5)] → W p l e { frames := 6, cells := 0, slots := 0, locals := 140 } s m args below meth c H locs 0 0 (MQ below (QWi dC dI (wM cI ad) post A) args s 0 0 A) (F0 m 37 ls [.int y0, .int y1, .ref (ad 0)]) := by
  obtain ⟨hx, hb, hml, hown, hts, hr, hlocks⟩ := id C
  intro I F x1 x2 x3 x4 x5 y0 y1 h H locs hP hS ls hl
  unfold bX5_turns_37 at h
  refine lv_iload hx hb dX5_turns_37 (lv_at hl 5 rfl) ?_
  refine lv_if_eq (tgt := 76) hx hb dX5_turns_39 (by decide) (fun c13 => ?_) (fun c13 => ?_)
  · have h := h.1 c13
    refine lv_iconst (v := (0 : Int32)) hx hb dX5_turns_76 (by decide) ?_
    exact sX5_turns_77 C hK hN hD hA post I F x1 x2 x3 x4 (0 : Int32) y0 y1 h H locs hP hS ls (lv_sub hl [0, 1, 2, 3, 4] rfl)
  · have h := h.2 c13
    refine lv_aload_n hx hb dX5_turns_42 rfl (lv_at hl 0 rfl) ?_
    refine lv_iload_n hx hb dX5_turns_43 rfl (lv_at hl 2 rfl) ?_
    refine lv_iload_n hx hb dX5_turns_44 rfl (lv_at hl 3 rfl) ?_
    refine lv_bipush (v := (99 : Int32)) hx hb dX5_turns_45 (by decide) ?_
    refine wcall_i (va_runV (As := [.int x2, .int x3, .int (99 : Int32)]) (rest := [.int y0, .int y1, .ref (ad 0)]) ⟨hx, hb, hml, hown, hts⟩ (cTX5_inForce l dC dI cI ad I F H.size x2 x3 (99 : Int32) _ h) (cwV 3 hts gX5_turns_X5_inForce rfl rfl rfl (by decide +kernel) ⟨Nat.le_of_ble_eq_true rfl, Nat.le_of_ble_eq_true rfl⟩) (pv_W hP hK hN ((hD _ _).weaken (fun _ _ _ _ => trivial)) 0 5 rfl rfl _) rfl rfl hl.1 rfl (lv_room (Nat.le_of_ble_eq_true rfl)) dX5_turns_47 ⟨Nat.le_of_ble_eq_true rfl, Nat.le_of_ble_eq_true rfl⟩) hD hS hA (fun r14 I15 F16 h H locs hP hS => ?_)
    refine lv_iload_n hx hb dX5_turns_50 rfl (lv_at hl 1 rfl) ?_
    refine lv_iconst (v := (3 : Int32)) hx hb dX5_turns_51 (by decide) ?_
    refine lv_icmp_ne (tgt := 59) hx hb dX5_turns_52 (by decide) (fun c17 => ?_) (fun c17 => ?_)
    · have h := h.1 c17
      refine lv_iconst (v := (0 : Int32)) hx hb dX5_turns_59 (by decide) ?_
      exact sX5_turns_60 C hK hN hD hA post I15 F16 x1 x2 x3 x4 (0 : Int32) r14 y0 y1 h H locs hP hS ls (lv_sub hl [0, 1, 2, 3, 4] rfl)
    · have h := h.2 c17
      refine lv_iconst (v := (1 : Int32)) hx hb dX5_turns_55 (by decide) ?_
      refine lv_goto (tgt := 60) hx hb dX5_turns_56 (by decide) ?_
      exact sX5_turns_60 C hK hN hD hA post I15 F16 x1 x2 x3 x4 (1 : Int32) r14 y0 y1 h H locs hP hS ls (lv_sub hl [0, 1, 2, 3, 4] rfl)
set_option maxHeartbeats 4000000 in
set_option maxRecDepth 100000 in
theorem sX5_turns_18 {p : Program} {l : Launch} {e : Env} {s : State} {m : MethodId} {args : Array Value} {below : List Frame} {meth : Method} {c : Code} {dC : Nat → ClassId} {dI : Nat → Nat → Nat} {cI : ClassId} {ad : Nat → Nat} {A : Nat → Prop} (C : Cx p s m args meth c cX5_turns 6 (some .int) RX5 wsX5_turns) (hK : va_K (dC, dI) vwCl [(cI, .int)] s) (hN : NW s) (hD : ∀ I F, va_D A (wM cI ad I F)) (hA : ∀ q : Nat, s.heap.size ≤ q → A q) (post : Int32 → (Nat → Int32) → (Nat → Nat → Int32) → Prop) : ∀ (I : Nat → Int32) (F : Nat → Nat → Int32) (x1 x2 x3 x4 x5 y0 : Int32), bX5_turns_18 post I F x1 x2 x3 x4 x5 y0 → ∀ (H : Heap) (locs : List Loc), va_P (dC, dI) vwCl (wM cI ad I F) H → va_S A s.heap H locs → ∀ (ls : Array Slot), lv_has ls 6 [(0, .ref (ad 0)), (1, .int x1), (2, .int x2), (3, .int x3), (4, .int x4), (5, .int x5)] → W p l e { frames := 6, cells := 0, slots := 0, locals := 140 } s m args below meth c H locs 0 0 (MQ below (QWi dC dI (wM cI ad) post A) args s 0 0 A) (F0 m 18 ls [.int y0, .ref (ad 0)]) := by
  obtain ⟨hx, hb, hml, hown, hts, hr, hlocks⟩ := id C
  intro I F x1 x2 x3 x4 x5 y0 h H locs hP hS ls hl
  unfold bX5_turns_18 at h
  refine lv_iload hx hb dX5_turns_18 (lv_at hl 5 rfl) ?_
  refine lv_if_eq (tgt := 36) hx hb dX5_turns_20 (by decide) (fun c18 => ?_) (fun c18 => ?_)
  · have h := h.1 c18
    refine lv_iconst (v := (0 : Int32)) hx hb dX5_turns_36 (by decide) ?_
    exact sX5_turns_37 C hK hN hD hA post I F x1 x2 x3 x4 x5 (0 : Int32) y0 h H locs hP hS ls (lv_sub hl [0, 1, 2, 3, 4, 5] rfl)
  · have h := h.2 c18
    refine lv_aload_n hx hb dX5_turns_23 rfl (lv_at hl 0 rfl) ?_
    refine lv_iload_n hx hb dX5_turns_24 rfl (lv_at hl 2 rfl) ?_
    refine lv_iload_n hx hb dX5_turns_25 rfl (lv_at hl 3 rfl) ?_
    refine vp_callSi (cr_of (va_runV (As := [.int x2, .int x3]) (rest := [.int y0, .ref (ad 0)]) ⟨hx, hb, hml, hown, hts⟩ (cTX5_inTerm l dC dI cI ad I F x2 x3 _ h) (cwV 2 hts gX5_turns_X5_inTerm rfl rfl rfl (by decide +kernel) ⟨Nat.le_of_ble_eq_true rfl, Nat.le_of_ble_eq_true rfl⟩) (pv_R hP hK hN 0 5 rfl rfl _) rfl rfl hl.1 rfl (lv_room (Nat.le_of_ble_eq_true rfl)) dX5_turns_26 ⟨Nat.le_of_ble_eq_true rfl, Nat.le_of_ble_eq_true rfl⟩)) (fun r19 h => ?_)
    refine lv_if_ne (tgt := 36) hx hb dX5_turns_29 (by decide) (fun c20 => ?_) (fun c20 => ?_)
    · have h := h.1 c20
      refine lv_iconst (v := (0 : Int32)) hx hb dX5_turns_36 (by decide) ?_
      exact sX5_turns_37 C hK hN hD hA post I F x1 x2 x3 x4 x5 (0 : Int32) y0 h H locs hP hS ls (lv_sub hl [0, 1, 2, 3, 4, 5] rfl)
    · have h := h.2 c20
      refine lv_iconst (v := (1 : Int32)) hx hb dX5_turns_32 (by decide) ?_
      refine lv_goto (tgt := 37) hx hb dX5_turns_33 (by decide) ?_
      exact sX5_turns_37 C hK hN hD hA post I F x1 x2 x3 x4 x5 (1 : Int32) y0 h H locs hP hS ls (lv_sub hl [0, 1, 2, 3, 4, 5] rfl)
set_option maxHeartbeats 4000000 in
set_option maxRecDepth 100000 in
theorem cTX5_turns (l : Launch) (dC : Nat → ClassId) (dI : Nat → Nat → Nat) (cI : ClassId) (ad : Nat → Nat) (I : Nat → Int32) (F : Nat → Nat → Int32) (sz : Nat) (x1 x2 x3 x4 : Int32) (post : Int32 → (Nat → Int32) → (Nat → Nat → Int32) → Prop) (h : wX5_turns I F x1 x2 x3 x4 post) : Met l yX5_turns wsX5_turns { frames := 6, cells := 0, slots := 0, locals := 140 } (va_Pc [.ref (ad 0), .int x1, .int x2, .int x3, .int x4] (PWw dC dI cI (wM cI ad) I F sz)) (QWi dC dI (wM cI ad) post (va_A (wM cI ad I F) sz)) 0 0 (va_A (wM cI ad I F) sz) := by
  refine Met.ofW (cc := cX5_turns) (maxL := 6) (ret := (some .int)) (by decide) rfl ?_
  intro p e s m args below meth c s₁ B hml hv
  obtain ⟨rfl, hsz, ⟨hP, hK, hN⟩, hD0⟩ := hv
  subst hsz
  have hD := wD_any (wM_fix cI ad) (hD0.self (sz := s.heap.size))
  generalize hAe : va_A (wM cI ad I F) s.heap.size = A at hD ⊢
  have hA : ∀ q : Nat, s.heap.size ≤ q → A q := fun q h => by rw [← hAe]; exact Or.inr h
  clear hAe hD0
  have hx := B.exec
  have hb := B.bytes
  have hr := B.returns
  have hts := atoms_spec (ws := wsX5_turns) B.pre
  have hown : s.vm.findClass RX5 = some m.cls := findClass_of_methodNamed B.named
  have hlocks := B.notSynchronized
  have C : Cx p s m _ meth c cX5_turns 6 (some .int) RX5 wsX5_turns := ⟨hx, hb, hml, hown, hts, hr, hlocks⟩
  have hS : va_S A s.heap s.heap [] := va_S.rf
  have hl := lv_entry ([.ref (ad 0), .int x1, .int x2, .int x3, .int x4]) (n := 6) (Nat.le_of_ble_eq_true rfl)
  rw [lg_entry_eq]
  generalize (lg_sl ([.ref (ad 0), .int x1, .int x2, .int x3, .int x4]) ++ List.replicate (6 - (lg_sl ([.ref (ad 0), .int x1, .int x2, .int x3, .int x4])).length) Slot.unset).toArray = ls at hl ⊢
  have hl : lv_has ls 6 [(0, .ref (ad 0)), (1, .int x1), (2, .int x2), (3, .int x3), (4, .int x4)] := hl
  unfold wX5_turns at h
  refine lv_aload_n hx hb dX5_turns_0 rfl (lv_at hl 0 rfl) ?_
  refine lv_iload_n hx hb dX5_turns_1 rfl (lv_at hl 2 rfl) ?_
  refine vp_callSi (cr_of (va_runV (As := [.int x2]) (rest := []) ⟨hx, hb, hml, hown, hts⟩ (cTX5_isPolicy l dC dI cI ad I F x2 _ h) (cwV 1 hts gX5_turns_X5_isPolicy rfl rfl rfl (by decide +kernel) ⟨Nat.le_of_ble_eq_true rfl, Nat.le_of_ble_eq_true rfl⟩) (pv_R hP hK hN 0 5 rfl rfl _) rfl rfl hl.1 rfl (lv_room (Nat.le_of_ble_eq_true rfl)) dX5_turns_2 ⟨Nat.le_of_ble_eq_true rfl, Nat.le_of_ble_eq_true rfl⟩)) (fun r21 h => ?_)
  refine lv_istore (lv' := [(5, .int r21), (0, .ref (ad 0)), (1, .int x1), (2, .int x2), (3, .int x3), (4, .int x4)]) hx hb dX5_turns_5 hl (by decide) rfl (fun ls hl => ?_)
  refine lv_aload_n hx hb dX5_turns_7 rfl (lv_at hl 1 rfl) ?_
  refine lv_iload hx hb dX5_turns_8 (lv_at hl 0 rfl) ?_
  refine lv_if_ne (tgt := 17) hx hb dX5_turns_10 (by decide) (fun c22 => ?_) (fun c22 => ?_)
  · have h := h.1 c22
    refine lv_iconst (v := (0 : Int32)) hx hb dX5_turns_17 (by decide) ?_
    exact sX5_turns_18 C hK hN hD hA post I F x1 x2 x3 x4 r21 (0 : Int32) h s.heap [] hP hS ls (lv_sub hl [1, 2, 3, 4, 5, 0] rfl)
  · have h := h.2 c22
    refine lv_iconst (v := (1 : Int32)) hx hb dX5_turns_13 (by decide) ?_
    refine lv_goto (tgt := 18) hx hb dX5_turns_14 (by decide) ?_
    exact sX5_turns_18 C hK hN hD hA post I F x1 x2 x3 x4 r21 (1 : Int32) h s.heap [] hP hS ls (lv_sub hl [1, 2, 3, 4, 5, 0] rfl)

def wX5_cancel (I : Nat → Int32) (F : Nat → Nat → Int32) (x1 x2 x3 : Int32) (post : Int32 → (Nat → Int32) → (Nat → Nat → Int32) → Prop) : Prop := wX5_turns I F (2 : Int32) x1 x2 x3 (fun r1 I2 F3 => post r1 I2 F3)
set_option maxHeartbeats 4000000 in
set_option maxRecDepth 100000 in
theorem cTX5_cancel (l : Launch) (dC : Nat → ClassId) (dI : Nat → Nat → Nat) (cI : ClassId) (ad : Nat → Nat) (I : Nat → Int32) (F : Nat → Nat → Int32) (sz : Nat) (x1 x2 x3 : Int32) (post : Int32 → (Nat → Int32) → (Nat → Nat → Int32) → Prop) (h : wX5_cancel I F x1 x2 x3 post) : Met l yX5_cancel wsX5_cancel { frames := 7, cells := 0, slots := 0, locals := 165 } (va_Pc [.ref (ad 0), .int x1, .int x2, .int x3] (PWw dC dI cI (wM cI ad) I F sz)) (QWi dC dI (wM cI ad) post (va_A (wM cI ad I F) sz)) 0 0 (va_A (wM cI ad I F) sz) := by
  refine Met.ofW (cc := cX5_cancel) (maxL := 4) (ret := (some .int)) (by decide) rfl ?_
  intro p e s m args below meth c s₁ B hml hv
  obtain ⟨rfl, hsz, ⟨hP, hK, hN⟩, hD0⟩ := hv
  subst hsz
  have hD := wD_any (wM_fix cI ad) (hD0.self (sz := s.heap.size))
  generalize hAe : va_A (wM cI ad I F) s.heap.size = A at hD ⊢
  have hA : ∀ q : Nat, s.heap.size ≤ q → A q := fun q h => by rw [← hAe]; exact Or.inr h
  clear hAe hD0
  have hx := B.exec
  have hb := B.bytes
  have hr := B.returns
  have hts := atoms_spec (ws := wsX5_cancel) B.pre
  have hown : s.vm.findClass RX5 = some m.cls := findClass_of_methodNamed B.named
  have hlocks := B.notSynchronized
  have C : Cx p s m _ meth c cX5_cancel 4 (some .int) RX5 wsX5_cancel := ⟨hx, hb, hml, hown, hts, hr, hlocks⟩
  have hS : va_S A s.heap s.heap [] := va_S.rf
  have hl := lv_entry ([.ref (ad 0), .int x1, .int x2, .int x3]) (n := 4) (Nat.le_of_ble_eq_true rfl)
  rw [lg_entry_eq]
  generalize (lg_sl ([.ref (ad 0), .int x1, .int x2, .int x3]) ++ List.replicate (4 - (lg_sl ([.ref (ad 0), .int x1, .int x2, .int x3])).length) Slot.unset).toArray = ls at hl ⊢
  have hl : lv_has ls 4 [(0, .ref (ad 0)), (1, .int x1), (2, .int x2), (3, .int x3)] := hl
  unfold wX5_cancel at h
  refine lv_aload_n hx hb dX5_cancel_0 rfl (lv_at hl 0 rfl) ?_
  refine lv_iconst (v := (2 : Int32)) hx hb dX5_cancel_1 (by decide) ?_
  refine lv_iload_n hx hb dX5_cancel_2 rfl (lv_at hl 1 rfl) ?_
  refine lv_iload_n hx hb dX5_cancel_3 rfl (lv_at hl 2 rfl) ?_
  refine lv_iload_n hx hb dX5_cancel_4 rfl (lv_at hl 3 rfl) ?_
  refine wcall_i (va_runV (As := [.int (2 : Int32), .int x1, .int x2, .int x3]) (rest := []) ⟨hx, hb, hml, hown, hts⟩ (cTX5_turns l dC dI cI ad I F s.heap.size (2 : Int32) x1 x2 x3 _ h) (cwV 4 hts gX5_cancel_X5_turns rfl rfl rfl (by decide +kernel) ⟨Nat.le_of_ble_eq_true rfl, Nat.le_of_ble_eq_true rfl⟩) (pv_W hP hK hN ((hD _ _).weaken (fun _ _ _ _ => trivial)) 0 5 rfl rfl _) rfl rfl hl.1 rfl (lv_room (Nat.le_of_ble_eq_true rfl)) dX5_cancel_5 ⟨Nat.le_of_ble_eq_true rfl, Nat.le_of_ble_eq_true rfl⟩) hD hS hA (fun r1 I2 F3 h H locs hP hS => ?_)
  exact W.iret (v := r1) hx hb hr (fun t ht hW => ⟨⟨r1, (I2, F3), rfl, h, by show va_P _ _ _ t.heap; rw [ht]; exact hP⟩, hS.F ht⟩) hS.2.2 dX5_cancel_8

def wX5_reinstate (I : Nat → Int32) (F : Nat → Nat → Int32) (x1 x2 : Int32) (post : Int32 → (Nat → Int32) → (Nat → Nat → Int32) → Prop) : Prop := wX5_turns I F (3 : Int32) x1 x2 (0 : Int32) (fun r1 I2 F3 => post r1 I2 F3)
set_option maxHeartbeats 4000000 in
set_option maxRecDepth 100000 in
theorem cTX5_reinstate (l : Launch) (dC : Nat → ClassId) (dI : Nat → Nat → Nat) (cI : ClassId) (ad : Nat → Nat) (I : Nat → Int32) (F : Nat → Nat → Int32) (sz : Nat) (x1 x2 : Int32) (post : Int32 → (Nat → Int32) → (Nat → Nat → Int32) → Prop) (h : wX5_reinstate I F x1 x2 post) : Met l yX5_reinstate wsX5_reinstate { frames := 7, cells := 0, slots := 0, locals := 165 } (va_Pc [.ref (ad 0), .int x1, .int x2] (PWw dC dI cI (wM cI ad) I F sz)) (QWi dC dI (wM cI ad) post (va_A (wM cI ad I F) sz)) 0 0 (va_A (wM cI ad I F) sz) := by
  refine Met.ofW (cc := cX5_reinstate) (maxL := 3) (ret := (some .int)) (by decide) rfl ?_
  intro p e s m args below meth c s₁ B hml hv
  obtain ⟨rfl, hsz, ⟨hP, hK, hN⟩, hD0⟩ := hv
  subst hsz
  have hD := wD_any (wM_fix cI ad) (hD0.self (sz := s.heap.size))
  generalize hAe : va_A (wM cI ad I F) s.heap.size = A at hD ⊢
  have hA : ∀ q : Nat, s.heap.size ≤ q → A q := fun q h => by rw [← hAe]; exact Or.inr h
  clear hAe hD0
  have hx := B.exec
  have hb := B.bytes
  have hr := B.returns
  have hts := atoms_spec (ws := wsX5_reinstate) B.pre
  have hown : s.vm.findClass RX5 = some m.cls := findClass_of_methodNamed B.named
  have hlocks := B.notSynchronized
  have C : Cx p s m _ meth c cX5_reinstate 3 (some .int) RX5 wsX5_reinstate := ⟨hx, hb, hml, hown, hts, hr, hlocks⟩
  have hS : va_S A s.heap s.heap [] := va_S.rf
  have hl := lv_entry ([.ref (ad 0), .int x1, .int x2]) (n := 3) (Nat.le_of_ble_eq_true rfl)
  rw [lg_entry_eq]
  generalize (lg_sl ([.ref (ad 0), .int x1, .int x2]) ++ List.replicate (3 - (lg_sl ([.ref (ad 0), .int x1, .int x2])).length) Slot.unset).toArray = ls at hl ⊢
  have hl : lv_has ls 3 [(0, .ref (ad 0)), (1, .int x1), (2, .int x2)] := hl
  unfold wX5_reinstate at h
  refine lv_aload_n hx hb dX5_reinstate_0 rfl (lv_at hl 0 rfl) ?_
  refine lv_iconst (v := (3 : Int32)) hx hb dX5_reinstate_1 (by decide) ?_
  refine lv_iload_n hx hb dX5_reinstate_2 rfl (lv_at hl 1 rfl) ?_
  refine lv_iload_n hx hb dX5_reinstate_3 rfl (lv_at hl 2 rfl) ?_
  refine lv_iconst (v := (0 : Int32)) hx hb dX5_reinstate_4 (by decide) ?_
  refine wcall_i (va_runV (As := [.int (3 : Int32), .int x1, .int x2, .int (0 : Int32)]) (rest := []) ⟨hx, hb, hml, hown, hts⟩ (cTX5_turns l dC dI cI ad I F s.heap.size (3 : Int32) x1 x2 (0 : Int32) _ h) (cwV 4 hts gX5_reinstate_X5_turns rfl rfl rfl (by decide +kernel) ⟨Nat.le_of_ble_eq_true rfl, Nat.le_of_ble_eq_true rfl⟩) (pv_W hP hK hN ((hD _ _).weaken (fun _ _ _ _ => trivial)) 0 5 rfl rfl _) rfl rfl hl.1 rfl (lv_room (Nat.le_of_ble_eq_true rfl)) dX5_reinstate_5 ⟨Nat.le_of_ble_eq_true rfl, Nat.le_of_ble_eq_true rfl⟩) hD hS hA (fun r1 I2 F3 h H locs hP hS => ?_)
  exact W.iret (v := r1) hx hb hr (fun t ht hW => ⟨⟨r1, (I2, F3), rfl, h, by show va_P _ _ _ t.heap; rw [ht]; exact hP⟩, hS.F ht⟩) hS.2.2 dX5_reinstate_8

theorem iX5_claim_X5 : ∀ w ∈ wsX50, w ∈ wsX5_claim := by decide +kernel
def bX5_claim_162 (post : Int32 → (Nat → Int32) → (Nat → Nat → Int32) → Prop) (I : Nat → Int32) (F : Nat → Nat → Int32) (x1 x2 x5 x6 y0 : Int32) : Prop := wX5_least y0 (I 11) (fun r1 => wX5_before I F (-1 : Int32) (4 : Int32) (fun r2 => wX5_least r1 (((I 11) * ((1 : Int32) + (I 12))) - r2) (fun r3 => wX5_before I F (-1 : Int32) (5 : Int32) (fun r4 => wX5_least r3 (((I 11) * (I 12)) - r4) (fun r5 => ∀ I6 : Nat → Int32, I6 = va_up I 5 (0 : Int32) → wX5_drafted I6 F x5 (1 : Int32) (4 : Int32) (fun I8 F9 => wX5_drafted I8 F9 (x6 + r3) (5 : Int32) (3 : Int32) (fun I11 F12 => wX5_drafted I11 F12 ((r5 * (I11 13)) / (100 : Int32)) (3 : Int32) (2 : Int32) (fun I14 F15 => wX5_posts I14 F15 (fun r16 I17 F18 => ((¬ r16 = (0 : Int32) → vp_in ((6 : Int32) * (I17 14)) 120 ∧ ∀ F20 : Nat → Nat → Int32, F20 = va_up F18 16 (upd (F18 16) (Int32.toNatClampNeg ((6 : Int32) * (I17 14))) x1) → vp_in (((6 : Int32) * (I17 14)) + (1 : Int32)) 120 ∧ ∀ F22 : Nat → Nat → Int32, F22 = va_up F20 16 (upd (F20 16) (Int32.toNatClampNeg (((6 : Int32) * (I17 14)) + (1 : Int32))) x2) → vp_in (((6 : Int32) * (I17 14)) + (2 : Int32)) 120 ∧ ∀ F24 : Nat → Nat → Int32, F24 = va_up F22 16 (upd (F22 16) (Int32.toNatClampNeg (((6 : Int32) * (I17 14)) + (2 : Int32))) x5) → vp_in (((6 : Int32) * (I17 14)) + (3 : Int32)) 120 ∧ ∀ F26 : Nat → Nat → Int32, F26 = va_up F24 16 (upd (F24 16) (Int32.toNatClampNeg (((6 : Int32) * (I17 14)) + (3 : Int32))) x6) → vp_in (((6 : Int32) * (I17 14)) + (4 : Int32)) 120 ∧ ∀ F28 : Nat → Nat → Int32, F28 = va_up F26 16 (upd (F26 16) (Int32.toNatClampNeg (((6 : Int32) * (I17 14)) + (4 : Int32))) r3) → vp_in (((6 : Int32) * (I17 14)) + (5 : Int32)) 120 ∧ ∀ F30 : Nat → Nat → Int32, F30 = va_up F28 16 (upd (F28 16) (Int32.toNatClampNeg (((6 : Int32) * (I17 14)) + (5 : Int32))) r5) → ∀ v32 : Int32, v32 = ((I17 14) + (1 : Int32)) → ∀ I33 : Nat → Int32, I33 = va_up I17 14 v32 → post x5 I33 F30) ∧ (r16 = (0 : Int32) → ∀ I34 : Nat → Int32, I34 = va_up I17 0 (4 : Int32) → post (0 : Int32) I34 F18)))))))))))
def bX5_claim_101 (post : Int32 → (Nat → Int32) → (Nat → Nat → Int32) → Prop) (I : Nat → Int32) (F : Nat → Nat → Int32) (x1 x2 y0 : Int32) : Prop := wX5_least y0 (I 8) (fun r35 => wX5_before I F x1 (2 : Int32) (fun r36 => wX5_least r35 ((I 9) - r36) (fun r37 => ∀ v38 : Int32, v38 = ((r37 * (I 6)) / (100 : Int32)) → (((r37 - v38) ≤ (I 10) → bX5_claim_162 post I F x1 x2 r37 v38 (0 : Int32)) ∧ (¬ (r37 - v38) ≤ (I 10) → bX5_claim_162 post I F x1 x2 r37 v38 ((r37 - v38) - (I 10)))))))
def bX5_claim_75 (post : Int32 → (Nat → Int32) → (Nat → Nat → Int32) → Prop) (I : Nat → Int32) (F : Nat → Nat → Int32) (x1 x2 x3 y0 y1 y2 : Int32) : Prop := wX5_fails I F y2 y1 y0 (fun r40 I41 F42 => ((r40 = (0 : Int32) → ((x3 ≤ (I41 7) → bX5_claim_101 post I41 F42 x1 x2 (0 : Int32)) ∧ (¬ x3 ≤ (I41 7) → bX5_claim_101 post I41 F42 x1 x2 (x3 - (I41 7))))) ∧ (¬ r40 = (0 : Int32) → post (0 : Int32) I41 F42)))
def bX5_claim_45 (post : Int32 → (Nat → Int32) → (Nat → Nat → Int32) → Prop) (I : Nat → Int32) (F : Nat → Nat → Int32) (x1 x2 x3 x4 y0 y1 : Int32) : Prop := ((x4 = (0 : Int32) → bX5_claim_75 post I F x1 x2 x3 (0 : Int32) y0 y1) ∧ (¬ x4 = (0 : Int32) → wX5_inForce I F x1 x2 (99 : Int32) (fun r46 I47 F48 => ((r46 = (0 : Int32) → bX5_claim_75 post I47 F48 x1 x2 x3 (1 : Int32) y0 y1) ∧ (¬ r46 = (0 : Int32) → ((¬ (I47 14) = (20 : Int32) → bX5_claim_75 post I47 F48 x1 x2 x3 (0 : Int32) y0 y1) ∧ ((I47 14) = (20 : Int32) → bX5_claim_75 post I47 F48 x1 x2 x3 (1 : Int32) y0 y1)))))))
def bX5_claim_18 (post : Int32 → (Nat → Int32) → (Nat → Nat → Int32) → Prop) (I : Nat → Int32) (F : Nat → Nat → Int32) (x1 x2 x3 x4 y0 : Int32) : Prop := wX5_outside x2 (0 : Int32) (999 : Int32) (fun r51 => ((¬ r51 = (0 : Int32) → bX5_claim_45 post I F x1 x2 x3 x4 (1 : Int32) y0) ∧ (r51 = (0 : Int32) → wX5_outside x3 (1 : Int32) (9999 : Int32) (fun r53 => ((r53 = (0 : Int32) → bX5_claim_45 post I F x1 x2 x3 x4 (0 : Int32) y0) ∧ (¬ r53 = (0 : Int32) → bX5_claim_45 post I F x1 x2 x3 x4 (1 : Int32) y0))))))
def wX5_claim (I : Nat → Int32) (F : Nat → Nat → Int32) (x1 x2 x3 : Int32) (post : Int32 → (Nat → Int32) → (Nat → Nat → Int32) → Prop) : Prop := wX5_isPolicy I F x1 (fun r55 => ((¬ r55 = (0 : Int32) → bX5_claim_18 post I F x1 x2 x3 r55 (0 : Int32)) ∧ (r55 = (0 : Int32) → bX5_claim_18 post I F x1 x2 x3 r55 (1 : Int32))))
set_option maxHeartbeats 4000000 in
set_option maxRecDepth 100000 in
theorem sX5_claim_162 {p : Program} {l : Launch} {e : Env} {s : State} {m : MethodId} {args : Array Value} {below : List Frame} {meth : Method} {c : Code} {dC : Nat → ClassId} {dI : Nat → Nat → Nat} {cI : ClassId} {ad : Nat → Nat} {A : Nat → Prop} (C : Cx p s m args meth c cX5_claim 9 (some .int) RX5 wsX5_claim) (hK : va_K (dC, dI) vwCl [(cI, .int)] s) (hN : NW s) (hD : ∀ I F, va_D A (wM cI ad I F)) (hA : ∀ q : Nat, s.heap.size ≤ q → A q) (post : Int32 → (Nat → Int32) → (Nat → Nat → Int32) → Prop) : ∀ (I : Nat → Int32) (F : Nat → Nat → Int32) (x1 x2 x5 x6 y0 : Int32), bX5_claim_162 post I F x1 x2 x5 x6 y0 → ∀ (H : Heap) (locs : List Loc), va_P (dC, dI) vwCl (wM cI ad I F) H → va_S A s.heap H locs → ∀ (ls : Array Slot), lv_has ls 9 [(0, .ref (ad 0)), (1, .int x1), (2, .int x2), (5, .int x5), (6, .int x6)] → W p l e { frames := 2, cells := 0, slots := 0, locals := 50 } s m args below meth c H locs 0 0 (MQ below (QWi dC dI (wM cI ad) post A) args s 0 0 A) (F0 m 162 ls [.int y0]) := by
  obtain ⟨hx, hb, hml, hown, hts, hr, hlocks⟩ := id C
  intro I F x1 x2 x5 x6 y0 h H locs hP hS ls hl
  unfold bX5_claim_162 at h
  refine lv_istore (lv' := [(7, .int y0), (0, .ref (ad 0)), (1, .int x1), (2, .int x2), (5, .int x5), (6, .int x6)]) hx hb dX5_claim_162 hl (by decide) rfl (fun ls hl => ?_)
  refine lv_iload hx hb dX5_claim_164 (lv_at hl 0 rfl) ?_
  refine lv_aload_n hx hb dX5_claim_166 rfl (lv_at hl 1 rfl) ?_
  refine va_get (D := (dC, dI)) (ci := 5) (v := .int (I 11)) (C := RX5) (T := TX5) (N := 31) hx hb hts iX5_claim_X5 hown hK hP 0 rfl rfl 26 (by decide) (hts (.fieldLink RX5 101 "CarrierBooksModel" "layer" "I") (by decide +kernel)) (fun _ h9 => h9) rfl dX5_claim_167 ?_
  refine vp_callSi (cr_of (va_runS (As := [.int y0, .int (I 11)]) (rest := []) ⟨hx, hb, hml, hown, hts⟩ (cTX5_least l y0 (I 11) _ h) (va_cwS 2 hts gX5_claim_X5_least rfl rfl rfl (by decide +kernel) ⟨Nat.le_of_ble_eq_true rfl, Nat.le_of_ble_eq_true rfl⟩) (pv_S _) rfl rfl hl.1 rfl (lv_room (Nat.le_of_ble_eq_true rfl)) dX5_claim_170 ⟨Nat.le_of_ble_eq_true rfl, Nat.le_of_ble_eq_true rfl⟩)) (fun r1 h => ?_)
  refine lv_aload_n hx hb dX5_claim_173 rfl (lv_at hl 1 rfl) ?_
  refine va_get (D := (dC, dI)) (ci := 5) (v := .int (I 11)) (C := RX5) (T := TX5) (N := 31) hx hb hts iX5_claim_X5 hown hK hP 0 rfl rfl 26 (by decide) (hts (.fieldLink RX5 101 "CarrierBooksModel" "layer" "I") (by decide +kernel)) (fun _ h9 => h9) rfl dX5_claim_174 ?_
  refine lv_iconst (v := (1 : Int32)) hx hb dX5_claim_177 (by decide) ?_
  refine lv_aload_n hx hb dX5_claim_178 rfl (lv_at hl 1 rfl) ?_
  refine va_get (D := (dC, dI)) (ci := 5) (v := .int (I 12)) (C := RX5) (T := TX5) (N := 31) hx hb hts iX5_claim_X5 hown hK hP 0 rfl rfl 27 (by decide) (hts (.fieldLink RX5 104 "CarrierBooksModel" "times" "I") (by decide +kernel)) (fun _ h9 => h9) rfl dX5_claim_179 ?_
  refine lv_iadd hx hb dX5_claim_182 ?_
  refine lv_imul hx hb dX5_claim_183 ?_
  refine lv_aload_n hx hb dX5_claim_184 rfl (lv_at hl 1 rfl) ?_
  refine lv_iconst (v := (-1 : Int32)) hx hb dX5_claim_185 (by decide) ?_
  refine lv_iconst (v := (4 : Int32)) hx hb dX5_claim_186 (by decide) ?_
  refine vp_callSi (cr_of (va_runV (As := [.int (-1 : Int32), .int (4 : Int32)]) (rest := [.int ((I 11) * ((1 : Int32) + (I 12))), .int r1]) ⟨hx, hb, hml, hown, hts⟩ (cTX5_before l dC dI cI ad I F (-1 : Int32) (4 : Int32) _ h) (cwV 2 hts gX5_claim_X5_before rfl rfl rfl (by decide +kernel) ⟨Nat.le_of_ble_eq_true rfl, Nat.le_of_ble_eq_true rfl⟩) (pv_R hP hK hN 0 5 rfl rfl _) rfl rfl hl.1 rfl (lv_room (Nat.le_of_ble_eq_true rfl)) dX5_claim_187 ⟨Nat.le_of_ble_eq_true rfl, Nat.le_of_ble_eq_true rfl⟩)) (fun r2 h => ?_)
  refine lv_isub hx hb dX5_claim_190 ?_
  refine vp_callSi (cr_of (va_runS (As := [.int r1, .int (((I 11) * ((1 : Int32) + (I 12))) - r2)]) (rest := []) ⟨hx, hb, hml, hown, hts⟩ (cTX5_least l r1 (((I 11) * ((1 : Int32) + (I 12))) - r2) _ h) (va_cwS 2 hts gX5_claim_X5_least rfl rfl rfl (by decide +kernel) ⟨Nat.le_of_ble_eq_true rfl, Nat.le_of_ble_eq_true rfl⟩) (pv_S _) rfl rfl hl.1 rfl (lv_room (Nat.le_of_ble_eq_true rfl)) dX5_claim_191 ⟨Nat.le_of_ble_eq_true rfl, Nat.le_of_ble_eq_true rfl⟩)) (fun r3 h => ?_)
  refine lv_istore (lv' := [(7, .int r3), (0, .ref (ad 0)), (1, .int x1), (2, .int x2), (5, .int x5), (6, .int x6)]) hx hb dX5_claim_194 hl (by decide) rfl (fun ls hl => ?_)
  refine lv_iload hx hb dX5_claim_196 (lv_at hl 0 rfl) ?_
  refine lv_aload_n hx hb dX5_claim_198 rfl (lv_at hl 1 rfl) ?_
  refine va_get (D := (dC, dI)) (ci := 5) (v := .int (I 11)) (C := RX5) (T := TX5) (N := 31) hx hb hts iX5_claim_X5 hown hK hP 0 rfl rfl 26 (by decide) (hts (.fieldLink RX5 101 "CarrierBooksModel" "layer" "I") (by decide +kernel)) (fun _ h9 => h9) rfl dX5_claim_199 ?_
  refine lv_aload_n hx hb dX5_claim_202 rfl (lv_at hl 1 rfl) ?_
  refine va_get (D := (dC, dI)) (ci := 5) (v := .int (I 12)) (C := RX5) (T := TX5) (N := 31) hx hb hts iX5_claim_X5 hown hK hP 0 rfl rfl 27 (by decide) (hts (.fieldLink RX5 104 "CarrierBooksModel" "times" "I") (by decide +kernel)) (fun _ h9 => h9) rfl dX5_claim_203 ?_
  refine lv_imul hx hb dX5_claim_206 ?_
  refine lv_aload_n hx hb dX5_claim_207 rfl (lv_at hl 1 rfl) ?_
  refine lv_iconst (v := (-1 : Int32)) hx hb dX5_claim_208 (by decide) ?_
  refine lv_iconst (v := (5 : Int32)) hx hb dX5_claim_209 (by decide) ?_
  refine vp_callSi (cr_of (va_runV (As := [.int (-1 : Int32), .int (5 : Int32)]) (rest := [.int ((I 11) * (I 12)), .int r3]) ⟨hx, hb, hml, hown, hts⟩ (cTX5_before l dC dI cI ad I F (-1 : Int32) (5 : Int32) _ h) (cwV 2 hts gX5_claim_X5_before rfl rfl rfl (by decide +kernel) ⟨Nat.le_of_ble_eq_true rfl, Nat.le_of_ble_eq_true rfl⟩) (pv_R hP hK hN 0 5 rfl rfl _) rfl rfl hl.1 rfl (lv_room (Nat.le_of_ble_eq_true rfl)) dX5_claim_210 ⟨Nat.le_of_ble_eq_true rfl, Nat.le_of_ble_eq_true rfl⟩)) (fun r4 h => ?_)
  refine lv_isub hx hb dX5_claim_213 ?_
  refine vp_callSi (cr_of (va_runS (As := [.int r3, .int (((I 11) * (I 12)) - r4)]) (rest := []) ⟨hx, hb, hml, hown, hts⟩ (cTX5_least l r3 (((I 11) * (I 12)) - r4) _ h) (va_cwS 2 hts gX5_claim_X5_least rfl rfl rfl (by decide +kernel) ⟨Nat.le_of_ble_eq_true rfl, Nat.le_of_ble_eq_true rfl⟩) (pv_S _) rfl rfl hl.1 rfl (lv_room (Nat.le_of_ble_eq_true rfl)) dX5_claim_214 ⟨Nat.le_of_ble_eq_true rfl, Nat.le_of_ble_eq_true rfl⟩)) (fun r5 h => ?_)
  refine lv_istore (lv' := [(8, .int r5), (7, .int r3), (0, .ref (ad 0)), (1, .int x1), (2, .int x2), (5, .int x5), (6, .int x6)]) hx hb dX5_claim_217 hl (by decide) rfl (fun ls hl => ?_)
  refine lv_aload_n hx hb dX5_claim_219 rfl (lv_at hl 2 rfl) ?_
  refine lv_iconst (v := (0 : Int32)) hx hb dX5_claim_220 (by decide) ?_
  refine put_w (wf := wM cI ad) (ci := 5) (C := RX5) (T := TX5) (N := 31) hx hb hts iX5_claim_X5 tyX5 tyX5_ok nmX5 hown hK hP hD hS 0 rfl rfl 17 (by decide) (hts (.fieldLink RX5 138 "CarrierBooksModel" "drafts" "I") (by decide +kernel)) (fun _ h9 => h9) rfl 5 (by decide +kernel) (Nat.le_of_ble_eq_true rfl) rfl dX5_claim_221 (fun I6 eI6 H locs hP hS => ?_)
  have h := h I6 eI6
  refine lv_aload_n hx hb dX5_claim_224 rfl (lv_at hl 2 rfl) ?_
  refine lv_iload hx hb dX5_claim_225 (lv_at hl 5 rfl) ?_
  refine lv_iconst (v := (1 : Int32)) hx hb dX5_claim_227 (by decide) ?_
  refine lv_iconst (v := (4 : Int32)) hx hb dX5_claim_228 (by decide) ?_
  refine wcall_v (va_runV (As := [.int x5, .int (1 : Int32), .int (4 : Int32)]) (rest := []) ⟨hx, hb, hml, hown, hts⟩ (cTX5_drafted l dC dI cI ad I6 F H.size x5 (1 : Int32) (4 : Int32) _ h) (cwV 3 hts gX5_claim_X5_drafted rfl rfl rfl (by decide +kernel) ⟨Nat.le_of_ble_eq_true rfl, Nat.le_of_ble_eq_true rfl⟩) (pv_W hP hK hN ((hD _ _).weaken (fun _ _ _ _ => trivial)) 0 5 rfl rfl _) rfl rfl hl.1 rfl (lv_room (Nat.le_of_ble_eq_true rfl)) dX5_claim_229 ⟨Nat.le_of_ble_eq_true rfl, Nat.le_of_ble_eq_true rfl⟩) hD hS hA (fun I8 F9 h H locs hP hS => ?_)
  refine lv_aload_n hx hb dX5_claim_232 rfl (lv_at hl 2 rfl) ?_
  refine lv_iload hx hb dX5_claim_233 (lv_at hl 6 rfl) ?_
  refine lv_iload hx hb dX5_claim_235 (lv_at hl 1 rfl) ?_
  refine lv_iadd hx hb dX5_claim_237 ?_
  refine lv_iconst (v := (5 : Int32)) hx hb dX5_claim_238 (by decide) ?_
  refine lv_iconst (v := (3 : Int32)) hx hb dX5_claim_239 (by decide) ?_
  refine wcall_v (va_runV (As := [.int (x6 + r3), .int (5 : Int32), .int (3 : Int32)]) (rest := []) ⟨hx, hb, hml, hown, hts⟩ (cTX5_drafted l dC dI cI ad I8 F9 H.size (x6 + r3) (5 : Int32) (3 : Int32) _ h) (cwV 3 hts gX5_claim_X5_drafted rfl rfl rfl (by decide +kernel) ⟨Nat.le_of_ble_eq_true rfl, Nat.le_of_ble_eq_true rfl⟩) (pv_W hP hK hN ((hD _ _).weaken (fun _ _ _ _ => trivial)) 0 5 rfl rfl _) rfl rfl hl.1 rfl (lv_room (Nat.le_of_ble_eq_true rfl)) dX5_claim_240 ⟨Nat.le_of_ble_eq_true rfl, Nat.le_of_ble_eq_true rfl⟩) hD hS hA (fun I11 F12 h H locs hP hS => ?_)
  refine lv_aload_n hx hb dX5_claim_243 rfl (lv_at hl 2 rfl) ?_
  refine lv_iload hx hb dX5_claim_244 (lv_at hl 0 rfl) ?_
  refine lv_aload_n hx hb dX5_claim_246 rfl (lv_at hl 2 rfl) ?_
  refine va_get (D := (dC, dI)) (ci := 5) (v := .int (I11 13)) (C := RX5) (T := TX5) (N := 31) hx hb hts iX5_claim_X5 hown hK hP 0 rfl rfl 28 (by decide) (hts (.fieldLink RX5 107 "CarrierBooksModel" "price" "I") (by decide +kernel)) (fun _ h9 => h9) rfl dX5_claim_247 ?_
  refine lv_imul hx hb dX5_claim_250 ?_
  refine lv_bipush (v := (100 : Int32)) hx hb dX5_claim_251 (by decide) ?_
  refine lv_idiv hx hb dX5_claim_253 (by decide) ?_
  refine lv_iconst (v := (3 : Int32)) hx hb dX5_claim_254 (by decide) ?_
  refine lv_iconst (v := (2 : Int32)) hx hb dX5_claim_255 (by decide) ?_
  refine wcall_v (va_runV (As := [.int ((r5 * (I11 13)) / (100 : Int32)), .int (3 : Int32), .int (2 : Int32)]) (rest := []) ⟨hx, hb, hml, hown, hts⟩ (cTX5_drafted l dC dI cI ad I11 F12 H.size ((r5 * (I11 13)) / (100 : Int32)) (3 : Int32) (2 : Int32) _ h) (cwV 3 hts gX5_claim_X5_drafted rfl rfl rfl (by decide +kernel) ⟨Nat.le_of_ble_eq_true rfl, Nat.le_of_ble_eq_true rfl⟩) (pv_W hP hK hN ((hD _ _).weaken (fun _ _ _ _ => trivial)) 0 5 rfl rfl _) rfl rfl hl.1 rfl (lv_room (Nat.le_of_ble_eq_true rfl)) dX5_claim_256 ⟨Nat.le_of_ble_eq_true rfl, Nat.le_of_ble_eq_true rfl⟩) hD hS hA (fun I14 F15 h H locs hP hS => ?_)
  refine lv_aload_n hx hb dX5_claim_259 rfl (lv_at hl 2 rfl) ?_
  refine wcall_i (va_runV (As := []) (rest := []) ⟨hx, hb, hml, hown, hts⟩ (cTX5_posts l dC dI cI ad I14 F15 H.size _ h) (cwV 0 hts gX5_claim_X5_posts rfl rfl rfl (by decide +kernel) ⟨Nat.le_of_ble_eq_true rfl, Nat.le_of_ble_eq_true rfl⟩) (pv_W hP hK hN ((hD _ _).weaken (fun _ _ _ _ => trivial)) 0 5 rfl rfl _) rfl rfl hl.1 rfl (lv_room (Nat.le_of_ble_eq_true rfl)) dX5_claim_260 ⟨Nat.le_of_ble_eq_true rfl, Nat.le_of_ble_eq_true rfl⟩) hD hS hA (fun r16 I17 F18 h H locs hP hS => ?_)
  refine lv_if_ne (tgt := 273) hx hb dX5_claim_263 (by decide) (fun c19 => ?_) (fun c19 => ?_)
  · have h := h.1 c19
    refine lv_aload_n hx hb dX5_claim_273 rfl (lv_at hl 2 rfl) ?_
    refine va_get (D := (dC, dI)) (ci := 5) (v := .ref (ad 16)) (C := RX5) (T := TX5) (N := 31) hx hb hts iX5_claim_X5 hown hK hP 0 rfl rfl 30 (by decide) (hts (.fieldLink RX5 65 "CarrierBooksModel" "claim" "[I") (by decide +kernel)) (fun _ h9 => h9) rfl dX5_claim_274 ?_
    refine lv_bipush (v := (6 : Int32)) hx hb dX5_claim_277 (by decide) ?_
    refine lv_aload_n hx hb dX5_claim_279 rfl (lv_at hl 2 rfl) ?_
    refine va_get (D := (dC, dI)) (ci := 5) (v := .int (I17 14)) (C := RX5) (T := TX5) (N := 31) hx hb hts iX5_claim_X5 hown hK hP 0 rfl rfl 29 (by decide) (hts (.fieldLink RX5 95 "CarrierBooksModel" "claims" "I") (by decide +kernel)) (fun _ h9 => h9) rfl dX5_claim_280 ?_
    refine lv_imul hx hb dX5_claim_283 ?_
    refine lv_iload_n hx hb dX5_claim_284 rfl (lv_at hl 3 rfl) ?_
    obtain ⟨hin21, h⟩ := h
    refine ast_w (wf := wM cI ad) hx hb hK hP hD hS 16 16 rfl hin21 rfl dX5_claim_285 (fun F20 eF20 H locs hP hS => ?_)
    have h := h F20 eF20
    refine lv_aload_n hx hb dX5_claim_286 rfl (lv_at hl 2 rfl) ?_
    refine va_get (D := (dC, dI)) (ci := 5) (v := .ref (ad 16)) (C := RX5) (T := TX5) (N := 31) hx hb hts iX5_claim_X5 hown hK hP 0 rfl rfl 30 (by decide) (hts (.fieldLink RX5 65 "CarrierBooksModel" "claim" "[I") (by decide +kernel)) (fun _ h9 => h9) rfl dX5_claim_287 ?_
    refine lv_bipush (v := (6 : Int32)) hx hb dX5_claim_290 (by decide) ?_
    refine lv_aload_n hx hb dX5_claim_292 rfl (lv_at hl 2 rfl) ?_
    refine va_get (D := (dC, dI)) (ci := 5) (v := .int (I17 14)) (C := RX5) (T := TX5) (N := 31) hx hb hts iX5_claim_X5 hown hK hP 0 rfl rfl 29 (by decide) (hts (.fieldLink RX5 95 "CarrierBooksModel" "claims" "I") (by decide +kernel)) (fun _ h9 => h9) rfl dX5_claim_293 ?_
    refine lv_imul hx hb dX5_claim_296 ?_
    refine lv_iconst (v := (1 : Int32)) hx hb dX5_claim_297 (by decide) ?_
    refine lv_iadd hx hb dX5_claim_298 ?_
    refine lv_iload_n hx hb dX5_claim_299 rfl (lv_at hl 4 rfl) ?_
    obtain ⟨hin23, h⟩ := h
    refine ast_w (wf := wM cI ad) hx hb hK hP hD hS 16 16 rfl hin23 rfl dX5_claim_300 (fun F22 eF22 H locs hP hS => ?_)
    have h := h F22 eF22
    refine lv_aload_n hx hb dX5_claim_301 rfl (lv_at hl 2 rfl) ?_
    refine va_get (D := (dC, dI)) (ci := 5) (v := .ref (ad 16)) (C := RX5) (T := TX5) (N := 31) hx hb hts iX5_claim_X5 hown hK hP 0 rfl rfl 30 (by decide) (hts (.fieldLink RX5 65 "CarrierBooksModel" "claim" "[I") (by decide +kernel)) (fun _ h9 => h9) rfl dX5_claim_302 ?_
    refine lv_bipush (v := (6 : Int32)) hx hb dX5_claim_305 (by decide) ?_
    refine lv_aload_n hx hb dX5_claim_307 rfl (lv_at hl 2 rfl) ?_
    refine va_get (D := (dC, dI)) (ci := 5) (v := .int (I17 14)) (C := RX5) (T := TX5) (N := 31) hx hb hts iX5_claim_X5 hown hK hP 0 rfl rfl 29 (by decide) (hts (.fieldLink RX5 95 "CarrierBooksModel" "claims" "I") (by decide +kernel)) (fun _ h9 => h9) rfl dX5_claim_308 ?_
    refine lv_imul hx hb dX5_claim_311 ?_
    refine lv_iconst (v := (2 : Int32)) hx hb dX5_claim_312 (by decide) ?_
    refine lv_iadd hx hb dX5_claim_313 ?_
    refine lv_iload hx hb dX5_claim_314 (lv_at hl 5 rfl) ?_
    obtain ⟨hin25, h⟩ := h
    refine ast_w (wf := wM cI ad) hx hb hK hP hD hS 16 16 rfl hin25 rfl dX5_claim_316 (fun F24 eF24 H locs hP hS => ?_)
    have h := h F24 eF24
    refine lv_aload_n hx hb dX5_claim_317 rfl (lv_at hl 2 rfl) ?_
    refine va_get (D := (dC, dI)) (ci := 5) (v := .ref (ad 16)) (C := RX5) (T := TX5) (N := 31) hx hb hts iX5_claim_X5 hown hK hP 0 rfl rfl 30 (by decide) (hts (.fieldLink RX5 65 "CarrierBooksModel" "claim" "[I") (by decide +kernel)) (fun _ h9 => h9) rfl dX5_claim_318 ?_
    refine lv_bipush (v := (6 : Int32)) hx hb dX5_claim_321 (by decide) ?_
    refine lv_aload_n hx hb dX5_claim_323 rfl (lv_at hl 2 rfl) ?_
    refine va_get (D := (dC, dI)) (ci := 5) (v := .int (I17 14)) (C := RX5) (T := TX5) (N := 31) hx hb hts iX5_claim_X5 hown hK hP 0 rfl rfl 29 (by decide) (hts (.fieldLink RX5 95 "CarrierBooksModel" "claims" "I") (by decide +kernel)) (fun _ h9 => h9) rfl dX5_claim_324 ?_
    refine lv_imul hx hb dX5_claim_327 ?_
    refine lv_iconst (v := (3 : Int32)) hx hb dX5_claim_328 (by decide) ?_
    refine lv_iadd hx hb dX5_claim_329 ?_
    refine lv_iload hx hb dX5_claim_330 (lv_at hl 6 rfl) ?_
    obtain ⟨hin27, h⟩ := h
    refine ast_w (wf := wM cI ad) hx hb hK hP hD hS 16 16 rfl hin27 rfl dX5_claim_332 (fun F26 eF26 H locs hP hS => ?_)
    have h := h F26 eF26
    refine lv_aload_n hx hb dX5_claim_333 rfl (lv_at hl 2 rfl) ?_
    refine va_get (D := (dC, dI)) (ci := 5) (v := .ref (ad 16)) (C := RX5) (T := TX5) (N := 31) hx hb hts iX5_claim_X5 hown hK hP 0 rfl rfl 30 (by decide) (hts (.fieldLink RX5 65 "CarrierBooksModel" "claim" "[I") (by decide +kernel)) (fun _ h9 => h9) rfl dX5_claim_334 ?_
    refine lv_bipush (v := (6 : Int32)) hx hb dX5_claim_337 (by decide) ?_
    refine lv_aload_n hx hb dX5_claim_339 rfl (lv_at hl 2 rfl) ?_
    refine va_get (D := (dC, dI)) (ci := 5) (v := .int (I17 14)) (C := RX5) (T := TX5) (N := 31) hx hb hts iX5_claim_X5 hown hK hP 0 rfl rfl 29 (by decide) (hts (.fieldLink RX5 95 "CarrierBooksModel" "claims" "I") (by decide +kernel)) (fun _ h9 => h9) rfl dX5_claim_340 ?_
    refine lv_imul hx hb dX5_claim_343 ?_
    refine lv_iconst (v := (4 : Int32)) hx hb dX5_claim_344 (by decide) ?_
    refine lv_iadd hx hb dX5_claim_345 ?_
    refine lv_iload hx hb dX5_claim_346 (lv_at hl 1 rfl) ?_
    obtain ⟨hin29, h⟩ := h
    refine ast_w (wf := wM cI ad) hx hb hK hP hD hS 16 16 rfl hin29 rfl dX5_claim_348 (fun F28 eF28 H locs hP hS => ?_)
    have h := h F28 eF28
    refine lv_aload_n hx hb dX5_claim_349 rfl (lv_at hl 2 rfl) ?_
    refine va_get (D := (dC, dI)) (ci := 5) (v := .ref (ad 16)) (C := RX5) (T := TX5) (N := 31) hx hb hts iX5_claim_X5 hown hK hP 0 rfl rfl 30 (by decide) (hts (.fieldLink RX5 65 "CarrierBooksModel" "claim" "[I") (by decide +kernel)) (fun _ h9 => h9) rfl dX5_claim_350 ?_
    refine lv_bipush (v := (6 : Int32)) hx hb dX5_claim_353 (by decide) ?_
    refine lv_aload_n hx hb dX5_claim_355 rfl (lv_at hl 2 rfl) ?_
    refine va_get (D := (dC, dI)) (ci := 5) (v := .int (I17 14)) (C := RX5) (T := TX5) (N := 31) hx hb hts iX5_claim_X5 hown hK hP 0 rfl rfl 29 (by decide) (hts (.fieldLink RX5 95 "CarrierBooksModel" "claims" "I") (by decide +kernel)) (fun _ h9 => h9) rfl dX5_claim_356 ?_
    refine lv_imul hx hb dX5_claim_359 ?_
    refine lv_iconst (v := (5 : Int32)) hx hb dX5_claim_360 (by decide) ?_
    refine lv_iadd hx hb dX5_claim_361 ?_
    refine lv_iload hx hb dX5_claim_362 (lv_at hl 0 rfl) ?_
    obtain ⟨hin31, h⟩ := h
    refine ast_w (wf := wM cI ad) hx hb hK hP hD hS 16 16 rfl hin31 rfl dX5_claim_364 (fun F30 eF30 H locs hP hS => ?_)
    have h := h F30 eF30
    refine lv_aload_n hx hb dX5_claim_365 rfl (lv_at hl 2 rfl) ?_
    refine lv_dup hx hb dX5_claim_366 rfl ?_
    refine va_get (D := (dC, dI)) (ci := 5) (v := .int (I17 14)) (C := RX5) (T := TX5) (N := 31) hx hb hts iX5_claim_X5 hown hK hP 0 rfl rfl 29 (by decide) (hts (.fieldLink RX5 95 "CarrierBooksModel" "claims" "I") (by decide +kernel)) (fun _ h9 => h9) rfl dX5_claim_367 ?_
    refine lv_iconst (v := (1 : Int32)) hx hb dX5_claim_370 (by decide) ?_
    refine lv_iadd hx hb dX5_claim_371 ?_
    refine lv_topi (fun v32 ev32 => ?_)
    have h := h v32 ev32
    refine put_w (wf := wM cI ad) (ci := 5) (C := RX5) (T := TX5) (N := 31) hx hb hts iX5_claim_X5 tyX5 tyX5_ok nmX5 hown hK hP hD hS 0 rfl rfl 29 (by decide) (hts (.fieldLink RX5 95 "CarrierBooksModel" "claims" "I") (by decide +kernel)) (fun _ h9 => h9) rfl 14 (by decide +kernel) (Nat.le_of_ble_eq_true rfl) rfl dX5_claim_372 (fun I33 eI33 H locs hP hS => ?_)
    have h := h I33 eI33
    refine lv_iload hx hb dX5_claim_375 (lv_at hl 5 rfl) ?_
    exact W.iret (v := x5) hx hb hr (fun t ht hW => ⟨⟨x5, (I33, F30), rfl, h, by show va_P _ _ _ t.heap; rw [ht]; exact hP⟩, hS.F ht⟩) hS.2.2 dX5_claim_377
  · have h := h.2 c19
    refine lv_aload_n hx hb dX5_claim_266 rfl (lv_at hl 2 rfl) ?_
    refine lv_iconst (v := (4 : Int32)) hx hb dX5_claim_267 (by decide) ?_
    refine put_w (wf := wM cI ad) (ci := 5) (C := RX5) (T := TX5) (N := 31) hx hb hts iX5_claim_X5 tyX5 tyX5_ok nmX5 hown hK hP hD hS 0 rfl rfl 0 (by decide) (hts (.fieldLink RX5 68 "CarrierBooksModel" "thrown" "I") (by decide +kernel)) (fun _ h9 => h9) rfl 0 (by decide +kernel) (Nat.le_of_ble_eq_true rfl) rfl dX5_claim_268 (fun I34 eI34 H locs hP hS => ?_)
    have h := h I34 eI34
    refine lv_iconst (v := (0 : Int32)) hx hb dX5_claim_271 (by decide) ?_
    exact W.iret (v := (0 : Int32)) hx hb hr (fun t ht hW => ⟨⟨(0 : Int32), (I34, F18), rfl, h, by show va_P _ _ _ t.heap; rw [ht]; exact hP⟩, hS.F ht⟩) hS.2.2 dX5_claim_272
set_option maxHeartbeats 4000000 in
set_option maxRecDepth 100000 in
theorem sX5_claim_101 {p : Program} {l : Launch} {e : Env} {s : State} {m : MethodId} {args : Array Value} {below : List Frame} {meth : Method} {c : Code} {dC : Nat → ClassId} {dI : Nat → Nat → Nat} {cI : ClassId} {ad : Nat → Nat} {A : Nat → Prop} (C : Cx p s m args meth c cX5_claim 9 (some .int) RX5 wsX5_claim) (hK : va_K (dC, dI) vwCl [(cI, .int)] s) (hN : NW s) (hD : ∀ I F, va_D A (wM cI ad I F)) (hA : ∀ q : Nat, s.heap.size ≤ q → A q) (post : Int32 → (Nat → Int32) → (Nat → Nat → Int32) → Prop) : ∀ (I : Nat → Int32) (F : Nat → Nat → Int32) (x1 x2 y0 : Int32), bX5_claim_101 post I F x1 x2 y0 → ∀ (H : Heap) (locs : List Loc), va_P (dC, dI) vwCl (wM cI ad I F) H → va_S A s.heap H locs → ∀ (ls : Array Slot), lv_has ls 9 [(0, .ref (ad 0)), (1, .int x1), (2, .int x2)] → W p l e { frames := 2, cells := 0, slots := 0, locals := 50 } s m args below meth c H locs 0 0 (MQ below (QWi dC dI (wM cI ad) post A) args s 0 0 A) (F0 m 101 ls [.int y0]) := by
  obtain ⟨hx, hb, hml, hown, hts, hr, hlocks⟩ := id C
  intro I F x1 x2 y0 h H locs hP hS ls hl
  unfold bX5_claim_101 at h
  refine lv_aload_n hx hb dX5_claim_101 rfl (lv_at hl 0 rfl) ?_
  refine va_get (D := (dC, dI)) (ci := 5) (v := .int (I 8)) (C := RX5) (T := TX5) (N := 31) hx hb hts iX5_claim_X5 hown hK hP 0 rfl rfl 23 (by decide) (hts (.fieldLink RX5 55 "CarrierBooksModel" "limit" "I") (by decide +kernel)) (fun _ h9 => h9) rfl dX5_claim_102 ?_
  refine vp_callSi (cr_of (va_runS (As := [.int y0, .int (I 8)]) (rest := []) ⟨hx, hb, hml, hown, hts⟩ (cTX5_least l y0 (I 8) _ h) (va_cwS 2 hts gX5_claim_X5_least rfl rfl rfl (by decide +kernel) ⟨Nat.le_of_ble_eq_true rfl, Nat.le_of_ble_eq_true rfl⟩) (pv_S _) rfl rfl hl.1 rfl (lv_room (Nat.le_of_ble_eq_true rfl)) dX5_claim_105 ⟨Nat.le_of_ble_eq_true rfl, Nat.le_of_ble_eq_true rfl⟩)) (fun r35 h => ?_)
  refine lv_aload_n hx hb dX5_claim_108 rfl (lv_at hl 0 rfl) ?_
  refine va_get (D := (dC, dI)) (ci := 5) (v := .int (I 9)) (C := RX5) (T := TX5) (N := 31) hx hb hts iX5_claim_X5 hown hK hP 0 rfl rfl 24 (by decide) (hts (.fieldLink RX5 59 "CarrierBooksModel" "aggregate" "I") (by decide +kernel)) (fun _ h9 => h9) rfl dX5_claim_109 ?_
  refine lv_aload_n hx hb dX5_claim_112 rfl (lv_at hl 0 rfl) ?_
  refine lv_iload_n hx hb dX5_claim_113 rfl (lv_at hl 1 rfl) ?_
  refine lv_iconst (v := (2 : Int32)) hx hb dX5_claim_114 (by decide) ?_
  refine vp_callSi (cr_of (va_runV (As := [.int x1, .int (2 : Int32)]) (rest := [.int (I 9), .int r35]) ⟨hx, hb, hml, hown, hts⟩ (cTX5_before l dC dI cI ad I F x1 (2 : Int32) _ h) (cwV 2 hts gX5_claim_X5_before rfl rfl rfl (by decide +kernel) ⟨Nat.le_of_ble_eq_true rfl, Nat.le_of_ble_eq_true rfl⟩) (pv_R hP hK hN 0 5 rfl rfl _) rfl rfl hl.1 rfl (lv_room (Nat.le_of_ble_eq_true rfl)) dX5_claim_115 ⟨Nat.le_of_ble_eq_true rfl, Nat.le_of_ble_eq_true rfl⟩)) (fun r36 h => ?_)
  refine lv_isub hx hb dX5_claim_118 ?_
  refine vp_callSi (cr_of (va_runS (As := [.int r35, .int ((I 9) - r36)]) (rest := []) ⟨hx, hb, hml, hown, hts⟩ (cTX5_least l r35 ((I 9) - r36) _ h) (va_cwS 2 hts gX5_claim_X5_least rfl rfl rfl (by decide +kernel) ⟨Nat.le_of_ble_eq_true rfl, Nat.le_of_ble_eq_true rfl⟩) (pv_S _) rfl rfl hl.1 rfl (lv_room (Nat.le_of_ble_eq_true rfl)) dX5_claim_119 ⟨Nat.le_of_ble_eq_true rfl, Nat.le_of_ble_eq_true rfl⟩)) (fun r37 h => ?_)
  refine lv_istore (lv' := [(5, .int r37), (0, .ref (ad 0)), (1, .int x1), (2, .int x2)]) hx hb dX5_claim_122 hl (by decide) rfl (fun ls hl => ?_)
  refine lv_iload hx hb dX5_claim_124 (lv_at hl 0 rfl) ?_
  refine lv_aload_n hx hb dX5_claim_126 rfl (lv_at hl 1 rfl) ?_
  refine va_get (D := (dC, dI)) (ci := 5) (v := .int (I 6)) (C := RX5) (T := TX5) (N := 31) hx hb hts iX5_claim_X5 hown hK hP 0 rfl rfl 21 (by decide) (hts (.fieldLink RX5 92 "CarrierBooksModel" "quota" "I") (by decide +kernel)) (fun _ h9 => h9) rfl dX5_claim_127 ?_
  refine lv_imul hx hb dX5_claim_130 ?_
  refine lv_bipush (v := (100 : Int32)) hx hb dX5_claim_131 (by decide) ?_
  refine lv_idiv hx hb dX5_claim_133 (by decide) ?_
  refine lv_topi (fun v38 ev38 => ?_)
  have h := h v38 ev38
  refine lv_istore (lv' := [(6, .int v38), (5, .int r37), (0, .ref (ad 0)), (1, .int x1), (2, .int x2)]) hx hb dX5_claim_134 hl (by decide) rfl (fun ls hl => ?_)
  refine lv_iload hx hb dX5_claim_136 (lv_at hl 1 rfl) ?_
  refine lv_iload hx hb dX5_claim_138 (lv_at hl 0 rfl) ?_
  refine lv_isub hx hb dX5_claim_140 ?_
  refine lv_aload_n hx hb dX5_claim_141 rfl (lv_at hl 2 rfl) ?_
  refine va_get (D := (dC, dI)) (ci := 5) (v := .int (I 10)) (C := RX5) (T := TX5) (N := 31) hx hb hts iX5_claim_X5 hown hK hP 0 rfl rfl 25 (by decide) (hts (.fieldLink RX5 62 "CarrierBooksModel" "retention" "I") (by decide +kernel)) (fun _ h9 => h9) rfl dX5_claim_142 ?_
  refine lv_icmp_le (tgt := 161) hx hb dX5_claim_145 (by decide) (fun c39 => ?_) (fun c39 => ?_)
  · have h := h.1 c39
    refine lv_iconst (v := (0 : Int32)) hx hb dX5_claim_161 (by decide) ?_
    exact sX5_claim_162 C hK hN hD hA post I F x1 x2 r37 v38 (0 : Int32) h H locs hP hS ls (lv_sub hl [2, 3, 4, 1, 0] rfl)
  · have h := h.2 c39
    refine lv_iload hx hb dX5_claim_148 (lv_at hl 1 rfl) ?_
    refine lv_iload hx hb dX5_claim_150 (lv_at hl 0 rfl) ?_
    refine lv_isub hx hb dX5_claim_152 ?_
    refine lv_aload_n hx hb dX5_claim_153 rfl (lv_at hl 2 rfl) ?_
    refine va_get (D := (dC, dI)) (ci := 5) (v := .int (I 10)) (C := RX5) (T := TX5) (N := 31) hx hb hts iX5_claim_X5 hown hK hP 0 rfl rfl 25 (by decide) (hts (.fieldLink RX5 62 "CarrierBooksModel" "retention" "I") (by decide +kernel)) (fun _ h9 => h9) rfl dX5_claim_154 ?_
    refine lv_isub hx hb dX5_claim_157 ?_
    refine lv_goto (tgt := 162) hx hb dX5_claim_158 (by decide) ?_
    exact sX5_claim_162 C hK hN hD hA post I F x1 x2 r37 v38 ((r37 - v38) - (I 10)) h H locs hP hS ls (lv_sub hl [2, 3, 4, 1, 0] rfl)
set_option maxHeartbeats 4000000 in
set_option maxRecDepth 100000 in
theorem sX5_claim_75 {p : Program} {l : Launch} {e : Env} {s : State} {m : MethodId} {args : Array Value} {below : List Frame} {meth : Method} {c : Code} {dC : Nat → ClassId} {dI : Nat → Nat → Nat} {cI : ClassId} {ad : Nat → Nat} {A : Nat → Prop} (C : Cx p s m args meth c cX5_claim 9 (some .int) RX5 wsX5_claim) (hK : va_K (dC, dI) vwCl [(cI, .int)] s) (hN : NW s) (hD : ∀ I F, va_D A (wM cI ad I F)) (hA : ∀ q : Nat, s.heap.size ≤ q → A q) (post : Int32 → (Nat → Int32) → (Nat → Nat → Int32) → Prop) : ∀ (I : Nat → Int32) (F : Nat → Nat → Int32) (x1 x2 x3 y0 y1 y2 : Int32), bX5_claim_75 post I F x1 x2 x3 y0 y1 y2 → ∀ (H : Heap) (locs : List Loc), va_P (dC, dI) vwCl (wM cI ad I F) H → va_S A s.heap H locs → ∀ (ls : Array Slot), lv_has ls 9 [(0, .ref (ad 0)), (1, .int x1), (2, .int x2), (3, .int x3)] → W p l e { frames := 2, cells := 0, slots := 0, locals := 50 } s m args below meth c H locs 0 0 (MQ below (QWi dC dI (wM cI ad) post A) args s 0 0 A) (F0 m 75 ls [.int y0, .int y1, .int y2, .ref (ad 0)]) := by
  obtain ⟨hx, hb, hml, hown, hts, hr, hlocks⟩ := id C
  intro I F x1 x2 x3 y0 y1 y2 h H locs hP hS ls hl
  unfold bX5_claim_75 at h
  refine wcall_i (va_runV (As := [.int y2, .int y1, .int y0]) (rest := []) ⟨hx, hb, hml, hown, hts⟩ (cTX5_fails l dC dI cI ad I F H.size y2 y1 y0 _ h) (cwV 3 hts gX5_claim_X5_fails rfl rfl rfl (by decide +kernel) ⟨Nat.le_of_ble_eq_true rfl, Nat.le_of_ble_eq_true rfl⟩) (pv_W hP hK hN ((hD _ _).weaken (fun _ _ _ _ => trivial)) 0 5 rfl rfl _) rfl rfl hl.1 rfl (lv_room (Nat.le_of_ble_eq_true rfl)) dX5_claim_75 ⟨Nat.le_of_ble_eq_true rfl, Nat.le_of_ble_eq_true rfl⟩) hD hS hA (fun r40 I41 F42 h H locs hP hS => ?_)
  refine lv_if_eq (tgt := 83) hx hb dX5_claim_78 (by decide) (fun c43 => ?_) (fun c43 => ?_)
  · have h := h.1 c43
    refine lv_iload_n hx hb dX5_claim_83 rfl (lv_at hl 3 rfl) ?_
    refine lv_aload_n hx hb dX5_claim_84 rfl (lv_at hl 0 rfl) ?_
    refine va_get (D := (dC, dI)) (ci := 5) (v := .int (I41 7)) (C := RX5) (T := TX5) (N := 31) hx hb hts iX5_claim_X5 hown hK hP 0 rfl rfl 22 (by decide) (hts (.fieldLink RX5 98 "CarrierBooksModel" "deductible" "I") (by decide +kernel)) (fun _ h9 => h9) rfl dX5_claim_85 ?_
    refine lv_icmp_le (tgt := 100) hx hb dX5_claim_88 (by decide) (fun c44 => ?_) (fun c44 => ?_)
    · have h := h.1 c44
      refine lv_iconst (v := (0 : Int32)) hx hb dX5_claim_100 (by decide) ?_
      exact sX5_claim_101 C hK hN hD hA post I41 F42 x1 x2 (0 : Int32) h H locs hP hS ls (lv_sub hl [0, 1, 2] rfl)
    · have h := h.2 c44
      refine lv_iload_n hx hb dX5_claim_91 rfl (lv_at hl 3 rfl) ?_
      refine lv_aload_n hx hb dX5_claim_92 rfl (lv_at hl 0 rfl) ?_
      refine va_get (D := (dC, dI)) (ci := 5) (v := .int (I41 7)) (C := RX5) (T := TX5) (N := 31) hx hb hts iX5_claim_X5 hown hK hP 0 rfl rfl 22 (by decide) (hts (.fieldLink RX5 98 "CarrierBooksModel" "deductible" "I") (by decide +kernel)) (fun _ h9 => h9) rfl dX5_claim_93 ?_
      refine lv_isub hx hb dX5_claim_96 ?_
      refine lv_goto (tgt := 101) hx hb dX5_claim_97 (by decide) ?_
      exact sX5_claim_101 C hK hN hD hA post I41 F42 x1 x2 (x3 - (I41 7)) h H locs hP hS ls (lv_sub hl [0, 1, 2] rfl)
  · have h := h.2 c43
    refine lv_iconst (v := (0 : Int32)) hx hb dX5_claim_81 (by decide) ?_
    exact W.iret (v := (0 : Int32)) hx hb hr (fun t ht hW => ⟨⟨(0 : Int32), (I41, F42), rfl, h, by show va_P _ _ _ t.heap; rw [ht]; exact hP⟩, hS.F ht⟩) hS.2.2 dX5_claim_82
set_option maxHeartbeats 4000000 in
set_option maxRecDepth 100000 in
theorem sX5_claim_45 {p : Program} {l : Launch} {e : Env} {s : State} {m : MethodId} {args : Array Value} {below : List Frame} {meth : Method} {c : Code} {dC : Nat → ClassId} {dI : Nat → Nat → Nat} {cI : ClassId} {ad : Nat → Nat} {A : Nat → Prop} (C : Cx p s m args meth c cX5_claim 9 (some .int) RX5 wsX5_claim) (hK : va_K (dC, dI) vwCl [(cI, .int)] s) (hN : NW s) (hD : ∀ I F, va_D A (wM cI ad I F)) (hA : ∀ q : Nat, s.heap.size ≤ q → A q) (post : Int32 → (Nat → Int32) → (Nat → Nat → Int32) → Prop) : ∀ (I : Nat → Int32) (F : Nat → Nat → Int32) (x1 x2 x3 x4 y0 y1 : Int32), bX5_claim_45 post I F x1 x2 x3 x4 y0 y1 → ∀ (H : Heap) (locs : List Loc), va_P (dC, dI) vwCl (wM cI ad I F) H → va_S A s.heap H locs → ∀ (ls : Array Slot), lv_has ls 9 [(0, .ref (ad 0)), (1, .int x1), (2, .int x2), (3, .int x3), (4, .int x4)] → W p l e { frames := 2, cells := 0, slots := 0, locals := 50 } s m args below meth c H locs 0 0 (MQ below (QWi dC dI (wM cI ad) post A) args s 0 0 A) (F0 m 45 ls [.int y0, .int y1, .ref (ad 0)]) := by
  obtain ⟨hx, hb, hml, hown, hts, hr, hlocks⟩ := id C
  intro I F x1 x2 x3 x4 y0 y1 h H locs hP hS ls hl
  unfold bX5_claim_45 at h
  refine lv_iload hx hb dX5_claim_45 (lv_at hl 4 rfl) ?_
  refine lv_if_eq (tgt := 74) hx hb dX5_claim_47 (by decide) (fun c45 => ?_) (fun c45 => ?_)
  · have h := h.1 c45
    refine lv_iconst (v := (0 : Int32)) hx hb dX5_claim_74 (by decide) ?_
    exact sX5_claim_75 C hK hN hD hA post I F x1 x2 x3 (0 : Int32) y0 y1 h H locs hP hS ls (lv_sub hl [0, 1, 2, 3] rfl)
  · have h := h.2 c45
    refine lv_aload_n hx hb dX5_claim_50 rfl (lv_at hl 0 rfl) ?_
    refine lv_iload_n hx hb dX5_claim_51 rfl (lv_at hl 1 rfl) ?_
    refine lv_iload_n hx hb dX5_claim_52 rfl (lv_at hl 2 rfl) ?_
    refine lv_bipush (v := (99 : Int32)) hx hb dX5_claim_53 (by decide) ?_
    refine wcall_i (va_runV (As := [.int x1, .int x2, .int (99 : Int32)]) (rest := [.int y0, .int y1, .ref (ad 0)]) ⟨hx, hb, hml, hown, hts⟩ (cTX5_inForce l dC dI cI ad I F H.size x1 x2 (99 : Int32) _ h) (cwV 3 hts gX5_claim_X5_inForce rfl rfl rfl (by decide +kernel) ⟨Nat.le_of_ble_eq_true rfl, Nat.le_of_ble_eq_true rfl⟩) (pv_W hP hK hN ((hD _ _).weaken (fun _ _ _ _ => trivial)) 0 5 rfl rfl _) rfl rfl hl.1 rfl (lv_room (Nat.le_of_ble_eq_true rfl)) dX5_claim_55 ⟨Nat.le_of_ble_eq_true rfl, Nat.le_of_ble_eq_true rfl⟩) hD hS hA (fun r46 I47 F48 h H locs hP hS => ?_)
    refine lv_if_eq (tgt := 70) hx hb dX5_claim_58 (by decide) (fun c49 => ?_) (fun c49 => ?_)
    · have h := h.1 c49
      refine lv_iconst (v := (1 : Int32)) hx hb dX5_claim_70 (by decide) ?_
      refine lv_goto (tgt := 75) hx hb dX5_claim_71 (by decide) ?_
      exact sX5_claim_75 C hK hN hD hA post I47 F48 x1 x2 x3 (1 : Int32) y0 y1 h H locs hP hS ls (lv_sub hl [0, 1, 2, 3] rfl)
    · have h := h.2 c49
      refine lv_aload_n hx hb dX5_claim_61 rfl (lv_at hl 0 rfl) ?_
      refine va_get (D := (dC, dI)) (ci := 5) (v := .int (I47 14)) (C := RX5) (T := TX5) (N := 31) hx hb hts iX5_claim_X5 hown hK hP 0 rfl rfl 29 (by decide) (hts (.fieldLink RX5 95 "CarrierBooksModel" "claims" "I") (by decide +kernel)) (fun _ h9 => h9) rfl dX5_claim_62 ?_
      refine lv_bipush (v := (20 : Int32)) hx hb dX5_claim_65 (by decide) ?_
      refine lv_icmp_ne (tgt := 74) hx hb dX5_claim_67 (by decide) (fun c50 => ?_) (fun c50 => ?_)
      · have h := h.1 c50
        refine lv_iconst (v := (0 : Int32)) hx hb dX5_claim_74 (by decide) ?_
        exact sX5_claim_75 C hK hN hD hA post I47 F48 x1 x2 x3 (0 : Int32) y0 y1 h H locs hP hS ls (lv_sub hl [0, 1, 2, 3] rfl)
      · have h := h.2 c50
        refine lv_iconst (v := (1 : Int32)) hx hb dX5_claim_70 (by decide) ?_
        refine lv_goto (tgt := 75) hx hb dX5_claim_71 (by decide) ?_
        exact sX5_claim_75 C hK hN hD hA post I47 F48 x1 x2 x3 (1 : Int32) y0 y1 h H locs hP hS ls (lv_sub hl [0, 1, 2, 3] rfl)
set_option maxHeartbeats 4000000 in
set_option maxRecDepth 100000 in
theorem sX5_claim_18 {p : Program} {l : Launch} {e : Env} {s : State} {m : MethodId} {args : Array Value} {below : List Frame} {meth : Method} {c : Code} {dC : Nat → ClassId} {dI : Nat → Nat → Nat} {cI : ClassId} {ad : Nat → Nat} {A : Nat → Prop} (C : Cx p s m args meth c cX5_claim 9 (some .int) RX5 wsX5_claim) (hK : va_K (dC, dI) vwCl [(cI, .int)] s) (hN : NW s) (hD : ∀ I F, va_D A (wM cI ad I F)) (hA : ∀ q : Nat, s.heap.size ≤ q → A q) (post : Int32 → (Nat → Int32) → (Nat → Nat → Int32) → Prop) : ∀ (I : Nat → Int32) (F : Nat → Nat → Int32) (x1 x2 x3 x4 y0 : Int32), bX5_claim_18 post I F x1 x2 x3 x4 y0 → ∀ (H : Heap) (locs : List Loc), va_P (dC, dI) vwCl (wM cI ad I F) H → va_S A s.heap H locs → ∀ (ls : Array Slot), lv_has ls 9 [(0, .ref (ad 0)), (1, .int x1), (2, .int x2), (3, .int x3), (4, .int x4)] → W p l e { frames := 2, cells := 0, slots := 0, locals := 50 } s m args below meth c H locs 0 0 (MQ below (QWi dC dI (wM cI ad) post A) args s 0 0 A) (F0 m 18 ls [.int y0, .ref (ad 0)]) := by
  obtain ⟨hx, hb, hml, hown, hts, hr, hlocks⟩ := id C
  intro I F x1 x2 x3 x4 y0 h H locs hP hS ls hl
  unfold bX5_claim_18 at h
  refine lv_iload_n hx hb dX5_claim_18 rfl (lv_at hl 2 rfl) ?_
  refine lv_iconst (v := (0 : Int32)) hx hb dX5_claim_19 (by decide) ?_
  refine lv_sipush (v := (999 : Int32)) hx hb dX5_claim_20 (by decide) ?_
  refine vp_callSi (cr_of (va_runS (As := [.int x2, .int (0 : Int32), .int (999 : Int32)]) (rest := [.int y0, .ref (ad 0)]) ⟨hx, hb, hml, hown, hts⟩ (cTX5_outside l x2 (0 : Int32) (999 : Int32) _ h) (va_cwS 3 hts gX5_claim_X5_outside rfl rfl rfl (by decide +kernel) ⟨Nat.le_of_ble_eq_true rfl, Nat.le_of_ble_eq_true rfl⟩) (pv_S _) rfl rfl hl.1 rfl (lv_room (Nat.le_of_ble_eq_true rfl)) dX5_claim_23 ⟨Nat.le_of_ble_eq_true rfl, Nat.le_of_ble_eq_true rfl⟩)) (fun r51 h => ?_)
  refine lv_if_ne (tgt := 40) hx hb dX5_claim_26 (by decide) (fun c52 => ?_) (fun c52 => ?_)
  · have h := h.1 c52
    refine lv_iconst (v := (1 : Int32)) hx hb dX5_claim_40 (by decide) ?_
    refine lv_goto (tgt := 45) hx hb dX5_claim_41 (by decide) ?_
    exact sX5_claim_45 C hK hN hD hA post I F x1 x2 x3 x4 (1 : Int32) y0 h H locs hP hS ls (lv_sub hl [0, 1, 2, 3, 4] rfl)
  · have h := h.2 c52
    refine lv_iload_n hx hb dX5_claim_29 rfl (lv_at hl 3 rfl) ?_
    refine lv_iconst (v := (1 : Int32)) hx hb dX5_claim_30 (by decide) ?_
    refine lv_sipush (v := (9999 : Int32)) hx hb dX5_claim_31 (by decide) ?_
    refine vp_callSi (cr_of (va_runS (As := [.int x3, .int (1 : Int32), .int (9999 : Int32)]) (rest := [.int y0, .ref (ad 0)]) ⟨hx, hb, hml, hown, hts⟩ (cTX5_outside l x3 (1 : Int32) (9999 : Int32) _ h) (va_cwS 3 hts gX5_claim_X5_outside rfl rfl rfl (by decide +kernel) ⟨Nat.le_of_ble_eq_true rfl, Nat.le_of_ble_eq_true rfl⟩) (pv_S _) rfl rfl hl.1 rfl (lv_room (Nat.le_of_ble_eq_true rfl)) dX5_claim_34 ⟨Nat.le_of_ble_eq_true rfl, Nat.le_of_ble_eq_true rfl⟩)) (fun r53 h => ?_)
    refine lv_if_eq (tgt := 44) hx hb dX5_claim_37 (by decide) (fun c54 => ?_) (fun c54 => ?_)
    · have h := h.1 c54
      refine lv_iconst (v := (0 : Int32)) hx hb dX5_claim_44 (by decide) ?_
      exact sX5_claim_45 C hK hN hD hA post I F x1 x2 x3 x4 (0 : Int32) y0 h H locs hP hS ls (lv_sub hl [0, 1, 2, 3, 4] rfl)
    · have h := h.2 c54
      refine lv_iconst (v := (1 : Int32)) hx hb dX5_claim_40 (by decide) ?_
      refine lv_goto (tgt := 45) hx hb dX5_claim_41 (by decide) ?_
      exact sX5_claim_45 C hK hN hD hA post I F x1 x2 x3 x4 (1 : Int32) y0 h H locs hP hS ls (lv_sub hl [0, 1, 2, 3, 4] rfl)
set_option maxHeartbeats 4000000 in
set_option maxRecDepth 100000 in
theorem cTX5_claim (l : Launch) (dC : Nat → ClassId) (dI : Nat → Nat → Nat) (cI : ClassId) (ad : Nat → Nat) (I : Nat → Int32) (F : Nat → Nat → Int32) (sz : Nat) (x1 x2 x3 : Int32) (post : Int32 → (Nat → Int32) → (Nat → Nat → Int32) → Prop) (h : wX5_claim I F x1 x2 x3 post) : Met l yX5_claim wsX5_claim { frames := 2, cells := 0, slots := 0, locals := 50 } (va_Pc [.ref (ad 0), .int x1, .int x2, .int x3] (PWw dC dI cI (wM cI ad) I F sz)) (QWi dC dI (wM cI ad) post (va_A (wM cI ad I F) sz)) 0 0 (va_A (wM cI ad I F) sz) := by
  refine Met.ofW (cc := cX5_claim) (maxL := 9) (ret := (some .int)) (by decide) rfl ?_
  intro p e s m args below meth c s₁ B hml hv
  obtain ⟨rfl, hsz, ⟨hP, hK, hN⟩, hD0⟩ := hv
  subst hsz
  have hD := wD_any (wM_fix cI ad) (hD0.self (sz := s.heap.size))
  generalize hAe : va_A (wM cI ad I F) s.heap.size = A at hD ⊢
  have hA : ∀ q : Nat, s.heap.size ≤ q → A q := fun q h => by rw [← hAe]; exact Or.inr h
  clear hAe hD0
  have hx := B.exec
  have hb := B.bytes
  have hr := B.returns
  have hts := atoms_spec (ws := wsX5_claim) B.pre
  have hown : s.vm.findClass RX5 = some m.cls := findClass_of_methodNamed B.named
  have hlocks := B.notSynchronized
  have C : Cx p s m _ meth c cX5_claim 9 (some .int) RX5 wsX5_claim := ⟨hx, hb, hml, hown, hts, hr, hlocks⟩
  have hS : va_S A s.heap s.heap [] := va_S.rf
  have hl := lv_entry ([.ref (ad 0), .int x1, .int x2, .int x3]) (n := 9) (Nat.le_of_ble_eq_true rfl)
  rw [lg_entry_eq]
  generalize (lg_sl ([.ref (ad 0), .int x1, .int x2, .int x3]) ++ List.replicate (9 - (lg_sl ([.ref (ad 0), .int x1, .int x2, .int x3])).length) Slot.unset).toArray = ls at hl ⊢
  have hl : lv_has ls 9 [(0, .ref (ad 0)), (1, .int x1), (2, .int x2), (3, .int x3)] := hl
  unfold wX5_claim at h
  refine lv_aload_n hx hb dX5_claim_0 rfl (lv_at hl 0 rfl) ?_
  refine lv_iload_n hx hb dX5_claim_1 rfl (lv_at hl 1 rfl) ?_
  refine vp_callSi (cr_of (va_runV (As := [.int x1]) (rest := []) ⟨hx, hb, hml, hown, hts⟩ (cTX5_isPolicy l dC dI cI ad I F x1 _ h) (cwV 1 hts gX5_claim_X5_isPolicy rfl rfl rfl (by decide +kernel) ⟨Nat.le_of_ble_eq_true rfl, Nat.le_of_ble_eq_true rfl⟩) (pv_R hP hK hN 0 5 rfl rfl _) rfl rfl hl.1 rfl (lv_room (Nat.le_of_ble_eq_true rfl)) dX5_claim_2 ⟨Nat.le_of_ble_eq_true rfl, Nat.le_of_ble_eq_true rfl⟩)) (fun r55 h => ?_)
  refine lv_istore (lv' := [(4, .int r55), (0, .ref (ad 0)), (1, .int x1), (2, .int x2), (3, .int x3)]) hx hb dX5_claim_5 hl (by decide) rfl (fun ls hl => ?_)
  refine lv_aload_n hx hb dX5_claim_7 rfl (lv_at hl 1 rfl) ?_
  refine lv_iload hx hb dX5_claim_8 (lv_at hl 0 rfl) ?_
  refine lv_if_ne (tgt := 17) hx hb dX5_claim_10 (by decide) (fun c56 => ?_) (fun c56 => ?_)
  · have h := h.1 c56
    refine lv_iconst (v := (0 : Int32)) hx hb dX5_claim_17 (by decide) ?_
    exact sX5_claim_18 C hK hN hD hA post I F x1 x2 x3 r55 (0 : Int32) h s.heap [] hP hS ls (lv_sub hl [1, 2, 3, 4, 0] rfl)
  · have h := h.2 c56
    refine lv_iconst (v := (1 : Int32)) hx hb dX5_claim_13 (by decide) ?_
    refine lv_goto (tgt := 18) hx hb dX5_claim_14 (by decide) ?_
    exact sX5_claim_18 C hK hN hD hA post I F x1 x2 x3 r55 (1 : Int32) h s.heap [] hP hS ls (lv_sub hl [1, 2, 3, 4, 0] rfl)

theorem iX5_count_X5 : ∀ w ∈ wsX50, w ∈ wsX5_count := by decide +kernel
def wX5_count (I : Nat → Int32) (F : Nat → Nat → Int32) (x1 : Int32) (post : Int32 → (Nat → Int32) → (Nat → Nat → Int32) → Prop) : Prop := ∀ I1 : Nat → Int32, I1 = va_up I 0 (0 : Int32) → ((¬ x1 = (0 : Int32) → ((¬ x1 = (1 : Int32) → ((¬ x1 = (2 : Int32) → ((¬ x1 = (3 : Int32) → ((¬ x1 = (4 : Int32) → post (-1 : Int32) I1 F) ∧ (x1 = (4 : Int32) → post (I1 1) I1 F))) ∧ (x1 = (3 : Int32) → post (I1 4) I1 F))) ∧ (x1 = (2 : Int32) → post (I1 14) I1 F))) ∧ (x1 = (1 : Int32) → post (I1 3) I1 F))) ∧ (x1 = (0 : Int32) → post (I1 2) I1 F))
set_option maxHeartbeats 4000000 in
set_option maxRecDepth 100000 in
theorem cTX5_count (l : Launch) (dC : Nat → ClassId) (dI : Nat → Nat → Nat) (cI : ClassId) (ad : Nat → Nat) (I : Nat → Int32) (F : Nat → Nat → Int32) (sz : Nat) (x1 : Int32) (post : Int32 → (Nat → Int32) → (Nat → Nat → Int32) → Prop) (h : wX5_count I F x1 post) : Met l yX5_count wsX5_count { frames := 0, cells := 0, slots := 0, locals := 0 } (va_Pc [.ref (ad 0), .int x1] (PWw dC dI cI (wM cI ad) I F sz)) (QWi dC dI (wM cI ad) post (va_A (wM cI ad I F) sz)) 0 0 (va_A (wM cI ad I F) sz) := by
  refine Met.ofW (cc := cX5_count) (maxL := 2) (ret := (some .int)) (by decide) rfl ?_
  intro p e s m args below meth c s₁ B hml hv
  obtain ⟨rfl, hsz, ⟨hP, hK, hN⟩, hD0⟩ := hv
  subst hsz
  have hD := wD_any (wM_fix cI ad) (hD0.self (sz := s.heap.size))
  generalize hAe : va_A (wM cI ad I F) s.heap.size = A at hD ⊢
  have hA : ∀ q : Nat, s.heap.size ≤ q → A q := fun q h => by rw [← hAe]; exact Or.inr h
  clear hAe hD0
  have hx := B.exec
  have hb := B.bytes
  have hr := B.returns
  have hts := atoms_spec (ws := wsX5_count) B.pre
  have hown : s.vm.findClass RX5 = some m.cls := findClass_of_methodNamed B.named
  have hlocks := B.notSynchronized
  have C : Cx p s m _ meth c cX5_count 2 (some .int) RX5 wsX5_count := ⟨hx, hb, hml, hown, hts, hr, hlocks⟩
  have hS : va_S A s.heap s.heap [] := va_S.rf
  have hl := lv_entry ([.ref (ad 0), .int x1]) (n := 2) (Nat.le_of_ble_eq_true rfl)
  rw [lg_entry_eq]
  generalize (lg_sl ([.ref (ad 0), .int x1]) ++ List.replicate (2 - (lg_sl ([.ref (ad 0), .int x1])).length) Slot.unset).toArray = ls at hl ⊢
  have hl : lv_has ls 2 [(0, .ref (ad 0)), (1, .int x1)] := hl
  unfold wX5_count at h
  refine lv_aload_n hx hb dX5_count_0 rfl (lv_at hl 0 rfl) ?_
  refine lv_iconst (v := (0 : Int32)) hx hb dX5_count_1 (by decide) ?_
  refine put_w (wf := wM cI ad) (ci := 5) (C := RX5) (T := TX5) (N := 31) hx hb hts iX5_count_X5 tyX5 tyX5_ok nmX5 hown hK hP hD hS 0 rfl rfl 0 (by decide) (hts (.fieldLink RX5 68 "CarrierBooksModel" "thrown" "I") (by decide +kernel)) (fun _ h9 => h9) rfl 0 (by decide +kernel) (Nat.le_of_ble_eq_true rfl) rfl dX5_count_2 (fun I1 eI1 H locs hP hS => ?_)
  have h := h I1 eI1
  refine lv_iload_n hx hb dX5_count_5 rfl (lv_at hl 1 rfl) ?_
  refine lv_if_ne (tgt := 16) hx hb dX5_count_6 (by decide) (fun c2 => ?_) (fun c2 => ?_)
  · have h := h.1 c2
    refine lv_iload_n hx hb dX5_count_16 rfl (lv_at hl 1 rfl) ?_
    refine lv_iconst (v := (1 : Int32)) hx hb dX5_count_17 (by decide) ?_
    refine lv_icmp_ne (tgt := 28) hx hb dX5_count_18 (by decide) (fun c3 => ?_) (fun c3 => ?_)
    · have h := h.1 c3
      refine lv_iload_n hx hb dX5_count_28 rfl (lv_at hl 1 rfl) ?_
      refine lv_iconst (v := (2 : Int32)) hx hb dX5_count_29 (by decide) ?_
      refine lv_icmp_ne (tgt := 40) hx hb dX5_count_30 (by decide) (fun c4 => ?_) (fun c4 => ?_)
      · have h := h.1 c4
        refine lv_iload_n hx hb dX5_count_40 rfl (lv_at hl 1 rfl) ?_
        refine lv_iconst (v := (3 : Int32)) hx hb dX5_count_41 (by decide) ?_
        refine lv_icmp_ne (tgt := 52) hx hb dX5_count_42 (by decide) (fun c5 => ?_) (fun c5 => ?_)
        · have h := h.1 c5
          refine lv_iload_n hx hb dX5_count_52 rfl (lv_at hl 1 rfl) ?_
          refine lv_iconst (v := (4 : Int32)) hx hb dX5_count_53 (by decide) ?_
          refine lv_icmp_ne (tgt := 64) hx hb dX5_count_54 (by decide) (fun c6 => ?_) (fun c6 => ?_)
          · have h := h.1 c6
            refine lv_iconst (v := (-1 : Int32)) hx hb dX5_count_64 (by decide) ?_
            exact W.iret (v := (-1 : Int32)) hx hb hr (fun t ht hW => ⟨⟨(-1 : Int32), (I1, F), rfl, h, by show va_P _ _ _ t.heap; rw [ht]; exact hP⟩, hS.F ht⟩) hS.2.2 dX5_count_65
          · have h := h.2 c6
            refine lv_aload_n hx hb dX5_count_57 rfl (lv_at hl 0 rfl) ?_
            refine va_get (D := (dC, dI)) (ci := 5) (v := .int (I1 1)) (C := RX5) (T := TX5) (N := 31) hx hb hts iX5_count_X5 hown hK hP 0 rfl rfl 1 (by decide) (hts (.fieldLink RX5 78 "CarrierBooksModel" "rows" "I") (by decide +kernel)) (fun _ h9 => h9) rfl dX5_count_58 ?_
            refine lv_goto (tgt := 65) hx hb dX5_count_61 (by decide) ?_
            exact W.iret (v := (I1 1)) hx hb hr (fun t ht hW => ⟨⟨(I1 1), (I1, F), rfl, h, by show va_P _ _ _ t.heap; rw [ht]; exact hP⟩, hS.F ht⟩) hS.2.2 dX5_count_65
        · have h := h.2 c5
          refine lv_aload_n hx hb dX5_count_45 rfl (lv_at hl 0 rfl) ?_
          refine va_get (D := (dC, dI)) (ci := 5) (v := .int (I1 4)) (C := RX5) (T := TX5) (N := 31) hx hb hts iX5_count_X5 hown hK hP 0 rfl rfl 13 (by decide) (hts (.fieldLink RX5 141 "CarrierBooksModel" "postings" "I") (by decide +kernel)) (fun _ h9 => h9) rfl dX5_count_46 ?_
          refine lv_goto (tgt := 65) hx hb dX5_count_49 (by decide) ?_
          exact W.iret (v := (I1 4)) hx hb hr (fun t ht hW => ⟨⟨(I1 4), (I1, F), rfl, h, by show va_P _ _ _ t.heap; rw [ht]; exact hP⟩, hS.F ht⟩) hS.2.2 dX5_count_65
      · have h := h.2 c4
        refine lv_aload_n hx hb dX5_count_33 rfl (lv_at hl 0 rfl) ?_
        refine va_get (D := (dC, dI)) (ci := 5) (v := .int (I1 14)) (C := RX5) (T := TX5) (N := 31) hx hb hts iX5_count_X5 hown hK hP 0 rfl rfl 29 (by decide) (hts (.fieldLink RX5 95 "CarrierBooksModel" "claims" "I") (by decide +kernel)) (fun _ h9 => h9) rfl dX5_count_34 ?_
        refine lv_goto (tgt := 65) hx hb dX5_count_37 (by decide) ?_
        exact W.iret (v := (I1 14)) hx hb hr (fun t ht hW => ⟨⟨(I1 14), (I1, F), rfl, h, by show va_P _ _ _ t.heap; rw [ht]; exact hP⟩, hS.F ht⟩) hS.2.2 dX5_count_65
    · have h := h.2 c3
      refine lv_aload_n hx hb dX5_count_21 rfl (lv_at hl 0 rfl) ?_
      refine va_get (D := (dC, dI)) (ci := 5) (v := .int (I1 3)) (C := RX5) (T := TX5) (N := 31) hx hb hts iX5_count_X5 hown hK hP 0 rfl rfl 6 (by decide) (hts (.fieldLink RX5 110 "CarrierBooksModel" "bookings" "I") (by decide +kernel)) (fun _ h9 => h9) rfl dX5_count_22 ?_
      refine lv_goto (tgt := 65) hx hb dX5_count_25 (by decide) ?_
      exact W.iret (v := (I1 3)) hx hb hr (fun t ht hW => ⟨⟨(I1 3), (I1, F), rfl, h, by show va_P _ _ _ t.heap; rw [ht]; exact hP⟩, hS.F ht⟩) hS.2.2 dX5_count_65
  · have h := h.2 c2
    refine lv_aload_n hx hb dX5_count_9 rfl (lv_at hl 0 rfl) ?_
    refine va_get (D := (dC, dI)) (ci := 5) (v := .int (I1 2)) (C := RX5) (T := TX5) (N := 31) hx hb hts iX5_count_X5 hown hK hP 0 rfl rfl 3 (by decide) (hts (.fieldLink RX5 75 "CarrierBooksModel" "policies" "I") (by decide +kernel)) (fun _ h9 => h9) rfl dX5_count_10 ?_
    refine lv_goto (tgt := 65) hx hb dX5_count_13 (by decide) ?_
    exact W.iret (v := (I1 2)) hx hb hr (fun t ht hW => ⟨⟨(I1 2), (I1, F), rfl, h, by show va_P _ _ _ t.heap; rw [ht]; exact hP⟩, hS.F ht⟩) hS.2.2 dX5_count_65

def bX5_fact_23 (post : Int32 → (Nat → Int32) → (Nat → Nat → Int32) → Prop) (I : Nat → Int32) (F : Nat → Nat → Int32) (x1 x2 x3 x4 y0 : Int32) : Prop := wX5_fails I F y0 (0 : Int32) (0 : Int32) (fun r1 I2 F3 => ((r1 = (0 : Int32) → wX5_inTerm I2 F3 x1 x3 (fun r5 => ((r5 = (0 : Int32) → post (-1 : Int32) I2 F3) ∧ (¬ r5 = (0 : Int32) → wX5_bound I2 F3 x1 x4 (fun r7 I8 F9 => ((¬ r7 = (0 : Int32) → wX5_charge I8 F9 x1 x3 x4 (fun r11 I12 F13 => ((¬ x2 = (3 : Int32) → ((¬ x2 = (4 : Int32) → wX5_known I12 F13 x2 (fun r16 => post r16 I12 F13)) ∧ (x2 = (4 : Int32) → post r11 I12 F13))) ∧ (x2 = (3 : Int32) → wX5_runs I12 F13 (fun r17 => ((r17 = (0 : Int32) → post (0 : Int32) I12 F13) ∧ (¬ r17 = (0 : Int32) → post (1 : Int32) I12 F13))))))) ∧ (r7 = (0 : Int32) → post (-1 : Int32) I8 F9))))))) ∧ (¬ r1 = (0 : Int32) → post (0 : Int32) I2 F3)))
def wX5_fact (I : Nat → Int32) (F : Nat → Nat → Int32) (x1 x2 x3 x4 : Int32) (post : Int32 → (Nat → Int32) → (Nat → Nat → Int32) → Prop) : Prop := wX5_isPolicy I F x1 (fun r19 => ((r19 = (0 : Int32) → bX5_fact_23 post I F x1 x2 x3 x4 (1 : Int32)) ∧ (¬ r19 = (0 : Int32) → wX5_outside x2 (0 : Int32) (4 : Int32) (fun r21 => ((r21 = (0 : Int32) → bX5_fact_23 post I F x1 x2 x3 x4 (0 : Int32)) ∧ (¬ r21 = (0 : Int32) → bX5_fact_23 post I F x1 x2 x3 x4 (1 : Int32)))))))
set_option maxHeartbeats 4000000 in
set_option maxRecDepth 100000 in
theorem sX5_fact_23 {p : Program} {l : Launch} {e : Env} {s : State} {m : MethodId} {args : Array Value} {below : List Frame} {meth : Method} {c : Code} {dC : Nat → ClassId} {dI : Nat → Nat → Nat} {cI : ClassId} {ad : Nat → Nat} {A : Nat → Prop} (C : Cx p s m args meth c cX5_fact 6 (some .int) RX5 wsX5_fact) (hK : va_K (dC, dI) vwCl [(cI, .int)] s) (hN : NW s) (hD : ∀ I F, va_D A (wM cI ad I F)) (hA : ∀ q : Nat, s.heap.size ≤ q → A q) (post : Int32 → (Nat → Int32) → (Nat → Nat → Int32) → Prop) : ∀ (I : Nat → Int32) (F : Nat → Nat → Int32) (x1 x2 x3 x4 y0 : Int32), bX5_fact_23 post I F x1 x2 x3 x4 y0 → ∀ (H : Heap) (locs : List Loc), va_P (dC, dI) vwCl (wM cI ad I F) H → va_S A s.heap H locs → ∀ (ls : Array Slot), lv_has ls 6 [(0, .ref (ad 0)), (1, .int x1), (2, .int x2), (3, .int x3), (4, .int x4)] → W p l e { frames := 3, cells := 0, slots := 0, locals := 70 } s m args below meth c H locs 0 0 (MQ below (QWi dC dI (wM cI ad) post A) args s 0 0 A) (F0 m 23 ls [.int y0, .ref (ad 0)]) := by
  obtain ⟨hx, hb, hml, hown, hts, hr, hlocks⟩ := id C
  intro I F x1 x2 x3 x4 y0 h H locs hP hS ls hl
  unfold bX5_fact_23 at h
  refine lv_iconst (v := (0 : Int32)) hx hb dX5_fact_23 (by decide) ?_
  refine lv_iconst (v := (0 : Int32)) hx hb dX5_fact_24 (by decide) ?_
  refine wcall_i (va_runV (As := [.int y0, .int (0 : Int32), .int (0 : Int32)]) (rest := []) ⟨hx, hb, hml, hown, hts⟩ (cTX5_fails l dC dI cI ad I F H.size y0 (0 : Int32) (0 : Int32) _ h) (cwV 3 hts gX5_fact_X5_fails rfl rfl rfl (by decide +kernel) ⟨Nat.le_of_ble_eq_true rfl, Nat.le_of_ble_eq_true rfl⟩) (pv_W hP hK hN ((hD _ _).weaken (fun _ _ _ _ => trivial)) 0 5 rfl rfl _) rfl rfl hl.1 rfl (lv_room (Nat.le_of_ble_eq_true rfl)) dX5_fact_25 ⟨Nat.le_of_ble_eq_true rfl, Nat.le_of_ble_eq_true rfl⟩) hD hS hA (fun r1 I2 F3 h H locs hP hS => ?_)
  refine lv_if_eq (tgt := 33) hx hb dX5_fact_28 (by decide) (fun c4 => ?_) (fun c4 => ?_)
  · have h := h.1 c4
    refine lv_aload_n hx hb dX5_fact_33 rfl (lv_at hl 0 rfl) ?_
    refine lv_iload_n hx hb dX5_fact_34 rfl (lv_at hl 1 rfl) ?_
    refine lv_iload_n hx hb dX5_fact_35 rfl (lv_at hl 3 rfl) ?_
    refine vp_callSi (cr_of (va_runV (As := [.int x1, .int x3]) (rest := []) ⟨hx, hb, hml, hown, hts⟩ (cTX5_inTerm l dC dI cI ad I2 F3 x1 x3 _ h) (cwV 2 hts gX5_fact_X5_inTerm rfl rfl rfl (by decide +kernel) ⟨Nat.le_of_ble_eq_true rfl, Nat.le_of_ble_eq_true rfl⟩) (pv_R hP hK hN 0 5 rfl rfl _) rfl rfl hl.1 rfl (lv_room (Nat.le_of_ble_eq_true rfl)) dX5_fact_36 ⟨Nat.le_of_ble_eq_true rfl, Nat.le_of_ble_eq_true rfl⟩)) (fun r5 h => ?_)
    refine lv_if_eq (tgt := 52) hx hb dX5_fact_39 (by decide) (fun c6 => ?_) (fun c6 => ?_)
    · have h := h.1 c6
      refine lv_iconst (v := (-1 : Int32)) hx hb dX5_fact_52 (by decide) ?_
      exact W.iret (v := (-1 : Int32)) hx hb hr (fun t ht hW => ⟨⟨(-1 : Int32), (I2, F3), rfl, h, by show va_P _ _ _ t.heap; rw [ht]; exact hP⟩, hS.F ht⟩) hS.2.2 dX5_fact_53
    · have h := h.2 c6
      refine lv_aload_n hx hb dX5_fact_42 rfl (lv_at hl 0 rfl) ?_
      refine lv_iload_n hx hb dX5_fact_43 rfl (lv_at hl 1 rfl) ?_
      refine lv_iload hx hb dX5_fact_44 (lv_at hl 4 rfl) ?_
      refine wcall_i (va_runV (As := [.int x1, .int x4]) (rest := []) ⟨hx, hb, hml, hown, hts⟩ (cTX5_bound l dC dI cI ad I2 F3 H.size x1 x4 _ h) (cwV 2 hts gX5_fact_X5_bound rfl rfl rfl (by decide +kernel) ⟨Nat.le_of_ble_eq_true rfl, Nat.le_of_ble_eq_true rfl⟩) (pv_W hP hK hN ((hD _ _).weaken (fun _ _ _ _ => trivial)) 0 5 rfl rfl _) rfl rfl hl.1 rfl (lv_room (Nat.le_of_ble_eq_true rfl)) dX5_fact_46 ⟨Nat.le_of_ble_eq_true rfl, Nat.le_of_ble_eq_true rfl⟩) hD hS hA (fun r7 I8 F9 h H locs hP hS => ?_)
      refine lv_if_ne (tgt := 54) hx hb dX5_fact_49 (by decide) (fun c10 => ?_) (fun c10 => ?_)
      · have h := h.1 c10
        refine lv_aload_n hx hb dX5_fact_54 rfl (lv_at hl 0 rfl) ?_
        refine lv_iload_n hx hb dX5_fact_55 rfl (lv_at hl 1 rfl) ?_
        refine lv_iload_n hx hb dX5_fact_56 rfl (lv_at hl 3 rfl) ?_
        refine lv_iload hx hb dX5_fact_57 (lv_at hl 4 rfl) ?_
        refine wcall_i (va_runV (As := [.int x1, .int x3, .int x4]) (rest := []) ⟨hx, hb, hml, hown, hts⟩ (cTX5_charge l dC dI cI ad I8 F9 H.size x1 x3 x4 _ h) (cwV 3 hts gX5_fact_X5_charge rfl rfl rfl (by decide +kernel) ⟨Nat.le_of_ble_eq_true rfl, Nat.le_of_ble_eq_true rfl⟩) (pv_W hP hK hN ((hD _ _).weaken (fun _ _ _ _ => trivial)) 0 5 rfl rfl _) rfl rfl hl.1 rfl (lv_room (Nat.le_of_ble_eq_true rfl)) dX5_fact_59 ⟨Nat.le_of_ble_eq_true rfl, Nat.le_of_ble_eq_true rfl⟩) hD hS hA (fun r11 I12 F13 h H locs hP hS => ?_)
        refine lv_istore (lv' := [(5, .int r11), (0, .ref (ad 0)), (1, .int x1), (2, .int x2), (3, .int x3), (4, .int x4)]) hx hb dX5_fact_62 hl (by decide) rfl (fun ls hl => ?_)
        refine lv_iload_n hx hb dX5_fact_64 rfl (lv_at hl 3 rfl) ?_
        refine lv_iconst (v := (3 : Int32)) hx hb dX5_fact_65 (by decide) ?_
        refine lv_icmp_ne (tgt := 84) hx hb dX5_fact_66 (by decide) (fun c14 => ?_) (fun c14 => ?_)
        · have h := h.1 c14
          refine lv_iload_n hx hb dX5_fact_84 rfl (lv_at hl 3 rfl) ?_
          refine lv_iconst (v := (4 : Int32)) hx hb dX5_fact_85 (by decide) ?_
          refine lv_icmp_ne (tgt := 94) hx hb dX5_fact_86 (by decide) (fun c15 => ?_) (fun c15 => ?_)
          · have h := h.1 c15
            refine lv_aload_n hx hb dX5_fact_94 rfl (lv_at hl 1 rfl) ?_
            refine lv_iload_n hx hb dX5_fact_95 rfl (lv_at hl 3 rfl) ?_
            refine vp_callSi (cr_of (va_runV (As := [.int x2]) (rest := []) ⟨hx, hb, hml, hown, hts⟩ (cTX5_known l dC dI cI ad I12 F13 x2 _ h) (cwV 1 hts gX5_fact_X5_known rfl rfl rfl (by decide +kernel) ⟨Nat.le_of_ble_eq_true rfl, Nat.le_of_ble_eq_true rfl⟩) (pv_R hP hK hN 0 5 rfl rfl _) rfl rfl hl.1 rfl (lv_room (Nat.le_of_ble_eq_true rfl)) dX5_fact_96 ⟨Nat.le_of_ble_eq_true rfl, Nat.le_of_ble_eq_true rfl⟩)) (fun r16 h => ?_)
            exact W.iret (v := r16) hx hb hr (fun t ht hW => ⟨⟨r16, (I12, F13), rfl, h, by show va_P _ _ _ t.heap; rw [ht]; exact hP⟩, hS.F ht⟩) hS.2.2 dX5_fact_99
          · have h := h.2 c15
            refine lv_iload hx hb dX5_fact_89 (lv_at hl 0 rfl) ?_
            refine lv_goto (tgt := 99) hx hb dX5_fact_91 (by decide) ?_
            exact W.iret (v := r11) hx hb hr (fun t ht hW => ⟨⟨r11, (I12, F13), rfl, h, by show va_P _ _ _ t.heap; rw [ht]; exact hP⟩, hS.F ht⟩) hS.2.2 dX5_fact_99
        · have h := h.2 c14
          refine lv_aload_n hx hb dX5_fact_69 rfl (lv_at hl 1 rfl) ?_
          refine vp_callSi (cr_of (va_runV (As := []) (rest := []) ⟨hx, hb, hml, hown, hts⟩ (cTX5_runs l dC dI cI ad I12 F13 _ h) (cwV 0 hts gX5_fact_X5_runs rfl rfl rfl (by decide +kernel) ⟨Nat.le_of_ble_eq_true rfl, Nat.le_of_ble_eq_true rfl⟩) (pv_R hP hK hN 0 5 rfl rfl _) rfl rfl hl.1 rfl (lv_room (Nat.le_of_ble_eq_true rfl)) dX5_fact_70 ⟨Nat.le_of_ble_eq_true rfl, Nat.le_of_ble_eq_true rfl⟩)) (fun r17 h => ?_)
          refine lv_if_eq (tgt := 80) hx hb dX5_fact_73 (by decide) (fun c18 => ?_) (fun c18 => ?_)
          · have h := h.1 c18
            refine lv_iconst (v := (0 : Int32)) hx hb dX5_fact_80 (by decide) ?_
            refine lv_goto (tgt := 99) hx hb dX5_fact_81 (by decide) ?_
            exact W.iret (v := (0 : Int32)) hx hb hr (fun t ht hW => ⟨⟨(0 : Int32), (I12, F13), rfl, h, by show va_P _ _ _ t.heap; rw [ht]; exact hP⟩, hS.F ht⟩) hS.2.2 dX5_fact_99
          · have h := h.2 c18
            refine lv_iconst (v := (1 : Int32)) hx hb dX5_fact_76 (by decide) ?_
            refine lv_goto (tgt := 99) hx hb dX5_fact_77 (by decide) ?_
            exact W.iret (v := (1 : Int32)) hx hb hr (fun t ht hW => ⟨⟨(1 : Int32), (I12, F13), rfl, h, by show va_P _ _ _ t.heap; rw [ht]; exact hP⟩, hS.F ht⟩) hS.2.2 dX5_fact_99
      · have h := h.2 c10
        refine lv_iconst (v := (-1 : Int32)) hx hb dX5_fact_52 (by decide) ?_
        exact W.iret (v := (-1 : Int32)) hx hb hr (fun t ht hW => ⟨⟨(-1 : Int32), (I8, F9), rfl, h, by show va_P _ _ _ t.heap; rw [ht]; exact hP⟩, hS.F ht⟩) hS.2.2 dX5_fact_53
  · have h := h.2 c4
    refine lv_iconst (v := (0 : Int32)) hx hb dX5_fact_31 (by decide) ?_
    exact W.iret (v := (0 : Int32)) hx hb hr (fun t ht hW => ⟨⟨(0 : Int32), (I2, F3), rfl, h, by show va_P _ _ _ t.heap; rw [ht]; exact hP⟩, hS.F ht⟩) hS.2.2 dX5_fact_32
set_option maxHeartbeats 4000000 in
set_option maxRecDepth 100000 in
theorem cTX5_fact (l : Launch) (dC : Nat → ClassId) (dI : Nat → Nat → Nat) (cI : ClassId) (ad : Nat → Nat) (I : Nat → Int32) (F : Nat → Nat → Int32) (sz : Nat) (x1 x2 x3 x4 : Int32) (post : Int32 → (Nat → Int32) → (Nat → Nat → Int32) → Prop) (h : wX5_fact I F x1 x2 x3 x4 post) : Met l yX5_fact wsX5_fact { frames := 3, cells := 0, slots := 0, locals := 70 } (va_Pc [.ref (ad 0), .int x1, .int x2, .int x3, .int x4] (PWw dC dI cI (wM cI ad) I F sz)) (QWi dC dI (wM cI ad) post (va_A (wM cI ad I F) sz)) 0 0 (va_A (wM cI ad I F) sz) := by
  refine Met.ofW (cc := cX5_fact) (maxL := 6) (ret := (some .int)) (by decide) rfl ?_
  intro p e s m args below meth c s₁ B hml hv
  obtain ⟨rfl, hsz, ⟨hP, hK, hN⟩, hD0⟩ := hv
  subst hsz
  have hD := wD_any (wM_fix cI ad) (hD0.self (sz := s.heap.size))
  generalize hAe : va_A (wM cI ad I F) s.heap.size = A at hD ⊢
  have hA : ∀ q : Nat, s.heap.size ≤ q → A q := fun q h => by rw [← hAe]; exact Or.inr h
  clear hAe hD0
  have hx := B.exec
  have hb := B.bytes
  have hr := B.returns
  have hts := atoms_spec (ws := wsX5_fact) B.pre
  have hown : s.vm.findClass RX5 = some m.cls := findClass_of_methodNamed B.named
  have hlocks := B.notSynchronized
  have C : Cx p s m _ meth c cX5_fact 6 (some .int) RX5 wsX5_fact := ⟨hx, hb, hml, hown, hts, hr, hlocks⟩
  have hS : va_S A s.heap s.heap [] := va_S.rf
  have hl := lv_entry ([.ref (ad 0), .int x1, .int x2, .int x3, .int x4]) (n := 6) (Nat.le_of_ble_eq_true rfl)
  rw [lg_entry_eq]
  generalize (lg_sl ([.ref (ad 0), .int x1, .int x2, .int x3, .int x4]) ++ List.replicate (6 - (lg_sl ([.ref (ad 0), .int x1, .int x2, .int x3, .int x4])).length) Slot.unset).toArray = ls at hl ⊢
  have hl : lv_has ls 6 [(0, .ref (ad 0)), (1, .int x1), (2, .int x2), (3, .int x3), (4, .int x4)] := hl
  unfold wX5_fact at h
  refine lv_aload_n hx hb dX5_fact_0 rfl (lv_at hl 0 rfl) ?_
  refine lv_aload_n hx hb dX5_fact_1 rfl (lv_at hl 0 rfl) ?_
  refine lv_iload_n hx hb dX5_fact_2 rfl (lv_at hl 1 rfl) ?_
  refine vp_callSi (cr_of (va_runV (As := [.int x1]) (rest := [.ref (ad 0)]) ⟨hx, hb, hml, hown, hts⟩ (cTX5_isPolicy l dC dI cI ad I F x1 _ h) (cwV 1 hts gX5_fact_X5_isPolicy rfl rfl rfl (by decide +kernel) ⟨Nat.le_of_ble_eq_true rfl, Nat.le_of_ble_eq_true rfl⟩) (pv_R hP hK hN 0 5 rfl rfl _) rfl rfl hl.1 rfl (lv_room (Nat.le_of_ble_eq_true rfl)) dX5_fact_3 ⟨Nat.le_of_ble_eq_true rfl, Nat.le_of_ble_eq_true rfl⟩)) (fun r19 h => ?_)
  refine lv_if_eq (tgt := 18) hx hb dX5_fact_6 (by decide) (fun c20 => ?_) (fun c20 => ?_)
  · have h := h.1 c20
    refine lv_iconst (v := (1 : Int32)) hx hb dX5_fact_18 (by decide) ?_
    refine lv_goto (tgt := 23) hx hb dX5_fact_19 (by decide) ?_
    exact sX5_fact_23 C hK hN hD hA post I F x1 x2 x3 x4 (1 : Int32) h s.heap [] hP hS ls (lv_sub hl [0, 1, 2, 3, 4] rfl)
  · have h := h.2 c20
    refine lv_iload_n hx hb dX5_fact_9 rfl (lv_at hl 2 rfl) ?_
    refine lv_iconst (v := (0 : Int32)) hx hb dX5_fact_10 (by decide) ?_
    refine lv_iconst (v := (4 : Int32)) hx hb dX5_fact_11 (by decide) ?_
    refine vp_callSi (cr_of (va_runS (As := [.int x2, .int (0 : Int32), .int (4 : Int32)]) (rest := [.ref (ad 0)]) ⟨hx, hb, hml, hown, hts⟩ (cTX5_outside l x2 (0 : Int32) (4 : Int32) _ h) (va_cwS 3 hts gX5_fact_X5_outside rfl rfl rfl (by decide +kernel) ⟨Nat.le_of_ble_eq_true rfl, Nat.le_of_ble_eq_true rfl⟩) (pv_S _) rfl rfl hl.1 rfl (lv_room (Nat.le_of_ble_eq_true rfl)) dX5_fact_12 ⟨Nat.le_of_ble_eq_true rfl, Nat.le_of_ble_eq_true rfl⟩)) (fun r21 h => ?_)
    refine lv_if_eq (tgt := 22) hx hb dX5_fact_15 (by decide) (fun c22 => ?_) (fun c22 => ?_)
    · have h := h.1 c22
      refine lv_iconst (v := (0 : Int32)) hx hb dX5_fact_22 (by decide) ?_
      exact sX5_fact_23 C hK hN hD hA post I F x1 x2 x3 x4 (0 : Int32) h s.heap [] hP hS ls (lv_sub hl [0, 1, 2, 3, 4] rfl)
    · have h := h.2 c22
      refine lv_iconst (v := (1 : Int32)) hx hb dX5_fact_18 (by decide) ?_
      refine lv_goto (tgt := 23) hx hb dX5_fact_19 (by decide) ?_
      exact sX5_fact_23 C hK hN hD hA post I F x1 x2 x3 x4 (1 : Int32) h s.heap [] hP hS ls (lv_sub hl [0, 1, 2, 3, 4] rfl)

def bX5_written_14 (post : Int32 → (Nat → Int32) → (Nat → Nat → Int32) → Prop) (I : Nat → Int32) (F : Nat → Nat → Int32) (x1 x2 y0 : Int32) : Prop := wX5_fails I F y0 (0 : Int32) (0 : Int32) (fun r1 I2 F3 => ((r1 = (0 : Int32) → wX5_charges I2 F3 x1 (1000 : Int32) x2 (fun r5 I6 F7 => post r5 I6 F7)) ∧ (¬ r1 = (0 : Int32) → post (0 : Int32) I2 F3)))
def wX5_written (I : Nat → Int32) (F : Nat → Nat → Int32) (x1 x2 : Int32) (post : Int32 → (Nat → Int32) → (Nat → Nat → Int32) → Prop) : Prop := wX5_isPolicy I F x1 (fun r8 => ((¬ r8 = (0 : Int32) → bX5_written_14 post I F x1 x2 (0 : Int32)) ∧ (r8 = (0 : Int32) → bX5_written_14 post I F x1 x2 (1 : Int32))))
set_option maxHeartbeats 4000000 in
set_option maxRecDepth 100000 in
theorem sX5_written_14 {p : Program} {l : Launch} {e : Env} {s : State} {m : MethodId} {args : Array Value} {below : List Frame} {meth : Method} {c : Code} {dC : Nat → ClassId} {dI : Nat → Nat → Nat} {cI : ClassId} {ad : Nat → Nat} {A : Nat → Prop} (C : Cx p s m args meth c cX5_written 3 (some .int) RX5 wsX5_written) (hK : va_K (dC, dI) vwCl [(cI, .int)] s) (hN : NW s) (hD : ∀ I F, va_D A (wM cI ad I F)) (hA : ∀ q : Nat, s.heap.size ≤ q → A q) (post : Int32 → (Nat → Int32) → (Nat → Nat → Int32) → Prop) : ∀ (I : Nat → Int32) (F : Nat → Nat → Int32) (x1 x2 y0 : Int32), bX5_written_14 post I F x1 x2 y0 → ∀ (H : Heap) (locs : List Loc), va_P (dC, dI) vwCl (wM cI ad I F) H → va_S A s.heap H locs → ∀ (ls : Array Slot), lv_has ls 3 [(0, .ref (ad 0)), (1, .int x1), (2, .int x2)] → W p l e { frames := 4, cells := 0, slots := 0, locals := 95 } s m args below meth c H locs 0 0 (MQ below (QWi dC dI (wM cI ad) post A) args s 0 0 A) (F0 m 14 ls [.int y0, .ref (ad 0)]) := by
  obtain ⟨hx, hb, hml, hown, hts, hr, hlocks⟩ := id C
  intro I F x1 x2 y0 h H locs hP hS ls hl
  unfold bX5_written_14 at h
  refine lv_iconst (v := (0 : Int32)) hx hb dX5_written_14 (by decide) ?_
  refine lv_iconst (v := (0 : Int32)) hx hb dX5_written_15 (by decide) ?_
  refine wcall_i (va_runV (As := [.int y0, .int (0 : Int32), .int (0 : Int32)]) (rest := []) ⟨hx, hb, hml, hown, hts⟩ (cTX5_fails l dC dI cI ad I F H.size y0 (0 : Int32) (0 : Int32) _ h) (cwV 3 hts gX5_written_X5_fails rfl rfl rfl (by decide +kernel) ⟨Nat.le_of_ble_eq_true rfl, Nat.le_of_ble_eq_true rfl⟩) (pv_W hP hK hN ((hD _ _).weaken (fun _ _ _ _ => trivial)) 0 5 rfl rfl _) rfl rfl hl.1 rfl (lv_room (Nat.le_of_ble_eq_true rfl)) dX5_written_16 ⟨Nat.le_of_ble_eq_true rfl, Nat.le_of_ble_eq_true rfl⟩) hD hS hA (fun r1 I2 F3 h H locs hP hS => ?_)
  refine lv_if_eq (tgt := 26) hx hb dX5_written_19 (by decide) (fun c4 => ?_) (fun c4 => ?_)
  · have h := h.1 c4
    refine lv_aload_n hx hb dX5_written_26 rfl (lv_at hl 0 rfl) ?_
    refine lv_iload_n hx hb dX5_written_27 rfl (lv_at hl 1 rfl) ?_
    refine lv_sipush (v := (1000 : Int32)) hx hb dX5_written_28 (by decide) ?_
    refine lv_iload_n hx hb dX5_written_31 rfl (lv_at hl 2 rfl) ?_
    refine wcall_i (va_runV (As := [.int x1, .int (1000 : Int32), .int x2]) (rest := []) ⟨hx, hb, hml, hown, hts⟩ (cTX5_charges l dC dI cI ad I2 F3 H.size x1 (1000 : Int32) x2 _ h) (cwV 3 hts gX5_written_X5_charges rfl rfl rfl (by decide +kernel) ⟨Nat.le_of_ble_eq_true rfl, Nat.le_of_ble_eq_true rfl⟩) (pv_W hP hK hN ((hD _ _).weaken (fun _ _ _ _ => trivial)) 0 5 rfl rfl _) rfl rfl hl.1 rfl (lv_room (Nat.le_of_ble_eq_true rfl)) dX5_written_32 ⟨Nat.le_of_ble_eq_true rfl, Nat.le_of_ble_eq_true rfl⟩) hD hS hA (fun r5 I6 F7 h H locs hP hS => ?_)
    exact W.iret (v := r5) hx hb hr (fun t ht hW => ⟨⟨r5, (I6, F7), rfl, h, by show va_P _ _ _ t.heap; rw [ht]; exact hP⟩, hS.F ht⟩) hS.2.2 dX5_written_35
  · have h := h.2 c4
    refine lv_iconst (v := (0 : Int32)) hx hb dX5_written_22 (by decide) ?_
    refine lv_goto (tgt := 35) hx hb dX5_written_23 (by decide) ?_
    exact W.iret (v := (0 : Int32)) hx hb hr (fun t ht hW => ⟨⟨(0 : Int32), (I2, F3), rfl, h, by show va_P _ _ _ t.heap; rw [ht]; exact hP⟩, hS.F ht⟩) hS.2.2 dX5_written_35
set_option maxHeartbeats 4000000 in
set_option maxRecDepth 100000 in
theorem cTX5_written (l : Launch) (dC : Nat → ClassId) (dI : Nat → Nat → Nat) (cI : ClassId) (ad : Nat → Nat) (I : Nat → Int32) (F : Nat → Nat → Int32) (sz : Nat) (x1 x2 : Int32) (post : Int32 → (Nat → Int32) → (Nat → Nat → Int32) → Prop) (h : wX5_written I F x1 x2 post) : Met l yX5_written wsX5_written { frames := 4, cells := 0, slots := 0, locals := 95 } (va_Pc [.ref (ad 0), .int x1, .int x2] (PWw dC dI cI (wM cI ad) I F sz)) (QWi dC dI (wM cI ad) post (va_A (wM cI ad I F) sz)) 0 0 (va_A (wM cI ad I F) sz) := by
  refine Met.ofW (cc := cX5_written) (maxL := 3) (ret := (some .int)) (by decide) rfl ?_
  intro p e s m args below meth c s₁ B hml hv
  obtain ⟨rfl, hsz, ⟨hP, hK, hN⟩, hD0⟩ := hv
  subst hsz
  have hD := wD_any (wM_fix cI ad) (hD0.self (sz := s.heap.size))
  generalize hAe : va_A (wM cI ad I F) s.heap.size = A at hD ⊢
  have hA : ∀ q : Nat, s.heap.size ≤ q → A q := fun q h => by rw [← hAe]; exact Or.inr h
  clear hAe hD0
  have hx := B.exec
  have hb := B.bytes
  have hr := B.returns
  have hts := atoms_spec (ws := wsX5_written) B.pre
  have hown : s.vm.findClass RX5 = some m.cls := findClass_of_methodNamed B.named
  have hlocks := B.notSynchronized
  have C : Cx p s m _ meth c cX5_written 3 (some .int) RX5 wsX5_written := ⟨hx, hb, hml, hown, hts, hr, hlocks⟩
  have hS : va_S A s.heap s.heap [] := va_S.rf
  have hl := lv_entry ([.ref (ad 0), .int x1, .int x2]) (n := 3) (Nat.le_of_ble_eq_true rfl)
  rw [lg_entry_eq]
  generalize (lg_sl ([.ref (ad 0), .int x1, .int x2]) ++ List.replicate (3 - (lg_sl ([.ref (ad 0), .int x1, .int x2])).length) Slot.unset).toArray = ls at hl ⊢
  have hl : lv_has ls 3 [(0, .ref (ad 0)), (1, .int x1), (2, .int x2)] := hl
  unfold wX5_written at h
  refine lv_aload_n hx hb dX5_written_0 rfl (lv_at hl 0 rfl) ?_
  refine lv_aload_n hx hb dX5_written_1 rfl (lv_at hl 0 rfl) ?_
  refine lv_iload_n hx hb dX5_written_2 rfl (lv_at hl 1 rfl) ?_
  refine vp_callSi (cr_of (va_runV (As := [.int x1]) (rest := [.ref (ad 0)]) ⟨hx, hb, hml, hown, hts⟩ (cTX5_isPolicy l dC dI cI ad I F x1 _ h) (cwV 1 hts gX5_written_X5_isPolicy rfl rfl rfl (by decide +kernel) ⟨Nat.le_of_ble_eq_true rfl, Nat.le_of_ble_eq_true rfl⟩) (pv_R hP hK hN 0 5 rfl rfl _) rfl rfl hl.1 rfl (lv_room (Nat.le_of_ble_eq_true rfl)) dX5_written_3 ⟨Nat.le_of_ble_eq_true rfl, Nat.le_of_ble_eq_true rfl⟩)) (fun r8 h => ?_)
  refine lv_if_ne (tgt := 13) hx hb dX5_written_6 (by decide) (fun c9 => ?_) (fun c9 => ?_)
  · have h := h.1 c9
    refine lv_iconst (v := (0 : Int32)) hx hb dX5_written_13 (by decide) ?_
    exact sX5_written_14 C hK hN hD hA post I F x1 x2 (0 : Int32) h s.heap [] hP hS ls (lv_sub hl [0, 1, 2] rfl)
  · have h := h.2 c9
    refine lv_iconst (v := (1 : Int32)) hx hb dX5_written_9 (by decide) ?_
    refine lv_goto (tgt := 14) hx hb dX5_written_10 (by decide) ?_
    exact sX5_written_14 C hK hN hD hA post I F x1 x2 (1 : Int32) h s.heap [] hP hS ls (lv_sub hl [0, 1, 2] rfl)

def bX5_earned_14 (post : Int32 → (Nat → Int32) → (Nat → Nat → Int32) → Prop) (I : Nat → Int32) (F : Nat → Nat → Int32) (x1 x2 x3 y0 : Int32) : Prop := wX5_fails I F y0 (0 : Int32) (0 : Int32) (fun r1 I2 F3 => ((r1 = (0 : Int32) → wX5_charges I2 F3 x1 x2 x3 (fun r5 I6 F7 => post r5 I6 F7)) ∧ (¬ r1 = (0 : Int32) → post (0 : Int32) I2 F3)))
def wX5_earned (I : Nat → Int32) (F : Nat → Nat → Int32) (x1 x2 x3 : Int32) (post : Int32 → (Nat → Int32) → (Nat → Nat → Int32) → Prop) : Prop := wX5_isPolicy I F x1 (fun r8 => ((¬ r8 = (0 : Int32) → bX5_earned_14 post I F x1 x2 x3 (0 : Int32)) ∧ (r8 = (0 : Int32) → bX5_earned_14 post I F x1 x2 x3 (1 : Int32))))
set_option maxHeartbeats 4000000 in
set_option maxRecDepth 100000 in
theorem sX5_earned_14 {p : Program} {l : Launch} {e : Env} {s : State} {m : MethodId} {args : Array Value} {below : List Frame} {meth : Method} {c : Code} {dC : Nat → ClassId} {dI : Nat → Nat → Nat} {cI : ClassId} {ad : Nat → Nat} {A : Nat → Prop} (C : Cx p s m args meth c cX5_earned 4 (some .int) RX5 wsX5_earned) (hK : va_K (dC, dI) vwCl [(cI, .int)] s) (hN : NW s) (hD : ∀ I F, va_D A (wM cI ad I F)) (hA : ∀ q : Nat, s.heap.size ≤ q → A q) (post : Int32 → (Nat → Int32) → (Nat → Nat → Int32) → Prop) : ∀ (I : Nat → Int32) (F : Nat → Nat → Int32) (x1 x2 x3 y0 : Int32), bX5_earned_14 post I F x1 x2 x3 y0 → ∀ (H : Heap) (locs : List Loc), va_P (dC, dI) vwCl (wM cI ad I F) H → va_S A s.heap H locs → ∀ (ls : Array Slot), lv_has ls 4 [(0, .ref (ad 0)), (1, .int x1), (2, .int x2), (3, .int x3)] → W p l e { frames := 4, cells := 0, slots := 0, locals := 95 } s m args below meth c H locs 0 0 (MQ below (QWi dC dI (wM cI ad) post A) args s 0 0 A) (F0 m 14 ls [.int y0, .ref (ad 0)]) := by
  obtain ⟨hx, hb, hml, hown, hts, hr, hlocks⟩ := id C
  intro I F x1 x2 x3 y0 h H locs hP hS ls hl
  unfold bX5_earned_14 at h
  refine lv_iconst (v := (0 : Int32)) hx hb dX5_earned_14 (by decide) ?_
  refine lv_iconst (v := (0 : Int32)) hx hb dX5_earned_15 (by decide) ?_
  refine wcall_i (va_runV (As := [.int y0, .int (0 : Int32), .int (0 : Int32)]) (rest := []) ⟨hx, hb, hml, hown, hts⟩ (cTX5_fails l dC dI cI ad I F H.size y0 (0 : Int32) (0 : Int32) _ h) (cwV 3 hts gX5_earned_X5_fails rfl rfl rfl (by decide +kernel) ⟨Nat.le_of_ble_eq_true rfl, Nat.le_of_ble_eq_true rfl⟩) (pv_W hP hK hN ((hD _ _).weaken (fun _ _ _ _ => trivial)) 0 5 rfl rfl _) rfl rfl hl.1 rfl (lv_room (Nat.le_of_ble_eq_true rfl)) dX5_earned_16 ⟨Nat.le_of_ble_eq_true rfl, Nat.le_of_ble_eq_true rfl⟩) hD hS hA (fun r1 I2 F3 h H locs hP hS => ?_)
  refine lv_if_eq (tgt := 26) hx hb dX5_earned_19 (by decide) (fun c4 => ?_) (fun c4 => ?_)
  · have h := h.1 c4
    refine lv_aload_n hx hb dX5_earned_26 rfl (lv_at hl 0 rfl) ?_
    refine lv_iload_n hx hb dX5_earned_27 rfl (lv_at hl 1 rfl) ?_
    refine lv_iload_n hx hb dX5_earned_28 rfl (lv_at hl 2 rfl) ?_
    refine lv_iload_n hx hb dX5_earned_29 rfl (lv_at hl 3 rfl) ?_
    refine wcall_i (va_runV (As := [.int x1, .int x2, .int x3]) (rest := []) ⟨hx, hb, hml, hown, hts⟩ (cTX5_charges l dC dI cI ad I2 F3 H.size x1 x2 x3 _ h) (cwV 3 hts gX5_earned_X5_charges rfl rfl rfl (by decide +kernel) ⟨Nat.le_of_ble_eq_true rfl, Nat.le_of_ble_eq_true rfl⟩) (pv_W hP hK hN ((hD _ _).weaken (fun _ _ _ _ => trivial)) 0 5 rfl rfl _) rfl rfl hl.1 rfl (lv_room (Nat.le_of_ble_eq_true rfl)) dX5_earned_30 ⟨Nat.le_of_ble_eq_true rfl, Nat.le_of_ble_eq_true rfl⟩) hD hS hA (fun r5 I6 F7 h H locs hP hS => ?_)
    exact W.iret (v := r5) hx hb hr (fun t ht hW => ⟨⟨r5, (I6, F7), rfl, h, by show va_P _ _ _ t.heap; rw [ht]; exact hP⟩, hS.F ht⟩) hS.2.2 dX5_earned_33
  · have h := h.2 c4
    refine lv_iconst (v := (0 : Int32)) hx hb dX5_earned_22 (by decide) ?_
    refine lv_goto (tgt := 33) hx hb dX5_earned_23 (by decide) ?_
    exact W.iret (v := (0 : Int32)) hx hb hr (fun t ht hW => ⟨⟨(0 : Int32), (I2, F3), rfl, h, by show va_P _ _ _ t.heap; rw [ht]; exact hP⟩, hS.F ht⟩) hS.2.2 dX5_earned_33
set_option maxHeartbeats 4000000 in
set_option maxRecDepth 100000 in
theorem cTX5_earned (l : Launch) (dC : Nat → ClassId) (dI : Nat → Nat → Nat) (cI : ClassId) (ad : Nat → Nat) (I : Nat → Int32) (F : Nat → Nat → Int32) (sz : Nat) (x1 x2 x3 : Int32) (post : Int32 → (Nat → Int32) → (Nat → Nat → Int32) → Prop) (h : wX5_earned I F x1 x2 x3 post) : Met l yX5_earned wsX5_earned { frames := 4, cells := 0, slots := 0, locals := 95 } (va_Pc [.ref (ad 0), .int x1, .int x2, .int x3] (PWw dC dI cI (wM cI ad) I F sz)) (QWi dC dI (wM cI ad) post (va_A (wM cI ad I F) sz)) 0 0 (va_A (wM cI ad I F) sz) := by
  refine Met.ofW (cc := cX5_earned) (maxL := 4) (ret := (some .int)) (by decide) rfl ?_
  intro p e s m args below meth c s₁ B hml hv
  obtain ⟨rfl, hsz, ⟨hP, hK, hN⟩, hD0⟩ := hv
  subst hsz
  have hD := wD_any (wM_fix cI ad) (hD0.self (sz := s.heap.size))
  generalize hAe : va_A (wM cI ad I F) s.heap.size = A at hD ⊢
  have hA : ∀ q : Nat, s.heap.size ≤ q → A q := fun q h => by rw [← hAe]; exact Or.inr h
  clear hAe hD0
  have hx := B.exec
  have hb := B.bytes
  have hr := B.returns
  have hts := atoms_spec (ws := wsX5_earned) B.pre
  have hown : s.vm.findClass RX5 = some m.cls := findClass_of_methodNamed B.named
  have hlocks := B.notSynchronized
  have C : Cx p s m _ meth c cX5_earned 4 (some .int) RX5 wsX5_earned := ⟨hx, hb, hml, hown, hts, hr, hlocks⟩
  have hS : va_S A s.heap s.heap [] := va_S.rf
  have hl := lv_entry ([.ref (ad 0), .int x1, .int x2, .int x3]) (n := 4) (Nat.le_of_ble_eq_true rfl)
  rw [lg_entry_eq]
  generalize (lg_sl ([.ref (ad 0), .int x1, .int x2, .int x3]) ++ List.replicate (4 - (lg_sl ([.ref (ad 0), .int x1, .int x2, .int x3])).length) Slot.unset).toArray = ls at hl ⊢
  have hl : lv_has ls 4 [(0, .ref (ad 0)), (1, .int x1), (2, .int x2), (3, .int x3)] := hl
  unfold wX5_earned at h
  refine lv_aload_n hx hb dX5_earned_0 rfl (lv_at hl 0 rfl) ?_
  refine lv_aload_n hx hb dX5_earned_1 rfl (lv_at hl 0 rfl) ?_
  refine lv_iload_n hx hb dX5_earned_2 rfl (lv_at hl 1 rfl) ?_
  refine vp_callSi (cr_of (va_runV (As := [.int x1]) (rest := [.ref (ad 0)]) ⟨hx, hb, hml, hown, hts⟩ (cTX5_isPolicy l dC dI cI ad I F x1 _ h) (cwV 1 hts gX5_earned_X5_isPolicy rfl rfl rfl (by decide +kernel) ⟨Nat.le_of_ble_eq_true rfl, Nat.le_of_ble_eq_true rfl⟩) (pv_R hP hK hN 0 5 rfl rfl _) rfl rfl hl.1 rfl (lv_room (Nat.le_of_ble_eq_true rfl)) dX5_earned_3 ⟨Nat.le_of_ble_eq_true rfl, Nat.le_of_ble_eq_true rfl⟩)) (fun r8 h => ?_)
  refine lv_if_ne (tgt := 13) hx hb dX5_earned_6 (by decide) (fun c9 => ?_) (fun c9 => ?_)
  · have h := h.1 c9
    refine lv_iconst (v := (0 : Int32)) hx hb dX5_earned_13 (by decide) ?_
    exact sX5_earned_14 C hK hN hD hA post I F x1 x2 x3 (0 : Int32) h s.heap [] hP hS ls (lv_sub hl [0, 1, 2, 3] rfl)
  · have h := h.2 c9
    refine lv_iconst (v := (1 : Int32)) hx hb dX5_earned_9 (by decide) ?_
    refine lv_goto (tgt := 14) hx hb dX5_earned_10 (by decide) ?_
    exact sX5_earned_14 C hK hN hD hA post I F x1 x2 x3 (1 : Int32) h s.heap [] hP hS ls (lv_sub hl [0, 1, 2, 3] rfl)

theorem iX5_settled_X5 : ∀ w ∈ wsX50, w ∈ wsX5_settled := by decide +kernel
def bX5_settled_29 (post : Int32 → (Nat → Int32) → (Nat → Nat → Int32) → Prop) (I : Nat → Int32) (F : Nat → Nat → Int32) (x1 x2 y0 : Int32) : Prop := wX5_fails I F y0 (0 : Int32) (0 : Int32) (fun r1 I2 F3 => ((r1 = (0 : Int32) → vp_in (((6 : Int32) * x1) + x2) 120 ∧ post (F3 16 (Int32.toNatClampNeg (((6 : Int32) * x1) + x2))) I2 F3) ∧ (¬ r1 = (0 : Int32) → post (0 : Int32) I2 F3)))
def wX5_settled (I : Nat → Int32) (F : Nat → Nat → Int32) (x1 x2 : Int32) (post : Int32 → (Nat → Int32) → (Nat → Nat → Int32) → Prop) : Prop := wX5_outside x1 (0 : Int32) ((I 14) - (1 : Int32)) (fun r6 => ((¬ r6 = (0 : Int32) → bX5_settled_29 post I F x1 x2 (1 : Int32)) ∧ (r6 = (0 : Int32) → wX5_outside x2 (0 : Int32) (5 : Int32) (fun r8 => ((r8 = (0 : Int32) → bX5_settled_29 post I F x1 x2 (0 : Int32)) ∧ (¬ r8 = (0 : Int32) → bX5_settled_29 post I F x1 x2 (1 : Int32)))))))
set_option maxHeartbeats 4000000 in
set_option maxRecDepth 100000 in
theorem sX5_settled_29 {p : Program} {l : Launch} {e : Env} {s : State} {m : MethodId} {args : Array Value} {below : List Frame} {meth : Method} {c : Code} {dC : Nat → ClassId} {dI : Nat → Nat → Nat} {cI : ClassId} {ad : Nat → Nat} {A : Nat → Prop} (C : Cx p s m args meth c cX5_settled 3 (some .int) RX5 wsX5_settled) (hK : va_K (dC, dI) vwCl [(cI, .int)] s) (hN : NW s) (hD : ∀ I F, va_D A (wM cI ad I F)) (hA : ∀ q : Nat, s.heap.size ≤ q → A q) (post : Int32 → (Nat → Int32) → (Nat → Nat → Int32) → Prop) : ∀ (I : Nat → Int32) (F : Nat → Nat → Int32) (x1 x2 y0 : Int32), bX5_settled_29 post I F x1 x2 y0 → ∀ (H : Heap) (locs : List Loc), va_P (dC, dI) vwCl (wM cI ad I F) H → va_S A s.heap H locs → ∀ (ls : Array Slot), lv_has ls 3 [(0, .ref (ad 0)), (1, .int x1), (2, .int x2)] → W p l e { frames := 1, cells := 0, slots := 0, locals := 23 } s m args below meth c H locs 0 0 (MQ below (QWi dC dI (wM cI ad) post A) args s 0 0 A) (F0 m 29 ls [.int y0, .ref (ad 0)]) := by
  obtain ⟨hx, hb, hml, hown, hts, hr, hlocks⟩ := id C
  intro I F x1 x2 y0 h H locs hP hS ls hl
  unfold bX5_settled_29 at h
  refine lv_iconst (v := (0 : Int32)) hx hb dX5_settled_29 (by decide) ?_
  refine lv_iconst (v := (0 : Int32)) hx hb dX5_settled_30 (by decide) ?_
  refine wcall_i (va_runV (As := [.int y0, .int (0 : Int32), .int (0 : Int32)]) (rest := []) ⟨hx, hb, hml, hown, hts⟩ (cTX5_fails l dC dI cI ad I F H.size y0 (0 : Int32) (0 : Int32) _ h) (cwV 3 hts gX5_settled_X5_fails rfl rfl rfl (by decide +kernel) ⟨Nat.le_of_ble_eq_true rfl, Nat.le_of_ble_eq_true rfl⟩) (pv_W hP hK hN ((hD _ _).weaken (fun _ _ _ _ => trivial)) 0 5 rfl rfl _) rfl rfl hl.1 rfl (lv_room (Nat.le_of_ble_eq_true rfl)) dX5_settled_31 ⟨Nat.le_of_ble_eq_true rfl, Nat.le_of_ble_eq_true rfl⟩) hD hS hA (fun r1 I2 F3 h H locs hP hS => ?_)
  refine lv_if_eq (tgt := 41) hx hb dX5_settled_34 (by decide) (fun c4 => ?_) (fun c4 => ?_)
  · have h := h.1 c4
    refine lv_aload_n hx hb dX5_settled_41 rfl (lv_at hl 0 rfl) ?_
    refine va_get (D := (dC, dI)) (ci := 5) (v := .ref (ad 16)) (C := RX5) (T := TX5) (N := 31) hx hb hts iX5_settled_X5 hown hK hP 0 rfl rfl 30 (by decide) (hts (.fieldLink RX5 65 "CarrierBooksModel" "claim" "[I") (by decide +kernel)) (fun _ h9 => h9) rfl dX5_settled_42 ?_
    refine lv_bipush (v := (6 : Int32)) hx hb dX5_settled_45 (by decide) ?_
    refine lv_iload_n hx hb dX5_settled_47 rfl (lv_at hl 1 rfl) ?_
    refine lv_imul hx hb dX5_settled_48 ?_
    refine lv_iload_n hx hb dX5_settled_49 rfl (lv_at hl 2 rfl) ?_
    refine lv_iadd hx hb dX5_settled_50 ?_
    obtain ⟨hin5, h⟩ := h
    refine va_iald hx hb hK hP 16 0 rfl rfl hin5 dX5_settled_51 ?_
    exact W.iret (v := (F3 16 (Int32.toNatClampNeg (((6 : Int32) * x1) + x2)))) hx hb hr (fun t ht hW => ⟨⟨(F3 16 (Int32.toNatClampNeg (((6 : Int32) * x1) + x2))), (I2, F3), rfl, h, by show va_P _ _ _ t.heap; rw [ht]; exact hP⟩, hS.F ht⟩) hS.2.2 dX5_settled_52
  · have h := h.2 c4
    refine lv_iconst (v := (0 : Int32)) hx hb dX5_settled_37 (by decide) ?_
    refine lv_goto (tgt := 52) hx hb dX5_settled_38 (by decide) ?_
    exact W.iret (v := (0 : Int32)) hx hb hr (fun t ht hW => ⟨⟨(0 : Int32), (I2, F3), rfl, h, by show va_P _ _ _ t.heap; rw [ht]; exact hP⟩, hS.F ht⟩) hS.2.2 dX5_settled_52
set_option maxHeartbeats 4000000 in
set_option maxRecDepth 100000 in
theorem cTX5_settled (l : Launch) (dC : Nat → ClassId) (dI : Nat → Nat → Nat) (cI : ClassId) (ad : Nat → Nat) (I : Nat → Int32) (F : Nat → Nat → Int32) (sz : Nat) (x1 x2 : Int32) (post : Int32 → (Nat → Int32) → (Nat → Nat → Int32) → Prop) (h : wX5_settled I F x1 x2 post) : Met l yX5_settled wsX5_settled { frames := 1, cells := 0, slots := 0, locals := 23 } (va_Pc [.ref (ad 0), .int x1, .int x2] (PWw dC dI cI (wM cI ad) I F sz)) (QWi dC dI (wM cI ad) post (va_A (wM cI ad I F) sz)) 0 0 (va_A (wM cI ad I F) sz) := by
  refine Met.ofW (cc := cX5_settled) (maxL := 3) (ret := (some .int)) (by decide) rfl ?_
  intro p e s m args below meth c s₁ B hml hv
  obtain ⟨rfl, hsz, ⟨hP, hK, hN⟩, hD0⟩ := hv
  subst hsz
  have hD := wD_any (wM_fix cI ad) (hD0.self (sz := s.heap.size))
  generalize hAe : va_A (wM cI ad I F) s.heap.size = A at hD ⊢
  have hA : ∀ q : Nat, s.heap.size ≤ q → A q := fun q h => by rw [← hAe]; exact Or.inr h
  clear hAe hD0
  have hx := B.exec
  have hb := B.bytes
  have hr := B.returns
  have hts := atoms_spec (ws := wsX5_settled) B.pre
  have hown : s.vm.findClass RX5 = some m.cls := findClass_of_methodNamed B.named
  have hlocks := B.notSynchronized
  have C : Cx p s m _ meth c cX5_settled 3 (some .int) RX5 wsX5_settled := ⟨hx, hb, hml, hown, hts, hr, hlocks⟩
  have hS : va_S A s.heap s.heap [] := va_S.rf
  have hl := lv_entry ([.ref (ad 0), .int x1, .int x2]) (n := 3) (Nat.le_of_ble_eq_true rfl)
  rw [lg_entry_eq]
  generalize (lg_sl ([.ref (ad 0), .int x1, .int x2]) ++ List.replicate (3 - (lg_sl ([.ref (ad 0), .int x1, .int x2])).length) Slot.unset).toArray = ls at hl ⊢
  have hl : lv_has ls 3 [(0, .ref (ad 0)), (1, .int x1), (2, .int x2)] := hl
  unfold wX5_settled at h
  refine lv_aload_n hx hb dX5_settled_0 rfl (lv_at hl 0 rfl) ?_
  refine lv_iload_n hx hb dX5_settled_1 rfl (lv_at hl 1 rfl) ?_
  refine lv_iconst (v := (0 : Int32)) hx hb dX5_settled_2 (by decide) ?_
  refine lv_aload_n hx hb dX5_settled_3 rfl (lv_at hl 0 rfl) ?_
  refine va_get (D := (dC, dI)) (ci := 5) (v := .int (I 14)) (C := RX5) (T := TX5) (N := 31) hx hb hts iX5_settled_X5 hown hK hP 0 rfl rfl 29 (by decide) (hts (.fieldLink RX5 95 "CarrierBooksModel" "claims" "I") (by decide +kernel)) (fun _ h9 => h9) rfl dX5_settled_4 ?_
  refine lv_iconst (v := (1 : Int32)) hx hb dX5_settled_7 (by decide) ?_
  refine lv_isub hx hb dX5_settled_8 ?_
  refine vp_callSi (cr_of (va_runS (As := [.int x1, .int (0 : Int32), .int ((I 14) - (1 : Int32))]) (rest := [.ref (ad 0)]) ⟨hx, hb, hml, hown, hts⟩ (cTX5_outside l x1 (0 : Int32) ((I 14) - (1 : Int32)) _ h) (va_cwS 3 hts gX5_settled_X5_outside rfl rfl rfl (by decide +kernel) ⟨Nat.le_of_ble_eq_true rfl, Nat.le_of_ble_eq_true rfl⟩) (pv_S _) rfl rfl hl.1 rfl (lv_room (Nat.le_of_ble_eq_true rfl)) dX5_settled_9 ⟨Nat.le_of_ble_eq_true rfl, Nat.le_of_ble_eq_true rfl⟩)) (fun r6 h => ?_)
  refine lv_if_ne (tgt := 24) hx hb dX5_settled_12 (by decide) (fun c7 => ?_) (fun c7 => ?_)
  · have h := h.1 c7
    refine lv_iconst (v := (1 : Int32)) hx hb dX5_settled_24 (by decide) ?_
    refine lv_goto (tgt := 29) hx hb dX5_settled_25 (by decide) ?_
    exact sX5_settled_29 C hK hN hD hA post I F x1 x2 (1 : Int32) h s.heap [] hP hS ls (lv_sub hl [0, 1, 2] rfl)
  · have h := h.2 c7
    refine lv_iload_n hx hb dX5_settled_15 rfl (lv_at hl 2 rfl) ?_
    refine lv_iconst (v := (0 : Int32)) hx hb dX5_settled_16 (by decide) ?_
    refine lv_iconst (v := (5 : Int32)) hx hb dX5_settled_17 (by decide) ?_
    refine vp_callSi (cr_of (va_runS (As := [.int x2, .int (0 : Int32), .int (5 : Int32)]) (rest := [.ref (ad 0)]) ⟨hx, hb, hml, hown, hts⟩ (cTX5_outside l x2 (0 : Int32) (5 : Int32) _ h) (va_cwS 3 hts gX5_settled_X5_outside rfl rfl rfl (by decide +kernel) ⟨Nat.le_of_ble_eq_true rfl, Nat.le_of_ble_eq_true rfl⟩) (pv_S _) rfl rfl hl.1 rfl (lv_room (Nat.le_of_ble_eq_true rfl)) dX5_settled_18 ⟨Nat.le_of_ble_eq_true rfl, Nat.le_of_ble_eq_true rfl⟩)) (fun r8 h => ?_)
    refine lv_if_eq (tgt := 28) hx hb dX5_settled_21 (by decide) (fun c9 => ?_) (fun c9 => ?_)
    · have h := h.1 c9
      refine lv_iconst (v := (0 : Int32)) hx hb dX5_settled_28 (by decide) ?_
      exact sX5_settled_29 C hK hN hD hA post I F x1 x2 (0 : Int32) h s.heap [] hP hS ls (lv_sub hl [0, 1, 2] rfl)
    · have h := h.2 c9
      refine lv_iconst (v := (1 : Int32)) hx hb dX5_settled_24 (by decide) ?_
      refine lv_goto (tgt := 29) hx hb dX5_settled_25 (by decide) ?_
      exact sX5_settled_29 C hK hN hD hA post I F x1 x2 (1 : Int32) h s.heap [] hP hS ls (lv_sub hl [0, 1, 2] rfl)

theorem iX5_posting_X5 : ∀ w ∈ wsX50, w ∈ wsX5_posting := by decide +kernel
def bX5_posting_29 (post : Int32 → (Nat → Int32) → (Nat → Nat → Int32) → Prop) (I : Nat → Int32) (F : Nat → Nat → Int32) (x1 x2 y0 : Int32) : Prop := wX5_fails I F y0 (0 : Int32) (0 : Int32) (fun r1 I2 F3 => ((r1 = (0 : Int32) → ((¬ x2 = (0 : Int32) → ((¬ x2 = (1 : Int32) → vp_in x1 90 ∧ post (F3 12 (Int32.toNatClampNeg x1)) I2 F3) ∧ (x2 = (1 : Int32) → vp_in x1 90 ∧ post (F3 11 (Int32.toNatClampNeg x1)) I2 F3))) ∧ (x2 = (0 : Int32) → vp_in x1 90 ∧ post (F3 10 (Int32.toNatClampNeg x1)) I2 F3))) ∧ (¬ r1 = (0 : Int32) → post (0 : Int32) I2 F3)))
def wX5_posting (I : Nat → Int32) (F : Nat → Nat → Int32) (x1 x2 : Int32) (post : Int32 → (Nat → Int32) → (Nat → Nat → Int32) → Prop) : Prop := wX5_outside x1 (0 : Int32) ((I 4) - (1 : Int32)) (fun r10 => ((¬ r10 = (0 : Int32) → bX5_posting_29 post I F x1 x2 (1 : Int32)) ∧ (r10 = (0 : Int32) → wX5_outside x2 (0 : Int32) (2 : Int32) (fun r12 => ((r12 = (0 : Int32) → bX5_posting_29 post I F x1 x2 (0 : Int32)) ∧ (¬ r12 = (0 : Int32) → bX5_posting_29 post I F x1 x2 (1 : Int32)))))))
set_option maxHeartbeats 4000000 in
set_option maxRecDepth 100000 in
theorem sX5_posting_29 {p : Program} {l : Launch} {e : Env} {s : State} {m : MethodId} {args : Array Value} {below : List Frame} {meth : Method} {c : Code} {dC : Nat → ClassId} {dI : Nat → Nat → Nat} {cI : ClassId} {ad : Nat → Nat} {A : Nat → Prop} (C : Cx p s m args meth c cX5_posting 3 (some .int) RX5 wsX5_posting) (hK : va_K (dC, dI) vwCl [(cI, .int)] s) (hN : NW s) (hD : ∀ I F, va_D A (wM cI ad I F)) (hA : ∀ q : Nat, s.heap.size ≤ q → A q) (post : Int32 → (Nat → Int32) → (Nat → Nat → Int32) → Prop) : ∀ (I : Nat → Int32) (F : Nat → Nat → Int32) (x1 x2 y0 : Int32), bX5_posting_29 post I F x1 x2 y0 → ∀ (H : Heap) (locs : List Loc), va_P (dC, dI) vwCl (wM cI ad I F) H → va_S A s.heap H locs → ∀ (ls : Array Slot), lv_has ls 3 [(0, .ref (ad 0)), (1, .int x1), (2, .int x2)] → W p l e { frames := 1, cells := 0, slots := 0, locals := 23 } s m args below meth c H locs 0 0 (MQ below (QWi dC dI (wM cI ad) post A) args s 0 0 A) (F0 m 29 ls [.int y0, .ref (ad 0)]) := by
  obtain ⟨hx, hb, hml, hown, hts, hr, hlocks⟩ := id C
  intro I F x1 x2 y0 h H locs hP hS ls hl
  unfold bX5_posting_29 at h
  refine lv_iconst (v := (0 : Int32)) hx hb dX5_posting_29 (by decide) ?_
  refine lv_iconst (v := (0 : Int32)) hx hb dX5_posting_30 (by decide) ?_
  refine wcall_i (va_runV (As := [.int y0, .int (0 : Int32), .int (0 : Int32)]) (rest := []) ⟨hx, hb, hml, hown, hts⟩ (cTX5_fails l dC dI cI ad I F H.size y0 (0 : Int32) (0 : Int32) _ h) (cwV 3 hts gX5_posting_X5_fails rfl rfl rfl (by decide +kernel) ⟨Nat.le_of_ble_eq_true rfl, Nat.le_of_ble_eq_true rfl⟩) (pv_W hP hK hN ((hD _ _).weaken (fun _ _ _ _ => trivial)) 0 5 rfl rfl _) rfl rfl hl.1 rfl (lv_room (Nat.le_of_ble_eq_true rfl)) dX5_posting_31 ⟨Nat.le_of_ble_eq_true rfl, Nat.le_of_ble_eq_true rfl⟩) hD hS hA (fun r1 I2 F3 h H locs hP hS => ?_)
  refine lv_if_eq (tgt := 39) hx hb dX5_posting_34 (by decide) (fun c4 => ?_) (fun c4 => ?_)
  · have h := h.1 c4
    refine lv_iload_n hx hb dX5_posting_39 rfl (lv_at hl 2 rfl) ?_
    refine lv_if_ne (tgt := 52) hx hb dX5_posting_40 (by decide) (fun c5 => ?_) (fun c5 => ?_)
    · have h := h.1 c5
      refine lv_iload_n hx hb dX5_posting_52 rfl (lv_at hl 2 rfl) ?_
      refine lv_iconst (v := (1 : Int32)) hx hb dX5_posting_53 (by decide) ?_
      refine lv_icmp_ne (tgt := 66) hx hb dX5_posting_54 (by decide) (fun c6 => ?_) (fun c6 => ?_)
      · have h := h.1 c6
        refine lv_aload_n hx hb dX5_posting_66 rfl (lv_at hl 0 rfl) ?_
        refine va_get (D := (dC, dI)) (ci := 5) (v := .ref (ad 12)) (C := RX5) (T := TX5) (N := 31) hx hb hts iX5_posting_X5 hown hK hP 0 rfl rfl 16 (by decide) (hts (.fieldLink RX5 43 "CarrierBooksModel" "amount" "[I") (by decide +kernel)) (fun _ h9 => h9) rfl dX5_posting_67 ?_
        refine lv_iload_n hx hb dX5_posting_70 rfl (lv_at hl 1 rfl) ?_
        obtain ⟨hin7, h⟩ := h
        refine va_iald hx hb hK hP 12 0 rfl rfl hin7 dX5_posting_71 ?_
        exact W.iret (v := (F3 12 (Int32.toNatClampNeg x1))) hx hb hr (fun t ht hW => ⟨⟨(F3 12 (Int32.toNatClampNeg x1)), (I2, F3), rfl, h, by show va_P _ _ _ t.heap; rw [ht]; exact hP⟩, hS.F ht⟩) hS.2.2 dX5_posting_72
      · have h := h.2 c6
        refine lv_aload_n hx hb dX5_posting_57 rfl (lv_at hl 0 rfl) ?_
        refine va_get (D := (dC, dI)) (ci := 5) (v := .ref (ad 11)) (C := RX5) (T := TX5) (N := 31) hx hb hts iX5_posting_X5 hown hK hP 0 rfl rfl 15 (by decide) (hts (.fieldLink RX5 40 "CarrierBooksModel" "target" "[I") (by decide +kernel)) (fun _ h9 => h9) rfl dX5_posting_58 ?_
        refine lv_iload_n hx hb dX5_posting_61 rfl (lv_at hl 1 rfl) ?_
        obtain ⟨hin8, h⟩ := h
        refine va_iald hx hb hK hP 11 0 rfl rfl hin8 dX5_posting_62 ?_
        refine lv_goto (tgt := 72) hx hb dX5_posting_63 (by decide) ?_
        exact W.iret (v := (F3 11 (Int32.toNatClampNeg x1))) hx hb hr (fun t ht hW => ⟨⟨(F3 11 (Int32.toNatClampNeg x1)), (I2, F3), rfl, h, by show va_P _ _ _ t.heap; rw [ht]; exact hP⟩, hS.F ht⟩) hS.2.2 dX5_posting_72
    · have h := h.2 c5
      refine lv_aload_n hx hb dX5_posting_43 rfl (lv_at hl 0 rfl) ?_
      refine va_get (D := (dC, dI)) (ci := 5) (v := .ref (ad 10)) (C := RX5) (T := TX5) (N := 31) hx hb hts iX5_posting_X5 hown hK hP 0 rfl rfl 14 (by decide) (hts (.fieldLink RX5 37 "CarrierBooksModel" "source" "[I") (by decide +kernel)) (fun _ h9 => h9) rfl dX5_posting_44 ?_
      refine lv_iload_n hx hb dX5_posting_47 rfl (lv_at hl 1 rfl) ?_
      obtain ⟨hin9, h⟩ := h
      refine va_iald hx hb hK hP 10 0 rfl rfl hin9 dX5_posting_48 ?_
      refine lv_goto (tgt := 72) hx hb dX5_posting_49 (by decide) ?_
      exact W.iret (v := (F3 10 (Int32.toNatClampNeg x1))) hx hb hr (fun t ht hW => ⟨⟨(F3 10 (Int32.toNatClampNeg x1)), (I2, F3), rfl, h, by show va_P _ _ _ t.heap; rw [ht]; exact hP⟩, hS.F ht⟩) hS.2.2 dX5_posting_72
  · have h := h.2 c4
    refine lv_iconst (v := (0 : Int32)) hx hb dX5_posting_37 (by decide) ?_
    exact W.iret (v := (0 : Int32)) hx hb hr (fun t ht hW => ⟨⟨(0 : Int32), (I2, F3), rfl, h, by show va_P _ _ _ t.heap; rw [ht]; exact hP⟩, hS.F ht⟩) hS.2.2 dX5_posting_38
set_option maxHeartbeats 4000000 in
set_option maxRecDepth 100000 in
theorem cTX5_posting (l : Launch) (dC : Nat → ClassId) (dI : Nat → Nat → Nat) (cI : ClassId) (ad : Nat → Nat) (I : Nat → Int32) (F : Nat → Nat → Int32) (sz : Nat) (x1 x2 : Int32) (post : Int32 → (Nat → Int32) → (Nat → Nat → Int32) → Prop) (h : wX5_posting I F x1 x2 post) : Met l yX5_posting wsX5_posting { frames := 1, cells := 0, slots := 0, locals := 23 } (va_Pc [.ref (ad 0), .int x1, .int x2] (PWw dC dI cI (wM cI ad) I F sz)) (QWi dC dI (wM cI ad) post (va_A (wM cI ad I F) sz)) 0 0 (va_A (wM cI ad I F) sz) := by
  refine Met.ofW (cc := cX5_posting) (maxL := 3) (ret := (some .int)) (by decide) rfl ?_
  intro p e s m args below meth c s₁ B hml hv
  obtain ⟨rfl, hsz, ⟨hP, hK, hN⟩, hD0⟩ := hv
  subst hsz
  have hD := wD_any (wM_fix cI ad) (hD0.self (sz := s.heap.size))
  generalize hAe : va_A (wM cI ad I F) s.heap.size = A at hD ⊢
  have hA : ∀ q : Nat, s.heap.size ≤ q → A q := fun q h => by rw [← hAe]; exact Or.inr h
  clear hAe hD0
  have hx := B.exec
  have hb := B.bytes
  have hr := B.returns
  have hts := atoms_spec (ws := wsX5_posting) B.pre
  have hown : s.vm.findClass RX5 = some m.cls := findClass_of_methodNamed B.named
  have hlocks := B.notSynchronized
  have C : Cx p s m _ meth c cX5_posting 3 (some .int) RX5 wsX5_posting := ⟨hx, hb, hml, hown, hts, hr, hlocks⟩
  have hS : va_S A s.heap s.heap [] := va_S.rf
  have hl := lv_entry ([.ref (ad 0), .int x1, .int x2]) (n := 3) (Nat.le_of_ble_eq_true rfl)
  rw [lg_entry_eq]
  generalize (lg_sl ([.ref (ad 0), .int x1, .int x2]) ++ List.replicate (3 - (lg_sl ([.ref (ad 0), .int x1, .int x2])).length) Slot.unset).toArray = ls at hl ⊢
  have hl : lv_has ls 3 [(0, .ref (ad 0)), (1, .int x1), (2, .int x2)] := hl
  unfold wX5_posting at h
  refine lv_aload_n hx hb dX5_posting_0 rfl (lv_at hl 0 rfl) ?_
  refine lv_iload_n hx hb dX5_posting_1 rfl (lv_at hl 1 rfl) ?_
  refine lv_iconst (v := (0 : Int32)) hx hb dX5_posting_2 (by decide) ?_
  refine lv_aload_n hx hb dX5_posting_3 rfl (lv_at hl 0 rfl) ?_
  refine va_get (D := (dC, dI)) (ci := 5) (v := .int (I 4)) (C := RX5) (T := TX5) (N := 31) hx hb hts iX5_posting_X5 hown hK hP 0 rfl rfl 13 (by decide) (hts (.fieldLink RX5 141 "CarrierBooksModel" "postings" "I") (by decide +kernel)) (fun _ h9 => h9) rfl dX5_posting_4 ?_
  refine lv_iconst (v := (1 : Int32)) hx hb dX5_posting_7 (by decide) ?_
  refine lv_isub hx hb dX5_posting_8 ?_
  refine vp_callSi (cr_of (va_runS (As := [.int x1, .int (0 : Int32), .int ((I 4) - (1 : Int32))]) (rest := [.ref (ad 0)]) ⟨hx, hb, hml, hown, hts⟩ (cTX5_outside l x1 (0 : Int32) ((I 4) - (1 : Int32)) _ h) (va_cwS 3 hts gX5_posting_X5_outside rfl rfl rfl (by decide +kernel) ⟨Nat.le_of_ble_eq_true rfl, Nat.le_of_ble_eq_true rfl⟩) (pv_S _) rfl rfl hl.1 rfl (lv_room (Nat.le_of_ble_eq_true rfl)) dX5_posting_9 ⟨Nat.le_of_ble_eq_true rfl, Nat.le_of_ble_eq_true rfl⟩)) (fun r10 h => ?_)
  refine lv_if_ne (tgt := 24) hx hb dX5_posting_12 (by decide) (fun c11 => ?_) (fun c11 => ?_)
  · have h := h.1 c11
    refine lv_iconst (v := (1 : Int32)) hx hb dX5_posting_24 (by decide) ?_
    refine lv_goto (tgt := 29) hx hb dX5_posting_25 (by decide) ?_
    exact sX5_posting_29 C hK hN hD hA post I F x1 x2 (1 : Int32) h s.heap [] hP hS ls (lv_sub hl [0, 1, 2] rfl)
  · have h := h.2 c11
    refine lv_iload_n hx hb dX5_posting_15 rfl (lv_at hl 2 rfl) ?_
    refine lv_iconst (v := (0 : Int32)) hx hb dX5_posting_16 (by decide) ?_
    refine lv_iconst (v := (2 : Int32)) hx hb dX5_posting_17 (by decide) ?_
    refine vp_callSi (cr_of (va_runS (As := [.int x2, .int (0 : Int32), .int (2 : Int32)]) (rest := [.ref (ad 0)]) ⟨hx, hb, hml, hown, hts⟩ (cTX5_outside l x2 (0 : Int32) (2 : Int32) _ h) (va_cwS 3 hts gX5_posting_X5_outside rfl rfl rfl (by decide +kernel) ⟨Nat.le_of_ble_eq_true rfl, Nat.le_of_ble_eq_true rfl⟩) (pv_S _) rfl rfl hl.1 rfl (lv_room (Nat.le_of_ble_eq_true rfl)) dX5_posting_18 ⟨Nat.le_of_ble_eq_true rfl, Nat.le_of_ble_eq_true rfl⟩)) (fun r12 h => ?_)
    refine lv_if_eq (tgt := 28) hx hb dX5_posting_21 (by decide) (fun c13 => ?_) (fun c13 => ?_)
    · have h := h.1 c13
      refine lv_iconst (v := (0 : Int32)) hx hb dX5_posting_28 (by decide) ?_
      exact sX5_posting_29 C hK hN hD hA post I F x1 x2 (0 : Int32) h s.heap [] hP hS ls (lv_sub hl [0, 1, 2] rfl)
    · have h := h.2 c13
      refine lv_iconst (v := (1 : Int32)) hx hb dX5_posting_24 (by decide) ?_
      refine lv_goto (tgt := 29) hx hb dX5_posting_25 (by decide) ?_
      exact sX5_posting_29 C hK hN hD hA post I F x1 x2 (1 : Int32) h s.heap [] hP hS ls (lv_sub hl [0, 1, 2] rfl)

theorem iX5_balance_X5 : ∀ w ∈ wsX50, w ∈ wsX5_balance := by decide +kernel
def bX5_balance_51 (K22 : (Nat → Int32) → (Nat → Nat → Int32) → Int32 → Int32 → Int32 → Prop) (post : Int32 → (Nat → Int32) → (Nat → Nat → Int32) → Prop) (I : Nat → Int32) (F : Nat → Nat → Int32) (x1 x3 y0 y1 : Int32) : Prop := vp_in x3 90 ∧ ((¬ (F 10 (Int32.toNatClampNeg x3)) = x1 → ∀ v3 : Int32, v3 = (y1 + (y0 - (0 : Int32))) → ∀ v4 : Int32, v4 = x3 + (1 : Int32) → K22 I F x1 v3 v4) ∧ ((F 10 (Int32.toNatClampNeg x3)) = x1 → vp_in x3 90 ∧ ∀ v6 : Int32, v6 = (y1 + (y0 - (F 12 (Int32.toNatClampNeg x3)))) → ∀ v7 : Int32, v7 = x3 + (1 : Int32) → K22 I F x1 v6 v7))
def bX5_balance_22 (post : Int32 → (Nat → Int32) → (Nat → Nat → Int32) → Prop) : Nat → (Nat → Int32) → (Nat → Nat → Int32) → Int32 → Int32 → Int32 → Prop
  | 0 => fun _ _ _ _ _ => False
  | n + 1 => fun I F x1 x2 x3 => (((I 4) ≤ x3 → post x2 I F) ∧ (¬ (I 4) ≤ x3 → vp_in x3 90 ∧ ((¬ (F 11 (Int32.toNatClampNeg x3)) = x1 → bX5_balance_51 (bX5_balance_22 post n) post I F x1 x3 (0 : Int32) x2) ∧ ((F 11 (Int32.toNatClampNeg x3)) = x1 → vp_in x3 90 ∧ bX5_balance_51 (bX5_balance_22 post n) post I F x1 x3 (F 12 (Int32.toNatClampNeg x3)) x2))))
def wX5_balance (I : Nat → Int32) (F : Nat → Nat → Int32) (x1 : Int32) (post : Int32 → (Nat → Int32) → (Nat → Nat → Int32) → Prop) : Prop := wX5_outside x1 (0 : Int32) (6 : Int32) (fun r12 => wX5_fails I F r12 (0 : Int32) (0 : Int32) (fun r13 I14 F15 => ((r13 = (0 : Int32) → ∃ n22 : Nat, bX5_balance_22 post n22 I14 F15 x1 (0 : Int32) (0 : Int32)) ∧ (¬ r13 = (0 : Int32) → post (0 : Int32) I14 F15))))
set_option maxHeartbeats 4000000 in
set_option maxRecDepth 100000 in
theorem sX5_balance_51 {p : Program} {l : Launch} {e : Env} {s : State} {m : MethodId} {args : Array Value} {below : List Frame} {meth : Method} {c : Code} {dC : Nat → ClassId} {dI : Nat → Nat → Nat} {cI : ClassId} {ad : Nat → Nat} {A : Nat → Prop} (C : Cx p s m args meth c cX5_balance 4 (some .int) RX5 wsX5_balance) (hK : va_K (dC, dI) vwCl [(cI, .int)] s) (hN : NW s) (hD : ∀ I F, va_D A (wM cI ad I F)) (hA : ∀ q : Nat, s.heap.size ≤ q → A q) (post : Int32 → (Nat → Int32) → (Nat → Nat → Int32) → Prop) (K22 : (Nat → Int32) → (Nat → Nat → Int32) → Int32 → Int32 → Int32 → Prop) (hK22 : ∀ (I : Nat → Int32) (F : Nat → Nat → Int32) (x1 x2 x3 : Int32), K22 I F x1 x2 x3 → ∀ (H : Heap) (locs : List Loc), va_P (dC, dI) vwCl (wM cI ad I F) H → va_S A s.heap H locs → ∀ (ls : Array Slot), lv_has ls 4 [(0, .ref (ad 0)), (1, .int x1), (2, .int x2), (3, .int x3)] → W p l e { frames := 1, cells := 0, slots := 0, locals := 23 } s m args below meth c H locs 0 0 (MQ below (QWi dC dI (wM cI ad) post A) args s 0 0 A) (F0 m 22 ls [])) : ∀ (I : Nat → Int32) (F : Nat → Nat → Int32) (x1 x3 y0 y1 : Int32), bX5_balance_51 K22 post I F x1 x3 y0 y1 → ∀ (H : Heap) (locs : List Loc), va_P (dC, dI) vwCl (wM cI ad I F) H → va_S A s.heap H locs → ∀ (ls : Array Slot), lv_has ls 4 [(0, .ref (ad 0)), (1, .int x1), (3, .int x3)] → W p l e { frames := 1, cells := 0, slots := 0, locals := 23 } s m args below meth c H locs 0 0 (MQ below (QWi dC dI (wM cI ad) post A) args s 0 0 A) (F0 m 51 ls [.int y0, .int y1]) := by
  obtain ⟨hx, hb, hml, hown, hts, hr, hlocks⟩ := id C
  intro I F x1 x3 y0 y1 h H locs hP hS ls hl
  unfold bX5_balance_51 at h
  refine lv_aload_n hx hb dX5_balance_51 rfl (lv_at hl 0 rfl) ?_
  refine va_get (D := (dC, dI)) (ci := 5) (v := .ref (ad 10)) (C := RX5) (T := TX5) (N := 31) hx hb hts iX5_balance_X5 hown hK hP 0 rfl rfl 14 (by decide) (hts (.fieldLink RX5 37 "CarrierBooksModel" "source" "[I") (by decide +kernel)) (fun _ h9 => h9) rfl dX5_balance_52 ?_
  refine lv_iload_n hx hb dX5_balance_55 rfl (lv_at hl 2 rfl) ?_
  obtain ⟨hin1, h⟩ := h
  refine va_iald hx hb hK hP 10 0 rfl rfl hin1 dX5_balance_56 ?_
  refine lv_iload_n hx hb dX5_balance_57 rfl (lv_at hl 1 rfl) ?_
  refine lv_icmp_ne (tgt := 70) hx hb dX5_balance_58 (by decide) (fun c2 => ?_) (fun c2 => ?_)
  · have h := h.1 c2
    refine lv_iconst (v := (0 : Int32)) hx hb dX5_balance_70 (by decide) ?_
    refine lv_isub hx hb dX5_balance_71 ?_
    refine lv_iadd hx hb dX5_balance_72 ?_
    refine lv_topi (fun v3 ev3 => ?_)
    have h := h v3 ev3
    refine lv_istore_n (lv' := [(2, .int v3), (0, .ref (ad 0)), (1, .int x1), (3, .int x3)]) hx hb dX5_balance_73 rfl hl (by decide) rfl (fun ls hl => ?_)
    obtain ⟨v4, ev4⟩ : ∃ y : Int32, y = x3 + (1 : Int32) := ⟨_, rfl⟩
    have h := h v4 ev4
    refine lv_iinc (v := v4) (lv' := [(3, .int v4), (2, .int v3), (0, .ref (ad 0)), (1, .int x1)]) hx hb dX5_balance_74 hl (k := 3) rfl (by rw [ev4]; rfl) (by decide) rfl (fun ls hl => ?_)
    refine lv_goto (tgt := 22) hx hb dX5_balance_77 (by decide) ?_
    exact hK22 I F x1 v3 v4 h H locs hP hS ls (lv_sub hl [2, 3, 1, 0] rfl)
  · have h := h.2 c2
    refine lv_aload_n hx hb dX5_balance_61 rfl (lv_at hl 0 rfl) ?_
    refine va_get (D := (dC, dI)) (ci := 5) (v := .ref (ad 12)) (C := RX5) (T := TX5) (N := 31) hx hb hts iX5_balance_X5 hown hK hP 0 rfl rfl 16 (by decide) (hts (.fieldLink RX5 43 "CarrierBooksModel" "amount" "[I") (by decide +kernel)) (fun _ h9 => h9) rfl dX5_balance_62 ?_
    refine lv_iload_n hx hb dX5_balance_65 rfl (lv_at hl 2 rfl) ?_
    obtain ⟨hin5, h⟩ := h
    refine va_iald hx hb hK hP 12 0 rfl rfl hin5 dX5_balance_66 ?_
    refine lv_goto (tgt := 71) hx hb dX5_balance_67 (by decide) ?_
    refine lv_isub hx hb dX5_balance_71 ?_
    refine lv_iadd hx hb dX5_balance_72 ?_
    refine lv_topi (fun v6 ev6 => ?_)
    have h := h v6 ev6
    refine lv_istore_n (lv' := [(2, .int v6), (0, .ref (ad 0)), (1, .int x1), (3, .int x3)]) hx hb dX5_balance_73 rfl hl (by decide) rfl (fun ls hl => ?_)
    obtain ⟨v7, ev7⟩ : ∃ y : Int32, y = x3 + (1 : Int32) := ⟨_, rfl⟩
    have h := h v7 ev7
    refine lv_iinc (v := v7) (lv' := [(3, .int v7), (2, .int v6), (0, .ref (ad 0)), (1, .int x1)]) hx hb dX5_balance_74 hl (k := 3) rfl (by rw [ev7]; rfl) (by decide) rfl (fun ls hl => ?_)
    refine lv_goto (tgt := 22) hx hb dX5_balance_77 (by decide) ?_
    exact hK22 I F x1 v6 v7 h H locs hP hS ls (lv_sub hl [2, 3, 1, 0] rfl)
set_option maxHeartbeats 4000000 in
set_option maxRecDepth 100000 in
theorem sX5_balance_22 {p : Program} {l : Launch} {e : Env} {s : State} {m : MethodId} {args : Array Value} {below : List Frame} {meth : Method} {c : Code} {dC : Nat → ClassId} {dI : Nat → Nat → Nat} {cI : ClassId} {ad : Nat → Nat} {A : Nat → Prop} (C : Cx p s m args meth c cX5_balance 4 (some .int) RX5 wsX5_balance) (hK : va_K (dC, dI) vwCl [(cI, .int)] s) (hN : NW s) (hD : ∀ I F, va_D A (wM cI ad I F)) (hA : ∀ q : Nat, s.heap.size ≤ q → A q) (post : Int32 → (Nat → Int32) → (Nat → Nat → Int32) → Prop) : ∀ (n : Nat) (I : Nat → Int32) (F : Nat → Nat → Int32) (x1 x2 x3 : Int32), bX5_balance_22 post n I F x1 x2 x3 → ∀ (H : Heap) (locs : List Loc), va_P (dC, dI) vwCl (wM cI ad I F) H → va_S A s.heap H locs → ∀ (ls : Array Slot), lv_has ls 4 [(0, .ref (ad 0)), (1, .int x1), (2, .int x2), (3, .int x3)] → W p l e { frames := 1, cells := 0, slots := 0, locals := 23 } s m args below meth c H locs 0 0 (MQ below (QWi dC dI (wM cI ad) post A) args s 0 0 A) (F0 m 22 ls []) := by
  obtain ⟨hx, hb, hml, hown, hts, hr, hlocks⟩ := id C
  intro n
  induction n with
  | zero =>
    intro I F x1 x2 x3 h H locs hP hS ls hl
    exact h.elim
  | succ n ih =>
    intro I F x1 x2 x3 h H locs hP hS ls hl
    unfold bX5_balance_22 at h
    refine lv_iload_n hx hb dX5_balance_22 rfl (lv_at hl 3 rfl) ?_
    refine lv_aload_n hx hb dX5_balance_23 rfl (lv_at hl 0 rfl) ?_
    refine va_get (D := (dC, dI)) (ci := 5) (v := .int (I 4)) (C := RX5) (T := TX5) (N := 31) hx hb hts iX5_balance_X5 hown hK hP 0 rfl rfl 13 (by decide) (hts (.fieldLink RX5 141 "CarrierBooksModel" "postings" "I") (by decide +kernel)) (fun _ h9 => h9) rfl dX5_balance_24 ?_
    refine lv_icmp_ge (tgt := 80) hx hb dX5_balance_27 (by decide) (fun c8 => ?_) (fun c8 => ?_)
    · have h := h.1 c8
      refine lv_iload_n hx hb dX5_balance_80 rfl (lv_at hl 2 rfl) ?_
      exact W.iret (v := x2) hx hb hr (fun t ht hW => ⟨⟨x2, (I, F), rfl, h, by show va_P _ _ _ t.heap; rw [ht]; exact hP⟩, hS.F ht⟩) hS.2.2 dX5_balance_81
    · have h := h.2 c8
      refine lv_iload_n hx hb dX5_balance_30 rfl (lv_at hl 2 rfl) ?_
      refine lv_aload_n hx hb dX5_balance_31 rfl (lv_at hl 0 rfl) ?_
      refine va_get (D := (dC, dI)) (ci := 5) (v := .ref (ad 11)) (C := RX5) (T := TX5) (N := 31) hx hb hts iX5_balance_X5 hown hK hP 0 rfl rfl 15 (by decide) (hts (.fieldLink RX5 40 "CarrierBooksModel" "target" "[I") (by decide +kernel)) (fun _ h9 => h9) rfl dX5_balance_32 ?_
      refine lv_iload_n hx hb dX5_balance_35 rfl (lv_at hl 3 rfl) ?_
      obtain ⟨hin9, h⟩ := h
      refine va_iald hx hb hK hP 11 0 rfl rfl hin9 dX5_balance_36 ?_
      refine lv_iload_n hx hb dX5_balance_37 rfl (lv_at hl 1 rfl) ?_
      refine lv_icmp_ne (tgt := 50) hx hb dX5_balance_38 (by decide) (fun c10 => ?_) (fun c10 => ?_)
      · have h := h.1 c10
        refine lv_iconst (v := (0 : Int32)) hx hb dX5_balance_50 (by decide) ?_
        exact sX5_balance_51 C hK hN hD hA post (bX5_balance_22 post n) ih I F x1 x3 (0 : Int32) x2 h H locs hP hS ls (lv_sub hl [0, 1, 3] rfl)
      · have h := h.2 c10
        refine lv_aload_n hx hb dX5_balance_41 rfl (lv_at hl 0 rfl) ?_
        refine va_get (D := (dC, dI)) (ci := 5) (v := .ref (ad 12)) (C := RX5) (T := TX5) (N := 31) hx hb hts iX5_balance_X5 hown hK hP 0 rfl rfl 16 (by decide) (hts (.fieldLink RX5 43 "CarrierBooksModel" "amount" "[I") (by decide +kernel)) (fun _ h9 => h9) rfl dX5_balance_42 ?_
        refine lv_iload_n hx hb dX5_balance_45 rfl (lv_at hl 3 rfl) ?_
        obtain ⟨hin11, h⟩ := h
        refine va_iald hx hb hK hP 12 0 rfl rfl hin11 dX5_balance_46 ?_
        refine lv_goto (tgt := 51) hx hb dX5_balance_47 (by decide) ?_
        exact sX5_balance_51 C hK hN hD hA post (bX5_balance_22 post n) ih I F x1 x3 (F 12 (Int32.toNatClampNeg x3)) x2 h H locs hP hS ls (lv_sub hl [0, 1, 3] rfl)
set_option maxHeartbeats 4000000 in
set_option maxRecDepth 100000 in
theorem cTX5_balance (l : Launch) (dC : Nat → ClassId) (dI : Nat → Nat → Nat) (cI : ClassId) (ad : Nat → Nat) (I : Nat → Int32) (F : Nat → Nat → Int32) (sz : Nat) (x1 : Int32) (post : Int32 → (Nat → Int32) → (Nat → Nat → Int32) → Prop) (h : wX5_balance I F x1 post) : Met l yX5_balance wsX5_balance { frames := 1, cells := 0, slots := 0, locals := 23 } (va_Pc [.ref (ad 0), .int x1] (PWw dC dI cI (wM cI ad) I F sz)) (QWi dC dI (wM cI ad) post (va_A (wM cI ad I F) sz)) 0 0 (va_A (wM cI ad I F) sz) := by
  refine Met.ofW (cc := cX5_balance) (maxL := 4) (ret := (some .int)) (by decide) rfl ?_
  intro p e s m args below meth c s₁ B hml hv
  obtain ⟨rfl, hsz, ⟨hP, hK, hN⟩, hD0⟩ := hv
  subst hsz
  have hD := wD_any (wM_fix cI ad) (hD0.self (sz := s.heap.size))
  generalize hAe : va_A (wM cI ad I F) s.heap.size = A at hD ⊢
  have hA : ∀ q : Nat, s.heap.size ≤ q → A q := fun q h => by rw [← hAe]; exact Or.inr h
  clear hAe hD0
  have hx := B.exec
  have hb := B.bytes
  have hr := B.returns
  have hts := atoms_spec (ws := wsX5_balance) B.pre
  have hown : s.vm.findClass RX5 = some m.cls := findClass_of_methodNamed B.named
  have hlocks := B.notSynchronized
  have C : Cx p s m _ meth c cX5_balance 4 (some .int) RX5 wsX5_balance := ⟨hx, hb, hml, hown, hts, hr, hlocks⟩
  have hS : va_S A s.heap s.heap [] := va_S.rf
  have hl := lv_entry ([.ref (ad 0), .int x1]) (n := 4) (Nat.le_of_ble_eq_true rfl)
  rw [lg_entry_eq]
  generalize (lg_sl ([.ref (ad 0), .int x1]) ++ List.replicate (4 - (lg_sl ([.ref (ad 0), .int x1])).length) Slot.unset).toArray = ls at hl ⊢
  have hl : lv_has ls 4 [(0, .ref (ad 0)), (1, .int x1)] := hl
  unfold wX5_balance at h
  refine lv_aload_n hx hb dX5_balance_0 rfl (lv_at hl 0 rfl) ?_
  refine lv_iload_n hx hb dX5_balance_1 rfl (lv_at hl 1 rfl) ?_
  refine lv_iconst (v := (0 : Int32)) hx hb dX5_balance_2 (by decide) ?_
  refine lv_bipush (v := (6 : Int32)) hx hb dX5_balance_3 (by decide) ?_
  refine vp_callSi (cr_of (va_runS (As := [.int x1, .int (0 : Int32), .int (6 : Int32)]) (rest := [.ref (ad 0)]) ⟨hx, hb, hml, hown, hts⟩ (cTX5_outside l x1 (0 : Int32) (6 : Int32) _ h) (va_cwS 3 hts gX5_balance_X5_outside rfl rfl rfl (by decide +kernel) ⟨Nat.le_of_ble_eq_true rfl, Nat.le_of_ble_eq_true rfl⟩) (pv_S _) rfl rfl hl.1 rfl (lv_room (Nat.le_of_ble_eq_true rfl)) dX5_balance_5 ⟨Nat.le_of_ble_eq_true rfl, Nat.le_of_ble_eq_true rfl⟩)) (fun r12 h => ?_)
  refine lv_iconst (v := (0 : Int32)) hx hb dX5_balance_8 (by decide) ?_
  refine lv_iconst (v := (0 : Int32)) hx hb dX5_balance_9 (by decide) ?_
  refine wcall_i (va_runV (As := [.int r12, .int (0 : Int32), .int (0 : Int32)]) (rest := []) ⟨hx, hb, hml, hown, hts⟩ (cTX5_fails l dC dI cI ad I F s.heap.size r12 (0 : Int32) (0 : Int32) _ h) (cwV 3 hts gX5_balance_X5_fails rfl rfl rfl (by decide +kernel) ⟨Nat.le_of_ble_eq_true rfl, Nat.le_of_ble_eq_true rfl⟩) (pv_W hP hK hN ((hD _ _).weaken (fun _ _ _ _ => trivial)) 0 5 rfl rfl _) rfl rfl hl.1 rfl (lv_room (Nat.le_of_ble_eq_true rfl)) dX5_balance_10 ⟨Nat.le_of_ble_eq_true rfl, Nat.le_of_ble_eq_true rfl⟩) hD hS hA (fun r13 I14 F15 h H locs hP hS => ?_)
  refine lv_if_eq (tgt := 18) hx hb dX5_balance_13 (by decide) (fun c16 => ?_) (fun c16 => ?_)
  · have h := h.1 c16
    refine lv_iconst (v := (0 : Int32)) hx hb dX5_balance_18 (by decide) ?_
    refine lv_istore_n (lv' := [(2, .int (0 : Int32)), (0, .ref (ad 0)), (1, .int x1)]) hx hb dX5_balance_19 rfl hl (by decide) rfl (fun ls hl => ?_)
    refine lv_iconst (v := (0 : Int32)) hx hb dX5_balance_20 (by decide) ?_
    refine lv_istore_n (lv' := [(3, .int (0 : Int32)), (2, .int (0 : Int32)), (0, .ref (ad 0)), (1, .int x1)]) hx hb dX5_balance_21 rfl hl (by decide) rfl (fun ls hl => ?_)
    obtain ⟨n9, h⟩ := h
    exact sX5_balance_22 C hK hN hD hA post n9 I14 F15 x1 (0 : Int32) (0 : Int32) h H locs hP hS ls (lv_sub hl [2, 3, 1, 0] rfl)
  · have h := h.2 c16
    refine lv_iconst (v := (0 : Int32)) hx hb dX5_balance_16 (by decide) ?_
    exact W.iret (v := (0 : Int32)) hx hb hr (fun t ht hW => ⟨⟨(0 : Int32), (I14, F15), rfl, h, by show va_P _ _ _ t.heap; rw [ht]; exact hP⟩, hS.F ht⟩) hS.2.2 dX5_balance_17
