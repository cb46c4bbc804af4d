set_option maxHeartbeats 8000000 in
set_option maxRecDepth 100000 in
theorem sL_9 {p : Program} {l : Launch} {e : Env} {s : State} {m : MethodId} {below : List Frame} {meth : Method} {c : Code} {dC : Nat → ClassId} {dI : Nat → Nat → Nat} {cI cJ : ClassId} {ad am : Nat → Nat} {ao b L : Nat} {xs : Nat → Int32} (hst : l.stackTraces = false) (V : LV p s m meth c b L xs dC dI cI cJ ad am ao) (k : Nat) (hk : k ≤ 511) (K : (Nat → Int32) → (Nat → Nat → Int32) → (Nat → Int32) → (Nat → Nat → Int32) → (Nat → Int64) → Int32 → Prop) (ih : ∀ (I : Nat → Int32) (F : Nat → Nat → Int32) (J : Nat → Int32) (G : Nat → Nat → Int32) (g : Nat → Int64) (x4 : Int32), K I F J G g x4 → x4 = nI (6 * (k + 1)) → ∀ (H : Heap) (locs : List Loc), va_P (dC, dI) vwCl (wC cI ad I F) H → va_P (dC, dI) vwCl (wM cI am J G) H → va_P (dC, dI) vwCl (oC cJ ao g) H → va_S (fun q : Nat => s.heap.size ≤ q) s.heap H locs → ∀ (ls : Array Slot), lv_has ls 7 [(0, .ref b), (1, .ref (ad 0)), (2, .ref (am 0)), (3, .ref ao), (4, .int x4)] → W p l e room_1 s m #[Value.ref b] below meth c H locs (40 + (k + 1)) (1368 + 6 * (k + 1)) (lw_Z below #[Value.ref b] s) (F0 m 23 ls [])) : ∀ (I : Nat → Int32) (F : Nat → Nat → Int32) (J : Nat → Int32) (G : Nat → Nat → Int32) (g : Nat → Int64) (x4 : Int32), pL_9 L xs K I F J G g x4 → x4 = nI (6 * k) → ∀ (H : Heap) (locs : List Loc), va_P (dC, dI) vwCl (wC cI ad I F) H → va_P (dC, dI) vwCl (wM cI am J G) H → va_P (dC, dI) vwCl (oC cJ ao g) H → va_S (fun q : Nat => s.heap.size ≤ q) s.heap H locs → ∀ (ls : Array Slot), lv_has ls 7 [(0, .ref b), (1, .ref (ad 0)), (2, .ref (am 0)), (3, .ref ao), (4, .int x4)] → W p l e room_1 s m #[Value.ref b] below meth c H locs (40 + k) (1368 + 6 * k) (lw_Z below #[Value.ref b] s) (F0 m 729 ls []) := by
  obtain ⟨hx, hb, hml, hown, hts, hX, hbl, hK2, hN, hT, hC, hZ, hDc, hDm, hAo, hcm, hco, hmo⟩ := V
  have hK : va_K (dC, dI) vwCl [(cI, .int)] s := hK2.sub [0] rfl
  have hA : ∀ q : Nat, s.heap.size ≤ q → (fun q : Nat => s.heap.size ≤ q) q := fun _ h => h
  have hbA : ¬ (fun q : Nat => s.heap.size ≤ q) b := Nat.not_le.mpr hbl
  have hf0 : 40 + k + 0 ≤ room_1.cells ∧ 1368 + 6 * k + 0 ≤ room_1.slots := ⟨by show _ ≤ 1095; omega, by show _ ≤ 9746; omega⟩
  have hfh : 40 + k + 1 ≤ room_1.cells ∧ 1368 + 6 * k + 6 ≤ room_1.slots := ⟨by show _ ≤ 1095; omega, by show _ ≤ 9746; omega⟩
  have hf1 : 40 + k + 1 + 0 ≤ room_1.cells ∧ 1368 + 6 * k + 6 + 0 ≤ room_1.slots := ⟨by show _ ≤ 1095; omega, by show _ ≤ 9746; omega⟩
  intro I F J G g x4 h hx4 H locs hP hM hO hS ls hl
  unfold pL_9 at h
  refine lv_aload_n hx hb dL_law_729 rfl (lv_at hl 1 rfl) ?_
  refine lv_aload_n hx hb dL_law_730 rfl (lv_at hl 0 rfl) ?_
  refine lv_iload hx hb dL_law_731 (lv_at hl 4 rfl) ?_
  refine lv_iconst (v := (1 : Int32)) hx hb dL_law_733 (by decide) ?_
  refine lv_iadd hx hb dL_law_734 ?_
  obtain ⟨hin1, h⟩ := h
  refine va_sld hx hb hX hbl hbA hS hin1 dL_law_735 ?_
  refine lv_aload_n hx hb dL_law_736 rfl (lv_at hl 0 rfl) ?_
  refine lv_iload hx hb dL_law_737 (lv_at hl 4 rfl) ?_
  refine lv_iconst (v := (2 : Int32)) hx hb dL_law_739 (by decide) ?_
  refine lv_iadd hx hb dL_law_740 ?_
  obtain ⟨hin2, h⟩ := h
  refine va_sld hx hb hX hbl hbA hS hin2 dL_law_741 ?_
  refine lv_aload_n hx hb dL_law_742 rfl (lv_at hl 3 rfl) ?_
  refine lcall_h (vx_runSW (As := [.ref (ad 0), .int (xs (Int32.toNatClampNeg (x4 + (1 : Int32)))), .int (xs (Int32.toNatClampNeg (x4 + (2 : Int32)))), .ref ao]) (rest := []) ⟨hx, hb, hml, hown, hts⟩ (cTL_reinstate l hst dC dI cI cJ ad ao I F g H.size (xs (Int32.toNatClampNeg (x4 + (1 : Int32)))) (xs (Int32.toNatClampNeg (x4 + (2 : Int32)))) _ h) (vx_cwSW 4 hts gL_law_L_reinstate rfl rfl rfl (by decide +kernel) ⟨(Nat.le_of_ble_eq_true rfl), (Nat.le_of_ble_eq_true rfl)⟩) (pv_H hP hO hK2 hN hT hC hZ hS hDc hAo hA (hco _ _ _)) rfl rfl hl.1 rfl (lv_room (Nat.le_of_ble_eq_true rfl)) dL_law_743 hfh) hDc hAo hS hA hM (hcm _ _ _ _) (hmo _ _ g) (fun r3 I4 F5 g6 h H locs hP hM hO hS => ?_)
  refine lv_istore (lv' := [(5, .int r3), (0, .ref b), (1, .ref (ad 0)), (2, .ref (am 0)), (3, .ref ao), (4, .int x4)]) hx hb dL_law_746 hl (by decide) rfl (fun ls hl => ?_)
  refine lv_aload_n hx hb dL_law_748 rfl (lv_at hl 3 rfl) ?_
  refine lv_aload_n hx hb dL_law_749 rfl (lv_at hl 1 rfl) ?_
  refine lv_iload hx hb dL_law_750 (lv_at hl 5 rfl) ?_
  refine lv_iconst (v := (1 : Int32)) hx hb dL_law_752 (by decide) ?_
  refine lv_iadd hx hb dL_law_753 ?_
  obtain ⟨hin7, h⟩ := h
  refine va_sld hx hb hX hbl hbA hS hin7 dL_law_754 ?_
  refine lv_aload_n hx hb dL_law_755 rfl (lv_at hl 1 rfl) ?_
  refine lv_iload hx hb dL_law_756 (lv_at hl 5 rfl) ?_
  refine lv_iconst (v := (2 : Int32)) hx hb dL_law_758 (by decide) ?_
  refine lv_iadd hx hb dL_law_759 ?_
  obtain ⟨hin8, h⟩ := h
  refine va_sld hx hb hX hbl hbA hS hin8 dL_law_760 ?_
  refine lcall_i (wf := wM cI am) (va_runV (As := [.int (xs (Int32.toNatClampNeg (x4 + (1 : Int32)))), .int (xs (Int32.toNatClampNeg (x4 + (2 : Int32))))]) (rest := []) ⟨hx, hb, hml, hown, hts⟩ (cTX5_reinstate l dC dI cI am J G H.size (xs (Int32.toNatClampNeg (x4 + (1 : Int32)))) (xs (Int32.toNatClampNeg (x4 + (2 : Int32)))) _ h) (cwV 2 hts gL_law_X5_reinstate rfl rfl rfl (by decide +kernel) ⟨(Nat.le_of_ble_eq_true rfl), (Nat.le_of_ble_eq_true rfl)⟩) (pv_W hM hK hN ((hDm _ _).weaken (fun _ _ _ _ => trivial)) 0 5 rfl rfl _) rfl rfl hl.1 rfl (lv_room (Nat.le_of_ble_eq_true rfl)) dL_law_761 hf1) hDm hS hA hP (hcm _ _ _ _).symm hO (hmo _ _ _) (fun r9 J10 G11 h H locs hM hP hO hS => ?_)
  refine lv_istore (lv' := [(6, .int r9), (5, .int r3), (0, .ref b), (1, .ref (ad 0)), (2, .ref (am 0)), (3, .ref ao), (4, .int x4)]) hx hb dL_law_764 hl (by decide) rfl (fun ls hl => ?_)
  refine lv_aload_n hx hb dL_law_766 rfl (lv_at hl 4 rfl) ?_
  refine vp_callSi (cr_of (va_runV (As := []) (rest := []) ⟨hx, hb, hml, hown, hts⟩ (cTX5_thrown l dC dI cI am J10 G11 _ h) (cwV 0 hts gL_law_X5_thrown rfl rfl rfl (by decide +kernel) ⟨(Nat.le_of_ble_eq_true rfl), (Nat.le_of_ble_eq_true rfl)⟩) (pv_R hM hK hN 0 5 rfl rfl _) rfl rfl hl.1 rfl (lv_room (Nat.le_of_ble_eq_true rfl)) dL_law_767 hf1)) (fun r12 h => ?_)
  refine lv_iload hx hb dL_law_770 (lv_at hl 1 rfl) ?_
  refine lv_icmp_eq (tgt := 777) hx hb dL_law_772 (by decide) (fun c13 => ?_) (fun c13 => ?_)
  · have h := h.1 c13
    refine lv_iload hx hb dL_law_777 (lv_at hl 1 rfl) ?_
    refine lv_if_ne (tgt := 794) hx hb dL_law_779 (by decide) (fun c14 => ?_) (fun c14 => ?_)
    · have h := h.1 c14
      refine lv_goto (tgt := 1334) hx hb dL_law_794 (by decide) ?_
      obtain ⟨v15, ev15⟩ : ∃ y : Int32, y = x4 + (6 : Int32) := ⟨_, rfl⟩
      have h := h v15 ev15
      refine lv_iinc (v := v15) (lv' := [(4, .int v15), (6, .int r9), (5, .int r3), (0, .ref b), (1, .ref (ad 0)), (2, .ref (am 0)), (3, .ref ao)]) hx hb dL_law_1334 hl (k := 6) rfl (by rw [ev15]; rfl) (by decide) rfl (fun ls hl => ?_)
      refine lv_goto (tgt := 23) hx hb dL_law_1337 (by decide) ?_
      refine W.widen (k := 40 + (k + 1)) (n := 1368 + 6 * (k + 1)) (by omega) (by omega) ?_
      exact ih I4 F5 J10 G11 g6 v15 h (by rw [ev15, hx4]; exact nx6 k) H locs hP hM hO hS ls (lv_sub hl [3, 4, 5, 6, 0] rfl)
    · have h := h.2 c14
      refine lv_aload_n hx hb dL_law_782 rfl (lv_at hl 5 rfl) ?_
      refine lv_iconst (v := (0 : Int32)) hx hb dL_law_783 (by decide) ?_
      refine va_lald hx hb hK2 hO 0 1 rfl rfl in01 dL_law_784 ?_
      refine lv_iload hx hb dL_law_785 (lv_at hl 0 rfl) ?_
      refine lv_i2l (v := r9.toInt64) hx hb dL_law_787 rfl ?_
      refine W.lcmp hx hb dL_law_788 ?_
      refine lv_if_eq (tgt := 794) hx hb dL_law_789 (by decide) (fun c16 => ?_) (fun c16 => ?_)
      · have h := h.1 c16
        refine lv_goto (tgt := 1334) hx hb dL_law_794 (by decide) ?_
        obtain ⟨v17, ev17⟩ : ∃ y : Int32, y = x4 + (6 : Int32) := ⟨_, rfl⟩
        have h := h v17 ev17
        refine lv_iinc (v := v17) (lv' := [(4, .int v17), (6, .int r9), (5, .int r3), (0, .ref b), (1, .ref (ad 0)), (2, .ref (am 0)), (3, .ref ao)]) hx hb dL_law_1334 hl (k := 6) rfl (by rw [ev17]; rfl) (by decide) rfl (fun ls hl => ?_)
        refine lv_goto (tgt := 23) hx hb dL_law_1337 (by decide) ?_
        refine W.widen (k := 40 + (k + 1)) (n := 1368 + 6 * (k + 1)) (by omega) (by omega) ?_
        exact ih I4 F5 J10 G11 g6 v17 h (by rw [ev17, hx4]; exact nx6 k) H locs hP hM hO hS ls (lv_sub hl [3, 4, 5, 6, 0] rfl)
      · have h := h.2 c16
        exact h.elim
  · have h := h.2 c13
    exact h.elim
set_option maxHeartbeats 8000000 in
set_option maxRecDepth 100000 in
theorem sL_10 {p : Program} {l : Launch} {e : Env} {s : State} {m : MethodId} {below : List Frame} {meth : Method} {c : Code} {dC : Nat → ClassId} {dI : Nat → Nat → Nat} {cI cJ : ClassId} {ad am : Nat → Nat} {ao b L : Nat} {xs : Nat → Int32} (hst : l.stackTraces = false) (V : LV p s m meth c b L xs dC dI cI cJ ad am ao) (k : Nat) (hk : k ≤ 511) (K : (Nat → Int32) → (Nat → Nat → Int32) → (Nat → Int32) → (Nat → Nat → Int32) → (Nat → Int64) → Int32 → Prop) (ih : ∀ (I : Nat → Int32) (F : Nat → Nat → Int32) (J : Nat → Int32) (G : Nat → Nat → Int32) (g : Nat → Int64) (x4 : Int32), K I F J G g x4 → x4 = nI (6 * (k + 1)) → ∀ (H : Heap) (locs : List Loc), va_P (dC, dI) vwCl (wC cI ad I F) H → va_P (dC, dI) vwCl (wM cI am J G) H → va_P (dC, dI) vwCl (oC cJ ao g) H → va_S (fun q : Nat => s.heap.size ≤ q) s.heap H locs → ∀ (ls : Array Slot), lv_has ls 7 [(0, .ref b), (1, .ref (ad 0)), (2, .ref (am 0)), (3, .ref ao), (4, .int x4)] → W p l e room_1 s m #[Value.ref b] below meth c H locs (40 + (k + 1)) (1368 + 6 * (k + 1)) (lw_Z below #[Value.ref b] s) (F0 m 23 ls [])) : ∀ (I : Nat → Int32) (F : Nat → Nat → Int32) (J : Nat → Int32) (G : Nat → Nat → Int32) (g : Nat → Int64) (x4 : Int32), pL_10 L xs K I F J G g x4 → x4 = nI (6 * k) → ∀ (H : Heap) (locs : List Loc), va_P (dC, dI) vwCl (wC cI ad I F) H → va_P (dC, dI) vwCl (wM cI am J G) H → va_P (dC, dI) vwCl (oC cJ ao g) H → va_S (fun q : Nat => s.heap.size ≤ q) s.heap H locs → ∀ (ls : Array Slot), lv_has ls 7 [(0, .ref b), (1, .ref (ad 0)), (2, .ref (am 0)), (3, .ref ao), (4, .int x4)] → W p l e room_1 s m #[Value.ref b] below meth c H locs (40 + k) (1368 + 6 * k) (lw_Z below #[Value.ref b] s) (F0 m 797 ls []) := by
  obtain ⟨hx, hb, hml, hown, hts, hX, hbl, hK2, hN, hT, hC, hZ, hDc, hDm, hAo, hcm, hco, hmo⟩ := V
  have hK : va_K (dC, dI) vwCl [(cI, .int)] s := hK2.sub [0] rfl
  have hA : ∀ q : Nat, s.heap.size ≤ q → (fun q : Nat => s.heap.size ≤ q) q := fun _ h => h
  have hbA : ¬ (fun q : Nat => s.heap.size ≤ q) b := Nat.not_le.mpr hbl
  have hf0 : 40 + k + 0 ≤ room_1.cells ∧ 1368 + 6 * k + 0 ≤ room_1.slots := ⟨by show _ ≤ 1095; omega, by show _ ≤ 9746; omega⟩
  have hfh : 40 + k + 1 ≤ room_1.cells ∧ 1368 + 6 * k + 6 ≤ room_1.slots := ⟨by show _ ≤ 1095; omega, by show _ ≤ 9746; omega⟩
  have hf1 : 40 + k + 1 + 0 ≤ room_1.cells ∧ 1368 + 6 * k + 6 + 0 ≤ room_1.slots := ⟨by show _ ≤ 1095; omega, by show _ ≤ 9746; omega⟩
  intro I F J G g x4 h hx4 H locs hP hM hO hS ls hl
  unfold pL_10 at h
  refine lv_aload_n hx hb dL_law_797 rfl (lv_at hl 1 rfl) ?_
  refine lv_aload_n hx hb dL_law_798 rfl (lv_at hl 0 rfl) ?_
  refine lv_iload hx hb dL_law_799 (lv_at hl 4 rfl) ?_
  refine lv_iconst (v := (1 : Int32)) hx hb dL_law_801 (by decide) ?_
  refine lv_iadd hx hb dL_law_802 ?_
  obtain ⟨hin1, h⟩ := h
  refine va_sld hx hb hX hbl hbA hS hin1 dL_law_803 ?_
  refine lv_aload_n hx hb dL_law_804 rfl (lv_at hl 0 rfl) ?_
  refine lv_iload hx hb dL_law_805 (lv_at hl 4 rfl) ?_
  refine lv_iconst (v := (2 : Int32)) hx hb dL_law_807 (by decide) ?_
  refine lv_iadd hx hb dL_law_808 ?_
  obtain ⟨hin2, h⟩ := h
  refine va_sld hx hb hX hbl hbA hS hin2 dL_law_809 ?_
  refine lv_aload_n hx hb dL_law_810 rfl (lv_at hl 0 rfl) ?_
  refine lv_iload hx hb dL_law_811 (lv_at hl 4 rfl) ?_
  refine lv_iconst (v := (3 : Int32)) hx hb dL_law_813 (by decide) ?_
  refine lv_iadd hx hb dL_law_814 ?_
  obtain ⟨hin3, h⟩ := h
  refine va_sld hx hb hX hbl hbA hS hin3 dL_law_815 ?_
  refine lv_aload_n hx hb dL_law_816 rfl (lv_at hl 3 rfl) ?_
  refine lcall_h (vx_runSW (As := [.ref (ad 0), .int (xs (Int32.toNatClampNeg (x4 + (1 : Int32)))), .int (xs (Int32.toNatClampNeg (x4 + (2 : Int32)))), .int (xs (Int32.toNatClampNeg (x4 + (3 : Int32)))), .ref ao]) (rest := []) ⟨hx, hb, hml, hown, hts⟩ (cTL_claim l hst dC dI cI cJ ad ao I F g H.size (xs (Int32.toNatClampNeg (x4 + (1 : Int32)))) (xs (Int32.toNatClampNeg (x4 + (2 : Int32)))) (xs (Int32.toNatClampNeg (x4 + (3 : Int32)))) _ h) (vx_cwSW 5 hts gL_law_L_claim rfl rfl rfl (by decide +kernel) ⟨(Nat.le_of_ble_eq_true rfl), (Nat.le_of_ble_eq_true rfl)⟩) (pv_H hP hO hK2 hN hT hC hZ hS hDc hAo hA (hco _ _ _)) rfl rfl hl.1 rfl (lv_room (Nat.le_of_ble_eq_true rfl)) dL_law_817 hfh) hDc hAo hS hA hM (hcm _ _ _ _) (hmo _ _ g) (fun r4 I5 F6 g7 h H locs hP hM hO hS => ?_)
  refine lv_istore (lv' := [(5, .int r4), (0, .ref b), (1, .ref (ad 0)), (2, .ref (am 0)), (3, .ref ao), (4, .int x4)]) hx hb dL_law_820 hl (by decide) rfl (fun ls hl => ?_)
  refine lv_aload_n hx hb dL_law_822 rfl (lv_at hl 3 rfl) ?_
  refine lv_aload_n hx hb dL_law_823 rfl (lv_at hl 1 rfl) ?_
  refine lv_iload hx hb dL_law_824 (lv_at hl 5 rfl) ?_
  refine lv_iconst (v := (1 : Int32)) hx hb dL_law_826 (by decide) ?_
  refine lv_iadd hx hb dL_law_827 ?_
  obtain ⟨hin8, h⟩ := h
  refine va_sld hx hb hX hbl hbA hS hin8 dL_law_828 ?_
  refine lv_aload_n hx hb dL_law_829 rfl (lv_at hl 1 rfl) ?_
  refine lv_iload hx hb dL_law_830 (lv_at hl 5 rfl) ?_
  refine lv_iconst (v := (2 : Int32)) hx hb dL_law_832 (by decide) ?_
  refine lv_iadd hx hb dL_law_833 ?_
  obtain ⟨hin9, h⟩ := h
  refine va_sld hx hb hX hbl hbA hS hin9 dL_law_834 ?_
  refine lv_aload_n hx hb dL_law_835 rfl (lv_at hl 1 rfl) ?_
  refine lv_iload hx hb dL_law_836 (lv_at hl 5 rfl) ?_
  refine lv_iconst (v := (3 : Int32)) hx hb dL_law_838 (by decide) ?_
  refine lv_iadd hx hb dL_law_839 ?_
  obtain ⟨hin10, h⟩ := h
  refine va_sld hx hb hX hbl hbA hS hin10 dL_law_840 ?_
  refine lcall_i (wf := wM cI am) (va_runV (As := [.int (xs (Int32.toNatClampNeg (x4 + (1 : Int32)))), .int (xs (Int32.toNatClampNeg (x4 + (2 : Int32)))), .int (xs (Int32.toNatClampNeg (x4 + (3 : Int32))))]) (rest := []) ⟨hx, hb, hml, hown, hts⟩ (cTX5_claim l dC dI cI am J G H.size (xs (Int32.toNatClampNeg (x4 + (1 : Int32)))) (xs (Int32.toNatClampNeg (x4 + (2 : Int32)))) (xs (Int32.toNatClampNeg (x4 + (3 : Int32)))) _ h) (cwV 3 hts gL_law_X5_claim rfl rfl rfl (by decide +kernel) ⟨(Nat.le_of_ble_eq_true rfl), (Nat.le_of_ble_eq_true rfl)⟩) (pv_W hM hK hN ((hDm _ _).weaken (fun _ _ _ _ => trivial)) 0 5 rfl rfl _) rfl rfl hl.1 rfl (lv_room (Nat.le_of_ble_eq_true rfl)) dL_law_841 hf1) hDm hS hA hP (hcm _ _ _ _).symm hO (hmo _ _ _) (fun r11 J12 G13 h H locs hM hP hO hS => ?_)
  refine lv_istore (lv' := [(6, .int r11), (5, .int r4), (0, .ref b), (1, .ref (ad 0)), (2, .ref (am 0)), (3, .ref ao), (4, .int x4)]) hx hb dL_law_844 hl (by decide) rfl (fun ls hl => ?_)
  refine lv_aload_n hx hb dL_law_846 rfl (lv_at hl 4 rfl) ?_
  refine vp_callSi (cr_of (va_runV (As := []) (rest := []) ⟨hx, hb, hml, hown, hts⟩ (cTX5_thrown l dC dI cI am J12 G13 _ h) (cwV 0 hts gL_law_X5_thrown rfl rfl rfl (by decide +kernel) ⟨(Nat.le_of_ble_eq_true rfl), (Nat.le_of_ble_eq_true rfl)⟩) (pv_R hM hK hN 0 5 rfl rfl _) rfl rfl hl.1 rfl (lv_room (Nat.le_of_ble_eq_true rfl)) dL_law_847 hf1)) (fun r14 h => ?_)
  refine lv_iload hx hb dL_law_850 (lv_at hl 1 rfl) ?_
  refine lv_icmp_eq (tgt := 857) hx hb dL_law_852 (by decide) (fun c15 => ?_) (fun c15 => ?_)
  · have h := h.1 c15
    refine lv_iload hx hb dL_law_857 (lv_at hl 1 rfl) ?_
    refine lv_if_ne (tgt := 874) hx hb dL_law_859 (by decide) (fun c16 => ?_) (fun c16 => ?_)
    · have h := h.1 c16
      refine lv_goto (tgt := 1334) hx hb dL_law_874 (by decide) ?_
      obtain ⟨v17, ev17⟩ : ∃ y : Int32, y = x4 + (6 : Int32) := ⟨_, rfl⟩
      have h := h v17 ev17
      refine lv_iinc (v := v17) (lv' := [(4, .int v17), (6, .int r11), (5, .int r4), (0, .ref b), (1, .ref (ad 0)), (2, .ref (am 0)), (3, .ref ao)]) hx hb dL_law_1334 hl (k := 6) rfl (by rw [ev17]; rfl) (by decide) rfl (fun ls hl => ?_)
      refine lv_goto (tgt := 23) hx hb dL_law_1337 (by decide) ?_
      refine W.widen (k := 40 + (k + 1)) (n := 1368 + 6 * (k + 1)) (by omega) (by omega) ?_
      exact ih I5 F6 J12 G13 g7 v17 h (by rw [ev17, hx4]; exact nx6 k) H locs hP hM hO hS ls (lv_sub hl [3, 4, 5, 6, 0] rfl)
    · have h := h.2 c16
      refine lv_aload_n hx hb dL_law_862 rfl (lv_at hl 5 rfl) ?_
      refine lv_iconst (v := (0 : Int32)) hx hb dL_law_863 (by decide) ?_
      refine va_lald hx hb hK2 hO 0 1 rfl rfl in01 dL_law_864 ?_
      refine lv_iload hx hb dL_law_865 (lv_at hl 0 rfl) ?_
      refine lv_i2l (v := r11.toInt64) hx hb dL_law_867 rfl ?_
      refine W.lcmp hx hb dL_law_868 ?_
      refine lv_if_eq (tgt := 874) hx hb dL_law_869 (by decide) (fun c18 => ?_) (fun c18 => ?_)
      · have h := h.1 c18
        refine lv_goto (tgt := 1334) hx hb dL_law_874 (by decide) ?_
        obtain ⟨v19, ev19⟩ : ∃ y : Int32, y = x4 + (6 : Int32) := ⟨_, rfl⟩
        have h := h v19 ev19
        refine lv_iinc (v := v19) (lv' := [(4, .int v19), (6, .int r11), (5, .int r4), (0, .ref b), (1, .ref (ad 0)), (2, .ref (am 0)), (3, .ref ao)]) hx hb dL_law_1334 hl (k := 6) rfl (by rw [ev19]; rfl) (by decide) rfl (fun ls hl => ?_)
        refine lv_goto (tgt := 23) hx hb dL_law_1337 (by decide) ?_
        refine W.widen (k := 40 + (k + 1)) (n := 1368 + 6 * (k + 1)) (by omega) (by omega) ?_
        exact ih I5 F6 J12 G13 g7 v19 h (by rw [ev19, hx4]; exact nx6 k) H locs hP hM hO hS ls (lv_sub hl [3, 4, 5, 6, 0] rfl)
      · have h := h.2 c18
        exact h.elim
  · have h := h.2 c15
    exact h.elim
set_option maxHeartbeats 8000000 in
set_option maxRecDepth 100000 in
theorem sL_11 {p : Program} {l : Launch} {e : Env} {s : State} {m : MethodId} {below : List Frame} {meth : Method} {c : Code} {dC : Nat → ClassId} {dI : Nat → Nat → Nat} {cI cJ : ClassId} {ad am : Nat → Nat} {ao b L : Nat} {xs : Nat → Int32} (hst : l.stackTraces = false) (V : LV p s m meth c b L xs dC dI cI cJ ad am ao) (k : Nat) (hk : k ≤ 511) (K : (Nat → Int32) → (Nat → Nat → Int32) → (Nat → Int32) → (Nat → Nat → Int32) → (Nat → Int64) → Int32 → Prop) (ih : ∀ (I : Nat → Int32) (F : Nat → Nat → Int32) (J : Nat → Int32) (G : Nat → Nat → Int32) (g : Nat → Int64) (x4 : Int32), K I F J G g x4 → x4 = nI (6 * (k + 1)) → ∀ (H : Heap) (locs : List Loc), va_P (dC, dI) vwCl (wC cI ad I F) H → va_P (dC, dI) vwCl (wM cI am J G) H → va_P (dC, dI) vwCl (oC cJ ao g) H → va_S (fun q : Nat => s.heap.size ≤ q) s.heap H locs → ∀ (ls : Array Slot), lv_has ls 7 [(0, .ref b), (1, .ref (ad 0)), (2, .ref (am 0)), (3, .ref ao), (4, .int x4)] → W p l e room_1 s m #[Value.ref b] below meth c H locs (40 + (k + 1)) (1368 + 6 * (k + 1)) (lw_Z below #[Value.ref b] s) (F0 m 23 ls [])) : ∀ (I : Nat → Int32) (F : Nat → Nat → Int32) (J : Nat → Int32) (G : Nat → Nat → Int32) (g : Nat → Int64) (x4 : Int32), pL_11 L xs K I F J G g x4 → x4 = nI (6 * k) → ∀ (H : Heap) (locs : List Loc), va_P (dC, dI) vwCl (wC cI ad I F) H → va_P (dC, dI) vwCl (wM cI am J G) H → va_P (dC, dI) vwCl (oC cJ ao g) H → va_S (fun q : Nat => s.heap.size ≤ q) s.heap H locs → ∀ (ls : Array Slot), lv_has ls 7 [(0, .ref b), (1, .ref (ad 0)), (2, .ref (am 0)), (3, .ref ao), (4, .int x4)] → W p l e room_1 s m #[Value.ref b] below meth c H locs (40 + k) (1368 + 6 * k) (lw_Z below #[Value.ref b] s) (F0 m 877 ls []) := by
  obtain ⟨hx, hb, hml, hown, hts, hX, hbl, hK2, hN, hT, hC, hZ, hDc, hDm, hAo, hcm, hco, hmo⟩ := V
  have hK : va_K (dC, dI) vwCl [(cI, .int)] s := hK2.sub [0] rfl
  have hA : ∀ q : Nat, s.heap.size ≤ q → (fun q : Nat => s.heap.size ≤ q) q := fun _ h => h
  have hbA : ¬ (fun q : Nat => s.heap.size ≤ q) b := Nat.not_le.mpr hbl
  have hf0 : 40 + k + 0 ≤ room_1.cells ∧ 1368 + 6 * k + 0 ≤ room_1.slots := ⟨by show _ ≤ 1095; omega, by show _ ≤ 9746; omega⟩
  have hfh : 40 + k + 1 ≤ room_1.cells ∧ 1368 + 6 * k + 6 ≤ room_1.slots := ⟨by show _ ≤ 1095; omega, by show _ ≤ 9746; omega⟩
  have hf1 : 40 + k + 1 + 0 ≤ room_1.cells ∧ 1368 + 6 * k + 6 + 0 ≤ room_1.slots := ⟨by show _ ≤ 1095; omega, by show _ ≤ 9746; omega⟩
  intro I F J G g x4 h hx4 H locs hP hM hO hS ls hl
  unfold pL_11 at h
  refine lv_aload_n hx hb dL_law_877 rfl (lv_at hl 1 rfl) ?_
  refine lv_aload_n hx hb dL_law_878 rfl (lv_at hl 0 rfl) ?_
  refine lv_iload hx hb dL_law_879 (lv_at hl 4 rfl) ?_
  refine lv_iconst (v := (1 : Int32)) hx hb dL_law_881 (by decide) ?_
  refine lv_iadd hx hb dL_law_882 ?_
  obtain ⟨hin1, h⟩ := h
  refine va_sld hx hb hX hbl hbA hS hin1 dL_law_883 ?_
  refine vp_callSi (cr_of (va_runV (As := [.int (xs (Int32.toNatClampNeg (x4 + (1 : Int32))))]) (rest := []) ⟨hx, hb, hml, hown, hts⟩ (cTX4_count l dC dI cI ad I F (xs (Int32.toNatClampNeg (x4 + (1 : Int32)))) _ h) (cwV 1 hts gL_law_X4_count rfl rfl rfl (by decide +kernel) ⟨(Nat.le_of_ble_eq_true rfl), (Nat.le_of_ble_eq_true rfl)⟩) (pv_R hP hK hN 0 4 rfl rfl _) rfl rfl hl.1 rfl (lv_room (Nat.le_of_ble_eq_true rfl)) dL_law_884 hf0)) (fun r2 h => ?_)
  refine lv_aload_n hx hb dL_law_887 rfl (lv_at hl 2 rfl) ?_
  refine lv_aload_n hx hb dL_law_888 rfl (lv_at hl 0 rfl) ?_
  refine lv_iload hx hb dL_law_889 (lv_at hl 4 rfl) ?_
  refine lv_iconst (v := (1 : Int32)) hx hb dL_law_891 (by decide) ?_
  refine lv_iadd hx hb dL_law_892 ?_
  obtain ⟨hin3, h⟩ := h
  refine va_sld hx hb hX hbl hbA hS hin3 dL_law_893 ?_
  refine lcall_i (wf := wM cI am) (va_runV (As := [.int (xs (Int32.toNatClampNeg (x4 + (1 : Int32))))]) (rest := [.int r2]) ⟨hx, hb, hml, hown, hts⟩ (cTX5_count l dC dI cI am J G H.size (xs (Int32.toNatClampNeg (x4 + (1 : Int32)))) _ h) (cwV 1 hts gL_law_X5_count rfl rfl rfl (by decide +kernel) ⟨(Nat.le_of_ble_eq_true rfl), (Nat.le_of_ble_eq_true rfl)⟩) (pv_W hM hK hN ((hDm _ _).weaken (fun _ _ _ _ => trivial)) 0 5 rfl rfl _) rfl rfl hl.1 rfl (lv_room (Nat.le_of_ble_eq_true rfl)) dL_law_894 hf0) hDm hS hA hP (hcm _ _ _ _).symm hO (hmo _ _ _) (fun r4 J5 G6 h H locs hM hP hO hS => ?_)
  refine lv_icmp_eq (tgt := 1334) hx hb dL_law_897 (by decide) (fun c7 => ?_) (fun c7 => ?_)
  · have h := h.1 c7
    obtain ⟨v8, ev8⟩ : ∃ y : Int32, y = x4 + (6 : Int32) := ⟨_, rfl⟩
    have h := h v8 ev8
    refine lv_iinc (v := v8) (lv' := [(4, .int v8), (0, .ref b), (1, .ref (ad 0)), (2, .ref (am 0)), (3, .ref ao)]) hx hb dL_law_1334 hl (k := 4) rfl (by rw [ev8]; rfl) (by decide) rfl (fun ls hl => ?_)
    refine lv_goto (tgt := 23) hx hb dL_law_1337 (by decide) ?_
    refine W.widen (k := 40 + (k + 1)) (n := 1368 + 6 * (k + 1)) (by omega) (by omega) ?_
    exact ih I F J5 G6 g v8 h (by rw [ev8, hx4]; exact nx6 k) H locs hP hM hO hS ls (lv_sub hl [1, 2, 3, 4, 0] rfl)
  · have h := h.2 c7
    exact h.elim
set_option maxHeartbeats 8000000 in
set_option maxRecDepth 100000 in
theorem sL_12 {p : Program} {l : Launch} {e : Env} {s : State} {m : MethodId} {below : List Frame} {meth : Method} {c : Code} {dC : Nat → ClassId} {dI : Nat → Nat → Nat} {cI cJ : ClassId} {ad am : Nat → Nat} {ao b L : Nat} {xs : Nat → Int32} (hst : l.stackTraces = false) (V : LV p s m meth c b L xs dC dI cI cJ ad am ao) (k : Nat) (hk : k ≤ 511) (K : (Nat → Int32) → (Nat → Nat → Int32) → (Nat → Int32) → (Nat → Nat → Int32) → (Nat → Int64) → Int32 → Prop) (ih : ∀ (I : Nat → Int32) (F : Nat → Nat → Int32) (J : Nat → Int32) (G : Nat → Nat → Int32) (g : Nat → Int64) (x4 : Int32), K I F J G g x4 → x4 = nI (6 * (k + 1)) → ∀ (H : Heap) (locs : List Loc), va_P (dC, dI) vwCl (wC cI ad I F) H → va_P (dC, dI) vwCl (wM cI am J G) H → va_P (dC, dI) vwCl (oC cJ ao g) H → va_S (fun q : Nat => s.heap.size ≤ q) s.heap H locs → ∀ (ls : Array Slot), lv_has ls 7 [(0, .ref b), (1, .ref (ad 0)), (2, .ref (am 0)), (3, .ref ao), (4, .int x4)] → W p l e room_1 s m #[Value.ref b] below meth c H locs (40 + (k + 1)) (1368 + 6 * (k + 1)) (lw_Z below #[Value.ref b] s) (F0 m 23 ls [])) : ∀ (I : Nat → Int32) (F : Nat → Nat → Int32) (J : Nat → Int32) (G : Nat → Nat → Int32) (g : Nat → Int64) (x4 : Int32), pL_12 L xs K I F J G g x4 → x4 = nI (6 * k) → ∀ (H : Heap) (locs : List Loc), va_P (dC, dI) vwCl (wC cI ad I F) H → va_P (dC, dI) vwCl (wM cI am J G) H → va_P (dC, dI) vwCl (oC cJ ao g) H → va_S (fun q : Nat => s.heap.size ≤ q) s.heap H locs → ∀ (ls : Array Slot), lv_has ls 7 [(0, .ref b), (1, .ref (ad 0)), (2, .ref (am 0)), (3, .ref ao), (4, .int x4)] → W p l e room_1 s m #[Value.ref b] below meth c H locs (40 + k) (1368 + 6 * k) (lw_Z below #[Value.ref b] s) (F0 m 902 ls []) := by
  obtain ⟨hx, hb, hml, hown, hts, hX, hbl, hK2, hN, hT, hC, hZ, hDc, hDm, hAo, hcm, hco, hmo⟩ := V
  have hK : va_K (dC, dI) vwCl [(cI, .int)] s := hK2.sub [0] rfl
  have hA : ∀ q : Nat, s.heap.size ≤ q → (fun q : Nat => s.heap.size ≤ q) q := fun _ h => h
  have hbA : ¬ (fun q : Nat => s.heap.size ≤ q) b := Nat.not_le.mpr hbl
  have hf0 : 40 + k + 0 ≤ room_1.cells ∧ 1368 + 6 * k + 0 ≤ room_1.slots := ⟨by show _ ≤ 1095; omega, by show _ ≤ 9746; omega⟩
  have hfh : 40 + k + 1 ≤ room_1.cells ∧ 1368 + 6 * k + 6 ≤ room_1.slots := ⟨by show _ ≤ 1095; omega, by show _ ≤ 9746; omega⟩
  have hf1 : 40 + k + 1 + 0 ≤ room_1.cells ∧ 1368 + 6 * k + 6 + 0 ≤ room_1.slots := ⟨by show _ ≤ 1095; omega, by show _ ≤ 9746; omega⟩
  intro I F J G g x4 h hx4 H locs hP hM hO hS ls hl
  unfold pL_12 at h
  refine lv_aload_n hx hb dL_law_902 rfl (lv_at hl 1 rfl) ?_
  refine lv_aload_n hx hb dL_law_903 rfl (lv_at hl 0 rfl) ?_
  refine lv_iload hx hb dL_law_904 (lv_at hl 4 rfl) ?_
  refine lv_iconst (v := (1 : Int32)) hx hb dL_law_906 (by decide) ?_
  refine lv_iadd hx hb dL_law_907 ?_
  obtain ⟨hin1, h⟩ := h
  refine va_sld hx hb hX hbl hbA hS hin1 dL_law_908 ?_
  refine lv_aload_n hx hb dL_law_909 rfl (lv_at hl 0 rfl) ?_
  refine lv_iload hx hb dL_law_910 (lv_at hl 4 rfl) ?_
  refine lv_iconst (v := (2 : Int32)) hx hb dL_law_912 (by decide) ?_
  refine lv_iadd hx hb dL_law_913 ?_
  obtain ⟨hin2, h⟩ := h
  refine va_sld hx hb hX hbl hbA hS hin2 dL_law_914 ?_
  refine lv_aload_n hx hb dL_law_915 rfl (lv_at hl 0 rfl) ?_
  refine lv_iload hx hb dL_law_916 (lv_at hl 4 rfl) ?_
  refine lv_iconst (v := (3 : Int32)) hx hb dL_law_918 (by decide) ?_
  refine lv_iadd hx hb dL_law_919 ?_
  obtain ⟨hin3, h⟩ := h
  refine va_sld hx hb hX hbl hbA hS hin3 dL_law_920 ?_
  refine lv_aload_n hx hb dL_law_921 rfl (lv_at hl 0 rfl) ?_
  refine lv_iload hx hb dL_law_922 (lv_at hl 4 rfl) ?_
  refine lv_iconst (v := (4 : Int32)) hx hb dL_law_924 (by decide) ?_
  refine lv_iadd hx hb dL_law_925 ?_
  obtain ⟨hin4, h⟩ := h
  refine va_sld hx hb hX hbl hbA hS hin4 dL_law_926 ?_
  refine lv_aload_n hx hb dL_law_927 rfl (lv_at hl 3 rfl) ?_
  refine lcall_h (vx_runSW (As := [.ref (ad 0), .int (xs (Int32.toNatClampNeg (x4 + (1 : Int32)))), .int (xs (Int32.toNatClampNeg (x4 + (2 : Int32)))), .int (xs (Int32.toNatClampNeg (x4 + (3 : Int32)))), .int (xs (Int32.toNatClampNeg (x4 + (4 : Int32)))), .ref ao]) (rest := []) ⟨hx, hb, hml, hown, hts⟩ (cTL_fact l hst dC dI cI cJ ad ao I F g H.size (xs (Int32.toNatClampNeg (x4 + (1 : Int32)))) (xs (Int32.toNatClampNeg (x4 + (2 : Int32)))) (xs (Int32.toNatClampNeg (x4 + (3 : Int32)))) (xs (Int32.toNatClampNeg (x4 + (4 : Int32)))) _ h) (vx_cwSW 6 hts gL_law_L_fact rfl rfl rfl (by decide +kernel) ⟨(Nat.le_of_ble_eq_true rfl), (Nat.le_of_ble_eq_true rfl)⟩) (pv_H hP hO hK2 hN hT hC hZ hS hDc hAo hA (hco _ _ _)) rfl rfl hl.1 rfl (lv_room (Nat.le_of_ble_eq_true rfl)) dL_law_928 hfh) hDc hAo hS hA hM (hcm _ _ _ _) (hmo _ _ g) (fun r5 I6 F7 g8 h H locs hP hM hO hS => ?_)
  refine lv_istore (lv' := [(5, .int r5), (0, .ref b), (1, .ref (ad 0)), (2, .ref (am 0)), (3, .ref ao), (4, .int x4)]) hx hb dL_law_931 hl (by decide) rfl (fun ls hl => ?_)
  refine lv_aload_n hx hb dL_law_933 rfl (lv_at hl 3 rfl) ?_
  refine lv_aload_n hx hb dL_law_934 rfl (lv_at hl 1 rfl) ?_
  refine lv_iload hx hb dL_law_935 (lv_at hl 5 rfl) ?_
  refine lv_iconst (v := (1 : Int32)) hx hb dL_law_937 (by decide) ?_
  refine lv_iadd hx hb dL_law_938 ?_
  obtain ⟨hin9, h⟩ := h
  refine va_sld hx hb hX hbl hbA hS hin9 dL_law_939 ?_
  refine lv_aload_n hx hb dL_law_940 rfl (lv_at hl 1 rfl) ?_
  refine lv_iload hx hb dL_law_941 (lv_at hl 5 rfl) ?_
  refine lv_iconst (v := (2 : Int32)) hx hb dL_law_943 (by decide) ?_
  refine lv_iadd hx hb dL_law_944 ?_
  obtain ⟨hin10, h⟩ := h
  refine va_sld hx hb hX hbl hbA hS hin10 dL_law_945 ?_
  refine lv_aload_n hx hb dL_law_946 rfl (lv_at hl 1 rfl) ?_
  refine lv_iload hx hb dL_law_947 (lv_at hl 5 rfl) ?_
  refine lv_iconst (v := (3 : Int32)) hx hb dL_law_949 (by decide) ?_
  refine lv_iadd hx hb dL_law_950 ?_
  obtain ⟨hin11, h⟩ := h
  refine va_sld hx hb hX hbl hbA hS hin11 dL_law_951 ?_
  refine lv_aload_n hx hb dL_law_952 rfl (lv_at hl 1 rfl) ?_
  refine lv_iload hx hb dL_law_953 (lv_at hl 5 rfl) ?_
  refine lv_iconst (v := (4 : Int32)) hx hb dL_law_955 (by decide) ?_
  refine lv_iadd hx hb dL_law_956 ?_
  obtain ⟨hin12, h⟩ := h
  refine va_sld hx hb hX hbl hbA hS hin12 dL_law_957 ?_
  refine lcall_i (wf := wM cI am) (va_runV (As := [.int (xs (Int32.toNatClampNeg (x4 + (1 : Int32)))), .int (xs (Int32.toNatClampNeg (x4 + (2 : Int32)))), .int (xs (Int32.toNatClampNeg (x4 + (3 : Int32)))), .int (xs (Int32.toNatClampNeg (x4 + (4 : Int32))))]) (rest := []) ⟨hx, hb, hml, hown, hts⟩ (cTX5_fact l dC dI cI am J G H.size (xs (Int32.toNatClampNeg (x4 + (1 : Int32)))) (xs (Int32.toNatClampNeg (x4 + (2 : Int32)))) (xs (Int32.toNatClampNeg (x4 + (3 : Int32)))) (xs (Int32.toNatClampNeg (x4 + (4 : Int32)))) _ h) (cwV 4 hts gL_law_X5_fact rfl rfl rfl (by decide +kernel) ⟨(Nat.le_of_ble_eq_true rfl), (Nat.le_of_ble_eq_true rfl)⟩) (pv_W hM hK hN ((hDm _ _).weaken (fun _ _ _ _ => trivial)) 0 5 rfl rfl _) rfl rfl hl.1 rfl (lv_room (Nat.le_of_ble_eq_true rfl)) dL_law_958 hf1) hDm hS hA hP (hcm _ _ _ _).symm hO (hmo _ _ _) (fun r13 J14 G15 h H locs hM hP hO hS => ?_)
  refine lv_istore (lv' := [(6, .int r13), (5, .int r5), (0, .ref b), (1, .ref (ad 0)), (2, .ref (am 0)), (3, .ref ao), (4, .int x4)]) hx hb dL_law_961 hl (by decide) rfl (fun ls hl => ?_)
  refine lv_aload_n hx hb dL_law_963 rfl (lv_at hl 4 rfl) ?_
  refine vp_callSi (cr_of (va_runV (As := []) (rest := []) ⟨hx, hb, hml, hown, hts⟩ (cTX5_thrown l dC dI cI am J14 G15 _ h) (cwV 0 hts gL_law_X5_thrown rfl rfl rfl (by decide +kernel) ⟨(Nat.le_of_ble_eq_true rfl), (Nat.le_of_ble_eq_true rfl)⟩) (pv_R hM hK hN 0 5 rfl rfl _) rfl rfl hl.1 rfl (lv_room (Nat.le_of_ble_eq_true rfl)) dL_law_964 hf1)) (fun r16 h => ?_)
  refine lv_iload hx hb dL_law_967 (lv_at hl 1 rfl) ?_
  refine lv_icmp_eq (tgt := 974) hx hb dL_law_969 (by decide) (fun c17 => ?_) (fun c17 => ?_)
  · have h := h.1 c17
    refine lv_iload hx hb dL_law_974 (lv_at hl 1 rfl) ?_
    refine lv_if_ne (tgt := 991) hx hb dL_law_976 (by decide) (fun c18 => ?_) (fun c18 => ?_)
    · have h := h.1 c18
      refine lv_goto (tgt := 1334) hx hb dL_law_991 (by decide) ?_
      obtain ⟨v19, ev19⟩ : ∃ y : Int32, y = x4 + (6 : Int32) := ⟨_, rfl⟩
      have h := h v19 ev19
      refine lv_iinc (v := v19) (lv' := [(4, .int v19), (6, .int r13), (5, .int r5), (0, .ref b), (1, .ref (ad 0)), (2, .ref (am 0)), (3, .ref ao)]) hx hb dL_law_1334 hl (k := 6) rfl (by rw [ev19]; rfl) (by decide) rfl (fun ls hl => ?_)
      refine lv_goto (tgt := 23) hx hb dL_law_1337 (by decide) ?_
      refine W.widen (k := 40 + (k + 1)) (n := 1368 + 6 * (k + 1)) (by omega) (by omega) ?_
      exact ih I6 F7 J14 G15 g8 v19 h (by rw [ev19, hx4]; exact nx6 k) H locs hP hM hO hS ls (lv_sub hl [3, 4, 5, 6, 0] rfl)
    · have h := h.2 c18
      refine lv_aload_n hx hb dL_law_979 rfl (lv_at hl 5 rfl) ?_
      refine lv_iconst (v := (0 : Int32)) hx hb dL_law_980 (by decide) ?_
      refine va_lald hx hb hK2 hO 0 1 rfl rfl in01 dL_law_981 ?_
      refine lv_iload hx hb dL_law_982 (lv_at hl 0 rfl) ?_
      refine lv_i2l (v := r13.toInt64) hx hb dL_law_984 rfl ?_
      refine W.lcmp hx hb dL_law_985 ?_
      refine lv_if_eq (tgt := 991) hx hb dL_law_986 (by decide) (fun c20 => ?_) (fun c20 => ?_)
      · have h := h.1 c20
        refine lv_goto (tgt := 1334) hx hb dL_law_991 (by decide) ?_
        obtain ⟨v21, ev21⟩ : ∃ y : Int32, y = x4 + (6 : Int32) := ⟨_, rfl⟩
        have h := h v21 ev21
        refine lv_iinc (v := v21) (lv' := [(4, .int v21), (6, .int r13), (5, .int r5), (0, .ref b), (1, .ref (ad 0)), (2, .ref (am 0)), (3, .ref ao)]) hx hb dL_law_1334 hl (k := 6) rfl (by rw [ev21]; rfl) (by decide) rfl (fun ls hl => ?_)
        refine lv_goto (tgt := 23) hx hb dL_law_1337 (by decide) ?_
        refine W.widen (k := 40 + (k + 1)) (n := 1368 + 6 * (k + 1)) (by omega) (by omega) ?_
        exact ih I6 F7 J14 G15 g8 v21 h (by rw [ev21, hx4]; exact nx6 k) H locs hP hM hO hS ls (lv_sub hl [3, 4, 5, 6, 0] rfl)
      · have h := h.2 c20
        exact h.elim
  · have h := h.2 c17
    exact h.elim
set_option maxHeartbeats 8000000 in
set_option maxRecDepth 100000 in
theorem sL_13 {p : Program} {l : Launch} {e : Env} {s : State} {m : MethodId} {below : List Frame} {meth : Method} {c : Code} {dC : Nat → ClassId} {dI : Nat → Nat → Nat} {cI cJ : ClassId} {ad am : Nat → Nat} {ao b L : Nat} {xs : Nat → Int32} (hst : l.stackTraces = false) (V : LV p s m meth c b L xs dC dI cI cJ ad am ao) (k : Nat) (hk : k ≤ 511) (K : (Nat → Int32) → (Nat → Nat → Int32) → (Nat → Int32) → (Nat → Nat → Int32) → (Nat → Int64) → Int32 → Prop) (ih : ∀ (I : Nat → Int32) (F : Nat → Nat → Int32) (J : Nat → Int32) (G : Nat → Nat → Int32) (g : Nat → Int64) (x4 : Int32), K I F J G g x4 → x4 = nI (6 * (k + 1)) → ∀ (H : Heap) (locs : List Loc), va_P (dC, dI) vwCl (wC cI ad I F) H → va_P (dC, dI) vwCl (wM cI am J G) H → va_P (dC, dI) vwCl (oC cJ ao g) H → va_S (fun q : Nat => s.heap.size ≤ q) s.heap H locs → ∀ (ls : Array Slot), lv_has ls 7 [(0, .ref b), (1, .ref (ad 0)), (2, .ref (am 0)), (3, .ref ao), (4, .int x4)] → W p l e room_1 s m #[Value.ref b] below meth c H locs (40 + (k + 1)) (1368 + 6 * (k + 1)) (lw_Z below #[Value.ref b] s) (F0 m 23 ls [])) : ∀ (I : Nat → Int32) (F : Nat → Nat → Int32) (J : Nat → Int32) (G : Nat → Nat → Int32) (g : Nat → Int64) (x4 : Int32), pL_13 L xs K I F J G g x4 → x4 = nI (6 * k) → ∀ (H : Heap) (locs : List Loc), va_P (dC, dI) vwCl (wC cI ad I F) H → va_P (dC, dI) vwCl (wM cI am J G) H → va_P (dC, dI) vwCl (oC cJ ao g) H → va_S (fun q : Nat => s.heap.size ≤ q) s.heap H locs → ∀ (ls : Array Slot), lv_has ls 7 [(0, .ref b), (1, .ref (ad 0)), (2, .ref (am 0)), (3, .ref ao), (4, .int x4)] → W p l e room_1 s m #[Value.ref b] below meth c H locs (40 + k) (1368 + 6 * k) (lw_Z below #[Value.ref b] s) (F0 m 994 ls []) := by
  obtain ⟨hx, hb, hml, hown, hts, hX, hbl, hK2, hN, hT, hC, hZ, hDc, hDm, hAo, hcm, hco, hmo⟩ := V
  have hK : va_K (dC, dI) vwCl [(cI, .int)] s := hK2.sub [0] rfl
  have hA : ∀ q : Nat, s.heap.size ≤ q → (fun q : Nat => s.heap.size ≤ q) q := fun _ h => h
  have hbA : ¬ (fun q : Nat => s.heap.size ≤ q) b := Nat.not_le.mpr hbl
  have hf0 : 40 + k + 0 ≤ room_1.cells ∧ 1368 + 6 * k + 0 ≤ room_1.slots := ⟨by show _ ≤ 1095; omega, by show _ ≤ 9746; omega⟩
  have hfh : 40 + k + 1 ≤ room_1.cells ∧ 1368 + 6 * k + 6 ≤ room_1.slots := ⟨by show _ ≤ 1095; omega, by show _ ≤ 9746; omega⟩
  have hf1 : 40 + k + 1 + 0 ≤ room_1.cells ∧ 1368 + 6 * k + 6 + 0 ≤ room_1.slots := ⟨by show _ ≤ 1095; omega, by show _ ≤ 9746; omega⟩
  intro I F J G g x4 h hx4 H locs hP hM hO hS ls hl
  unfold pL_13 at h
  refine lv_aload_n hx hb dL_law_994 rfl (lv_at hl 1 rfl) ?_
  refine lv_aload_n hx hb dL_law_995 rfl (lv_at hl 0 rfl) ?_
  refine lv_iload hx hb dL_law_996 (lv_at hl 4 rfl) ?_
  refine lv_iconst (v := (1 : Int32)) hx hb dL_law_998 (by decide) ?_
  refine lv_iadd hx hb dL_law_999 ?_
  obtain ⟨hin1, h⟩ := h
  refine va_sld hx hb hX hbl hbA hS hin1 dL_law_1000 ?_
  refine lv_aload_n hx hb dL_law_1001 rfl (lv_at hl 0 rfl) ?_
  refine lv_iload hx hb dL_law_1002 (lv_at hl 4 rfl) ?_
  refine lv_iconst (v := (2 : Int32)) hx hb dL_law_1004 (by decide) ?_
  refine lv_iadd hx hb dL_law_1005 ?_
  obtain ⟨hin2, h⟩ := h
  refine va_sld hx hb hX hbl hbA hS hin2 dL_law_1006 ?_
  refine lv_aload_n hx hb dL_law_1007 rfl (lv_at hl 3 rfl) ?_
  refine lcall_h (vx_runSW (As := [.ref (ad 0), .int (xs (Int32.toNatClampNeg (x4 + (1 : Int32)))), .int (xs (Int32.toNatClampNeg (x4 + (2 : Int32)))), .ref ao]) (rest := []) ⟨hx, hb, hml, hown, hts⟩ (cTL_written l hst dC dI cI cJ ad ao I F g H.size (xs (Int32.toNatClampNeg (x4 + (1 : Int32)))) (xs (Int32.toNatClampNeg (x4 + (2 : Int32)))) _ h) (vx_cwSW 4 hts gL_law_L_written rfl rfl rfl (by decide +kernel) ⟨(Nat.le_of_ble_eq_true rfl), (Nat.le_of_ble_eq_true rfl)⟩) (pv_H hP hO hK2 hN hT hC hZ hS hDc hAo hA (hco _ _ _)) rfl rfl hl.1 rfl (lv_room (Nat.le_of_ble_eq_true rfl)) dL_law_1008 hfh) hDc hAo hS hA hM (hcm _ _ _ _) (hmo _ _ g) (fun r3 I4 F5 g6 h H locs hP hM hO hS => ?_)
  refine lv_istore (lv' := [(5, .int r3), (0, .ref b), (1, .ref (ad 0)), (2, .ref (am 0)), (3, .ref ao), (4, .int x4)]) hx hb dL_law_1011 hl (by decide) rfl (fun ls hl => ?_)
  refine lv_aload_n hx hb dL_law_1013 rfl (lv_at hl 3 rfl) ?_
  refine lv_aload_n hx hb dL_law_1014 rfl (lv_at hl 1 rfl) ?_
  refine lv_iload hx hb dL_law_1015 (lv_at hl 5 rfl) ?_
  refine lv_iconst (v := (1 : Int32)) hx hb dL_law_1017 (by decide) ?_
  refine lv_iadd hx hb dL_law_1018 ?_
  obtain ⟨hin7, h⟩ := h
  refine va_sld hx hb hX hbl hbA hS hin7 dL_law_1019 ?_
  refine lv_aload_n hx hb dL_law_1020 rfl (lv_at hl 1 rfl) ?_
  refine lv_iload hx hb dL_law_1021 (lv_at hl 5 rfl) ?_
  refine lv_iconst (v := (2 : Int32)) hx hb dL_law_1023 (by decide) ?_
  refine lv_iadd hx hb dL_law_1024 ?_
  obtain ⟨hin8, h⟩ := h
  refine va_sld hx hb hX hbl hbA hS hin8 dL_law_1025 ?_
  refine lcall_i (wf := wM cI am) (va_runV (As := [.int (xs (Int32.toNatClampNeg (x4 + (1 : Int32)))), .int (xs (Int32.toNatClampNeg (x4 + (2 : Int32))))]) (rest := []) ⟨hx, hb, hml, hown, hts⟩ (cTX5_written l dC dI cI am J G H.size (xs (Int32.toNatClampNeg (x4 + (1 : Int32)))) (xs (Int32.toNatClampNeg (x4 + (2 : Int32)))) _ h) (cwV 2 hts gL_law_X5_written rfl rfl rfl (by decide +kernel) ⟨(Nat.le_of_ble_eq_true rfl), (Nat.le_of_ble_eq_true rfl)⟩) (pv_W hM hK hN ((hDm _ _).weaken (fun _ _ _ _ => trivial)) 0 5 rfl rfl _) rfl rfl hl.1 rfl (lv_room (Nat.le_of_ble_eq_true rfl)) dL_law_1026 hf1) hDm hS hA hP (hcm _ _ _ _).symm hO (hmo _ _ _) (fun r9 J10 G11 h H locs hM hP hO hS => ?_)
  refine lv_istore (lv' := [(6, .int r9), (5, .int r3), (0, .ref b), (1, .ref (ad 0)), (2, .ref (am 0)), (3, .ref ao), (4, .int x4)]) hx hb dL_law_1029 hl (by decide) rfl (fun ls hl => ?_)
  refine lv_aload_n hx hb dL_law_1031 rfl (lv_at hl 4 rfl) ?_
  refine vp_callSi (cr_of (va_runV (As := []) (rest := []) ⟨hx, hb, hml, hown, hts⟩ (cTX5_thrown l dC dI cI am J10 G11 _ h) (cwV 0 hts gL_law_X5_thrown rfl rfl rfl (by decide +kernel) ⟨(Nat.le_of_ble_eq_true rfl), (Nat.le_of_ble_eq_true rfl)⟩) (pv_R hM hK hN 0 5 rfl rfl _) rfl rfl hl.1 rfl (lv_room (Nat.le_of_ble_eq_true rfl)) dL_law_1032 hf1)) (fun r12 h => ?_)
  refine lv_iload hx hb dL_law_1035 (lv_at hl 1 rfl) ?_
  refine lv_icmp_eq (tgt := 1042) hx hb dL_law_1037 (by decide) (fun c13 => ?_) (fun c13 => ?_)
  · have h := h.1 c13
    refine lv_iload hx hb dL_law_1042 (lv_at hl 1 rfl) ?_
    refine lv_if_ne (tgt := 1059) hx hb dL_law_1044 (by decide) (fun c14 => ?_) (fun c14 => ?_)
    · have h := h.1 c14
      refine lv_goto (tgt := 1334) hx hb dL_law_1059 (by decide) ?_
      obtain ⟨v15, ev15⟩ : ∃ y : Int32, y = x4 + (6 : Int32) := ⟨_, rfl⟩
      have h := h v15 ev15
      refine lv_iinc (v := v15) (lv' := [(4, .int v15), (6, .int r9), (5, .int r3), (0, .ref b), (1, .ref (ad 0)), (2, .ref (am 0)), (3, .ref ao)]) hx hb dL_law_1334 hl (k := 6) rfl (by rw [ev15]; rfl) (by decide) rfl (fun ls hl => ?_)
      refine lv_goto (tgt := 23) hx hb dL_law_1337 (by decide) ?_
      refine W.widen (k := 40 + (k + 1)) (n := 1368 + 6 * (k + 1)) (by omega) (by omega) ?_
      exact ih I4 F5 J10 G11 g6 v15 h (by rw [ev15, hx4]; exact nx6 k) H locs hP hM hO hS ls (lv_sub hl [3, 4, 5, 6, 0] rfl)
    · have h := h.2 c14
      refine lv_aload_n hx hb dL_law_1047 rfl (lv_at hl 5 rfl) ?_
      refine lv_iconst (v := (0 : Int32)) hx hb dL_law_1048 (by decide) ?_
      refine va_lald hx hb hK2 hO 0 1 rfl rfl in01 dL_law_1049 ?_
      refine lv_iload hx hb dL_law_1050 (lv_at hl 0 rfl) ?_
      refine lv_i2l (v := r9.toInt64) hx hb dL_law_1052 rfl ?_
      refine W.lcmp hx hb dL_law_1053 ?_
      refine lv_if_eq (tgt := 1059) hx hb dL_law_1054 (by decide) (fun c16 => ?_) (fun c16 => ?_)
      · have h := h.1 c16
        refine lv_goto (tgt := 1334) hx hb dL_law_1059 (by decide) ?_
        obtain ⟨v17, ev17⟩ : ∃ y : Int32, y = x4 + (6 : Int32) := ⟨_, rfl⟩
        have h := h v17 ev17
        refine lv_iinc (v := v17) (lv' := [(4, .int v17), (6, .int r9), (5, .int r3), (0, .ref b), (1, .ref (ad 0)), (2, .ref (am 0)), (3, .ref ao)]) hx hb dL_law_1334 hl (k := 6) rfl (by rw [ev17]; rfl) (by decide) rfl (fun ls hl => ?_)
        refine lv_goto (tgt := 23) hx hb dL_law_1337 (by decide) ?_
        refine W.widen (k := 40 + (k + 1)) (n := 1368 + 6 * (k + 1)) (by omega) (by omega) ?_
        exact ih I4 F5 J10 G11 g6 v17 h (by rw [ev17, hx4]; exact nx6 k) H locs hP hM hO hS ls (lv_sub hl [3, 4, 5, 6, 0] rfl)
      · have h := h.2 c16
        exact h.elim
  · have h := h.2 c13
    exact h.elim
set_option maxHeartbeats 8000000 in
set_option maxRecDepth 100000 in
theorem sL_14 {p : Program} {l : Launch} {e : Env} {s : State} {m : MethodId} {below : List Frame} {meth : Method} {c : Code} {dC : Nat → ClassId} {dI : Nat → Nat → Nat} {cI cJ : ClassId} {ad am : Nat → Nat} {ao b L : Nat} {xs : Nat → Int32} (hst : l.stackTraces = false) (V : LV p s m meth c b L xs dC dI cI cJ ad am ao) (k : Nat) (hk : k ≤ 511) (K : (Nat → Int32) → (Nat → Nat → Int32) → (Nat → Int32) → (Nat → Nat → Int32) → (Nat → Int64) → Int32 → Prop) (ih : ∀ (I : Nat → Int32) (F : Nat → Nat → Int32) (J : Nat → Int32) (G : Nat → Nat → Int32) (g : Nat → Int64) (x4 : Int32), K I F J G g x4 → x4 = nI (6 * (k + 1)) → ∀ (H : Heap) (locs : List Loc), va_P (dC, dI) vwCl (wC cI ad I F) H → va_P (dC, dI) vwCl (wM cI am J G) H → va_P (dC, dI) vwCl (oC cJ ao g) H → va_S (fun q : Nat => s.heap.size ≤ q) s.heap H locs → ∀ (ls : Array Slot), lv_has ls 7 [(0, .ref b), (1, .ref (ad 0)), (2, .ref (am 0)), (3, .ref ao), (4, .int x4)] → W p l e room_1 s m #[Value.ref b] below meth c H locs (40 + (k + 1)) (1368 + 6 * (k + 1)) (lw_Z below #[Value.ref b] s) (F0 m 23 ls [])) : ∀ (I : Nat → Int32) (F : Nat → Nat → Int32) (J : Nat → Int32) (G : Nat → Nat → Int32) (g : Nat → Int64) (x4 : Int32), pL_14 L xs K I F J G g x4 → x4 = nI (6 * k) → ∀ (H : Heap) (locs : List Loc), va_P (dC, dI) vwCl (wC cI ad I F) H → va_P (dC, dI) vwCl (wM cI am J G) H → va_P (dC, dI) vwCl (oC cJ ao g) H → va_S (fun q : Nat => s.heap.size ≤ q) s.heap H locs → ∀ (ls : Array Slot), lv_has ls 7 [(0, .ref b), (1, .ref (ad 0)), (2, .ref (am 0)), (3, .ref ao), (4, .int x4)] → W p l e room_1 s m #[Value.ref b] below meth c H locs (40 + k) (1368 + 6 * k) (lw_Z below #[Value.ref b] s) (F0 m 1062 ls []) := by
  obtain ⟨hx, hb, hml, hown, hts, hX, hbl, hK2, hN, hT, hC, hZ, hDc, hDm, hAo, hcm, hco, hmo⟩ := V
  have hK : va_K (dC, dI) vwCl [(cI, .int)] s := hK2.sub [0] rfl
  have hA : ∀ q : Nat, s.heap.size ≤ q → (fun q : Nat => s.heap.size ≤ q) q := fun _ h => h
  have hbA : ¬ (fun q : Nat => s.heap.size ≤ q) b := Nat.not_le.mpr hbl
  have hf0 : 40 + k + 0 ≤ room_1.cells ∧ 1368 + 6 * k + 0 ≤ room_1.slots := ⟨by show _ ≤ 1095; omega, by show _ ≤ 9746; omega⟩
  have hfh : 40 + k + 1 ≤ room_1.cells ∧ 1368 + 6 * k + 6 ≤ room_1.slots := ⟨by show _ ≤ 1095; omega, by show _ ≤ 9746; omega⟩
  have hf1 : 40 + k + 1 + 0 ≤ room_1.cells ∧ 1368 + 6 * k + 6 + 0 ≤ room_1.slots := ⟨by show _ ≤ 1095; omega, by show _ ≤ 9746; omega⟩
  intro I F J G g x4 h hx4 H locs hP hM hO hS ls hl
  unfold pL_14 at h
  refine lv_aload_n hx hb dL_law_1062 rfl (lv_at hl 1 rfl) ?_
  refine lv_aload_n hx hb dL_law_1063 rfl (lv_at hl 0 rfl) ?_
  refine lv_iload hx hb dL_law_1064 (lv_at hl 4 rfl) ?_
  refine lv_iconst (v := (1 : Int32)) hx hb dL_law_1066 (by decide) ?_
  refine lv_iadd hx hb dL_law_1067 ?_
  obtain ⟨hin1, h⟩ := h
  refine va_sld hx hb hX hbl hbA hS hin1 dL_law_1068 ?_
  refine lv_aload_n hx hb dL_law_1069 rfl (lv_at hl 0 rfl) ?_
  refine lv_iload hx hb dL_law_1070 (lv_at hl 4 rfl) ?_
  refine lv_iconst (v := (2 : Int32)) hx hb dL_law_1072 (by decide) ?_
  refine lv_iadd hx hb dL_law_1073 ?_
  obtain ⟨hin2, h⟩ := h
  refine va_sld hx hb hX hbl hbA hS hin2 dL_law_1074 ?_
  refine lv_aload_n hx hb dL_law_1075 rfl (lv_at hl 0 rfl) ?_
  refine lv_iload hx hb dL_law_1076 (lv_at hl 4 rfl) ?_
  refine lv_iconst (v := (3 : Int32)) hx hb dL_law_1078 (by decide) ?_
  refine lv_iadd hx hb dL_law_1079 ?_
  obtain ⟨hin3, h⟩ := h
  refine va_sld hx hb hX hbl hbA hS hin3 dL_law_1080 ?_
  refine lv_aload_n hx hb dL_law_1081 rfl (lv_at hl 3 rfl) ?_
  refine lcall_h (vx_runSW (As := [.ref (ad 0), .int (xs (Int32.toNatClampNeg (x4 + (1 : Int32)))), .int (xs (Int32.toNatClampNeg (x4 + (2 : Int32)))), .int (xs (Int32.toNatClampNeg (x4 + (3 : Int32)))), .ref ao]) (rest := []) ⟨hx, hb, hml, hown, hts⟩ (cTL_earned l hst dC dI cI cJ ad ao I F g H.size (xs (Int32.toNatClampNeg (x4 + (1 : Int32)))) (xs (Int32.toNatClampNeg (x4 + (2 : Int32)))) (xs (Int32.toNatClampNeg (x4 + (3 : Int32)))) _ h) (vx_cwSW 5 hts gL_law_L_earned rfl rfl rfl (by decide +kernel) ⟨(Nat.le_of_ble_eq_true rfl), (Nat.le_of_ble_eq_true rfl)⟩) (pv_H hP hO hK2 hN hT hC hZ hS hDc hAo hA (hco _ _ _)) rfl rfl hl.1 rfl (lv_room (Nat.le_of_ble_eq_true rfl)) dL_law_1082 hfh) hDc hAo hS hA hM (hcm _ _ _ _) (hmo _ _ g) (fun r4 I5 F6 g7 h H locs hP hM hO hS => ?_)
  refine lv_istore (lv' := [(5, .int r4), (0, .ref b), (1, .ref (ad 0)), (2, .ref (am 0)), (3, .ref ao), (4, .int x4)]) hx hb dL_law_1085 hl (by decide) rfl (fun ls hl => ?_)
  refine lv_aload_n hx hb dL_law_1087 rfl (lv_at hl 3 rfl) ?_
  refine lv_aload_n hx hb dL_law_1088 rfl (lv_at hl 1 rfl) ?_
  refine lv_iload hx hb dL_law_1089 (lv_at hl 5 rfl) ?_
  refine lv_iconst (v := (1 : Int32)) hx hb dL_law_1091 (by decide) ?_
  refine lv_iadd hx hb dL_law_1092 ?_
  obtain ⟨hin8, h⟩ := h
  refine va_sld hx hb hX hbl hbA hS hin8 dL_law_1093 ?_
  refine lv_aload_n hx hb dL_law_1094 rfl (lv_at hl 1 rfl) ?_
  refine lv_iload hx hb dL_law_1095 (lv_at hl 5 rfl) ?_
  refine lv_iconst (v := (2 : Int32)) hx hb dL_law_1097 (by decide) ?_
  refine lv_iadd hx hb dL_law_1098 ?_
  obtain ⟨hin9, h⟩ := h
  refine va_sld hx hb hX hbl hbA hS hin9 dL_law_1099 ?_
  refine lv_aload_n hx hb dL_law_1100 rfl (lv_at hl 1 rfl) ?_
  refine lv_iload hx hb dL_law_1101 (lv_at hl 5 rfl) ?_
  refine lv_iconst (v := (3 : Int32)) hx hb dL_law_1103 (by decide) ?_
  refine lv_iadd hx hb dL_law_1104 ?_
  obtain ⟨hin10, h⟩ := h
  refine va_sld hx hb hX hbl hbA hS hin10 dL_law_1105 ?_
  refine lcall_i (wf := wM cI am) (va_runV (As := [.int (xs (Int32.toNatClampNeg (x4 + (1 : Int32)))), .int (xs (Int32.toNatClampNeg (x4 + (2 : Int32)))), .int (xs (Int32.toNatClampNeg (x4 + (3 : Int32))))]) (rest := []) ⟨hx, hb, hml, hown, hts⟩ (cTX5_earned l dC dI cI am J G H.size (xs (Int32.toNatClampNeg (x4 + (1 : Int32)))) (xs (Int32.toNatClampNeg (x4 + (2 : Int32)))) (xs (Int32.toNatClampNeg (x4 + (3 : Int32)))) _ h) (cwV 3 hts gL_law_X5_earned rfl rfl rfl (by decide +kernel) ⟨(Nat.le_of_ble_eq_true rfl), (Nat.le_of_ble_eq_true rfl)⟩) (pv_W hM hK hN ((hDm _ _).weaken (fun _ _ _ _ => trivial)) 0 5 rfl rfl _) rfl rfl hl.1 rfl (lv_room (Nat.le_of_ble_eq_true rfl)) dL_law_1106 hf1) hDm hS hA hP (hcm _ _ _ _).symm hO (hmo _ _ _) (fun r11 J12 G13 h H locs hM hP hO hS => ?_)
  refine lv_istore (lv' := [(6, .int r11), (5, .int r4), (0, .ref b), (1, .ref (ad 0)), (2, .ref (am 0)), (3, .ref ao), (4, .int x4)]) hx hb dL_law_1109 hl (by decide) rfl (fun ls hl => ?_)
  refine lv_aload_n hx hb dL_law_1111 rfl (lv_at hl 4 rfl) ?_
  refine vp_callSi (cr_of (va_runV (As := []) (rest := []) ⟨hx, hb, hml, hown, hts⟩ (cTX5_thrown l dC dI cI am J12 G13 _ h) (cwV 0 hts gL_law_X5_thrown rfl rfl rfl (by decide +kernel) ⟨(Nat.le_of_ble_eq_true rfl), (Nat.le_of_ble_eq_true rfl)⟩) (pv_R hM hK hN 0 5 rfl rfl _) rfl rfl hl.1 rfl (lv_room (Nat.le_of_ble_eq_true rfl)) dL_law_1112 hf1)) (fun r14 h => ?_)
  refine lv_iload hx hb dL_law_1115 (lv_at hl 1 rfl) ?_
  refine lv_icmp_eq (tgt := 1122) hx hb dL_law_1117 (by decide) (fun c15 => ?_) (fun c15 => ?_)
  · have h := h.1 c15
    refine lv_iload hx hb dL_law_1122 (lv_at hl 1 rfl) ?_
    refine lv_if_ne (tgt := 1139) hx hb dL_law_1124 (by decide) (fun c16 => ?_) (fun c16 => ?_)
    · have h := h.1 c16
      refine lv_goto (tgt := 1334) hx hb dL_law_1139 (by decide) ?_
      obtain ⟨v17, ev17⟩ : ∃ y : Int32, y = x4 + (6 : Int32) := ⟨_, rfl⟩
      have h := h v17 ev17
      refine lv_iinc (v := v17) (lv' := [(4, .int v17), (6, .int r11), (5, .int r4), (0, .ref b), (1, .ref (ad 0)), (2, .ref (am 0)), (3, .ref ao)]) hx hb dL_law_1334 hl (k := 6) rfl (by rw [ev17]; rfl) (by decide) rfl (fun ls hl => ?_)
      refine lv_goto (tgt := 23) hx hb dL_law_1337 (by decide) ?_
      refine W.widen (k := 40 + (k + 1)) (n := 1368 + 6 * (k + 1)) (by omega) (by omega) ?_
      exact ih I5 F6 J12 G13 g7 v17 h (by rw [ev17, hx4]; exact nx6 k) H locs hP hM hO hS ls (lv_sub hl [3, 4, 5, 6, 0] rfl)
    · have h := h.2 c16
      refine lv_aload_n hx hb dL_law_1127 rfl (lv_at hl 5 rfl) ?_
      refine lv_iconst (v := (0 : Int32)) hx hb dL_law_1128 (by decide) ?_
      refine va_lald hx hb hK2 hO 0 1 rfl rfl in01 dL_law_1129 ?_
      refine lv_iload hx hb dL_law_1130 (lv_at hl 0 rfl) ?_
      refine lv_i2l (v := r11.toInt64) hx hb dL_law_1132 rfl ?_
      refine W.lcmp hx hb dL_law_1133 ?_
      refine lv_if_eq (tgt := 1139) hx hb dL_law_1134 (by decide) (fun c18 => ?_) (fun c18 => ?_)
      · have h := h.1 c18
        refine lv_goto (tgt := 1334) hx hb dL_law_1139 (by decide) ?_
        obtain ⟨v19, ev19⟩ : ∃ y : Int32, y = x4 + (6 : Int32) := ⟨_, rfl⟩
        have h := h v19 ev19
        refine lv_iinc (v := v19) (lv' := [(4, .int v19), (6, .int r11), (5, .int r4), (0, .ref b), (1, .ref (ad 0)), (2, .ref (am 0)), (3, .ref ao)]) hx hb dL_law_1334 hl (k := 6) rfl (by rw [ev19]; rfl) (by decide) rfl (fun ls hl => ?_)
        refine lv_goto (tgt := 23) hx hb dL_law_1337 (by decide) ?_
        refine W.widen (k := 40 + (k + 1)) (n := 1368 + 6 * (k + 1)) (by omega) (by omega) ?_
        exact ih I5 F6 J12 G13 g7 v19 h (by rw [ev19, hx4]; exact nx6 k) H locs hP hM hO hS ls (lv_sub hl [3, 4, 5, 6, 0] rfl)
      · have h := h.2 c18
        exact h.elim
  · have h := h.2 c15
    exact h.elim
set_option maxHeartbeats 8000000 in
set_option maxRecDepth 100000 in
theorem sL_15 {p : Program} {l : Launch} {e : Env} {s : State} {m : MethodId} {below : List Frame} {meth : Method} {c : Code} {dC : Nat → ClassId} {dI : Nat → Nat → Nat} {cI cJ : ClassId} {ad am : Nat → Nat} {ao b L : Nat} {xs : Nat → Int32} (hst : l.stackTraces = false) (V : LV p s m meth c b L xs dC dI cI cJ ad am ao) (k : Nat) (hk : k ≤ 511) (K : (Nat → Int32) → (Nat → Nat → Int32) → (Nat → Int32) → (Nat → Nat → Int32) → (Nat → Int64) → Int32 → Prop) (ih : ∀ (I : Nat → Int32) (F : Nat → Nat → Int32) (J : Nat → Int32) (G : Nat → Nat → Int32) (g : Nat → Int64) (x4 : Int32), K I F J G g x4 → x4 = nI (6 * (k + 1)) → ∀ (H : Heap) (locs : List Loc), va_P (dC, dI) vwCl (wC cI ad I F) H → va_P (dC, dI) vwCl (wM cI am J G) H → va_P (dC, dI) vwCl (oC cJ ao g) H → va_S (fun q : Nat => s.heap.size ≤ q) s.heap H locs → ∀ (ls : Array Slot), lv_has ls 7 [(0, .ref b), (1, .ref (ad 0)), (2, .ref (am 0)), (3, .ref ao), (4, .int x4)] → W p l e room_1 s m #[Value.ref b] below meth c H locs (40 + (k + 1)) (1368 + 6 * (k + 1)) (lw_Z below #[Value.ref b] s) (F0 m 23 ls [])) : ∀ (I : Nat → Int32) (F : Nat → Nat → Int32) (J : Nat → Int32) (G : Nat → Nat → Int32) (g : Nat → Int64) (x4 : Int32), pL_15 L xs K I F J G g x4 → x4 = nI (6 * k) → ∀ (H : Heap) (locs : List Loc), va_P (dC, dI) vwCl (wC cI ad I F) H → va_P (dC, dI) vwCl (wM cI am J G) H → va_P (dC, dI) vwCl (oC cJ ao g) H → va_S (fun q : Nat => s.heap.size ≤ q) s.heap H locs → ∀ (ls : Array Slot), lv_has ls 7 [(0, .ref b), (1, .ref (ad 0)), (2, .ref (am 0)), (3, .ref ao), (4, .int x4)] → W p l e room_1 s m #[Value.ref b] below meth c H locs (40 + k) (1368 + 6 * k) (lw_Z below #[Value.ref b] s) (F0 m 1142 ls []) := by
  obtain ⟨hx, hb, hml, hown, hts, hX, hbl, hK2, hN, hT, hC, hZ, hDc, hDm, hAo, hcm, hco, hmo⟩ := V
  have hK : va_K (dC, dI) vwCl [(cI, .int)] s := hK2.sub [0] rfl
  have hA : ∀ q : Nat, s.heap.size ≤ q → (fun q : Nat => s.heap.size ≤ q) q := fun _ h => h
  have hbA : ¬ (fun q : Nat => s.heap.size ≤ q) b := Nat.not_le.mpr hbl
  have hf0 : 40 + k + 0 ≤ room_1.cells ∧ 1368 + 6 * k + 0 ≤ room_1.slots := ⟨by show _ ≤ 1095; omega, by show _ ≤ 9746; omega⟩
  have hfh : 40 + k + 1 ≤ room_1.cells ∧ 1368 + 6 * k + 6 ≤ room_1.slots := ⟨by show _ ≤ 1095; omega, by show _ ≤ 9746; omega⟩
  have hf1 : 40 + k + 1 + 0 ≤ room_1.cells ∧ 1368 + 6 * k + 6 + 0 ≤ room_1.slots := ⟨by show _ ≤ 1095; omega, by show _ ≤ 9746; omega⟩
  intro I F J G g x4 h hx4 H locs hP hM hO hS ls hl
  unfold pL_15 at h
  refine lv_aload_n hx hb dL_law_1142 rfl (lv_at hl 1 rfl) ?_
  refine lv_aload_n hx hb dL_law_1143 rfl (lv_at hl 0 rfl) ?_
  refine lv_iload hx hb dL_law_1144 (lv_at hl 4 rfl) ?_
  refine lv_iconst (v := (1 : Int32)) hx hb dL_law_1146 (by decide) ?_
  refine lv_iadd hx hb dL_law_1147 ?_
  obtain ⟨hin1, h⟩ := h
  refine va_sld hx hb hX hbl hbA hS hin1 dL_law_1148 ?_
  refine lv_aload_n hx hb dL_law_1149 rfl (lv_at hl 0 rfl) ?_
  refine lv_iload hx hb dL_law_1150 (lv_at hl 4 rfl) ?_
  refine lv_iconst (v := (2 : Int32)) hx hb dL_law_1152 (by decide) ?_
  refine lv_iadd hx hb dL_law_1153 ?_
  obtain ⟨hin2, h⟩ := h
  refine va_sld hx hb hX hbl hbA hS hin2 dL_law_1154 ?_
  refine lv_aload_n hx hb dL_law_1155 rfl (lv_at hl 3 rfl) ?_
  refine lcall_h (vx_runSW (As := [.ref (ad 0), .int (xs (Int32.toNatClampNeg (x4 + (1 : Int32)))), .int (xs (Int32.toNatClampNeg (x4 + (2 : Int32)))), .ref ao]) (rest := []) ⟨hx, hb, hml, hown, hts⟩ (cTL_settled l hst dC dI cI cJ ad ao I F g H.size (xs (Int32.toNatClampNeg (x4 + (1 : Int32)))) (xs (Int32.toNatClampNeg (x4 + (2 : Int32)))) _ h) (vx_cwSW 4 hts gL_law_L_settled rfl rfl rfl (by decide +kernel) ⟨(Nat.le_of_ble_eq_true rfl), (Nat.le_of_ble_eq_true rfl)⟩) (pv_H hP hO hK2 hN hT hC hZ hS hDc hAo hA (hco _ _ _)) rfl rfl hl.1 rfl (lv_room (Nat.le_of_ble_eq_true rfl)) dL_law_1156 hfh) hDc hAo hS hA hM (hcm _ _ _ _) (hmo _ _ g) (fun r3 I4 F5 g6 h H locs hP hM hO hS => ?_)
  refine lv_istore (lv' := [(5, .int r3), (0, .ref b), (1, .ref (ad 0)), (2, .ref (am 0)), (3, .ref ao), (4, .int x4)]) hx hb dL_law_1159 hl (by decide) rfl (fun ls hl => ?_)
  refine lv_aload_n hx hb dL_law_1161 rfl (lv_at hl 3 rfl) ?_
  refine lv_aload_n hx hb dL_law_1162 rfl (lv_at hl 1 rfl) ?_
  refine lv_iload hx hb dL_law_1163 (lv_at hl 5 rfl) ?_
  refine lv_iconst (v := (1 : Int32)) hx hb dL_law_1165 (by decide) ?_
  refine lv_iadd hx hb dL_law_1166 ?_
  obtain ⟨hin7, h⟩ := h
  refine va_sld hx hb hX hbl hbA hS hin7 dL_law_1167 ?_
  refine lv_aload_n hx hb dL_law_1168 rfl (lv_at hl 1 rfl) ?_
  refine lv_iload hx hb dL_law_1169 (lv_at hl 5 rfl) ?_
  refine lv_iconst (v := (2 : Int32)) hx hb dL_law_1171 (by decide) ?_
  refine lv_iadd hx hb dL_law_1172 ?_
  obtain ⟨hin8, h⟩ := h
  refine va_sld hx hb hX hbl hbA hS hin8 dL_law_1173 ?_
  refine lcall_i (wf := wM cI am) (va_runV (As := [.int (xs (Int32.toNatClampNeg (x4 + (1 : Int32)))), .int (xs (Int32.toNatClampNeg (x4 + (2 : Int32))))]) (rest := []) ⟨hx, hb, hml, hown, hts⟩ (cTX5_settled l dC dI cI am J G H.size (xs (Int32.toNatClampNeg (x4 + (1 : Int32)))) (xs (Int32.toNatClampNeg (x4 + (2 : Int32)))) _ h) (cwV 2 hts gL_law_X5_settled rfl rfl rfl (by decide +kernel) ⟨(Nat.le_of_ble_eq_true rfl), (Nat.le_of_ble_eq_true rfl)⟩) (pv_W hM hK hN ((hDm _ _).weaken (fun _ _ _ _ => trivial)) 0 5 rfl rfl _) rfl rfl hl.1 rfl (lv_room (Nat.le_of_ble_eq_true rfl)) dL_law_1174 hf1) hDm hS hA hP (hcm _ _ _ _).symm hO (hmo _ _ _) (fun r9 J10 G11 h H locs hM hP hO hS => ?_)
  refine lv_istore (lv' := [(6, .int r9), (5, .int r3), (0, .ref b), (1, .ref (ad 0)), (2, .ref (am 0)), (3, .ref ao), (4, .int x4)]) hx hb dL_law_1177 hl (by decide) rfl (fun ls hl => ?_)
  refine lv_aload_n hx hb dL_law_1179 rfl (lv_at hl 4 rfl) ?_
  refine vp_callSi (cr_of (va_runV (As := []) (rest := []) ⟨hx, hb, hml, hown, hts⟩ (cTX5_thrown l dC dI cI am J10 G11 _ h) (cwV 0 hts gL_law_X5_thrown rfl rfl rfl (by decide +kernel) ⟨(Nat.le_of_ble_eq_true rfl), (Nat.le_of_ble_eq_true rfl)⟩) (pv_R hM hK hN 0 5 rfl rfl _) rfl rfl hl.1 rfl (lv_room (Nat.le_of_ble_eq_true rfl)) dL_law_1180 hf1)) (fun r12 h => ?_)
  refine lv_iload hx hb dL_law_1183 (lv_at hl 1 rfl) ?_
  refine lv_icmp_eq (tgt := 1190) hx hb dL_law_1185 (by decide) (fun c13 => ?_) (fun c13 => ?_)
  · have h := h.1 c13
    refine lv_iload hx hb dL_law_1190 (lv_at hl 1 rfl) ?_
    refine lv_if_ne (tgt := 1207) hx hb dL_law_1192 (by decide) (fun c14 => ?_) (fun c14 => ?_)
    · have h := h.1 c14
      refine lv_goto (tgt := 1334) hx hb dL_law_1207 (by decide) ?_
      obtain ⟨v15, ev15⟩ : ∃ y : Int32, y = x4 + (6 : Int32) := ⟨_, rfl⟩
      have h := h v15 ev15
      refine lv_iinc (v := v15) (lv' := [(4, .int v15), (6, .int r9), (5, .int r3), (0, .ref b), (1, .ref (ad 0)), (2, .ref (am 0)), (3, .ref ao)]) hx hb dL_law_1334 hl (k := 6) rfl (by rw [ev15]; rfl) (by decide) rfl (fun ls hl => ?_)
      refine lv_goto (tgt := 23) hx hb dL_law_1337 (by decide) ?_
      refine W.widen (k := 40 + (k + 1)) (n := 1368 + 6 * (k + 1)) (by omega) (by omega) ?_
      exact ih I4 F5 J10 G11 g6 v15 h (by rw [ev15, hx4]; exact nx6 k) H locs hP hM hO hS ls (lv_sub hl [3, 4, 5, 6, 0] rfl)
    · have h := h.2 c14
      refine lv_aload_n hx hb dL_law_1195 rfl (lv_at hl 5 rfl) ?_
      refine lv_iconst (v := (0 : Int32)) hx hb dL_law_1196 (by decide) ?_
      refine va_lald hx hb hK2 hO 0 1 rfl rfl in01 dL_law_1197 ?_
      refine lv_iload hx hb dL_law_1198 (lv_at hl 0 rfl) ?_
      refine lv_i2l (v := r9.toInt64) hx hb dL_law_1200 rfl ?_
      refine W.lcmp hx hb dL_law_1201 ?_
      refine lv_if_eq (tgt := 1207) hx hb dL_law_1202 (by decide) (fun c16 => ?_) (fun c16 => ?_)
      · have h := h.1 c16
        refine lv_goto (tgt := 1334) hx hb dL_law_1207 (by decide) ?_
        obtain ⟨v17, ev17⟩ : ∃ y : Int32, y = x4 + (6 : Int32) := ⟨_, rfl⟩
        have h := h v17 ev17
        refine lv_iinc (v := v17) (lv' := [(4, .int v17), (6, .int r9), (5, .int r3), (0, .ref b), (1, .ref (ad 0)), (2, .ref (am 0)), (3, .ref ao)]) hx hb dL_law_1334 hl (k := 6) rfl (by rw [ev17]; rfl) (by decide) rfl (fun ls hl => ?_)
        refine lv_goto (tgt := 23) hx hb dL_law_1337 (by decide) ?_
        refine W.widen (k := 40 + (k + 1)) (n := 1368 + 6 * (k + 1)) (by omega) (by omega) ?_
        exact ih I4 F5 J10 G11 g6 v17 h (by rw [ev17, hx4]; exact nx6 k) H locs hP hM hO hS ls (lv_sub hl [3, 4, 5, 6, 0] rfl)
      · have h := h.2 c16
        exact h.elim
  · have h := h.2 c13
    exact h.elim
set_option maxHeartbeats 8000000 in
set_option maxRecDepth 100000 in
theorem sL_16 {p : Program} {l : Launch} {e : Env} {s : State} {m : MethodId} {below : List Frame} {meth : Method} {c : Code} {dC : Nat → ClassId} {dI : Nat → Nat → Nat} {cI cJ : ClassId} {ad am : Nat → Nat} {ao b L : Nat} {xs : Nat → Int32} (hst : l.stackTraces = false) (V : LV p s m meth c b L xs dC dI cI cJ ad am ao) (k : Nat) (hk : k ≤ 511) (K : (Nat → Int32) → (Nat → Nat → Int32) → (Nat → Int32) → (Nat → Nat → Int32) → (Nat → Int64) → Int32 → Prop) (ih : ∀ (I : Nat → Int32) (F : Nat → Nat → Int32) (J : Nat → Int32) (G : Nat → Nat → Int32) (g : Nat → Int64) (x4 : Int32), K I F J G g x4 → x4 = nI (6 * (k + 1)) → ∀ (H : Heap) (locs : List Loc), va_P (dC, dI) vwCl (wC cI ad I F) H → va_P (dC, dI) vwCl (wM cI am J G) H → va_P (dC, dI) vwCl (oC cJ ao g) H → va_S (fun q : Nat => s.heap.size ≤ q) s.heap H locs → ∀ (ls : Array Slot), lv_has ls 7 [(0, .ref b), (1, .ref (ad 0)), (2, .ref (am 0)), (3, .ref ao), (4, .int x4)] → W p l e room_1 s m #[Value.ref b] below meth c H locs (40 + (k + 1)) (1368 + 6 * (k + 1)) (lw_Z below #[Value.ref b] s) (F0 m 23 ls [])) : ∀ (I : Nat → Int32) (F : Nat → Nat → Int32) (J : Nat → Int32) (G : Nat → Nat → Int32) (g : Nat → Int64) (x4 : Int32), pL_16 L xs K I F J G g x4 → x4 = nI (6 * k) → ∀ (H : Heap) (locs : List Loc), va_P (dC, dI) vwCl (wC cI ad I F) H → va_P (dC, dI) vwCl (wM cI am J G) H → va_P (dC, dI) vwCl (oC cJ ao g) H → va_S (fun q : Nat => s.heap.size ≤ q) s.heap H locs → ∀ (ls : Array Slot), lv_has ls 7 [(0, .ref b), (1, .ref (ad 0)), (2, .ref (am 0)), (3, .ref ao), (4, .int x4)] → W p l e room_1 s m #[Value.ref b] below meth c H locs (40 + k) (1368 + 6 * k) (lw_Z below #[Value.ref b] s) (F0 m 1210 ls []) := by
  obtain ⟨hx, hb, hml, hown, hts, hX, hbl, hK2, hN, hT, hC, hZ, hDc, hDm, hAo, hcm, hco, hmo⟩ := V
  have hK : va_K (dC, dI) vwCl [(cI, .int)] s := hK2.sub [0] rfl
  have hA : ∀ q : Nat, s.heap.size ≤ q → (fun q : Nat => s.heap.size ≤ q) q := fun _ h => h
  have hbA : ¬ (fun q : Nat => s.heap.size ≤ q) b := Nat.not_le.mpr hbl
  have hf0 : 40 + k + 0 ≤ room_1.cells ∧ 1368 + 6 * k + 0 ≤ room_1.slots := ⟨by show _ ≤ 1095; omega, by show _ ≤ 9746; omega⟩
  have hfh : 40 + k + 1 ≤ room_1.cells ∧ 1368 + 6 * k + 6 ≤ room_1.slots := ⟨by show _ ≤ 1095; omega, by show _ ≤ 9746; omega⟩
  have hf1 : 40 + k + 1 + 0 ≤ room_1.cells ∧ 1368 + 6 * k + 6 + 0 ≤ room_1.slots := ⟨by show _ ≤ 1095; omega, by show _ ≤ 9746; omega⟩
  intro I F J G g x4 h hx4 H locs hP hM hO hS ls hl
  unfold pL_16 at h
  refine lv_aload_n hx hb dL_law_1210 rfl (lv_at hl 1 rfl) ?_
  refine lv_aload_n hx hb dL_law_1211 rfl (lv_at hl 0 rfl) ?_
  refine lv_iload hx hb dL_law_1212 (lv_at hl 4 rfl) ?_
  refine lv_iconst (v := (1 : Int32)) hx hb dL_law_1214 (by decide) ?_
  refine lv_iadd hx hb dL_law_1215 ?_
  obtain ⟨hin1, h⟩ := h
  refine va_sld hx hb hX hbl hbA hS hin1 dL_law_1216 ?_
  refine lv_aload_n hx hb dL_law_1217 rfl (lv_at hl 0 rfl) ?_
  refine lv_iload hx hb dL_law_1218 (lv_at hl 4 rfl) ?_
  refine lv_iconst (v := (2 : Int32)) hx hb dL_law_1220 (by decide) ?_
  refine lv_iadd hx hb dL_law_1221 ?_
  obtain ⟨hin2, h⟩ := h
  refine va_sld hx hb hX hbl hbA hS hin2 dL_law_1222 ?_
  refine lv_aload_n hx hb dL_law_1223 rfl (lv_at hl 3 rfl) ?_
  refine lcall_h (vx_runSW (As := [.ref (ad 0), .int (xs (Int32.toNatClampNeg (x4 + (1 : Int32)))), .int (xs (Int32.toNatClampNeg (x4 + (2 : Int32)))), .ref ao]) (rest := []) ⟨hx, hb, hml, hown, hts⟩ (cTL_posting l hst dC dI cI cJ ad ao I F g H.size (xs (Int32.toNatClampNeg (x4 + (1 : Int32)))) (xs (Int32.toNatClampNeg (x4 + (2 : Int32)))) _ h) (vx_cwSW 4 hts gL_law_L_posting rfl rfl rfl (by decide +kernel) ⟨(Nat.le_of_ble_eq_true rfl), (Nat.le_of_ble_eq_true rfl)⟩) (pv_H hP hO hK2 hN hT hC hZ hS hDc hAo hA (hco _ _ _)) rfl rfl hl.1 rfl (lv_room (Nat.le_of_ble_eq_true rfl)) dL_law_1224 hfh) hDc hAo hS hA hM (hcm _ _ _ _) (hmo _ _ g) (fun r3 I4 F5 g6 h H locs hP hM hO hS => ?_)
  refine lv_istore (lv' := [(5, .int r3), (0, .ref b), (1, .ref (ad 0)), (2, .ref (am 0)), (3, .ref ao), (4, .int x4)]) hx hb dL_law_1227 hl (by decide) rfl (fun ls hl => ?_)
  refine lv_aload_n hx hb dL_law_1229 rfl (lv_at hl 3 rfl) ?_
  refine lv_aload_n hx hb dL_law_1230 rfl (lv_at hl 1 rfl) ?_
  refine lv_iload hx hb dL_law_1231 (lv_at hl 5 rfl) ?_
  refine lv_iconst (v := (1 : Int32)) hx hb dL_law_1233 (by decide) ?_
  refine lv_iadd hx hb dL_law_1234 ?_
  obtain ⟨hin7, h⟩ := h
  refine va_sld hx hb hX hbl hbA hS hin7 dL_law_1235 ?_
  refine lv_aload_n hx hb dL_law_1236 rfl (lv_at hl 1 rfl) ?_
  refine lv_iload hx hb dL_law_1237 (lv_at hl 5 rfl) ?_
  refine lv_iconst (v := (2 : Int32)) hx hb dL_law_1239 (by decide) ?_
  refine lv_iadd hx hb dL_law_1240 ?_
  obtain ⟨hin8, h⟩ := h
  refine va_sld hx hb hX hbl hbA hS hin8 dL_law_1241 ?_
  refine lcall_i (wf := wM cI am) (va_runV (As := [.int (xs (Int32.toNatClampNeg (x4 + (1 : Int32)))), .int (xs (Int32.toNatClampNeg (x4 + (2 : Int32))))]) (rest := []) ⟨hx, hb, hml, hown, hts⟩ (cTX5_posting l dC dI cI am J G H.size (xs (Int32.toNatClampNeg (x4 + (1 : Int32)))) (xs (Int32.toNatClampNeg (x4 + (2 : Int32)))) _ h) (cwV 2 hts gL_law_X5_posting rfl rfl rfl (by decide +kernel) ⟨(Nat.le_of_ble_eq_true rfl), (Nat.le_of_ble_eq_true rfl)⟩) (pv_W hM hK hN ((hDm _ _).weaken (fun _ _ _ _ => trivial)) 0 5 rfl rfl _) rfl rfl hl.1 rfl (lv_room (Nat.le_of_ble_eq_true rfl)) dL_law_1242 hf1) hDm hS hA hP (hcm _ _ _ _).symm hO (hmo _ _ _) (fun r9 J10 G11 h H locs hM hP hO hS => ?_)
  refine lv_istore (lv' := [(6, .int r9), (5, .int r3), (0, .ref b), (1, .ref (ad 0)), (2, .ref (am 0)), (3, .ref ao), (4, .int x4)]) hx hb dL_law_1245 hl (by decide) rfl (fun ls hl => ?_)
  refine lv_aload_n hx hb dL_law_1247 rfl (lv_at hl 4 rfl) ?_
  refine vp_callSi (cr_of (va_runV (As := []) (rest := []) ⟨hx, hb, hml, hown, hts⟩ (cTX5_thrown l dC dI cI am J10 G11 _ h) (cwV 0 hts gL_law_X5_thrown rfl rfl rfl (by decide +kernel) ⟨(Nat.le_of_ble_eq_true rfl), (Nat.le_of_ble_eq_true rfl)⟩) (pv_R hM hK hN 0 5 rfl rfl _) rfl rfl hl.1 rfl (lv_room (Nat.le_of_ble_eq_true rfl)) dL_law_1248 hf1)) (fun r12 h => ?_)
  refine lv_iload hx hb dL_law_1251 (lv_at hl 1 rfl) ?_
  refine lv_icmp_eq (tgt := 1258) hx hb dL_law_1253 (by decide) (fun c13 => ?_) (fun c13 => ?_)
  · have h := h.1 c13
    refine lv_iload hx hb dL_law_1258 (lv_at hl 1 rfl) ?_
    refine lv_if_ne (tgt := 1275) hx hb dL_law_1260 (by decide) (fun c14 => ?_) (fun c14 => ?_)
    · have h := h.1 c14
      refine lv_goto (tgt := 1334) hx hb dL_law_1275 (by decide) ?_
      obtain ⟨v15, ev15⟩ : ∃ y : Int32, y = x4 + (6 : Int32) := ⟨_, rfl⟩
      have h := h v15 ev15
      refine lv_iinc (v := v15) (lv' := [(4, .int v15), (6, .int r9), (5, .int r3), (0, .ref b), (1, .ref (ad 0)), (2, .ref (am 0)), (3, .ref ao)]) hx hb dL_law_1334 hl (k := 6) rfl (by rw [ev15]; rfl) (by decide) rfl (fun ls hl => ?_)
      refine lv_goto (tgt := 23) hx hb dL_law_1337 (by decide) ?_
      refine W.widen (k := 40 + (k + 1)) (n := 1368 + 6 * (k + 1)) (by omega) (by omega) ?_
      exact ih I4 F5 J10 G11 g6 v15 h (by rw [ev15, hx4]; exact nx6 k) H locs hP hM hO hS ls (lv_sub hl [3, 4, 5, 6, 0] rfl)
    · have h := h.2 c14
      refine lv_aload_n hx hb dL_law_1263 rfl (lv_at hl 5 rfl) ?_
      refine lv_iconst (v := (0 : Int32)) hx hb dL_law_1264 (by decide) ?_
      refine va_lald hx hb hK2 hO 0 1 rfl rfl in01 dL_law_1265 ?_
      refine lv_iload hx hb dL_law_1266 (lv_at hl 0 rfl) ?_
      refine lv_i2l (v := r9.toInt64) hx hb dL_law_1268 rfl ?_
      refine W.lcmp hx hb dL_law_1269 ?_
      refine lv_if_eq (tgt := 1275) hx hb dL_law_1270 (by decide) (fun c16 => ?_) (fun c16 => ?_)
      · have h := h.1 c16
        refine lv_goto (tgt := 1334) hx hb dL_law_1275 (by decide) ?_
        obtain ⟨v17, ev17⟩ : ∃ y : Int32, y = x4 + (6 : Int32) := ⟨_, rfl⟩
        have h := h v17 ev17
        refine lv_iinc (v := v17) (lv' := [(4, .int v17), (6, .int r9), (5, .int r3), (0, .ref b), (1, .ref (ad 0)), (2, .ref (am 0)), (3, .ref ao)]) hx hb dL_law_1334 hl (k := 6) rfl (by rw [ev17]; rfl) (by decide) rfl (fun ls hl => ?_)
        refine lv_goto (tgt := 23) hx hb dL_law_1337 (by decide) ?_
        refine W.widen (k := 40 + (k + 1)) (n := 1368 + 6 * (k + 1)) (by omega) (by omega) ?_
        exact ih I4 F5 J10 G11 g6 v17 h (by rw [ev17, hx4]; exact nx6 k) H locs hP hM hO hS ls (lv_sub hl [3, 4, 5, 6, 0] rfl)
      · have h := h.2 c16
        exact h.elim
  · have h := h.2 c13
    exact h.elim
set_option maxHeartbeats 8000000 in
set_option maxRecDepth 100000 in
theorem sL_17 {p : Program} {l : Launch} {e : Env} {s : State} {m : MethodId} {below : List Frame} {meth : Method} {c : Code} {dC : Nat → ClassId} {dI : Nat → Nat → Nat} {cI cJ : ClassId} {ad am : Nat → Nat} {ao b L : Nat} {xs : Nat → Int32} (hst : l.stackTraces = false) (V : LV p s m meth c b L xs dC dI cI cJ ad am ao) (k : Nat) (hk : k ≤ 511) (K : (Nat → Int32) → (Nat → Nat → Int32) → (Nat → Int32) → (Nat → Nat → Int32) → (Nat → Int64) → Int32 → Prop) (ih : ∀ (I : Nat → Int32) (F : Nat → Nat → Int32) (J : Nat → Int32) (G : Nat → Nat → Int32) (g : Nat → Int64) (x4 : Int32), K I F J G g x4 → x4 = nI (6 * (k + 1)) → ∀ (H : Heap) (locs : List Loc), va_P (dC, dI) vwCl (wC cI ad I F) H → va_P (dC, dI) vwCl (wM cI am J G) H → va_P (dC, dI) vwCl (oC cJ ao g) H → va_S (fun q : Nat => s.heap.size ≤ q) s.heap H locs → ∀ (ls : Array Slot), lv_has ls 7 [(0, .ref b), (1, .ref (ad 0)), (2, .ref (am 0)), (3, .ref ao), (4, .int x4)] → W p l e room_1 s m #[Value.ref b] below meth c H locs (40 + (k + 1)) (1368 + 6 * (k + 1)) (lw_Z below #[Value.ref b] s) (F0 m 23 ls [])) : ∀ (I : Nat → Int32) (F : Nat → Nat → Int32) (J : Nat → Int32) (G : Nat → Nat → Int32) (g : Nat → Int64) (x4 : Int32), pL_17 L xs K I F J G g x4 → x4 = nI (6 * k) → ∀ (H : Heap) (locs : List Loc), va_P (dC, dI) vwCl (wC cI ad I F) H → va_P (dC, dI) vwCl (wM cI am J G) H → va_P (dC, dI) vwCl (oC cJ ao g) H → va_S (fun q : Nat => s.heap.size ≤ q) s.heap H locs → ∀ (ls : Array Slot), lv_has ls 7 [(0, .ref b), (1, .ref (ad 0)), (2, .ref (am 0)), (3, .ref ao), (4, .int x4)] → W p l e room_1 s m #[Value.ref b] below meth c H locs (40 + k) (1368 + 6 * k) (lw_Z below #[Value.ref b] s) (F0 m 1278 ls []) := by
  obtain ⟨hx, hb, hml, hown, hts, hX, hbl, hK2, hN, hT, hC, hZ, hDc, hDm, hAo, hcm, hco, hmo⟩ := V
  have hK : va_K (dC, dI) vwCl [(cI, .int)] s := hK2.sub [0] rfl
  have hA : ∀ q : Nat, s.heap.size ≤ q → (fun q : Nat => s.heap.size ≤ q) q := fun _ h => h
  have hbA : ¬ (fun q : Nat => s.heap.size ≤ q) b := Nat.not_le.mpr hbl
  have hf0 : 40 + k + 0 ≤ room_1.cells ∧ 1368 + 6 * k + 0 ≤ room_1.slots := ⟨by show _ ≤ 1095; omega, by show _ ≤ 9746; omega⟩
  have hfh : 40 + k + 1 ≤ room_1.cells ∧ 1368 + 6 * k + 6 ≤ room_1.slots := ⟨by show _ ≤ 1095; omega, by show _ ≤ 9746; omega⟩
  have hf1 : 40 + k + 1 + 0 ≤ room_1.cells ∧ 1368 + 6 * k + 6 + 0 ≤ room_1.slots := ⟨by show _ ≤ 1095; omega, by show _ ≤ 9746; omega⟩
  intro I F J G g x4 h hx4 H locs hP hM hO hS ls hl
  unfold pL_17 at h
  refine lv_aload_n hx hb dL_law_1278 rfl (lv_at hl 1 rfl) ?_
  refine lv_aload_n hx hb dL_law_1279 rfl (lv_at hl 0 rfl) ?_
  refine lv_iload hx hb dL_law_1280 (lv_at hl 4 rfl) ?_
  refine lv_iconst (v := (1 : Int32)) hx hb dL_law_1282 (by decide) ?_
  refine lv_iadd hx hb dL_law_1283 ?_
  obtain ⟨hin1, h⟩ := h
  refine va_sld hx hb hX hbl hbA hS hin1 dL_law_1284 ?_
  refine lv_aload_n hx hb dL_law_1285 rfl (lv_at hl 3 rfl) ?_
  refine lcall_h (vx_runSW (As := [.ref (ad 0), .int (xs (Int32.toNatClampNeg (x4 + (1 : Int32)))), .ref ao]) (rest := []) ⟨hx, hb, hml, hown, hts⟩ (cTL_balance l hst dC dI cI cJ ad ao I F g H.size (xs (Int32.toNatClampNeg (x4 + (1 : Int32)))) _ h) (vx_cwSW 3 hts gL_law_L_balance rfl rfl rfl (by decide +kernel) ⟨(Nat.le_of_ble_eq_true rfl), (Nat.le_of_ble_eq_true rfl)⟩) (pv_H hP hO hK2 hN hT hC hZ hS hDc hAo hA (hco _ _ _)) rfl rfl hl.1 rfl (lv_room (Nat.le_of_ble_eq_true rfl)) dL_law_1286 hfh) hDc hAo hS hA hM (hcm _ _ _ _) (hmo _ _ g) (fun r2 I3 F4 g5 h H locs hP hM hO hS => ?_)
  refine lv_istore (lv' := [(5, .int r2), (0, .ref b), (1, .ref (ad 0)), (2, .ref (am 0)), (3, .ref ao), (4, .int x4)]) hx hb dL_law_1289 hl (by decide) rfl (fun ls hl => ?_)
  refine lv_aload_n hx hb dL_law_1291 rfl (lv_at hl 3 rfl) ?_
  refine lv_aload_n hx hb dL_law_1292 rfl (lv_at hl 1 rfl) ?_
  refine lv_iload hx hb dL_law_1293 (lv_at hl 5 rfl) ?_
  refine lv_iconst (v := (1 : Int32)) hx hb dL_law_1295 (by decide) ?_
  refine lv_iadd hx hb dL_law_1296 ?_
  obtain ⟨hin6, h⟩ := h
  refine va_sld hx hb hX hbl hbA hS hin6 dL_law_1297 ?_
  refine lcall_i (wf := wM cI am) (va_runV (As := [.int (xs (Int32.toNatClampNeg (x4 + (1 : Int32))))]) (rest := []) ⟨hx, hb, hml, hown, hts⟩ (cTX5_balance l dC dI cI am J G H.size (xs (Int32.toNatClampNeg (x4 + (1 : Int32)))) _ h) (cwV 1 hts gL_law_X5_balance rfl rfl rfl (by decide +kernel) ⟨(Nat.le_of_ble_eq_true rfl), (Nat.le_of_ble_eq_true rfl)⟩) (pv_W hM hK hN ((hDm _ _).weaken (fun _ _ _ _ => trivial)) 0 5 rfl rfl _) rfl rfl hl.1 rfl (lv_room (Nat.le_of_ble_eq_true rfl)) dL_law_1298 hf1) hDm hS hA hP (hcm _ _ _ _).symm hO (hmo _ _ _) (fun r7 J8 G9 h H locs hM hP hO hS => ?_)
  refine lv_istore (lv' := [(6, .int r7), (5, .int r2), (0, .ref b), (1, .ref (ad 0)), (2, .ref (am 0)), (3, .ref ao), (4, .int x4)]) hx hb dL_law_1301 hl (by decide) rfl (fun ls hl => ?_)
  refine lv_aload_n hx hb dL_law_1303 rfl (lv_at hl 4 rfl) ?_
  refine vp_callSi (cr_of (va_runV (As := []) (rest := []) ⟨hx, hb, hml, hown, hts⟩ (cTX5_thrown l dC dI cI am J8 G9 _ h) (cwV 0 hts gL_law_X5_thrown rfl rfl rfl (by decide +kernel) ⟨(Nat.le_of_ble_eq_true rfl), (Nat.le_of_ble_eq_true rfl)⟩) (pv_R hM hK hN 0 5 rfl rfl _) rfl rfl hl.1 rfl (lv_room (Nat.le_of_ble_eq_true rfl)) dL_law_1304 hf1)) (fun r10 h => ?_)
  refine lv_iload hx hb dL_law_1307 (lv_at hl 1 rfl) ?_
  refine lv_icmp_eq (tgt := 1314) hx hb dL_law_1309 (by decide) (fun c11 => ?_) (fun c11 => ?_)
  · have h := h.1 c11
    refine lv_iload hx hb dL_law_1314 (lv_at hl 1 rfl) ?_
    refine lv_if_ne (tgt := 1331) hx hb dL_law_1316 (by decide) (fun c12 => ?_) (fun c12 => ?_)
    · have h := h.1 c12
      refine lv_goto (tgt := 1334) hx hb dL_law_1331 (by decide) ?_
      obtain ⟨v13, ev13⟩ : ∃ y : Int32, y = x4 + (6 : Int32) := ⟨_, rfl⟩
      have h := h v13 ev13
      refine lv_iinc (v := v13) (lv' := [(4, .int v13), (6, .int r7), (5, .int r2), (0, .ref b), (1, .ref (ad 0)), (2, .ref (am 0)), (3, .ref ao)]) hx hb dL_law_1334 hl (k := 6) rfl (by rw [ev13]; rfl) (by decide) rfl (fun ls hl => ?_)
      refine lv_goto (tgt := 23) hx hb dL_law_1337 (by decide) ?_
      refine W.widen (k := 40 + (k + 1)) (n := 1368 + 6 * (k + 1)) (by omega) (by omega) ?_
      exact ih I3 F4 J8 G9 g5 v13 h (by rw [ev13, hx4]; exact nx6 k) H locs hP hM hO hS ls (lv_sub hl [3, 4, 5, 6, 0] rfl)
    · have h := h.2 c12
      refine lv_aload_n hx hb dL_law_1319 rfl (lv_at hl 5 rfl) ?_
      refine lv_iconst (v := (0 : Int32)) hx hb dL_law_1320 (by decide) ?_
      refine va_lald hx hb hK2 hO 0 1 rfl rfl in01 dL_law_1321 ?_
      refine lv_iload hx hb dL_law_1322 (lv_at hl 0 rfl) ?_
      refine lv_i2l (v := r7.toInt64) hx hb dL_law_1324 rfl ?_
      refine W.lcmp hx hb dL_law_1325 ?_
      refine lv_if_eq (tgt := 1331) hx hb dL_law_1326 (by decide) (fun c14 => ?_) (fun c14 => ?_)
      · have h := h.1 c14
        refine lv_goto (tgt := 1334) hx hb dL_law_1331 (by decide) ?_
        obtain ⟨v15, ev15⟩ : ∃ y : Int32, y = x4 + (6 : Int32) := ⟨_, rfl⟩
        have h := h v15 ev15
        refine lv_iinc (v := v15) (lv' := [(4, .int v15), (6, .int r7), (5, .int r2), (0, .ref b), (1, .ref (ad 0)), (2, .ref (am 0)), (3, .ref ao)]) hx hb dL_law_1334 hl (k := 6) rfl (by rw [ev15]; rfl) (by decide) rfl (fun ls hl => ?_)
        refine lv_goto (tgt := 23) hx hb dL_law_1337 (by decide) ?_
        refine W.widen (k := 40 + (k + 1)) (n := 1368 + 6 * (k + 1)) (by omega) (by omega) ?_
        exact ih I3 F4 J8 G9 g5 v15 h (by rw [ev15, hx4]; exact nx6 k) H locs hP hM hO hS ls (lv_sub hl [3, 4, 5, 6, 0] rfl)
      · have h := h.2 c14
        exact h.elim
  · have h := h.2 c11
    exact h.elim
set_option maxHeartbeats 8000000 in
set_option maxRecDepth 100000 in
theorem sL_d {p : Program} {l : Launch} {e : Env} {s : State} {m : MethodId} {below : List Frame} {meth : Method} {c : Code} {dC : Nat → ClassId} {dI : Nat → Nat → Nat} {cI cJ : ClassId} {ad am : Nat → Nat} {ao b L : Nat} {xs : Nat → Int32} (hst : l.stackTraces = false) (V : LV p s m meth c b L xs dC dI cI cJ ad am ao) (k : Nat) (hk : k ≤ 511) (K : (Nat → Int32) → (Nat → Nat → Int32) → (Nat → Int32) → (Nat → Nat → Int32) → (Nat → Int64) → Int32 → Prop) (ih : ∀ (I : Nat → Int32) (F : Nat → Nat → Int32) (J : Nat → Int32) (G : Nat → Nat → Int32) (g : Nat → Int64) (x4 : Int32), K I F J G g x4 → x4 = nI (6 * (k + 1)) → ∀ (H : Heap) (locs : List Loc), va_P (dC, dI) vwCl (wC cI ad I F) H → va_P (dC, dI) vwCl (wM cI am J G) H → va_P (dC, dI) vwCl (oC cJ ao g) H → va_S (fun q : Nat => s.heap.size ≤ q) s.heap H locs → ∀ (ls : Array Slot), lv_has ls 7 [(0, .ref b), (1, .ref (ad 0)), (2, .ref (am 0)), (3, .ref ao), (4, .int x4)] → W p l e room_1 s m #[Value.ref b] below meth c H locs (40 + (k + 1)) (1368 + 6 * (k + 1)) (lw_Z below #[Value.ref b] s) (F0 m 23 ls [])) : ∀ (I : Nat → Int32) (F : Nat → Nat → Int32) (J : Nat → Int32) (G : Nat → Nat → Int32) (g : Nat → Int64) (x4 : Int32), pL_d L xs K I F J G g x4 → x4 = nI (6 * k) → ∀ (H : Heap) (locs : List Loc), va_P (dC, dI) vwCl (wC cI ad I F) H → va_P (dC, dI) vwCl (wM cI am J G) H → va_P (dC, dI) vwCl (oC cJ ao g) H → va_S (fun q : Nat => s.heap.size ≤ q) s.heap H locs → ∀ (ls : Array Slot), lv_has ls 7 [(0, .ref b), (1, .ref (ad 0)), (2, .ref (am 0)), (3, .ref ao), (4, .int x4)] → W p l e room_1 s m #[Value.ref b] below meth c H locs (40 + k) (1368 + 6 * k) (lw_Z below #[Value.ref b] s) (F0 m 1334 ls []) := by
  obtain ⟨hx, hb, hml, hown, hts, hX, hbl, hK2, hN, hT, hC, hZ, hDc, hDm, hAo, hcm, hco, hmo⟩ := V
  have hK : va_K (dC, dI) vwCl [(cI, .int)] s := hK2.sub [0] rfl
  have hA : ∀ q : Nat, s.heap.size ≤ q → (fun q : Nat => s.heap.size ≤ q) q := fun _ h => h
  have hbA : ¬ (fun q : Nat => s.heap.size ≤ q) b := Nat.not_le.mpr hbl
  have hf0 : 40 + k + 0 ≤ room_1.cells ∧ 1368 + 6 * k + 0 ≤ room_1.slots := ⟨by show _ ≤ 1095; omega, by show _ ≤ 9746; omega⟩
  have hfh : 40 + k + 1 ≤ room_1.cells ∧ 1368 + 6 * k + 6 ≤ room_1.slots := ⟨by show _ ≤ 1095; omega, by show _ ≤ 9746; omega⟩
  have hf1 : 40 + k + 1 + 0 ≤ room_1.cells ∧ 1368 + 6 * k + 6 + 0 ≤ room_1.slots := ⟨by show _ ≤ 1095; omega, by show _ ≤ 9746; omega⟩
  intro I F J G g x4 h hx4 H locs hP hM hO hS ls hl
  unfold pL_d at h
  obtain ⟨v1, ev1⟩ : ∃ y : Int32, y = x4 + (6 : Int32) := ⟨_, rfl⟩
  have h := h v1 ev1
  refine lv_iinc (v := v1) (lv' := [(4, .int v1), (0, .ref b), (1, .ref (ad 0)), (2, .ref (am 0)), (3, .ref ao)]) hx hb dL_law_1334 hl (k := 4) rfl (by rw [ev1]; rfl) (by decide) rfl (fun ls hl => ?_)
  refine lv_goto (tgt := 23) hx hb dL_law_1337 (by decide) ?_
  refine W.widen (k := 40 + (k + 1)) (n := 1368 + 6 * (k + 1)) (by omega) (by omega) ?_
  exact ih I F J G g v1 h (by rw [ev1, hx4]; exact nx6 k) H locs hP hM hO hS ls (lv_sub hl [1, 2, 3, 4, 0] rfl)
