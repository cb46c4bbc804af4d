def bL (L : Nat) (xs : Nat → Int32) : Nat → (Nat → Int32) → (Nat → Nat → Int32) → (Nat → Int32) → (Nat → Nat → Int32) → (Nat → Int64) → Int32 → Prop
  | 0 => fun _ _ _ _ _ _ => False
  | n + 1 => fun I F J G g x4 => (((Int32.ofNat L - (6 : Int32)) < x4 → True) ∧ (¬ (Int32.ofNat L - (6 : Int32)) < x4 → vp_in x4 L ∧ ∀ y : Int32, y = (xs (Int32.toNatClampNeg x4) &&& (31 : Int32)) → ((y = (0 : Int32) → pL_0 L xs (bL L xs n) I F J G g x4) ∧ (y = (1 : Int32) → pL_1 L xs (bL L xs n) I F J G g x4) ∧ (y = (2 : Int32) → pL_2 L xs (bL L xs n) I F J G g x4) ∧ (y = (3 : Int32) → pL_3 L xs (bL L xs n) I F J G g x4) ∧ (y = (4 : Int32) → pL_4 L xs (bL L xs n) I F J G g x4) ∧ (y = (5 : Int32) → pL_5 L xs (bL L xs n) I F J G g x4) ∧ (y = (6 : Int32) → pL_6 L xs (bL L xs n) I F J G g x4) ∧ (y = (7 : Int32) → pL_7 L xs (bL L xs n) I F J G g x4) ∧ (y = (8 : Int32) → pL_8 L xs (bL L xs n) I F J G g x4) ∧ (y = (9 : Int32) → pL_9 L xs (bL L xs n) I F J G g x4) ∧ (y = (10 : Int32) → pL_10 L xs (bL L xs n) I F J G g x4) ∧ (y = (11 : Int32) → pL_11 L xs (bL L xs n) I F J G g x4) ∧ (y = (12 : Int32) → pL_12 L xs (bL L xs n) I F J G g x4) ∧ (y = (13 : Int32) → pL_13 L xs (bL L xs n) I F J G g x4) ∧ (y = (14 : Int32) → pL_14 L xs (bL L xs n) I F J G g x4) ∧ (y = (15 : Int32) → pL_15 L xs (bL L xs n) I F J G g x4) ∧ (y = (16 : Int32) → pL_16 L xs (bL L xs n) I F J G g x4) ∧ (y = (17 : Int32) → pL_17 L xs (bL L xs n) I F J G g x4) ∧ (¬ y = (0 : Int32) → ¬ y = (1 : Int32) → ¬ y = (2 : Int32) → ¬ y = (3 : Int32) → ¬ y = (4 : Int32) → ¬ y = (5 : Int32) → ¬ y = (6 : Int32) → ¬ y = (7 : Int32) → ¬ y = (8 : Int32) → ¬ y = (9 : Int32) → ¬ y = (10 : Int32) → ¬ y = (11 : Int32) → ¬ y = (12 : Int32) → ¬ y = (13 : Int32) → ¬ y = (14 : Int32) → ¬ y = (15 : Int32) → ¬ y = (16 : Int32) → ¬ y = (17 : Int32) → pL_d L xs (bL L xs n) I F J G g x4))))
theorem lawk {L k : Nat} {x4 : Int32} (hL : L ≤ 3072) (hx : x4 = nI (6 * k)) (hk : k ≤ 512) (h : ¬ (Int32.ofNat L - (6 : Int32)) < x4) : k ≤ 511 := by
  rcases Nat.lt_or_ge k 512 with h1 | h1
  · omega
  · exfalso
    apply h
    have e : k = 512 := by omega
    subst e
    rw [hx, Int32.lt_iff_toInt_lt, nI_toInt (by omega)]
    have h6 : (Int32.ofNat L - (6 : Int32)) = nI L - nI 6 := rfl
    rw [h6, pk_sub_toInt (by omega) (by omega)]
    omega
set_option maxHeartbeats 8000000 in
set_option maxRecDepth 100000 in
theorem sL_loop {p : Program} {l : Launch} {e : Env} {s : State} {m : MethodId} {below : List Frame} {meth : Method} {c : Code} {dC : Nat → ClassId} {dI : Nat → Nat → Nat} {cI cJ : ClassId} {ad am : Nat → Nat} {ao b L : Nat} {xs : Nat → Int32} (hst : l.stackTraces = false) (V : LV p s m meth c b L xs dC dI cI cJ ad am ao) (hL : L ≤ 3072) (hr : meth.sig.returnType = ret) (hlocks : meth.locks = false) : ∀ (n k : Nat) (I : Nat → Int32) (F : Nat → Nat → Int32) (J : Nat → Int32) (G : Nat → Nat → Int32) (g : Nat → Int64) (x4 : Int32), bL L xs n I F J G g x4 → x4 = nI (6 * k) → k ≤ 512 → ∀ (H : Heap) (locs : List Loc), va_P (dC, dI) vwCl (wC cI ad I F) H → va_P (dC, dI) vwCl (wM cI am J G) H → va_P (dC, dI) vwCl (oC cJ ao g) H → va_S (fun q : Nat => s.heap.size ≤ q) s.heap H locs → ∀ (ls : Array Slot), lv_has ls 7 [(0, .ref b), (1, .ref (ad 0)), (2, .ref (am 0)), (3, .ref ao), (4, .int x4)] → W p l e room_1 s m #[Value.ref b] below meth c H locs (40 + k) (1368 + 6 * k) (lw_Z below #[Value.ref b] s) (F0 m 23 ls []) := by
  have V0 := V
  obtain ⟨hx, hb, hml, hown, hts, hX, hbl, hK2, hN, hT, hC, hZ, hDc, hDm, hAo, hcm, hco, hmo⟩ := V
  have hK : va_K (dC, dI) vwCl [(cI, .int)] s := hK2.sub [0] rfl
  have hA : ∀ q : Nat, s.heap.size ≤ q → (fun q : Nat => s.heap.size ≤ q) q := fun _ h => h
  have hbA : ¬ (fun q : Nat => s.heap.size ≤ q) b := Nat.not_le.mpr hbl
  intro n
  induction n with
  | zero =>
    intro k I F J G g x4 h
    exact h.elim
  | succ n ih =>
    intro k I F J G g x4 h hx4 hk H locs hP hM hO hS ls hl
    unfold bL at h
    refine lv_iload hx hb dL_law_23 (lv_at hl 4 rfl) ?_
    refine lv_aload_n hx hb dL_law_25 rfl (lv_at hl 0 rfl) ?_
    refine va_slen hx hb hX hbl hbA hS dL_law_26 ?_
    refine lv_bipush (v := (6 : Int32)) hx hb dL_law_27 (by decide) ?_
    refine lv_isub hx hb dL_law_29 ?_
    refine lv_icmp_gt (tgt := 1340) hx hb dL_law_30 (by decide) (fun c1 => ?_) (fun c1 => ?_)
    · refine lv_iconst (v := (1 : Int32)) hx hb dL_law_1340 (by decide) ?_
      refine va_forget (fun q hq => hS.2.2 q hq) ?_
      refine W.widen (k := 1095) (n := 9746) (by omega) (by omega) ?_
      exact lw_ret hx hb hr hlocks dL_law_1341
    · have h := h.2 c1
      have hk1 : k ≤ 511 := lawk hL hx4 hk c1
      obtain ⟨hin0, h⟩ := h
      refine lv_aload_n hx hb dL_law_33 rfl (lv_at hl 0 rfl) ?_
      refine lv_iload hx hb dL_law_34 (lv_at hl 4 rfl) ?_
      refine va_sld hx hb hX hbl hbA hS hin0 dL_law_36 ?_
      refine lv_bipush (v := (31 : Int32)) hx hb dL_law_37 (by decide) ?_
      refine lv_iand hx hb dL_law_39 ?_
      refine lv_topi (fun y ey => ?_)
      have h := h y ey
      have ih1 := fun I F J G g x4 (h : bL L xs n I F J G g x4) (hx4 : x4 = nI (6 * (k + 1))) => ih (k + 1) I F J G g x4 h hx4 (by omega)
      by_cases c_0 : y = (0 : Int32)
      · refine lv_tableIn (tgt := 128) hx hb dL_law_40 (by rw [c_0]; decide) (by rw [c_0]; decide) (by rw [c_0]; rfl) (by decide) ?_
        exact sL_0 hst V0 k hk1 _ ih1 I F J G g x4 (h.1 c_0) hx4 H locs hP hM hO hS ls hl
      have h := h.2
      by_cases c_1 : y = (1 : Int32)
      · refine lv_tableIn (tgt := 232) hx hb dL_law_40 (by rw [c_1]; decide) (by rw [c_1]; decide) (by rw [c_1]; rfl) (by decide) ?_
        exact sL_1 hst V0 k hk1 _ ih1 I F J G g x4 (h.1 c_1) hx4 H locs hP hM hO hS ls hl
      have h := h.2
      by_cases c_2 : y = (2 : Int32)
      · refine lv_tableIn (tgt := 256) hx hb dL_law_40 (by rw [c_2]; decide) (by rw [c_2]; decide) (by rw [c_2]; rfl) (by decide) ?_
        exact sL_2 hst V0 k hk1 _ ih1 I F J G g x4 (h.1 c_2) hx4 H locs hP hM hO hS ls hl
      have h := h.2
      by_cases c_3 : y = (3 : Int32)
      · refine lv_tableIn (tgt := 269) hx hb dL_law_40 (by rw [c_3]; decide) (by rw [c_3]; decide) (by rw [c_3]; rfl) (by decide) ?_
        exact sL_3 hst V0 k hk1 _ ih1 I F J G g x4 (h.1 c_3) hx4 H locs hP hM hO hS ls hl
      have h := h.2
      by_cases c_4 : y = (4 : Int32)
      · refine lv_tableIn (tgt := 305) hx hb dL_law_40 (by rw [c_4]; decide) (by rw [c_4]; decide) (by rw [c_4]; rfl) (by decide) ?_
        exact sL_4 hst V0 k hk1 _ ih1 I F J G g x4 (h.1 c_4) hx4 H locs hP hM hO hS ls hl
      have h := h.2
      by_cases c_5 : y = (5 : Int32)
      · refine lv_tableIn (tgt := 365) hx hb dL_law_40 (by rw [c_5]; decide) (by rw [c_5]; decide) (by rw [c_5]; rfl) (by decide) ?_
        exact sL_5 hst V0 k hk1 _ ih1 I F J G g x4 (h.1 c_5) hx4 H locs hP hM hO hS ls hl
      have h := h.2
      by_cases c_6 : y = (6 : Int32)
      · refine lv_tableIn (tgt := 437) hx hb dL_law_40 (by rw [c_6]; decide) (by rw [c_6]; decide) (by rw [c_6]; rfl) (by decide) ?_
        exact sL_6 hst V0 k hk1 _ ih1 I F J G g x4 (h.1 c_6) hx4 H locs hP hM hO hS ls hl
      have h := h.2
      by_cases c_7 : y = (7 : Int32)
      · refine lv_tableIn (tgt := 541) hx hb dL_law_40 (by rw [c_7]; decide) (by rw [c_7]; decide) (by rw [c_7]; rfl) (by decide) ?_
        exact sL_7 hst V0 k hk1 _ ih1 I F J G g x4 (h.1 c_7) hx4 H locs hP hM hO hS ls hl
      have h := h.2
      by_cases c_8 : y = (8 : Int32)
      · refine lv_tableIn (tgt := 633) hx hb dL_law_40 (by rw [c_8]; decide) (by rw [c_8]; decide) (by rw [c_8]; rfl) (by decide) ?_
        exact sL_8 hst V0 k hk1 _ ih1 I F J G g x4 (h.1 c_8) hx4 H locs hP hM hO hS ls hl
      have h := h.2
      by_cases c_9 : y = (9 : Int32)
      · refine lv_tableIn (tgt := 729) hx hb dL_law_40 (by rw [c_9]; decide) (by rw [c_9]; decide) (by rw [c_9]; rfl) (by decide) ?_
        exact sL_9 hst V0 k hk1 _ ih1 I F J G g x4 (h.1 c_9) hx4 H locs hP hM hO hS ls hl
      have h := h.2
      by_cases c_10 : y = (10 : Int32)
      · refine lv_tableIn (tgt := 797) hx hb dL_law_40 (by rw [c_10]; decide) (by rw [c_10]; decide) (by rw [c_10]; rfl) (by decide) ?_
        exact sL_10 hst V0 k hk1 _ ih1 I F J G g x4 (h.1 c_10) hx4 H locs hP hM hO hS ls hl
      have h := h.2
      by_cases c_11 : y = (11 : Int32)
      · refine lv_tableIn (tgt := 877) hx hb dL_law_40 (by rw [c_11]; decide) (by rw [c_11]; decide) (by rw [c_11]; rfl) (by decide) ?_
        exact sL_11 hst V0 k hk1 _ ih1 I F J G g x4 (h.1 c_11) hx4 H locs hP hM hO hS ls hl
      have h := h.2
      by_cases c_12 : y = (12 : Int32)
      · refine lv_tableIn (tgt := 902) hx hb dL_law_40 (by rw [c_12]; decide) (by rw [c_12]; decide) (by rw [c_12]; rfl) (by decide) ?_
        exact sL_12 hst V0 k hk1 _ ih1 I F J G g x4 (h.1 c_12) hx4 H locs hP hM hO hS ls hl
      have h := h.2
      by_cases c_13 : y = (13 : Int32)
      · refine lv_tableIn (tgt := 994) hx hb dL_law_40 (by rw [c_13]; decide) (by rw [c_13]; decide) (by rw [c_13]; rfl) (by decide) ?_
        exact sL_13 hst V0 k hk1 _ ih1 I F J G g x4 (h.1 c_13) hx4 H locs hP hM hO hS ls hl
      have h := h.2
      by_cases c_14 : y = (14 : Int32)
      · refine lv_tableIn (tgt := 1062) hx hb dL_law_40 (by rw [c_14]; decide) (by rw [c_14]; decide) (by rw [c_14]; rfl) (by decide) ?_
        exact sL_14 hst V0 k hk1 _ ih1 I F J G g x4 (h.1 c_14) hx4 H locs hP hM hO hS ls hl
      have h := h.2
      by_cases c_15 : y = (15 : Int32)
      · refine lv_tableIn (tgt := 1142) hx hb dL_law_40 (by rw [c_15]; decide) (by rw [c_15]; decide) (by rw [c_15]; rfl) (by decide) ?_
        exact sL_15 hst V0 k hk1 _ ih1 I F J G g x4 (h.1 c_15) hx4 H locs hP hM hO hS ls hl
      have h := h.2
      by_cases c_16 : y = (16 : Int32)
      · refine lv_tableIn (tgt := 1210) hx hb dL_law_40 (by rw [c_16]; decide) (by rw [c_16]; decide) (by rw [c_16]; rfl) (by decide) ?_
        exact sL_16 hst V0 k hk1 _ ih1 I F J G g x4 (h.1 c_16) hx4 H locs hP hM hO hS ls hl
      have h := h.2
      by_cases c_17 : y = (17 : Int32)
      · refine lv_tableIn (tgt := 1278) hx hb dL_law_40 (by rw [c_17]; decide) (by rw [c_17]; decide) (by rw [c_17]; rfl) (by decide) ?_
        exact sL_17 hst V0 k hk1 _ ih1 I F J G g x4 (h.1 c_17) hx4 H locs hP hM hO hS ls hl
      have h := h.2
      have h := h c_0 c_1 c_2 c_3 c_4 c_5 c_6 c_7 c_8 c_9 c_10 c_11 c_12 c_13 c_14 c_15 c_16 c_17
      have t_0 : ¬ y.toInt = 0 := lv_neT c_0 rfl
      have t_1 : ¬ y.toInt = 1 := lv_neT c_1 rfl
      have t_2 : ¬ y.toInt = 2 := lv_neT c_2 rfl
      have t_3 : ¬ y.toInt = 3 := lv_neT c_3 rfl
      have t_4 : ¬ y.toInt = 4 := lv_neT c_4 rfl
      have t_5 : ¬ y.toInt = 5 := lv_neT c_5 rfl
      have t_6 : ¬ y.toInt = 6 := lv_neT c_6 rfl
      have t_7 : ¬ y.toInt = 7 := lv_neT c_7 rfl
      have t_8 : ¬ y.toInt = 8 := lv_neT c_8 rfl
      have t_9 : ¬ y.toInt = 9 := lv_neT c_9 rfl
      have t_10 : ¬ y.toInt = 10 := lv_neT c_10 rfl
      have t_11 : ¬ y.toInt = 11 := lv_neT c_11 rfl
      have t_12 : ¬ y.toInt = 12 := lv_neT c_12 rfl
      have t_13 : ¬ y.toInt = 13 := lv_neT c_13 rfl
      have t_14 : ¬ y.toInt = 14 := lv_neT c_14 rfl
      have t_15 : ¬ y.toInt = 15 := lv_neT c_15 rfl
      have t_16 : ¬ y.toInt = 16 := lv_neT c_16 rfl
      have t_17 : ¬ y.toInt = 17 := lv_neT c_17 rfl
      refine lv_tableOut (tgt := 1334) hx hb dL_law_40 (by omega) (by decide) ?_
      exact sL_d hst V0 k hk1 _ ih1 I F J G g x4 h hx4 H locs hP hM hO hS ls hl
