/-! WORLDS. The class: cells 0..4 the objects (books, plan, register, settlements, journal), 5..21 their int arrays. The reference: cell 0 the object, 1..16 its int arrays. 'ad': the addresses; 'I': the whole numbers in fields; 'F k': what the array in cell k holds. -/
def wC (cI : ClassId) (ad : Nat → Nat) (I : Nat → Int32) (F : Nat → Nat → Int32) : va_W := [
  (ad 0, .inr (4, [.ref (ad 1), .ref (ad 2), .ref (ad 3), .ref (ad 4), .int (I 0)])),
  (ad 1, .inr (1, [.ref (ad 5), .ref (ad 6), .ref (ad 7), .ref (ad 8), .ref (ad 9), .int (I 1)])),
  (ad 2, .inr (2, [.ref (ad 10), .ref (ad 11), .ref (ad 12), .ref (ad 13), .int (I 2), .ref (ad 14), .ref (ad 15), .ref (ad 16), .ref (ad 17), .int (I 3)])),
  (ad 3, .inr (3, [.int (I 4), .int (I 5), .int (I 6), .int (I 7), .int (I 8), .int (I 9), .int (I 10), .ref (ad 18), .int (I 11), .int (I 12), .ref (ad 19), .int (I 13)])),
  (ad 4, .inr (0, [.ref (ad 20), .ref (ad 21), .int (I 14)])),
  (ad 5, .inl (cI, 8, .inl (F 5))), (ad 6, .inl (cI, 8, .inl (F 6))), (ad 7, .inl (cI, 8, .inl (F 7))), (ad 8, .inl (cI, 8, .inl (F 8))), (ad 9, .inl (cI, 8, .inl (F 9))),
  (ad 10, .inl (cI, 6, .inl (F 10))), (ad 11, .inl (cI, 6, .inl (F 11))), (ad 12, .inl (cI, 6, .inl (F 12))), (ad 13, .inl (cI, 24, .inl (F 13))),
  (ad 14, .inl (cI, 40, .inl (F 14))), (ad 15, .inl (cI, 40, .inl (F 15))), (ad 16, .inl (cI, 40, .inl (F 16))), (ad 17, .inl (cI, 40, .inl (F 17))),
  (ad 18, .inl (cI, 6, .inl (F 18))), (ad 19, .inl (cI, 120, .inl (F 19))), (ad 20, .inl (cI, 270, .inl (F 20))), (ad 21, .inl (cI, 7, .inl (F 21)))]
def wM (cI : ClassId) (ad : Nat → Nat) (I : Nat → Int32) (F : Nat → Nat → Int32) : va_W := [
  (ad 0, .inr (5, [.int (I 0), .int (I 1), .ref (ad 1), .int (I 2), .ref (ad 2), .ref (ad 3), .int (I 3), .ref (ad 4), .ref (ad 5), .ref (ad 6), .ref (ad 7), .ref (ad 8), .ref (ad 9), .int (I 4), .ref (ad 10), .ref (ad 11), .ref (ad 12), .int (I 5), .ref (ad 13), .ref (ad 14), .ref (ad 15), .int (I 6), .int (I 7), .int (I 8), .int (I 9), .int (I 10), .int (I 11), .int (I 12), .int (I 13), .int (I 14), .ref (ad 16)])),
  (ad 1, .inl (cI, 40, .inl (F 1))), (ad 2, .inl (cI, 6, .inl (F 2))), (ad 3, .inl (cI, 6, .inl (F 3))),
  (ad 4, .inl (cI, 40, .inl (F 4))), (ad 5, .inl (cI, 40, .inl (F 5))), (ad 6, .inl (cI, 40, .inl (F 6))), (ad 7, .inl (cI, 40, .inl (F 7))), (ad 8, .inl (cI, 40, .inl (F 8))), (ad 9, .inl (cI, 4, .inl (F 9))),
  (ad 10, .inl (cI, 90, .inl (F 10))), (ad 11, .inl (cI, 90, .inl (F 11))), (ad 12, .inl (cI, 90, .inl (F 12))),
  (ad 13, .inl (cI, 3, .inl (F 13))), (ad 14, .inl (cI, 3, .inl (F 14))), (ad 15, .inl (cI, 3, .inl (F 15))), (ad 16, .inl (cI, 120, .inl (F 16)))]
/-- a world by its numbers and arrays -/
abbrev WF : Type := (Nat → Int32) → (Nat → Nat → Int32) → va_W
/-- its addresses don't hang on what it holds -/
def wfix (wf : WF) : Prop := ∀ I F I' F', (wf I F).map (·.1) = (wf I' F').map (·.1)
theorem wC_fix (cI : ClassId) (ad : Nat → Nat) : wfix (wC cI ad) := fun _ _ _ _ => rfl
theorem wM_fix (cI : ClassId) (ad : Nat → Nat) : wfix (wM cI ad) := fun _ _ _ _ => rfl
def isNest : Cond → Bool
  | .fieldLinkNest .. => true
  | .methodLinkNest .. => true
  | _ => false
theorem isNest.tab {w : Cond} (h : isNest w = true) : w.onTables = true := by
  cases w <;> first | rfl | (simp [isNest] at h; done)
theorem isNest.warm {w : Cond} (h : isNest w = true) {s U : State} (hW : s.WarmedH U.vm) (hZ : va_Nw w s) : va_Nw w U := by
  cases w <;> first | exact va_Nw.warmF hW hZ | exact va_Nw.warmM hW hZ | (simp [isNest] at h; done)
def nwL : List Cond := [.methodLinkNest RX4 9 yX1_init RX4, .methodLinkNest RX4 18 yX2_init RX4, .methodLinkNest RX4 25 yX3_init RX4, .methodLinkNest RX4 32 yX0_init RX4, .methodLinkNest RX4 65 yX1_firstFault RX4, .methodLinkNest RX4 58 yX1_add RX4, .methodLinkNest RX4 62 yX1_dropLatest RX4, .methodLinkNest RX4 76 yX3_setTerms RX4, .methodLinkNest RX4 80 yX3_setLayer RX4, .methodLinkNest RX4 87 yX2_isFull RX4, .methodLinkNest RX4 98 yX2_pencilBind RX4, .methodLinkNest RX4 167 yX2_premiumBefore RX4, .methodLinkNest RX2 64 yX4_isWithin RX4, .methodLinkNest RX2 68 yX1_rateOf RX4, .methodLinkNest RX4 187 yX0_hasRoomFor RX4, .methodLinkNest RX4 193 yX0_post RX4, .methodLinkNest RX4 106 yX2_confirmBind RX4, .methodLinkNest RX4 115 yX2_isInTerm RX4, .methodLinkNest RX4 118 yX2_isInForce RX4, .methodLinkNest RX4 181 yX2_pencil RX4, .methodLinkNest RX4 184 yX2_confirm RX4, .methodLinkNest RX4 125 yX3_payable RX4, .methodLinkNest RX4 132 yX3_layerPartOf RX4, .methodLinkNest RX4 136 yX3_renewedOf RX4, .methodLinkNest RX4 145 yX3_keep RX4, .methodLinkNest RX4 153 yX2_countedAsOf RX4, .methodLinkNest RX4 156 yX2_isBound RX4, .methodLinkNest RX4 159 yX2_chargeOn RX4, .methodLinkNest RX4 163 yX2_valueOn RX4, .fieldLinkNest RX4 41 "CarrierBooks$Plan" "size" "I" RX4, .fieldLinkNest RX4 69 "CarrierBooks$Register" "policies" "I" RX4, .fieldLinkNest RX4 149 "CarrierBooks$Register" "bookings" "I" RX4, .fieldLinkNest RX4 139 "CarrierBooks$Settlements" "price" "I" RX4, .fieldLinkNest RX4 173 "CarrierBooks$Settlements" "figures" "[I" RX4, .fieldLinkNest RX4 75 "CarrierBooks$Settlements" "size" "I" RX4, .fieldLinkNest RX4 177 "CarrierBooks$Journal" "figures" "[I" RX4, .fieldLinkNest RX4 178 "CarrierBooks$Journal" "balances" "[I" RX4, .fieldLinkNest RX4 152 "CarrierBooks$Journal" "size" "I" RX4]
theorem nwL_ok : nwL.all isNest = true := by decide +kernel
/-- the links of nest mates' private members, at a state -/
def NW (U : State) : Prop := ∀ w ∈ nwL, va_Nw w U
theorem NW.warm {s U : State} (hW : s.WarmedH U.vm) (h : NW s) : NW U := fun w hw => isNest.warm (List.all_eq_true.mp nwL_ok w hw) hW (h w hw)
theorem NW.same {s U : State} (e : s.vm = U.vm) (h : NW s) : NW U := fun w hw => va_Nw.same (isNest.tab (List.all_eq_true.mp nwL_ok w hw)) e (h w hw)
/-- a method's world at its start -/
def PW (dC : Nat → ClassId) (dI : Nat → Nat → Nat) (cI : ClassId) (wf : WF) (I : Nat → Int32) (F : Nat → Nat → Int32) (U : State) : Prop := va_P (dC, dI) vwCl (wf I F) U.heap ∧ va_K (dC, dI) vwCl [(cI, .int)] U ∧ NW U
def PWw (dC : Nat → ClassId) (dI : Nat → Nat → Nat) (cI : ClassId) (wf : WF) (I : Nat → Int32) (F : Nat → Nat → Int32) (sz : Nat) (U : State) : Prop := U.heap.size = sz ∧ PW dC dI cI wf I F U ∧ va_D (fun _ => True) (wf I F)
section BaseA
variable {dC : Nat → ClassId} {dI : Nat → Nat → Nat} {cI : ClassId} {wf : WF} {I : Nat → Int32} {F : Nat → Nat → Int32} {s U : State} {H : Heap}
theorem PW.blind {g : JFrame} {mk : MethodId} {a : Array Value} (h : PW dC dI cI wf I F U) : PW dC dI cI wf I F (U.calling g mk a) :=
  ⟨h.1, va_K.moved (u := U) (U := U.calling g mk a) (Vm.Alike.refl U.vm) h.2.1, NW.same (s := U) (U := U.calling g mk a) rfl h.2.2⟩
theorem PW.go (hP : va_P (dC, dI) vwCl (wf I F) H) (hK : va_K (dC, dI) vwCl [(cI, .int)] s) (hN : NW s) (hU : U.heap = H) (hW : s.WarmedH U.vm) : PW dC dI cI wf I F U :=
  ⟨by rw [hU]; exact hP, va_K.moved hW.alike hK, NW.warm hW hN⟩
/-- what a call of a method that reads asks of the world -/
theorem pv_R (hP : va_P (dC, dI) vwCl (wf I F) H) (hK : va_K (dC, dI) vwCl [(cI, .int)] s) (hN : NW s) (q0 ci : Nat) {b : Nat} {fs : List Value} {C : String} {T : u_T} {N : Nat} (he : (wf I F)[q0]? = some (b, .inr (ci, fs))) (hc : vwCl[ci]? = some (C, T, N)) (As : List Value) :
    PreV s H C b (va_Pc (.ref b :: As) (PW dC dI cI wf I F)) As :=
  ⟨fun _ _ _ _ q => ⟨q.1, q.2.blind⟩, va_recv hK hP hc he, fun _ hU hW => ⟨rfl, PW.go hP hK hN hU hW⟩⟩
theorem pv_W (hP : va_P (dC, dI) vwCl (wf I F) H) (hK : va_K (dC, dI) vwCl [(cI, .int)] s) (hN : NW s) (hD : va_D (fun _ => True) (wf I F)) (q0 ci : Nat) {b : Nat} {fs : List Value} {C : String} {T : u_T} {N : Nat} (he : (wf I F)[q0]? = some (b, .inr (ci, fs))) (hc : vwCl[ci]? = some (C, T, N)) (As : List Value) :
    PreV s H C b (va_Pc (.ref b :: As) (PWw dC dI cI wf I F H.size)) As :=
  ⟨fun _ _ _ _ q => ⟨q.1, q.2.1, q.2.2.1.blind, q.2.2.2⟩, va_recv hK hP hc he, fun _ hU hW => ⟨rfl, by rw [hU], PW.go hP hK hN hU hW, hD⟩⟩
theorem pv_S (As : List Value) : PreS s H (va_Pc As (fun _ => True)) As := ⟨fun _ _ _ _ q => ⟨q.1, trivial⟩, fun _ _ _ => ⟨rfl, trivial⟩⟩
theorem wD_any {A : Nat → Prop} (hf : wfix wf) (h : va_D A (wf I F)) (I' : Nat → Int32) (F' : Nat → Nat → Int32) : va_D A (wf I' F') := by
  have e := hf I' F' I F
  have at' : ∀ (k : Nat) (q : Nat × va_E), (wf I' F')[k]? = some q → ∃ e0, (wf I F)[k]? = some (q.1, e0) := by
    intro k q hk
    have h1 : ((wf I' F').map (·.1))[k]? = some q.1 := by rw [List.getElem?_map, hk]; rfl
    rw [e, List.getElem?_map] at h1
    cases hh : (wf I F)[k]? with
    | none => rw [hh] at h1; cases h1
    | some z => rw [hh] at h1; obtain ⟨z1, z2⟩ := z; cases h1; exact ⟨z2, rfl⟩
  refine ⟨fun i j p q hi hj hpq => ?_, fun k q hk => ?_⟩
  · obtain ⟨a1, h1⟩ := at' i p hi
    obtain ⟨a2, h2⟩ := at' j q hj
    exact h.1 i j _ _ h1 h2 hpq
  · obtain ⟨a1, h1⟩ := at' k q hk
    exact h.2 k (q.1, a1) h1
end BaseA
section BaseB
variable {p : Program} {l : Launch} {e : Env} {R : Room} {s : State} {m : MethodId} {args : Array Value} {below : List Frame} {meth : Method} {c : Code} {H H0 : Heap} {locs : List Loc} {cells slots : Nat} {Q : State → Prop}
variable {cc : ByteArray} {pc : Nat} {ls : Array Slot} {rest st0 : List Value} {A : Nat → Prop} {dC : Nat → ClassId} {dI : Nat → Nat → Nat} {cI : ClassId} {wf : WF} {I : Nat → Int32} {F : Nat → Nat → Int32}
theorem cr_of {mc ms : Nat} {g : JFrame} {Qa : State → Outcome → State → Prop} {free : Addr → Prop} (h : va_Run p l e R s m args below meth c H locs cells slots mc ms g rest Qa free) : CallRun p l e R s m args below meth c H locs cells slots mc ms g rest Qa free := by
  intro T hT X
  obtain ⟨v, st₀, t, T', L, h0, X', hL, e1, -, hq, st⟩ := h T hT X
  exact ⟨v, st₀, t, T', L, h0, X', hL, e1, hq, st⟩
/-- a store into a field of the world -/
theorem put_w {own ref C : String} {T : u_T} {N ci index : Nat} {Ts : List Cond} {a : Nat} (hexec : p.tables.exec = Jvm.exec) (hb : c.code = cc) (hts : ∀ w ∈ Ts, w.before args s = true) (hin : ∀ w ∈ u_ws C T N, w ∈ Ts) (ty0 : Nat → FieldType) (hty : ∀ k, k < N → parseFieldDescriptor (T k).2.2.1 = some (ty0 k)) (hnm : ∀ a, a < N → ∀ b, b < N → a ≠ b → (T a).2.1 ≠ (T b).2.1) (hown : s.vm.findClass own = some m.cls)
    (hK : va_K (dC, dI) vwCl [(cI, .int)] s) (hP : va_P (dC, dI) vwCl (wf I F) H) (hD : ∀ I F, va_D A (wf I F)) (hS0 : va_S A H0 H locs) (q0 : Nat) {fs : List Value} (he : (wf I F)[q0]? = some (a, .inr (ci, fs))) (hc : vwCl[ci]? = some (C, T, N)) (k : Nat) (hk : k < N) (hlink : (Cond.fieldLink own index ref (T k).2.1 (T k).2.2.1).before args s = true)
    (hsame : ∀ x, s.fieldFound? (T k).1 (T k).2.1 (T k).2.2.1 = some x → s.fieldFound? ref (T k).2.1 (T k).2.2.1 = some x) (hfin : (T k).2.2.2 = false) (i : Nat) {v : Int32} (hd : parseFieldDescriptor (T k).2.2.1 = some .int) (hl : k < fs.length)
    (hset : (wf I F).set q0 (a, .inr (ci, fs.set k (.int v))) = wf (va_up I i v) F) (hdg : decode cc pc = .ok (.putfield index, 3))
    (kk : ∀ (I1 : Nat → Int32), I1 = va_up I i v → ∀ (H1 : Heap) (locs1 : List Loc), va_P (dC, dI) vwCl (wf I1 F) H1 → va_S A H0 H1 locs1 → W p l e R s m args below meth c H1 locs1 cells slots Q (F0 m (pc + 3) ls rest)) :
    W p l e R s m args below meth c H locs cells slots Q (F0 m pc ls (.int v :: .ref a :: rest)) := by
  refine va_put hexec hb hts hin ty0 hty hnm hown hK hP (hD I F) hS0 q0 he hc k hk hlink hsame hfin hd rfl rfl hl hdg (fun H1 locs1 hP1 _ hS1 => ?_)
  rw [hset] at hP1
  exact kk _ rfl H1 locs1 hP1 hS1
theorem putN_w {own ref C host : String} {T : u_T} {N ci index : Nat} {Ts : List Cond} {a : Nat} (hexec : p.tables.exec = Jvm.exec) (hb : c.code = cc) (hts : ∀ w ∈ Ts, w.before args s = true) (hin : ∀ w ∈ u_ws C T N, w ∈ Ts) (ty0 : Nat → FieldType) (hty : ∀ k, k < N → parseFieldDescriptor (T k).2.2.1 = some (ty0 k)) (hnm : ∀ a, a < N → ∀ b, b < N → a ≠ b → (T a).2.1 ≠ (T b).2.1) (hown : s.vm.findClass own = some m.cls)
    (hK : va_K (dC, dI) vwCl [(cI, .int)] s) (hP : va_P (dC, dI) vwCl (wf I F) H) (hD : ∀ I F, va_D A (wf I F)) (hS0 : va_S A H0 H locs) (q0 : Nat) {fs : List Value} (he : (wf I F)[q0]? = some (a, .inr (ci, fs))) (hc : vwCl[ci]? = some (C, T, N)) (k : Nat) (hk : k < N) (hlink : (Cond.fieldLinkNest own index ref (T k).2.1 (T k).2.2.1 host).before args s = true)
    (hsame : ∀ x, s.fieldFound? (T k).1 (T k).2.1 (T k).2.2.1 = some x → s.fieldFound? ref (T k).2.1 (T k).2.2.1 = some x) (hfin : (T k).2.2.2 = false) (i : Nat) {v : Int32} (hd : parseFieldDescriptor (T k).2.2.1 = some .int) (hl : k < fs.length)
    (hset : (wf I F).set q0 (a, .inr (ci, fs.set k (.int v))) = wf (va_up I i v) F) (hdg : decode cc pc = .ok (.putfield index, 3))
    (kk : ∀ (I1 : Nat → Int32), I1 = va_up I i v → ∀ (H1 : Heap) (locs1 : List Loc), va_P (dC, dI) vwCl (wf I1 F) H1 → va_S A H0 H1 locs1 → W p l e R s m args below meth c H1 locs1 cells slots Q (F0 m (pc + 3) ls rest)) :
    W p l e R s m args below meth c H locs cells slots Q (F0 m pc ls (.int v :: .ref a :: rest)) := by
  refine va_putN hexec hb hts hin ty0 hty hnm hown hK hP (hD I F) hS0 q0 he hc k hk hlink hsame hfin hd rfl rfl hl hdg (fun H1 locs1 hP1 _ hS1 => ?_)
  rw [hset] at hP1
  exact kk _ rfl H1 locs1 hP1 hS1
/-- a store into an array of the world -/
theorem ast_w {a : Nat} (hexec : p.tables.exec = Jvm.exec) (hb : c.code = cc) (hK : va_K (dC, dI) vwCl [(cI, .int)] s) (hP : va_P (dC, dI) vwCl (wf I F) H) (hD : ∀ I F, va_D A (wf I F)) (hS : va_S A H0 H locs) (q0 i : Nat) {n : Nat} (ha : (wf I F)[q0]? = some (a, .inl (cI, n, .inl (F i)))) {j x : Int32} (hin : vp_in j n)
    (hset : (wf I F).set q0 (a, .inl (cI, n, .inl (upd (F i) j.toNatClampNeg x))) = wf I (va_up F i (upd (F i) j.toNatClampNeg x))) (hdg : decode cc pc = .ok (.iastore, 1))
    (kk : ∀ (F1 : Nat → Nat → Int32), F1 = va_up F i (upd (F i) j.toNatClampNeg x) → ∀ (H1 : Heap) (locs1 : List Loc), va_P (dC, dI) vwCl (wf I F1) H1 → va_S A H0 H1 locs1 → W p l e R s m args below meth c H1 locs1 cells slots Q (F0 m (pc + 1) ls rest)) :
    W p l e R s m args below meth c H locs cells slots Q (F0 m pc ls (.int x :: .int j :: .ref a :: rest)) := by
  refine va_iast hexec hb hK hP (hD I F) hS q0 0 ha rfl hin hdg (fun H1 locs1 hP1 _ hS1 => ?_)
  rw [hset] at hP1
  exact kk _ rfl H1 locs1 hP1 hS1
theorem wFree (hD : ∀ I F, va_D A (wf I F)) (hS : va_S A H0 H locs) (hA : ∀ q, H0.size ≤ q → A q) : ∀ q, va_A (wf I F) H.size q → A q := by
  intro q h
  rcases h with ⟨k, z, h⟩ | h
  · exact (hD I F).2 k _ h
  · exact hA q (Nat.le_trans hS.1 h)
/-- what a method that writes owes: its answer, its world -/
abbrev QWi (dC : Nat → ClassId) (dI : Nat → Nat → Nat) (wf : WF) (post : Int32 → (Nat → Int32) → (Nat → Nat → Int32) → Prop) (A : Nat → Prop) : Array Value → State → Outcome → State → Prop :=
  va_Qi (fun r (u : (Nat → Int32) × (Nat → Nat → Int32)) => post r u.1 u.2) (fun u t => va_P (dC, dI) vwCl (wf u.1 u.2) t.heap) A
abbrev QWv (dC : Nat → ClassId) (dI : Nat → Nat → Nat) (wf : WF) (post : (Nat → Int32) → (Nat → Nat → Int32) → Prop) (A : Nat → Prop) : Array Value → State → Outcome → State → Prop :=
  va_Qv (fun (u : (Nat → Int32) × (Nat → Nat → Int32)) => post u.1 u.2) (fun u t => va_P (dC, dI) vwCl (wf u.1 u.2) t.heap) A
theorem wcall_i {mc ms : Nat} {a : Array Value} {post : Int32 → (Nat → Int32) → (Nat → Nat → Int32) → Prop} (hr : va_Run p l e R s m args below meth c H locs cells slots mc ms (F0 m pc ls st0) rest (QWi dC dI wf post (va_A (wf I F) H.size) a) (va_A (wf I F) H.size))
    (hD : ∀ I F, va_D A (wf I F)) (hS : va_S A H0 H locs) (hA : ∀ q, H0.size ≤ q → A q)
    (kk : ∀ (r : Int32) (I1 : Nat → Int32) (F1 : Nat → Nat → Int32), post r I1 F1 → ∀ (H1 : Heap) (locs1 : List Loc), va_P (dC, dI) vwCl (wf I1 F1) H1 → va_S A H0 H1 locs1 → W p l e R s m args below meth c H1 locs1 (cells + mc) (slots + ms) Q (F0 m (pc + 3) ls (.int r :: rest))) :
    W p l e R s m args below meth c H locs cells slots Q (F0 m pc ls st0) := by
  have hF := wFree (I := I) (F := F) hD hS hA
  refine va_calli hr hS (fun q _ h => hF q h) hF (fun r u t H1 locs1 ht _ hw hB _ _ hS1 => ?_)
  rw [ht] at hB
  exact kk r u.1 u.2 hw H1 locs1 hB hS1
theorem wcall_v {mc ms : Nat} {a : Array Value} {post : (Nat → Int32) → (Nat → Nat → Int32) → Prop} (hr : va_Run p l e R s m args below meth c H locs cells slots mc ms (F0 m pc ls st0) rest (QWv dC dI wf post (va_A (wf I F) H.size) a) (va_A (wf I F) H.size))
    (hD : ∀ I F, va_D A (wf I F)) (hS : va_S A H0 H locs) (hA : ∀ q, H0.size ≤ q → A q)
    (kk : ∀ (I1 : Nat → Int32) (F1 : Nat → Nat → Int32), post I1 F1 → ∀ (H1 : Heap) (locs1 : List Loc), va_P (dC, dI) vwCl (wf I1 F1) H1 → va_S A H0 H1 locs1 → W p l e R s m args below meth c H1 locs1 (cells + mc) (slots + ms) Q (F0 m (pc + 3) ls rest)) :
    W p l e R s m args below meth c H locs cells slots Q (F0 m pc ls st0) := by
  have hF := wFree (I := I) (F := F) hD hS hA
  refine va_callv hr hS (fun q _ h => hF q h) hF (fun u t H1 locs1 ht _ hw hB _ _ hS1 => ?_)
  rw [ht] at hB
  exact kk u.1 u.2 hw H1 locs1 hB hS1
end BaseB
/-- what a body has of its own: the machine, its code, its words -/
def Cx (p : Program) (s : State) (m : MethodId) (args : Array Value) (meth : Method) (c : Code) (cc : ByteArray) (nL : Nat) (ret : Option FieldType) (own : String) (ws : List Cond) : Prop :=
  p.tables.exec = Jvm.exec ∧ c.code = cc ∧ c.maxLocals = nL ∧ s.vm.findClass own = some m.cls ∧ (∀ w ∈ ws, w.before args s = true) ∧ meth.sig.returnType = ret ∧ meth.locks = false
/-- a truth as the machine has it -/
def nB (q : Prop) [Decidable q] : Int32 := if q then 1 else 0
