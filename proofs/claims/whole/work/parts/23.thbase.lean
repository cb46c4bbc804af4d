/-! METHODS THAT MAY THROW -/
def exNames : List String := ["java/lang/RuntimeException", "java/lang/Exception"]
def notGood (w : Cond) : Bool := !goodWord w
/-- the words of the throws that aren't good ones -/
def twL : List Cond := (vx_at0 RX4 47 "java/lang/IllegalStateException" exNames).filter notGood ++ ((vx_at0 RX4 57 "java/lang/IllegalArgumentException" exNames).filter notGood ++ ((vx_at0 RX4 192 "java/lang/UnsupportedOperationException" exNames).filter notGood ++ (vx_at0 RX4 114 "java/util/NoSuchElementException" exNames).filter notGood))
theorem twL_ok : twL.all (fun w => w.onTables && w.keepsFace) = true := by decide +kernel
def TW (U : State) : Prop := ∀ w ∈ twL, va_Nw w U
theorem TW.warm {s U : State} (hW : s.WarmedH U.vm) (h : TW s) : TW U := fun w hw => by
  have h1 := List.all_eq_true.mp twL_ok w hw
  simp only [Bool.and_eq_true] at h1
  have h2 : w.before #[] (s.setVm U.vm) = true := Cond.before_shiftedFace (State.Shifted.of_warmed hW) _ h1.2 (h w hw)
  exact va_tabs h1.1 (rfl : (s.setVm U.vm).vm = U.vm) h2
theorem TW.same {s U : State} (e : s.vm = U.vm) (h : TW s) : TW U := fun w hw => by
  have h1 := List.all_eq_true.mp twL_ok w hw
  simp only [Bool.and_eq_true] at h1
  exact va_Nw.same h1.1 e (h w hw)
/-- the words of a throw: the good ones in the method's own list, the others of the bundle -/
theorem tw_hat {args : Array Value} {s : State} {Ts L : List Cond} (hts : ∀ w ∈ Ts, w.before args s = true) (h1 : ∀ w ∈ L.filter goodWord, w ∈ Ts) (hT : TW s) (h2 : ∀ w ∈ L.filter notGood, w ∈ twL) : ∀ w ∈ L, w.before args s = true := by
  intro w hw
  cases hg : goodWord w with
  | true => exact hts w (h1 w (List.mem_filter.mpr ⟨hw, hg⟩))
  | false =>
    have h3 := h2 w (List.mem_filter.mpr ⟨hw, by simp [notGood, hg]⟩)
    have h4 := List.all_eq_true.mp twL_ok w h3
    simp only [Bool.and_eq_true] at h4
    exact va_Nw.use h4.1 (hT w h3)
/-- the statics that a throw reads -/
def ZU (A : Nat → Prop) (U : State) (H : Heap) : Prop := vx_Zq Bundle.tN "UNASSIGNED_STACK" Bundle.steD A U H ∧ vx_Zq Bundle.tN "SUPPRESSED_SENTINEL" Bundle.listD A U H
theorem ZU.moved {A : Nat → Prop} {u U : State} {H : Heap} (hvm : u.vm.Alike U.vm) (h : ZU A u H) : ZU A U H := ⟨h.1.moved hvm, h.2.moved hvm⟩
theorem ZU.kept {A : Nat → Prop} {U : State} {H H1 : Heap} (h : ZU A U H) (hq : ∀ a : Nat, a < H.size → ¬ A a → H1[a]? = H[a]?) : ZU A U H1 := ⟨h.1.kept hq, h.2.kept hq⟩
theorem ZU.narrow {A B : Nat → Prop} {U : State} {H : Heap} (h : ZU A U H) (hAB : ∀ q, B q → A q) : ZU B U H := ⟨h.1.narrow hAB, h.2.narrow hAB⟩
def PWt (dC : Nat → ClassId) (dI : Nat → Nat → Nat) (cI : ClassId) (wf : WF) (I : Nat → Int32) (F : Nat → Nat → Int32) (sz : Nat) (U : State) : Prop := PWw dC dI cI wf I F sz U ∧ TW U ∧ ZU (va_A (wf I F) sz) U U.heap
/-- where it has thrown: the exception's name, the world -/
abbrev XW (dC : Nat → ClassId) (dI : Nat → Nat → Nat) (wf : WF) (px : String → (Nat → Int32) → (Nat → Nat → Int32) → Prop) (A : Nat → Prop) : String → State → State → Prop :=
  vx_X (fun (_ : (Nat → Int32) × (Nat → Nat → Int32)) => True) (fun E u t => px E u.1 u.2 ∧ va_P (dC, dI) vwCl (wf u.1 u.2) t.heap) A
section BaseT
variable {p : Program} {l : Launch} {e : Env} {R : Room} {s : State} {m : MethodId} {args : Array Value} {below : List Frame} {meth : Method} {c : Code} {H : Heap} {locs : List Loc}
variable {cc : ByteArray} {pc : Nat} {ls : Array Slot} {rest st0 : List Value} {A : Nat → Prop} {dC : Nat → ClassId} {dI : Nat → Nat → Nat} {cI : ClassId} {wf : WF} {I : Nat → Int32} {F : Nat → Nat → Int32} {px : String → (Nat → Int32) → (Nat → Nat → Int32) → Prop} {Qc : Array Value → State → Outcome → State → Prop}
theorem pv_T (hP : va_P (dC, dI) vwCl (wf I F) H) (hK : va_K (dC, dI) vwCl [(cI, .int)] s) (hN : NW s) (hT : TW s) (hZ : ZU A s s.heap) (hS : va_S A s.heap H locs) (hD : ∀ I F, va_D A (wf I F)) (hA : ∀ q, s.heap.size ≤ q → A q) (q0 ci : Nat) {b : Nat} {fs : List Value} {C : String} {T : u_T} {N : Nat} (he : (wf I F)[q0]? = some (b, .inr (ci, fs))) (hc : vwCl[ci]? = some (C, T, N)) (As : List Value) :
    PreV s H C b (va_Pc (.ref b :: As) (PWt dC dI cI wf I F H.size)) As :=
  ⟨fun a U g mk q => ⟨q.1, ⟨q.2.1.1, q.2.1.2.1.blind, q.2.1.2.2⟩, TW.same (s := U) (U := U.calling g mk a) rfl q.2.2.1, ZU.moved (u := U) (U := U.calling g mk a) (Vm.Alike.refl U.vm) q.2.2.2⟩, va_recv hK hP hc he,
    fun U hU hW => ⟨rfl, ⟨by rw [hU], PW.go hP hK hN hU hW, (hD I F).weaken (fun _ _ _ _ => trivial)⟩, TW.warm hW hT, by
      rw [hU]
      exact ((hZ.kept hS.2.1).narrow (wFree (I := I) (F := F) hD hS hA)).moved hW.alike⟩⟩
/-- what is owed where the method itself throws -/
theorem xw_end {E : String} {t : State} (hP : va_P (dC, dI) vwCl (wf I F) H) (hS : va_S A s.heap H locs) (h : px E I F) (hz : H.size ≤ t.heap.size) (hk : ∀ q : Nat, q < H.size → t.heap[q]? = H[q]?) : XW dC dI wf px A E s t :=
  ⟨(I, F), trivial, ⟨h, hP.kept (fun k q hq => hk q.1 (hP k q hq).lt)⟩, Nat.le_trans hS.1 hz, fun q h1 h2 => by rw [hk q (Nat.lt_of_lt_of_le h1 hS.1)]; exact hS.2.1 q h1 h2⟩
theorem throw_w {own cls : String} {names : List String} {ik ic : Nat} {Ts : List Cond} (hexec : p.tables.exec = Jvm.exec) (hb : c.code = cc) (hst : l.stackTraces = false) (hown : s.vm.findClass own = some m.cls) (hcls : Bundle.fit cls = true) (hnames : ∀ n ∈ names, Bundle.fit n = true)
    (hts : ∀ w ∈ Ts, w.before args s = true) (hk : Cond.classLink own ik cls ∈ Ts) (hini : Cond.initialized cls ∈ Ts) (h1 : ∀ w ∈ (vx_at0 own ic cls names).filter goodWord, w ∈ Ts) (hT : TW s) (h2 : ∀ w ∈ (vx_at0 own ic cls names).filter notGood, w ∈ twL)
    (hgood : ∀ w ∈ Cond.classLink own ik cls :: Cond.initialized cls :: vx_at0 own ic cls names, vx_ot w = true)
    (hZ : ZU A s s.heap) (hP : va_P (dC, dI) vwCl (wf I F) H) (hS : va_S A s.heap H locs) (hsize : ls.size = c.maxLocals)
    (d0 : decode cc pc = .ok (.new ik, 3)) (d3 : decode cc (pc + 3) = .ok (.dup, 1)) (d4 : decode cc (pc + 4) = .ok (.invokespecial ic, 3)) (d7 : decode cc (pc + 7) = .ok (.athrow, 1))
    (hout : ∀ x ∈ c.exceptionTable.toList, False) (hRf : names.length + 3 < R.frames) (hRl : (rest.map fun v => v.category).sum + (13 * (names.length + 1) + 42) ≤ R.locals) (hRc : 0 + 1 ≤ R.cells) (hRs : 0 + 6 ≤ R.slots) (hlocks : meth.locks = false) (h : px cls I F) :
    W p l e R s m args below meth c H locs 0 0 (vx_MQ below Qc (XW dC dI wf px A) args s 1 6 A) (F0 m pc ls rest) :=
  vx_throw0 hexec hb hst hown hcls hnames (hts _ hk) (hts _ hini) (tw_hat hts h1 hT h2) hgood hZ.1 hZ.2 hS hsize d0 d3 d4 d7 (fun x hx => (hout x hx).elim) hRf hRl hRc hRs hlocks (fun t _ hz hk9 => xw_end hP hS h hz hk9) hS.2.2 (Nat.le_refl _) (Nat.le_refl _)
/-- a call of a method that may throw; what it throws goes on to the caller -/
theorem xcall_i {a : Array Value} {post : Int32 → (Nat → Int32) → (Nat → Nat → Int32) → Prop} (hr : vx_Run p l e R s m args below meth c H locs 0 0 1 6 (F0 m pc ls st0) rest (QWi dC dI wf post (va_A (wf I F) H.size) a) (XW dC dI wf px (va_A (wf I F) H.size)) (va_A (wf I F) H.size))
    (hD : ∀ I F, va_D A (wf I F)) (hS : va_S A s.heap H locs) (hA : ∀ q, s.heap.size ≤ q → A q) (hout : ∀ x ∈ c.exceptionTable.toList, False) (hlocks : meth.locks = false)
    (kk : ∀ (r : Int32) (I1 : Nat → Int32) (F1 : Nat → Nat → Int32), post r I1 F1 → ∀ (H1 : Heap) (locs1 : List Loc), va_P (dC, dI) vwCl (wf I1 F1) H1 → va_S A s.heap H1 locs1 → W p l e R s m args below meth c H1 locs1 1 6 (vx_MQ below Qc (XW dC dI wf px A) args s 1 6 A) (F0 m (pc + 3) ls (.int r :: rest))) :
    W p l e R s m args below meth c H locs 0 0 (vx_MQ below Qc (XW dC dI wf px A) args s 1 6 A) (F0 m pc ls st0) := by
  have hF := wFree (I := I) (F := F) hD hS hA
  refine vx_calli hr hS (fun q _ h => hF q h) hF (fun q _ h => hF q h) (fun E ce q9 u t H1 locs1 ht _ _ hB _ _ hS1 hc1 hv1 hcl1 => ?_) (fun r u t H1 locs1 ht _ hw hB _ _ hS1 => ?_)
  · refine vx_out (fun x hx => (hout x hx).elim) hlocks hc1 hv1 hcl1 (fun t2 ht2 _ => ?_) hS1.2.2 (Nat.le_refl _) (Nat.le_refl _)
    exact ⟨u, trivial, ⟨hB.1, by rw [ht2, ← ht]; exact hB.2⟩, hS1.F ht2⟩
  · rw [ht] at hB
    exact kk r u.1 u.2 hw H1 locs1 hB hS1
theorem xcall_v {a : Array Value} {post : (Nat → Int32) → (Nat → Nat → Int32) → Prop} (hr : vx_Run p l e R s m args below meth c H locs 0 0 1 6 (F0 m pc ls st0) rest (QWv dC dI wf post (va_A (wf I F) H.size) a) (XW dC dI wf px (va_A (wf I F) H.size)) (va_A (wf I F) H.size))
    (hD : ∀ I F, va_D A (wf I F)) (hS : va_S A s.heap H locs) (hA : ∀ q, s.heap.size ≤ q → A q) (hout : ∀ x ∈ c.exceptionTable.toList, False) (hlocks : meth.locks = false)
    (kk : ∀ (I1 : Nat → Int32) (F1 : Nat → Nat → Int32), post I1 F1 → ∀ (H1 : Heap) (locs1 : List Loc), va_P (dC, dI) vwCl (wf I1 F1) H1 → va_S A s.heap H1 locs1 → W p l e R s m args below meth c H1 locs1 1 6 (vx_MQ below Qc (XW dC dI wf px A) args s 1 6 A) (F0 m (pc + 3) ls rest)) :
    W p l e R s m args below meth c H locs 0 0 (vx_MQ below Qc (XW dC dI wf px A) args s 1 6 A) (F0 m pc ls st0) := by
  have hF := wFree (I := I) (F := F) hD hS hA
  refine vx_callv hr hS (fun q _ h => hF q h) hF (fun q _ h => hF q h) (fun E ce q9 u t H1 locs1 ht _ _ hB _ _ hS1 hc1 hv1 hcl1 => ?_) (fun u t H1 locs1 ht _ hw hB _ _ hS1 => ?_)
  · refine vx_out (fun x hx => (hout x hx).elim) hlocks hc1 hv1 hcl1 (fun t2 ht2 _ => ?_) hS1.2.2 (Nat.le_refl _) (Nat.le_refl _)
    exact ⟨u, trivial, ⟨hB.1, by rw [ht2, ← ht]; exact hB.2⟩, hS1.F ht2⟩
  · rw [ht] at hB
    exact kk u.1 u.2 hw H1 locs1 hB hS1
end BaseT
theorem twm_47 : ∀ w ∈ (vx_at0 RX4 47 "java/lang/IllegalStateException" exNames).filter notGood, w ∈ twL := fun w h => List.mem_append_left _ h
theorem twg_47 : ∀ w ∈ Cond.classLink RX4 45 "java/lang/IllegalStateException" :: Cond.initialized "java/lang/IllegalStateException" :: vx_at0 RX4 47 "java/lang/IllegalStateException" exNames, vx_ot w = true := by decide +kernel
theorem twm_57 : ∀ w ∈ (vx_at0 RX4 57 "java/lang/IllegalArgumentException" exNames).filter notGood, w ∈ twL := fun w h => List.mem_append_right _ (List.mem_append_left _ h)
theorem twg_57 : ∀ w ∈ Cond.classLink RX4 55 "java/lang/IllegalArgumentException" :: Cond.initialized "java/lang/IllegalArgumentException" :: vx_at0 RX4 57 "java/lang/IllegalArgumentException" exNames, vx_ot w = true := by decide +kernel
theorem twm_192 : ∀ w ∈ (vx_at0 RX4 192 "java/lang/UnsupportedOperationException" exNames).filter notGood, w ∈ twL := fun w h => List.mem_append_right _ (List.mem_append_right _ (List.mem_append_left _ h))
theorem twg_192 : ∀ w ∈ Cond.classLink RX4 190 "java/lang/UnsupportedOperationException" :: Cond.initialized "java/lang/UnsupportedOperationException" :: vx_at0 RX4 192 "java/lang/UnsupportedOperationException" exNames, vx_ot w = true := by decide +kernel
theorem twm_114 : ∀ w ∈ (vx_at0 RX4 114 "java/util/NoSuchElementException" exNames).filter notGood, w ∈ twL := fun w h => List.mem_append_right _ (List.mem_append_right _ (List.mem_append_right _ h))
theorem twg_114 : ∀ w ∈ Cond.classLink RX4 112 "java/util/NoSuchElementException" :: Cond.initialized "java/util/NoSuchElementException" :: vx_at0 RX4 114 "java/util/NoSuchElementException" exNames, vx_ot w = true := by decide +kernel
