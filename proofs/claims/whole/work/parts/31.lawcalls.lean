/-! THE LAW'S CALLS: one world changes, the others stay -/
section BaseL
variable {p : Program} {l : Launch} {e : Env} {R : Room} {s : State} {m : MethodId} {args : Array Value} {below : List Frame} {meth : Method} {c : Code} {H : Heap} {locs : List Loc} {cells slots : Nat} {Q : State → Prop}
variable {pc : Nat} {ls : Array Slot} {rest st0 : List Value} {A : Nat → Prop} {dC : Nat → ClassId} {dI : Nat → Nat → Nat} {cI cJ : ClassId} {ad : Nat → Nat} {ao : Nat} {wf : WF} {I : Nat → Int32} {F : Nat → Nat → Int32} {g : Nat → Int64} {w2 w3 : va_W}
theorem lcall_i {a : Array Value} {post : Int32 → (Nat → Int32) → (Nat → Nat → Int32) → Prop} (hr : va_Run p l e R s m args below meth c H locs cells slots 0 0 (F0 m pc ls st0) rest (QWi dC dI wf post (va_A (wf I F) H.size) a) (va_A (wf I F) H.size))
    (hD : ∀ I F, va_D A (wf I F)) (hS : va_S A s.heap H locs) (hA : ∀ q, s.heap.size ≤ q → A q) (h2 : va_P (dC, dI) vwCl w2 H) (a2 : Ap (wf I F) w2) (h3 : va_P (dC, dI) vwCl w3 H) (a3 : Ap (wf I F) w3)
    (kk : ∀ (r : Int32) (I1 : Nat → Int32) (F1 : Nat → Nat → Int32), post r I1 F1 → ∀ (H1 : Heap) (locs1 : List Loc), va_P (dC, dI) vwCl (wf I1 F1) H1 → va_P (dC, dI) vwCl w2 H1 → va_P (dC, dI) vwCl w3 H1 → va_S A s.heap H1 locs1 → W p l e R s m args below meth c H1 locs1 cells slots Q (F0 m (pc + 3) ls (.int r :: rest))) :
    W p l e R s m args below meth c H locs cells slots Q (F0 m pc ls st0) := by
  have hF := wFree (I := I) (F := F) hD hS hA
  refine va_calli hr hS (fun q _ h => hF q h) hF (fun r u t H1 locs1 ht _ hw hB _ hk1 hS1 => ?_)
  rw [ht] at hB
  exact kk r u.1 u.2 hw H1 locs1 hB (a2.kept h2 hk1) (a3.kept h3 hk1) hS1
theorem lcall_v {a : Array Value} {post : (Nat → Int32) → (Nat → Nat → Int32) → Prop} (hr : va_Run p l e R s m args below meth c H locs cells slots 0 0 (F0 m pc ls st0) rest (QWv dC dI wf post (va_A (wf I F) H.size) a) (va_A (wf I F) H.size))
    (hD : ∀ I F, va_D A (wf I F)) (hS : va_S A s.heap H locs) (hA : ∀ q, s.heap.size ≤ q → A q) (h2 : va_P (dC, dI) vwCl w2 H) (a2 : Ap (wf I F) w2) (h3 : va_P (dC, dI) vwCl w3 H) (a3 : Ap (wf I F) w3)
    (kk : ∀ (I1 : Nat → Int32) (F1 : Nat → Nat → Int32), post I1 F1 → ∀ (H1 : Heap) (locs1 : List Loc), va_P (dC, dI) vwCl (wf I1 F1) H1 → va_P (dC, dI) vwCl w2 H1 → va_P (dC, dI) vwCl w3 H1 → va_S A s.heap H1 locs1 → W p l e R s m args below meth c H1 locs1 cells slots Q (F0 m (pc + 3) ls rest)) :
    W p l e R s m args below meth c H locs cells slots Q (F0 m pc ls st0) := by
  have hF := wFree (I := I) (F := F) hD hS hA
  refine va_callv hr hS (fun q _ h => hF q h) hF (fun u t H1 locs1 ht _ hw hB _ hk1 hS1 => ?_)
  rw [ht] at hB
  exact kk u.1 u.2 hw H1 locs1 hB (a2.kept h2 hk1) (a3.kept h3 hk1) hS1
theorem lcall_h {a : Array Value} {post : Int32 → (Nat → Int32) → (Nat → Nat → Int32) → (Nat → Int64) → Prop} (hr : va_Run p l e R s m args below meth c H locs cells slots 1 6 (F0 m pc ls st0) rest (QH dC dI cI cJ ad ao post (AH cI ad ao I F H.size) a) (AH cI ad ao I F H.size))
    (hD : ∀ I F, va_D A (wC cI ad I F)) (hAo : A ao) (hS : va_S A s.heap H locs) (hA : ∀ q, s.heap.size ≤ q → A q) (h2 : va_P (dC, dI) vwCl w2 H) (a2 : Ap (wC cI ad I F) w2) (a3 : Ap w2 (oC cJ ao g))
    (kk : ∀ (r : Int32) (I1 : Nat → Int32) (F1 : Nat → Nat → Int32) (g1 : Nat → Int64), post r I1 F1 g1 → ∀ (H1 : Heap) (locs1 : List Loc), va_P (dC, dI) vwCl (wC cI ad I1 F1) H1 → va_P (dC, dI) vwCl w2 H1 → va_P (dC, dI) vwCl (oC cJ ao g1) H1 → va_S A s.heap H1 locs1 → W p l e R s m args below meth c H1 locs1 (cells + 1) (slots + 6) Q (F0 m (pc + 3) ls (.int r :: rest))) :
    W p l e R s m args below meth c H locs cells slots Q (F0 m pc ls st0) := by
  have hF : ∀ q, AH cI ad ao I F H.size q → A q := fun q h => h.elim (fun h => wFree (wf := wC cI ad) (I := I) (F := F) hD hS hA q h) (fun h => by rw [h]; exact hAo)
  refine va_calli hr hS (fun q _ h => hF q h) hF (fun r u t H1 locs1 ht _ hw hB _ hk1 hS1 => ?_)
  rw [ht] at hB
  refine kk r u.1.1 u.1.2 u.2 hw H1 locs1 hB.1 (h2.kept (fun k q hq => hk1 q.1 (h2 k q hq).lt (fun h => ?_))) hB.2 hS1
  rcases h with h | h
  · exact a2.sub hq (h2 k q hq).lt h
  · exact a3 k 0 q _ hq rfl h
theorem pv_H {As : List Value} (hP : va_P (dC, dI) vwCl (wC cI ad I F) H) (hO : va_P (dC, dI) vwCl (oC cJ ao g) H) (hK : va_K (dC, dI) vwCl [(cI, .int), (cJ, .long)] s) (hN : NW s) (hT : TW s) (hC : NC s) (hZ : ZU A s s.heap) (hS : va_S A s.heap H locs) (hD : ∀ I F, va_D A (wC cI ad I F)) (hAo : A ao) (hA : ∀ q, s.heap.size ≤ q → A q) (hap : Ap (wC cI ad I F) (oC cJ ao g)) :
    PreS s H (va_Pc As (PH dC dI cI cJ ad ao I F g H.size)) As := by
  refine ⟨fun a U g9 mk q => ?_, fun U hU hW => ?_⟩
  · obtain ⟨q1, q2, q3, q4, q5, q6, q7, q8, q9, q10, q11⟩ := q
    exact ⟨q1, q2, q3, q4, va_K.moved (u := U) (U := U.calling g9 mk a) (Vm.Alike.refl U.vm) q5, NW.same (s := U) (U := U.calling g9 mk a) rfl q6, q7, q8, TW.same (s := U) (U := U.calling g9 mk a) rfl q9, NC.moved (u := U) (U := U.calling g9 mk a) (Vm.Alike.refl U.vm) q10, ZU.moved (u := U) (U := U.calling g9 mk a) (Vm.Alike.refl U.vm) q11⟩
  · refine ⟨rfl, by rw [hU], by rw [hU]; exact hP, by rw [hU]; exact hO, va_K.moved hW.alike hK, NW.warm hW hN, (hD I F).weaken (fun _ _ _ _ => trivial), hap, TW.warm hW hT, NC.moved hW.alike hC, ?_⟩
    rw [hU]
    refine ((hZ.kept hS.2.1).narrow (fun q h => ?_)).moved hW.alike
    rcases h with h | h
    · exact wFree (wf := wC cI ad) (I := I) (F := F) hD hS hA q h
    · rw [h]; exact hAo
end BaseL
