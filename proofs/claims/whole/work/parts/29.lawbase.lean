/-! THE LAW'S HELPERS: the class's world and the cell for an answer -/
def oC (cJ : ClassId) (ao : Nat) (g : Nat → Int64) : va_W := [(ao, .inl (cJ, 1, .inr (.inl g)))]
/-- no cell of the one is a cell of the other -/
def Ap (w1 w2 : va_W) : Prop := ∀ (i j : Nat) (p q : Nat × va_E), w1[i]? = some p → w2[j]? = some q → p.1 ≠ q.1
theorem Ap.sub {w1 w2 : va_W} {sz k : Nat} {q : Nat × va_E} (h : Ap w1 w2) (hk : w2[k]? = some q) (hl : q.1 < sz) : ¬ va_A w1 sz q.1 := by
  rintro (⟨i, e, hi⟩ | h1)
  · exact h i k _ _ hi hk rfl
  · omega
theorem Ap.kept {D : va_G} {w1 w2 : va_W} {H H1 : Heap} (h : Ap w1 w2) (hP : va_P D vwCl w2 H) (hk : ∀ q : Nat, q < H.size → ¬ va_A w1 H.size q → H1[q]? = H[q]?) : va_P D vwCl w2 H1 :=
  hP.kept (fun k q hq => hk q.1 (hP k q hq).lt (h.sub hq (hP k q hq).lt))
theorem Ap.any {wf : WF} {w2 : va_W} {I : Nat → Int32} {F : Nat → Nat → Int32} (hf : wfix wf) (h : Ap (wf I F) w2) (I' : Nat → Int32) (F' : Nat → Nat → Int32) : Ap (wf I' F') w2 := by
  intro i j p q hi hj
  have h1 : ((wf I' F').map (·.1))[i]? = some p.1 := by rw [List.getElem?_map, hi]; rfl
  rw [hf I' F' I F, List.getElem?_map] at h1
  cases hh : (wf I F)[i]? with
  | none => rw [hh] at h1; cases h1
  | some z =>
    rw [hh] at h1
    have h2 : z.1 = p.1 := Option.some.inj h1
    rw [← h2]
    exact h i j z q hh hj
theorem Ap.symm {w1 w2 : va_W} (h : Ap w1 w2) : Ap w2 w1 := fun i j p q hi hj e => h j i q p hj hi e.symm
theorem Ap.out {w1 : va_W} {cJ : ClassId} {ao : Nat} {g : Nat → Int64} (h : Ap w1 (oC cJ ao g)) (g' : Nat → Int64) : Ap w1 (oC cJ ao g') := by
  intro i j p q hi hj
  match j, hj with
  | 0, hj => cases hj; exact h i 0 p (ao, .inl (cJ, 1, .inr (.inl g))) hi rfl
  | j + 1, hj => simp [oC] at hj
def ncL : List (String × String) := [("java/lang/IllegalArgumentException", "java/lang/IllegalStateException"), ("java/lang/IllegalArgumentException", "java/lang/UnsupportedOperationException"), ("java/lang/IllegalArgumentException", "java/util/NoSuchElementException"), ("java/lang/IllegalStateException", "java/lang/IllegalArgumentException"), ("java/lang/IllegalStateException", "java/lang/UnsupportedOperationException"), ("java/lang/IllegalStateException", "java/util/NoSuchElementException"), ("java/lang/UnsupportedOperationException", "java/lang/IllegalArgumentException"), ("java/lang/UnsupportedOperationException", "java/lang/IllegalStateException"), ("java/lang/UnsupportedOperationException", "java/util/NoSuchElementException"), ("java/util/NoSuchElementException", "java/lang/IllegalArgumentException"), ("java/util/NoSuchElementException", "java/lang/IllegalStateException"), ("java/util/NoSuchElementException", "java/lang/UnsupportedOperationException")]
/-- which exception is no other -/
def NC (U : State) : Prop := ∀ q ∈ ncL, va_Nc q.1 q.2 U
theorem NC.moved {u U : State} (h : u.vm.Alike U.vm) (hn : NC u) : NC U := fun q hq => (hn q hq).moved h
/-- what a helper may change -/
def AH (cI : ClassId) (ad : Nat → Nat) (ao : Nat) (I : Nat → Int32) (F : Nat → Nat → Int32) (sz : Nat) : Nat → Prop := fun q => va_A (wC cI ad I F) sz q ∨ q = ao
def PH (dC : Nat → ClassId) (dI : Nat → Nat → Nat) (cI cJ : ClassId) (ad : Nat → Nat) (ao : Nat) (I : Nat → Int32) (F : Nat → Nat → Int32) (g : Nat → Int64) (sz : Nat) (U : State) : Prop :=
  U.heap.size = sz ∧ va_P (dC, dI) vwCl (wC cI ad I F) U.heap ∧ va_P (dC, dI) vwCl (oC cJ ao g) U.heap ∧ va_K (dC, dI) vwCl [(cI, .int), (cJ, .long)] U ∧ NW U ∧ va_D (fun _ => True) (wC cI ad I F) ∧ Ap (wC cI ad I F) (oC cJ ao g) ∧ TW U ∧ NC U ∧ ZU (AH cI ad ao I F sz) U U.heap
abbrev QH (dC : Nat → ClassId) (dI : Nat → Nat → Nat) (cI cJ : ClassId) (ad : Nat → Nat) (ao : Nat) (post : Int32 → (Nat → Int32) → (Nat → Nat → Int32) → (Nat → Int64) → Prop) (A : Nat → Prop) : Array Value → State → Outcome → State → Prop :=
  va_Qi (fun r (u : ((Nat → Int32) × (Nat → Nat → Int32)) × (Nat → Int64)) => post r u.1.1 u.1.2 u.2) (fun u t => va_P (dC, dI) vwCl (wC cI ad u.1.1 u.1.2) t.heap ∧ va_P (dC, dI) vwCl (oC cJ ao u.2) t.heap) A
section BaseH
variable {p : Program} {l : Launch} {e : Env} {R : Room} {s : State} {m : MethodId} {args : Array Value} {below : List Frame} {meth : Method} {c : Code} {H : Heap} {locs : List Loc} {Q : State → Prop}
variable {pc : Nat} {ls : Array Slot} {rest st0 : List Value} {A : Nat → Prop} {dC : Nat → ClassId} {dI : Nat → Nat → Nat} {cI : ClassId} {wf : WF} {I : Nat → Int32} {F : Nat → Nat → Int32} {px : String → (Nat → Int32) → (Nat → Nat → Int32) → Prop} {w2 : va_W}
theorem hcall_i {a : Array Value} {post : Int32 → (Nat → Int32) → (Nat → Nat → Int32) → Prop} (hr : vx_Run p l e R s m args below meth c H locs 0 0 1 6 (F0 m pc ls st0) rest (QWi dC dI wf post (va_A (wf I F) H.size) a) (XW dC dI wf px (va_A (wf I F) H.size)) (va_A (wf I F) H.size))
    (hD : ∀ I F, va_D A (wf I F)) (hS : va_S A s.heap H locs) (hA : ∀ q, s.heap.size ≤ q → A q) (hO : va_P (dC, dI) vwCl w2 H) (hap : Ap (wf I F) w2)
    (kx : ∀ (E : String) (ce : Cell) (q9 : Addr) (I1 : Nat → Int32) (F1 : Nat → Nat → Int32), px E I1 F1 → ∀ (H1 : Heap) (locs1 : List Loc), va_P (dC, dI) vwCl (wf I1 F1) H1 → va_P (dC, dI) vwCl w2 H1 → va_S A s.heap H1 locs1 → H1[q9]? = some ce → ce.vm = .none → s.vm.findClass E = some ce.cls → vx_W p l e R s m args below meth c H1 locs1 1 6 Q (F0 m pc ls rest) q9)
    (kk : ∀ (r : Int32) (I1 : Nat → Int32) (F1 : Nat → Nat → Int32), post r I1 F1 → ∀ (H1 : Heap) (locs1 : List Loc), va_P (dC, dI) vwCl (wf I1 F1) H1 → va_P (dC, dI) vwCl w2 H1 → va_S A s.heap H1 locs1 → W p l e R s m args below meth c H1 locs1 1 6 Q (F0 m (pc + 3) ls (.int r :: rest))) :
    W p l e R s m args below meth c H locs 0 0 Q (F0 m pc ls st0) := by
  have hF := wFree (I := I) (F := F) hD hS hA
  refine vx_calli hr hS (fun q _ h => hF q h) hF (fun q _ h => hF q h) (fun E ce q9 u t H1 locs1 ht _ _ hB _ hk1 hS1 hc1 hv1 hcl1 => ?_) (fun r u t H1 locs1 ht _ hw hB _ hk1 hS1 => ?_)
  · rw [ht] at hB
    exact kx E ce q9 u.1 u.2 hB.1 H1 locs1 hB.2 (hap.kept hO hk1) hS1 hc1 hv1 hcl1
  · rw [ht] at hB
    exact kk r u.1 u.2 hw H1 locs1 hB (hap.kept hO hk1) hS1
theorem hcall_v {a : Array Value} {post : (Nat → Int32) → (Nat → Nat → Int32) → Prop} (hr : vx_Run p l e R s m args below meth c H locs 0 0 1 6 (F0 m pc ls st0) rest (QWv dC dI wf post (va_A (wf I F) H.size) a) (XW dC dI wf px (va_A (wf I F) H.size)) (va_A (wf I F) H.size))
    (hD : ∀ I F, va_D A (wf I F)) (hS : va_S A s.heap H locs) (hA : ∀ q, s.heap.size ≤ q → A q) (hO : va_P (dC, dI) vwCl w2 H) (hap : Ap (wf I F) w2)
    (kx : ∀ (E : String) (ce : Cell) (q9 : Addr) (I1 : Nat → Int32) (F1 : Nat → Nat → Int32), px E I1 F1 → ∀ (H1 : Heap) (locs1 : List Loc), va_P (dC, dI) vwCl (wf I1 F1) H1 → va_P (dC, dI) vwCl w2 H1 → va_S A s.heap H1 locs1 → H1[q9]? = some ce → ce.vm = .none → s.vm.findClass E = some ce.cls → vx_W p l e R s m args below meth c H1 locs1 1 6 Q (F0 m pc ls rest) q9)
    (kk : ∀ (I1 : Nat → Int32) (F1 : Nat → Nat → Int32), post I1 F1 → ∀ (H1 : Heap) (locs1 : List Loc), va_P (dC, dI) vwCl (wf I1 F1) H1 → va_P (dC, dI) vwCl w2 H1 → va_S A s.heap H1 locs1 → W p l e R s m args below meth c H1 locs1 1 6 Q (F0 m (pc + 3) ls rest)) :
    W p l e R s m args below meth c H locs 0 0 Q (F0 m pc ls st0) := by
  have hF := wFree (I := I) (F := F) hD hS hA
  refine vx_callv hr hS (fun q _ h => hF q h) hF (fun q _ h => hF q h) (fun E ce q9 u t H1 locs1 ht _ _ hB _ hk1 hS1 hc1 hv1 hcl1 => ?_) (fun u t H1 locs1 ht _ hw hB _ hk1 hS1 => ?_)
  · rw [ht] at hB
    exact kx E ce q9 u.1 u.2 hB.1 H1 locs1 hB.2 (hap.kept hO hk1) hS1 hc1 hv1 hcl1
  · rw [ht] at hB
    exact kk u.1 u.2 hw H1 locs1 hB (hap.kept hO hk1) hS1
/-- a store into the answer's cell keeps what is apart -/
theorem out_keep {cJ : ClassId} {ao : Nat} {g : Nat → Int64} {H1 : Heap} {w : va_W} (hP : va_P (dC, dI) vwCl w H) (hap : Ap w (oC cJ ao g)) (hk : ∀ q : Nat, q < H.size → q ≠ ao → H1[q]? = H[q]?) : va_P (dC, dI) vwCl w H1 :=
  hP.kept (fun k q hq => hk q.1 (hP k q hq).lt (hap k 0 _ _ hq rfl))
theorem vp_l {D : va_G} {a b : va_W} (h : va_P D vwCl (a ++ b) H) : va_P D vwCl a H := fun k q hk => h k q (by rw [List.getElem?_append_left (List.getElem?_eq_some_iff.mp hk).1]; exact hk)
theorem vp_r {D : va_G} {a b : va_W} (h : va_P D vwCl (a ++ b) H) : va_P D vwCl b H := fun k q hk => h (a.length + k) q (by rw [List.getElem?_append_right (Nat.le_add_right _ _), Nat.add_sub_cancel_left]; exact hk)
theorem vd_o {cJ : ClassId} {ao : Nat} {g : Nat → Int64} (h : A ao) : va_D A (oC cJ ao g) := by
  refine ⟨fun i j p q hi hj _ => ?_, fun k q hk => ?_⟩
  · match i, j, hi, hj with
    | 0, 0, _, _ => rfl
    | i + 1, _, hi, _ => simp [oC] at hi
    | 0, j + 1, _, hj => simp [oC] at hj
  · match k, hk with
    | 0, hk => cases hk; exact h
    | k + 1, hk => simp [oC] at hk
theorem in01 : vp_in (0 : Int32) 1 := by show ¬ ((0 : Int32) < 0 ∨ 1 ≤ (0 : Int32).toNatClampNeg); decide
/-- the answer is laid into its cell -/
theorem last_h {cc : ByteArray} {cells slots : Nat} {cJ : ClassId} {ao : Nat} {g : Nat → Int64} {w : va_W} {x : Int64} (hexec : p.tables.exec = Jvm.exec) (hb : c.code = cc) (hK : va_K (dC, dI) vwCl [(cI, .int), (cJ, .long)] s) (hP : va_P (dC, dI) vwCl w H) (hO : va_P (dC, dI) vwCl (oC cJ ao g) H) (hD : va_D A w) (hAo : A ao) (hap : Ap w (oC cJ ao g)) (hS : va_S A s.heap H locs) (hdg : decode cc pc = .ok (.lastore, 1))
    (kk : ∀ (H1 : Heap) (locs1 : List Loc), va_P (dC, dI) vwCl w H1 → va_P (dC, dI) vwCl (oC cJ ao (vp_updL g 0 x)) H1 → va_S A s.heap H1 locs1 → W p l e R s m args below meth c H1 locs1 cells slots Q (F0 m (pc + 1) ls rest)) : W p l e R s m args below meth c H locs cells slots Q (F0 m pc ls (.long x :: .int 0 :: .ref ao :: rest)) := by
  have hPa : va_P (dC, dI) vwCl (oC cJ ao g ++ w) H := va_P.app hO hP
  have hDa : va_D A (oC cJ ao g ++ w) := va_D.app (vd_o hAo) hD (fun i j p q hi hj h9 => hap j i q p hj hi h9.symm)
  refine va_last hexec hb hK hPa hDa hS 0 1 rfl rfl in01 hdg (fun H1 locs1 hP1 _ hS1 => ?_)
  have hP1 : va_P (dC, dI) vwCl (oC cJ ao (vp_updL g 0 x) ++ w) H1 := hP1
  exact kk H1 locs1 (vp_r hP1) (vp_l hP1) hS1
end BaseH
