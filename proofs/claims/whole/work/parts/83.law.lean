/-! THE LAW'S LOOP -/
theorem nx6 (k : Nat) : nI (6 * k) + (6 : Int32) = nI (6 * (k + 1)) := nI_add (6 * k) 6
/-- what holds all along the loop -/
def LV (p : Program) (s : State) (m : MethodId) (meth : Method) (c : Code) (b L : Nat) (xs : Nat → Int32) (dC : Nat → ClassId) (dI : Nat → Nat → Nat) (cI cJ : ClassId) (ad am : Nat → Nat) (ao : Nat) : Prop :=
  p.tables.exec = Jvm.exec ∧ c.code = cL_law ∧ c.maxLocals = 7 ∧ s.vm.findClass RL = some m.cls ∧ (∀ w ∈ wsL_law, w.before #[Value.ref b] s = true) ∧ va_X b L xs s s.heap ∧ b < s.heap.size ∧ va_K (dC, dI) vwCl [(cI, .int), (cJ, .long)] s ∧ NW s ∧ TW s ∧ NC s ∧ ZU (fun q : Nat => s.heap.size ≤ q) s s.heap ∧ (∀ I F, va_D (fun q : Nat => s.heap.size ≤ q) (wC cI ad I F)) ∧ (∀ J G, va_D (fun q : Nat => s.heap.size ≤ q) (wM cI am J G)) ∧ s.heap.size ≤ ao ∧ (∀ I F J G, Ap (wC cI ad I F) (wM cI am J G)) ∧ (∀ I F g, Ap (wC cI ad I F) (oC cJ ao g)) ∧ (∀ J G g, Ap (wM cI am J G) (oC cJ ao g))
def pL_0 (L : Nat) (xs : Nat → Int32) (K : (Nat → Int32) → (Nat → Nat → Int32) → (Nat → Int32) → (Nat → Nat → Int32) → (Nat → Int64) → Int32 → Prop) (I : Nat → Int32) (F : Nat → Nat → Int32) (J : Nat → Int32) (G : Nat → Nat → Int32) (g : Nat → Int64) (x4 : Int32) : Prop := vp_in (x4 + (1 : Int32)) L ∧ vp_in (x4 + (2 : Int32)) L ∧ vp_in (x4 + (3 : Int32)) L ∧ vp_in (x4 + (4 : Int32)) L ∧ vp_in (x4 + (5 : Int32)) L ∧ wL_row I F g (xs (Int32.toNatClampNeg (x4 + (1 : Int32)))) (xs (Int32.toNatClampNeg (x4 + (2 : Int32)))) (xs (Int32.toNatClampNeg (x4 + (3 : Int32)))) (xs (Int32.toNatClampNeg (x4 + (4 : Int32)))) (xs (Int32.toNatClampNeg (x4 + (5 : Int32)))) (fun r6 I7 F8 g9 => vp_in (x4 + (1 : Int32)) L ∧ vp_in (x4 + (2 : Int32)) L ∧ vp_in (x4 + (3 : Int32)) L ∧ vp_in (x4 + (4 : Int32)) L ∧ vp_in (x4 + (5 : Int32)) L ∧ wX5_row J G (xs (Int32.toNatClampNeg (x4 + (1 : Int32)))) (xs (Int32.toNatClampNeg (x4 + (2 : Int32)))) (xs (Int32.toNatClampNeg (x4 + (3 : Int32)))) (xs (Int32.toNatClampNeg (x4 + (4 : Int32)))) (xs (Int32.toNatClampNeg (x4 + (5 : Int32)))) (fun r15 J16 G17 => wX5_thrown J16 G17 (fun r18 => ((r18 = r6 → ((¬ r6 = (0 : Int32) → ∀ v21 : Int32, v21 = x4 + (6 : Int32) → K I7 F8 J16 G17 g9 v21) ∧ (r6 = (0 : Int32) → (((lg_cmp (g9 (Int32.toNatClampNeg (0 : Int32))) r15.toInt64) = (0 : Int32) → ∀ v23 : Int32, v23 = x4 + (6 : Int32) → K I7 F8 J16 G17 g9 v23) ∧ (¬ (lg_cmp (g9 (Int32.toNatClampNeg (0 : Int32))) r15.toInt64) = (0 : Int32) → False))))) ∧ (¬ r18 = r6 → False)))))
def pL_1 (L : Nat) (xs : Nat → Int32) (K : (Nat → Int32) → (Nat → Nat → Int32) → (Nat → Int32) → (Nat → Nat → Int32) → (Nat → Int64) → Int32 → Prop) (I : Nat → Int32) (F : Nat → Nat → Int32) (J : Nat → Int32) (G : Nat → Nat → Int32) (g : Nat → Int64) (x4 : Int32) : Prop := wL_undo I F g (fun r1 I2 F3 g4 => wX5_undo J G (fun J6 G7 => wX5_thrown J6 G7 (fun r8 => ((r8 = r1 → ∀ v10 : Int32, v10 = x4 + (6 : Int32) → K I2 F3 J6 G7 g4 v10) ∧ (¬ r8 = r1 → False)))))
def pL_2 (L : Nat) (xs : Nat → Int32) (K : (Nat → Int32) → (Nat → Nat → Int32) → (Nat → Int32) → (Nat → Nat → Int32) → (Nat → Int64) → Int32 → Prop) (I : Nat → Int32) (F : Nat → Nat → Int32) (J : Nat → Int32) (G : Nat → Nat → Int32) (g : Nat → Int64) (x4 : Int32) : Prop := wX4_witness I F (fun r1 => wX5_witness J G (fun r2 J3 G4 => ((r1 = r2 → ∀ v6 : Int32, v6 = x4 + (6 : Int32) → K I F J3 G4 g v6) ∧ (¬ r1 = r2 → False))))
def pL_3 (L : Nat) (xs : Nat → Int32) (K : (Nat → Int32) → (Nat → Nat → Int32) → (Nat → Int32) → (Nat → Nat → Int32) → (Nat → Int64) → Int32 → Prop) (I : Nat → Int32) (F : Nat → Nat → Int32) (J : Nat → Int32) (G : Nat → Nat → Int32) (g : Nat → Int64) (x4 : Int32) : Prop := vp_in (x4 + (1 : Int32)) L ∧ wL_quota I F g (xs (Int32.toNatClampNeg (x4 + (1 : Int32)))) (fun r2 I3 F4 g5 => vp_in (x4 + (1 : Int32)) L ∧ wX5_quota J G (xs (Int32.toNatClampNeg (x4 + (1 : Int32)))) (fun J8 G9 => wX5_thrown J8 G9 (fun r10 => ((r10 = r2 → ∀ v12 : Int32, v12 = x4 + (6 : Int32) → K I3 F4 J8 G9 g5 v12) ∧ (¬ r10 = r2 → False)))))
def pL_4 (L : Nat) (xs : Nat → Int32) (K : (Nat → Int32) → (Nat → Nat → Int32) → (Nat → Int32) → (Nat → Nat → Int32) → (Nat → Int64) → Int32 → Prop) (I : Nat → Int32) (F : Nat → Nat → Int32) (J : Nat → Int32) (G : Nat → Nat → Int32) (g : Nat → Int64) (x4 : Int32) : Prop := vp_in (x4 + (1 : Int32)) L ∧ vp_in (x4 + (2 : Int32)) L ∧ vp_in (x4 + (3 : Int32)) L ∧ wL_terms I F g (xs (Int32.toNatClampNeg (x4 + (1 : Int32)))) (xs (Int32.toNatClampNeg (x4 + (2 : Int32)))) (xs (Int32.toNatClampNeg (x4 + (3 : Int32)))) (fun r4 I5 F6 g7 => vp_in (x4 + (1 : Int32)) L ∧ vp_in (x4 + (2 : Int32)) L ∧ vp_in (x4 + (3 : Int32)) L ∧ wX5_terms J G (xs (Int32.toNatClampNeg (x4 + (1 : Int32)))) (xs (Int32.toNatClampNeg (x4 + (2 : Int32)))) (xs (Int32.toNatClampNeg (x4 + (3 : Int32)))) (fun J12 G13 => wX5_thrown J12 G13 (fun r14 => ((r14 = r4 → ∀ v16 : Int32, v16 = x4 + (6 : Int32) → K I5 F6 J12 G13 g7 v16) ∧ (¬ r14 = r4 → False)))))
def pL_5 (L : Nat) (xs : Nat → Int32) (K : (Nat → Int32) → (Nat → Nat → Int32) → (Nat → Int32) → (Nat → Nat → Int32) → (Nat → Int64) → Int32 → Prop) (I : Nat → Int32) (F : Nat → Nat → Int32) (J : Nat → Int32) (G : Nat → Nat → Int32) (g : Nat → Int64) (x4 : Int32) : Prop := vp_in (x4 + (1 : Int32)) L ∧ vp_in (x4 + (2 : Int32)) L ∧ vp_in (x4 + (3 : Int32)) L ∧ vp_in (x4 + (4 : Int32)) L ∧ wL_layer I F g (xs (Int32.toNatClampNeg (x4 + (1 : Int32)))) (xs (Int32.toNatClampNeg (x4 + (2 : Int32)))) (xs (Int32.toNatClampNeg (x4 + (3 : Int32)))) (xs (Int32.toNatClampNeg (x4 + (4 : Int32)))) (fun r5 I6 F7 g8 => vp_in (x4 + (1 : Int32)) L ∧ vp_in (x4 + (2 : Int32)) L ∧ vp_in (x4 + (3 : Int32)) L ∧ vp_in (x4 + (4 : Int32)) L ∧ wX5_layer J G (xs (Int32.toNatClampNeg (x4 + (1 : Int32)))) (xs (Int32.toNatClampNeg (x4 + (2 : Int32)))) (xs (Int32.toNatClampNeg (x4 + (3 : Int32)))) (xs (Int32.toNatClampNeg (x4 + (4 : Int32)))) (fun J14 G15 => wX5_thrown J14 G15 (fun r16 => ((r16 = r5 → ∀ v18 : Int32, v18 = x4 + (6 : Int32) → K I6 F7 J14 G15 g8 v18) ∧ (¬ r16 = r5 → False)))))
def pL_6 (L : Nat) (xs : Nat → Int32) (K : (Nat → Int32) → (Nat → Nat → Int32) → (Nat → Int32) → (Nat → Nat → Int32) → (Nat → Int64) → Int32 → Prop) (I : Nat → Int32) (F : Nat → Nat → Int32) (J : Nat → Int32) (G : Nat → Nat → Int32) (g : Nat → Int64) (x4 : Int32) : Prop := vp_in (x4 + (1 : Int32)) L ∧ vp_in (x4 + (2 : Int32)) L ∧ vp_in (x4 + (3 : Int32)) L ∧ vp_in (x4 + (4 : Int32)) L ∧ vp_in (x4 + (5 : Int32)) L ∧ wL_bind I F g (xs (Int32.toNatClampNeg (x4 + (1 : Int32)))) (xs (Int32.toNatClampNeg (x4 + (2 : Int32)))) (xs (Int32.toNatClampNeg (x4 + (3 : Int32)))) (xs (Int32.toNatClampNeg (x4 + (4 : Int32)))) (xs (Int32.toNatClampNeg (x4 + (5 : Int32)))) (fun r6 I7 F8 g9 => vp_in (x4 + (1 : Int32)) L ∧ vp_in (x4 + (2 : Int32)) L ∧ vp_in (x4 + (3 : Int32)) L ∧ vp_in (x4 + (4 : Int32)) L ∧ vp_in (x4 + (5 : Int32)) L ∧ wX5_bind J G (xs (Int32.toNatClampNeg (x4 + (1 : Int32)))) (xs (Int32.toNatClampNeg (x4 + (2 : Int32)))) (xs (Int32.toNatClampNeg (x4 + (3 : Int32)))) (xs (Int32.toNatClampNeg (x4 + (4 : Int32)))) (xs (Int32.toNatClampNeg (x4 + (5 : Int32)))) (fun r15 J16 G17 => wX5_thrown J16 G17 (fun r18 => ((r18 = r6 → ((¬ r6 = (0 : Int32) → ∀ v21 : Int32, v21 = x4 + (6 : Int32) → K I7 F8 J16 G17 g9 v21) ∧ (r6 = (0 : Int32) → (((lg_cmp (g9 (Int32.toNatClampNeg (0 : Int32))) r15.toInt64) = (0 : Int32) → ∀ v23 : Int32, v23 = x4 + (6 : Int32) → K I7 F8 J16 G17 g9 v23) ∧ (¬ (lg_cmp (g9 (Int32.toNatClampNeg (0 : Int32))) r15.toInt64) = (0 : Int32) → False))))) ∧ (¬ r18 = r6 → False)))))
def pL_7 (L : Nat) (xs : Nat → Int32) (K : (Nat → Int32) → (Nat → Nat → Int32) → (Nat → Int32) → (Nat → Nat → Int32) → (Nat → Int64) → Int32 → Prop) (I : Nat → Int32) (F : Nat → Nat → Int32) (J : Nat → Int32) (G : Nat → Nat → Int32) (g : Nat → Int64) (x4 : Int32) : Prop := vp_in (x4 + (1 : Int32)) L ∧ vp_in (x4 + (2 : Int32)) L ∧ vp_in (x4 + (3 : Int32)) L ∧ vp_in (x4 + (4 : Int32)) L ∧ wL_change I F g (xs (Int32.toNatClampNeg (x4 + (1 : Int32)))) (xs (Int32.toNatClampNeg (x4 + (2 : Int32)))) (xs (Int32.toNatClampNeg (x4 + (3 : Int32)))) (xs (Int32.toNatClampNeg (x4 + (4 : Int32)))) (fun r5 I6 F7 g8 => vp_in (x4 + (1 : Int32)) L ∧ vp_in (x4 + (2 : Int32)) L ∧ vp_in (x4 + (3 : Int32)) L ∧ vp_in (x4 + (4 : Int32)) L ∧ wX5_change J G (xs (Int32.toNatClampNeg (x4 + (1 : Int32)))) (xs (Int32.toNatClampNeg (x4 + (2 : Int32)))) (xs (Int32.toNatClampNeg (x4 + (3 : Int32)))) (xs (Int32.toNatClampNeg (x4 + (4 : Int32)))) (fun r13 J14 G15 => wX5_thrown J14 G15 (fun r16 => ((r16 = r5 → ((¬ r5 = (0 : Int32) → ∀ v19 : Int32, v19 = x4 + (6 : Int32) → K I6 F7 J14 G15 g8 v19) ∧ (r5 = (0 : Int32) → (((lg_cmp (g8 (Int32.toNatClampNeg (0 : Int32))) r13.toInt64) = (0 : Int32) → ∀ v21 : Int32, v21 = x4 + (6 : Int32) → K I6 F7 J14 G15 g8 v21) ∧ (¬ (lg_cmp (g8 (Int32.toNatClampNeg (0 : Int32))) r13.toInt64) = (0 : Int32) → False))))) ∧ (¬ r16 = r5 → False)))))
def pL_8 (L : Nat) (xs : Nat → Int32) (K : (Nat → Int32) → (Nat → Nat → Int32) → (Nat → Int32) → (Nat → Nat → Int32) → (Nat → Int64) → Int32 → Prop) (I : Nat → Int32) (F : Nat → Nat → Int32) (J : Nat → Int32) (G : Nat → Nat → Int32) (g : Nat → Int64) (x4 : Int32) : Prop := vp_in (x4 + (1 : Int32)) L ∧ vp_in (x4 + (2 : Int32)) L ∧ vp_in (x4 + (3 : Int32)) L ∧ (((xs (Int32.toNatClampNeg (x4 + (3 : Int32)))) = (0 : Int32) → wL_cancel I F g (xs (Int32.toNatClampNeg (x4 + (1 : Int32)))) (xs (Int32.toNatClampNeg (x4 + (2 : Int32)))) (0 : Int32) (fun r5 I6 F7 g8 => vp_in (x4 + (1 : Int32)) L ∧ vp_in (x4 + (2 : Int32)) L ∧ vp_in (x4 + (3 : Int32)) L ∧ (((xs (Int32.toNatClampNeg (x4 + (3 : Int32)))) = (0 : Int32) → wX5_cancel J G (xs (Int32.toNatClampNeg (x4 + (1 : Int32)))) (xs (Int32.toNatClampNeg (x4 + (2 : Int32)))) (0 : Int32) (fun r13 J14 G15 => wX5_thrown J14 G15 (fun r16 => ((r16 = r5 → ((¬ r5 = (0 : Int32) → ∀ v19 : Int32, v19 = x4 + (6 : Int32) → K I6 F7 J14 G15 g8 v19) ∧ (r5 = (0 : Int32) → (((lg_cmp (g8 (Int32.toNatClampNeg (0 : Int32))) r13.toInt64) = (0 : Int32) → ∀ v21 : Int32, v21 = x4 + (6 : Int32) → K I6 F7 J14 G15 g8 v21) ∧ (¬ (lg_cmp (g8 (Int32.toNatClampNeg (0 : Int32))) r13.toInt64) = (0 : Int32) → False))))) ∧ (¬ r16 = r5 → False))))) ∧ (¬ (xs (Int32.toNatClampNeg (x4 + (3 : Int32)))) = (0 : Int32) → wX5_cancel J G (xs (Int32.toNatClampNeg (x4 + (1 : Int32)))) (xs (Int32.toNatClampNeg (x4 + (2 : Int32)))) (1 : Int32) (fun r22 J23 G24 => wX5_thrown J23 G24 (fun r25 => ((r25 = r5 → ((¬ r5 = (0 : Int32) → ∀ v28 : Int32, v28 = x4 + (6 : Int32) → K I6 F7 J23 G24 g8 v28) ∧ (r5 = (0 : Int32) → (((lg_cmp (g8 (Int32.toNatClampNeg (0 : Int32))) r22.toInt64) = (0 : Int32) → ∀ v30 : Int32, v30 = x4 + (6 : Int32) → K I6 F7 J23 G24 g8 v30) ∧ (¬ (lg_cmp (g8 (Int32.toNatClampNeg (0 : Int32))) r22.toInt64) = (0 : Int32) → False))))) ∧ (¬ r25 = r5 → False)))))))) ∧ (¬ (xs (Int32.toNatClampNeg (x4 + (3 : Int32)))) = (0 : Int32) → wL_cancel I F g (xs (Int32.toNatClampNeg (x4 + (1 : Int32)))) (xs (Int32.toNatClampNeg (x4 + (2 : Int32)))) (1 : Int32) (fun r31 I32 F33 g34 => vp_in (x4 + (1 : Int32)) L ∧ vp_in (x4 + (2 : Int32)) L ∧ vp_in (x4 + (3 : Int32)) L ∧ (((xs (Int32.toNatClampNeg (x4 + (3 : Int32)))) = (0 : Int32) → wX5_cancel J G (xs (Int32.toNatClampNeg (x4 + (1 : Int32)))) (xs (Int32.toNatClampNeg (x4 + (2 : Int32)))) (0 : Int32) (fun r39 J40 G41 => wX5_thrown J40 G41 (fun r42 => ((r42 = r31 → ((¬ r31 = (0 : Int32) → ∀ v45 : Int32, v45 = x4 + (6 : Int32) → K I32 F33 J40 G41 g34 v45) ∧ (r31 = (0 : Int32) → (((lg_cmp (g34 (Int32.toNatClampNeg (0 : Int32))) r39.toInt64) = (0 : Int32) → ∀ v47 : Int32, v47 = x4 + (6 : Int32) → K I32 F33 J40 G41 g34 v47) ∧ (¬ (lg_cmp (g34 (Int32.toNatClampNeg (0 : Int32))) r39.toInt64) = (0 : Int32) → False))))) ∧ (¬ r42 = r31 → False))))) ∧ (¬ (xs (Int32.toNatClampNeg (x4 + (3 : Int32)))) = (0 : Int32) → wX5_cancel J G (xs (Int32.toNatClampNeg (x4 + (1 : Int32)))) (xs (Int32.toNatClampNeg (x4 + (2 : Int32)))) (1 : Int32) (fun r48 J49 G50 => wX5_thrown J49 G50 (fun r51 => ((r51 = r31 → ((¬ r31 = (0 : Int32) → ∀ v54 : Int32, v54 = x4 + (6 : Int32) → K I32 F33 J49 G50 g34 v54) ∧ (r31 = (0 : Int32) → (((lg_cmp (g34 (Int32.toNatClampNeg (0 : Int32))) r48.toInt64) = (0 : Int32) → ∀ v56 : Int32, v56 = x4 + (6 : Int32) → K I32 F33 J49 G50 g34 v56) ∧ (¬ (lg_cmp (g34 (Int32.toNatClampNeg (0 : Int32))) r48.toInt64) = (0 : Int32) → False))))) ∧ (¬ r51 = r31 → False)))))))))
def pL_9 (L : Nat) (xs : Nat → Int32) (K : (Nat → Int32) → (Nat → Nat → Int32) → (Nat → Int32) → (Nat → Nat → Int32) → (Nat → Int64) → Int32 → Prop) (I : Nat → Int32) (F : Nat → Nat → Int32) (J : Nat → Int32) (G : Nat → Nat → Int32) (g : Nat → Int64) (x4 : Int32) : Prop := vp_in (x4 + (1 : Int32)) L ∧ vp_in (x4 + (2 : Int32)) L ∧ wL_reinstate I F g (xs (Int32.toNatClampNeg (x4 + (1 : Int32)))) (xs (Int32.toNatClampNeg (x4 + (2 : Int32)))) (fun r3 I4 F5 g6 => vp_in (x4 + (1 : Int32)) L ∧ vp_in (x4 + (2 : Int32)) L ∧ wX5_reinstate J G (xs (Int32.toNatClampNeg (x4 + (1 : Int32)))) (xs (Int32.toNatClampNeg (x4 + (2 : Int32)))) (fun r9 J10 G11 => wX5_thrown J10 G11 (fun r12 => ((r12 = r3 → ((¬ r3 = (0 : Int32) → ∀ v15 : Int32, v15 = x4 + (6 : Int32) → K I4 F5 J10 G11 g6 v15) ∧ (r3 = (0 : Int32) → (((lg_cmp (g6 (Int32.toNatClampNeg (0 : Int32))) r9.toInt64) = (0 : Int32) → ∀ v17 : Int32, v17 = x4 + (6 : Int32) → K I4 F5 J10 G11 g6 v17) ∧ (¬ (lg_cmp (g6 (Int32.toNatClampNeg (0 : Int32))) r9.toInt64) = (0 : Int32) → False))))) ∧ (¬ r12 = r3 → False)))))
def pL_10 (L : Nat) (xs : Nat → Int32) (K : (Nat → Int32) → (Nat → Nat → Int32) → (Nat → Int32) → (Nat → Nat → Int32) → (Nat → Int64) → Int32 → Prop) (I : Nat → Int32) (F : Nat → Nat → Int32) (J : Nat → Int32) (G : Nat → Nat → Int32) (g : Nat → Int64) (x4 : Int32) : Prop := vp_in (x4 + (1 : Int32)) L ∧ vp_in (x4 + (2 : Int32)) L ∧ vp_in (x4 + (3 : Int32)) L ∧ wL_claim I F g (xs (Int32.toNatClampNeg (x4 + (1 : Int32)))) (xs (Int32.toNatClampNeg (x4 + (2 : Int32)))) (xs (Int32.toNatClampNeg (x4 + (3 : Int32)))) (fun r4 I5 F6 g7 => vp_in (x4 + (1 : Int32)) L ∧ vp_in (x4 + (2 : Int32)) L ∧ vp_in (x4 + (3 : Int32)) L ∧ wX5_claim J G (xs (Int32.toNatClampNeg (x4 + (1 : Int32)))) (xs (Int32.toNatClampNeg (x4 + (2 : Int32)))) (xs (Int32.toNatClampNeg (x4 + (3 : Int32)))) (fun r11 J12 G13 => wX5_thrown J12 G13 (fun r14 => ((r14 = r4 → ((¬ r4 = (0 : Int32) → ∀ v17 : Int32, v17 = x4 + (6 : Int32) → K I5 F6 J12 G13 g7 v17) ∧ (r4 = (0 : Int32) → (((lg_cmp (g7 (Int32.toNatClampNeg (0 : Int32))) r11.toInt64) = (0 : Int32) → ∀ v19 : Int32, v19 = x4 + (6 : Int32) → K I5 F6 J12 G13 g7 v19) ∧ (¬ (lg_cmp (g7 (Int32.toNatClampNeg (0 : Int32))) r11.toInt64) = (0 : Int32) → False))))) ∧ (¬ r14 = r4 → False)))))
def pL_11 (L : Nat) (xs : Nat → Int32) (K : (Nat → Int32) → (Nat → Nat → Int32) → (Nat → Int32) → (Nat → Nat → Int32) → (Nat → Int64) → Int32 → Prop) (I : Nat → Int32) (F : Nat → Nat → Int32) (J : Nat → Int32) (G : Nat → Nat → Int32) (g : Nat → Int64) (x4 : Int32) : Prop := vp_in (x4 + (1 : Int32)) L ∧ wX4_count I F (xs (Int32.toNatClampNeg (x4 + (1 : Int32)))) (fun r2 => vp_in (x4 + (1 : Int32)) L ∧ wX5_count J G (xs (Int32.toNatClampNeg (x4 + (1 : Int32)))) (fun r4 J5 G6 => ((r2 = r4 → ∀ v8 : Int32, v8 = x4 + (6 : Int32) → K I F J5 G6 g v8) ∧ (¬ r2 = r4 → False))))
def pL_12 (L : Nat) (xs : Nat → Int32) (K : (Nat → Int32) → (Nat → Nat → Int32) → (Nat → Int32) → (Nat → Nat → Int32) → (Nat → Int64) → Int32 → Prop) (I : Nat → Int32) (F : Nat → Nat → Int32) (J : Nat → Int32) (G : Nat → Nat → Int32) (g : Nat → Int64) (x4 : Int32) : Prop := vp_in (x4 + (1 : Int32)) L ∧ vp_in (x4 + (2 : Int32)) L ∧ vp_in (x4 + (3 : Int32)) L ∧ vp_in (x4 + (4 : Int32)) L ∧ wL_fact I F g (xs (Int32.toNatClampNeg (x4 + (1 : Int32)))) (xs (Int32.toNatClampNeg (x4 + (2 : Int32)))) (xs (Int32.toNatClampNeg (x4 + (3 : Int32)))) (xs (Int32.toNatClampNeg (x4 + (4 : Int32)))) (fun r5 I6 F7 g8 => vp_in (x4 + (1 : Int32)) L ∧ vp_in (x4 + (2 : Int32)) L ∧ vp_in (x4 + (3 : Int32)) L ∧ vp_in (x4 + (4 : Int32)) L ∧ wX5_fact J G (xs (Int32.toNatClampNeg (x4 + (1 : Int32)))) (xs (Int32.toNatClampNeg (x4 + (2 : Int32)))) (xs (Int32.toNatClampNeg (x4 + (3 : Int32)))) (xs (Int32.toNatClampNeg (x4 + (4 : Int32)))) (fun r13 J14 G15 => wX5_thrown J14 G15 (fun r16 => ((r16 = r5 → ((¬ r5 = (0 : Int32) → ∀ v19 : Int32, v19 = x4 + (6 : Int32) → K I6 F7 J14 G15 g8 v19) ∧ (r5 = (0 : Int32) → (((lg_cmp (g8 (Int32.toNatClampNeg (0 : Int32))) r13.toInt64) = (0 : Int32) → ∀ v21 : Int32, v21 = x4 + (6 : Int32) → K I6 F7 J14 G15 g8 v21) ∧ (¬ (lg_cmp (g8 (Int32.toNatClampNeg (0 : Int32))) r13.toInt64) = (0 : Int32) → False))))) ∧ (¬ r16 = r5 → False)))))
def pL_13 (L : Nat) (xs : Nat → Int32) (K : (Nat → Int32) → (Nat → Nat → Int32) → (Nat → Int32) → (Nat → Nat → Int32) → (Nat → Int64) → Int32 → Prop) (I : Nat → Int32) (F : Nat → Nat → Int32) (J : Nat → Int32) (G : Nat → Nat → Int32) (g : Nat → Int64) (x4 : Int32) : Prop := vp_in (x4 + (1 : Int32)) L ∧ vp_in (x4 + (2 : Int32)) L ∧ wL_written I F g (xs (Int32.toNatClampNeg (x4 + (1 : Int32)))) (xs (Int32.toNatClampNeg (x4 + (2 : Int32)))) (fun r3 I4 F5 g6 => vp_in (x4 + (1 : Int32)) L ∧ vp_in (x4 + (2 : Int32)) L ∧ wX5_written J G (xs (Int32.toNatClampNeg (x4 + (1 : Int32)))) (xs (Int32.toNatClampNeg (x4 + (2 : Int32)))) (fun r9 J10 G11 => wX5_thrown J10 G11 (fun r12 => ((r12 = r3 → ((¬ r3 = (0 : Int32) → ∀ v15 : Int32, v15 = x4 + (6 : Int32) → K I4 F5 J10 G11 g6 v15) ∧ (r3 = (0 : Int32) → (((lg_cmp (g6 (Int32.toNatClampNeg (0 : Int32))) r9.toInt64) = (0 : Int32) → ∀ v17 : Int32, v17 = x4 + (6 : Int32) → K I4 F5 J10 G11 g6 v17) ∧ (¬ (lg_cmp (g6 (Int32.toNatClampNeg (0 : Int32))) r9.toInt64) = (0 : Int32) → False))))) ∧ (¬ r12 = r3 → False)))))
def pL_14 (L : Nat) (xs : Nat → Int32) (K : (Nat → Int32) → (Nat → Nat → Int32) → (Nat → Int32) → (Nat → Nat → Int32) → (Nat → Int64) → Int32 → Prop) (I : Nat → Int32) (F : Nat → Nat → Int32) (J : Nat → Int32) (G : Nat → Nat → Int32) (g : Nat → Int64) (x4 : Int32) : Prop := vp_in (x4 + (1 : Int32)) L ∧ vp_in (x4 + (2 : Int32)) L ∧ vp_in (x4 + (3 : Int32)) L ∧ wL_earned I F g (xs (Int32.toNatClampNeg (x4 + (1 : Int32)))) (xs (Int32.toNatClampNeg (x4 + (2 : Int32)))) (xs (Int32.toNatClampNeg (x4 + (3 : Int32)))) (fun r4 I5 F6 g7 => vp_in (x4 + (1 : Int32)) L ∧ vp_in (x4 + (2 : Int32)) L ∧ vp_in (x4 + (3 : Int32)) L ∧ wX5_earned J G (xs (Int32.toNatClampNeg (x4 + (1 : Int32)))) (xs (Int32.toNatClampNeg (x4 + (2 : Int32)))) (xs (Int32.toNatClampNeg (x4 + (3 : Int32)))) (fun r11 J12 G13 => wX5_thrown J12 G13 (fun r14 => ((r14 = r4 → ((¬ r4 = (0 : Int32) → ∀ v17 : Int32, v17 = x4 + (6 : Int32) → K I5 F6 J12 G13 g7 v17) ∧ (r4 = (0 : Int32) → (((lg_cmp (g7 (Int32.toNatClampNeg (0 : Int32))) r11.toInt64) = (0 : Int32) → ∀ v19 : Int32, v19 = x4 + (6 : Int32) → K I5 F6 J12 G13 g7 v19) ∧ (¬ (lg_cmp (g7 (Int32.toNatClampNeg (0 : Int32))) r11.toInt64) = (0 : Int32) → False))))) ∧ (¬ r14 = r4 → False)))))
def pL_15 (L : Nat) (xs : Nat → Int32) (K : (Nat → Int32) → (Nat → Nat → Int32) → (Nat → Int32) → (Nat → Nat → Int32) → (Nat → Int64) → Int32 → Prop) (I : Nat → Int32) (F : Nat → Nat → Int32) (J : Nat → Int32) (G : Nat → Nat → Int32) (g : Nat → Int64) (x4 : Int32) : Prop := vp_in (x4 + (1 : Int32)) L ∧ vp_in (x4 + (2 : Int32)) L ∧ wL_settled I F g (xs (Int32.toNatClampNeg (x4 + (1 : Int32)))) (xs (Int32.toNatClampNeg (x4 + (2 : Int32)))) (fun r3 I4 F5 g6 => vp_in (x4 + (1 : Int32)) L ∧ vp_in (x4 + (2 : Int32)) L ∧ wX5_settled J G (xs (Int32.toNatClampNeg (x4 + (1 : Int32)))) (xs (Int32.toNatClampNeg (x4 + (2 : Int32)))) (fun r9 J10 G11 => wX5_thrown J10 G11 (fun r12 => ((r12 = r3 → ((¬ r3 = (0 : Int32) → ∀ v15 : Int32, v15 = x4 + (6 : Int32) → K I4 F5 J10 G11 g6 v15) ∧ (r3 = (0 : Int32) → (((lg_cmp (g6 (Int32.toNatClampNeg (0 : Int32))) r9.toInt64) = (0 : Int32) → ∀ v17 : Int32, v17 = x4 + (6 : Int32) → K I4 F5 J10 G11 g6 v17) ∧ (¬ (lg_cmp (g6 (Int32.toNatClampNeg (0 : Int32))) r9.toInt64) = (0 : Int32) → False))))) ∧ (¬ r12 = r3 → False)))))
def pL_16 (L : Nat) (xs : Nat → Int32) (K : (Nat → Int32) → (Nat → Nat → Int32) → (Nat → Int32) → (Nat → Nat → Int32) → (Nat → Int64) → Int32 → Prop) (I : Nat → Int32) (F : Nat → Nat → Int32) (J : Nat → Int32) (G : Nat → Nat → Int32) (g : Nat → Int64) (x4 : Int32) : Prop := vp_in (x4 + (1 : Int32)) L ∧ vp_in (x4 + (2 : Int32)) L ∧ wL_posting I F g (xs (Int32.toNatClampNeg (x4 + (1 : Int32)))) (xs (Int32.toNatClampNeg (x4 + (2 : Int32)))) (fun r3 I4 F5 g6 => vp_in (x4 + (1 : Int32)) L ∧ vp_in (x4 + (2 : Int32)) L ∧ wX5_posting J G (xs (Int32.toNatClampNeg (x4 + (1 : Int32)))) (xs (Int32.toNatClampNeg (x4 + (2 : Int32)))) (fun r9 J10 G11 => wX5_thrown J10 G11 (fun r12 => ((r12 = r3 → ((¬ r3 = (0 : Int32) → ∀ v15 : Int32, v15 = x4 + (6 : Int32) → K I4 F5 J10 G11 g6 v15) ∧ (r3 = (0 : Int32) → (((lg_cmp (g6 (Int32.toNatClampNeg (0 : Int32))) r9.toInt64) = (0 : Int32) → ∀ v17 : Int32, v17 = x4 + (6 : Int32) → K I4 F5 J10 G11 g6 v17) ∧ (¬ (lg_cmp (g6 (Int32.toNatClampNeg (0 : Int32))) r9.toInt64) = (0 : Int32) → False))))) ∧ (¬ r12 = r3 → False)))))
def pL_17 (L : Nat) (xs : Nat → Int32) (K : (Nat → Int32) → (Nat → Nat → Int32) → (Nat → Int32) → (Nat → Nat → Int32) → (Nat → Int64) → Int32 → Prop) (I : Nat → Int32) (F : Nat → Nat → Int32) (J : Nat → Int32) (G : Nat → Nat → Int32) (g : Nat → Int64) (x4 : Int32) : Prop := vp_in (x4 + (1 : Int32)) L ∧ wL_balance I F g (xs (Int32.toNatClampNeg (x4 + (1 : Int32)))) (fun r2 I3 F4 g5 => vp_in (x4 + (1 : Int32)) L ∧ wX5_balance J G (xs (Int32.toNatClampNeg (x4 + (1 : Int32)))) (fun r7 J8 G9 => wX5_thrown J8 G9 (fun r10 => ((r10 = r2 → ((¬ r2 = (0 : Int32) → ∀ v13 : Int32, v13 = x4 + (6 : Int32) → K I3 F4 J8 G9 g5 v13) ∧ (r2 = (0 : Int32) → (((lg_cmp (g5 (Int32.toNatClampNeg (0 : Int32))) r7.toInt64) = (0 : Int32) → ∀ v15 : Int32, v15 = x4 + (6 : Int32) → K I3 F4 J8 G9 g5 v15) ∧ (¬ (lg_cmp (g5 (Int32.toNatClampNeg (0 : Int32))) r7.toInt64) = (0 : Int32) → False))))) ∧ (¬ r10 = r2 → False)))))
def pL_d (L : Nat) (xs : Nat → Int32) (K : (Nat → Int32) → (Nat → Nat → Int32) → (Nat → Int32) → (Nat → Nat → Int32) → (Nat → Int64) → Int32 → Prop) (I : Nat → Int32) (F : Nat → Nat → Int32) (J : Nat → Int32) (G : Nat → Nat → Int32) (g : Nat → Int64) (x4 : Int32) : Prop := ∀ v1 : Int32, v1 = x4 + (6 : Int32) → K I F J G g v1
set_option maxHeartbeats 8000000 in
set_option maxRecDepth 100000 in
theorem sL_0 {p : Program} {l : Launch} {e : Env} {s : State} {m : MethodId} {below : List Frame} {meth : Method} {c : Code} {dC : Nat → ClassId} {dI : Nat → Nat → Nat} {cI cJ : ClassId} {ad am : Nat → Nat} {ao b L : Nat} {xs : Nat → Int32} (hst : l.stackTraces = false) (V : LV p s m meth c b L xs dC dI cI cJ ad am ao) (k : Nat) (hk : k ≤ 511) (K : (Nat → Int32) → (Nat → Nat → Int32) → (Nat → Int32) → (Nat → Nat → Int32) → (Nat → Int64) → Int32 → Prop) (ih : ∀ (I : Nat → Int32) (F : Nat → Nat → Int32) (J : Nat → Int32) (G : Nat → Nat → Int32) (g : Nat → Int64) (x4 : Int32), K I F J G g x4 → x4 = nI (6 * (k + 1)) → ∀ (H : Heap) (locs : List Loc), va_P (dC, dI) vwCl (wC cI ad I F) H → va_P (dC, dI) vwCl (wM cI am J G) H → va_P (dC, dI) vwCl (oC cJ ao g) H → va_S (fun q : Nat => s.heap.size ≤ q) s.heap H locs → ∀ (ls : Array Slot), lv_has ls 7 [(0, .ref b), (1, .ref (ad 0)), (2, .ref (am 0)), (3, .ref ao), (4, .int x4)] → W p l e room_1 s m #[Value.ref b] below meth c H locs (40 + (k + 1)) (1368 + 6 * (k + 1)) (lw_Z below #[Value.ref b] s) (F0 m 23 ls [])) : ∀ (I : Nat → Int32) (F : Nat → Nat → Int32) (J : Nat → Int32) (G : Nat → Nat → Int32) (g : Nat → Int64) (x4 : Int32), pL_0 L xs K I F J G g x4 → x4 = nI (6 * k) → ∀ (H : Heap) (locs : List Loc), va_P (dC, dI) vwCl (wC cI ad I F) H → va_P (dC, dI) vwCl (wM cI am J G) H → va_P (dC, dI) vwCl (oC cJ ao g) H → va_S (fun q : Nat => s.heap.size ≤ q) s.heap H locs → ∀ (ls : Array Slot), lv_has ls 7 [(0, .ref b), (1, .ref (ad 0)), (2, .ref (am 0)), (3, .ref ao), (4, .int x4)] → W p l e room_1 s m #[Value.ref b] below meth c H locs (40 + k) (1368 + 6 * k) (lw_Z below #[Value.ref b] s) (F0 m 128 ls []) := by
  obtain ⟨hx, hb, hml, hown, hts, hX, hbl, hK2, hN, hT, hC, hZ, hDc, hDm, hAo, hcm, hco, hmo⟩ := V
  have hK : va_K (dC, dI) vwCl [(cI, .int)] s := hK2.sub [0] rfl
  have hA : ∀ q : Nat, s.heap.size ≤ q → (fun q : Nat => s.heap.size ≤ q) q := fun _ h => h
  have hbA : ¬ (fun q : Nat => s.heap.size ≤ q) b := Nat.not_le.mpr hbl
  have hf0 : 40 + k + 0 ≤ room_1.cells ∧ 1368 + 6 * k + 0 ≤ room_1.slots := ⟨by show _ ≤ 1095; omega, by show _ ≤ 9746; omega⟩
  have hfh : 40 + k + 1 ≤ room_1.cells ∧ 1368 + 6 * k + 6 ≤ room_1.slots := ⟨by show _ ≤ 1095; omega, by show _ ≤ 9746; omega⟩
  have hf1 : 40 + k + 1 + 0 ≤ room_1.cells ∧ 1368 + 6 * k + 6 + 0 ≤ room_1.slots := ⟨by show _ ≤ 1095; omega, by show _ ≤ 9746; omega⟩
  intro I F J G g x4 h hx4 H locs hP hM hO hS ls hl
  unfold pL_0 at h
  refine lv_aload_n hx hb dL_law_128 rfl (lv_at hl 1 rfl) ?_
  refine lv_aload_n hx hb dL_law_129 rfl (lv_at hl 0 rfl) ?_
  refine lv_iload hx hb dL_law_130 (lv_at hl 4 rfl) ?_
  refine lv_iconst (v := (1 : Int32)) hx hb dL_law_132 (by decide) ?_
  refine lv_iadd hx hb dL_law_133 ?_
  obtain ⟨hin1, h⟩ := h
  refine va_sld hx hb hX hbl hbA hS hin1 dL_law_134 ?_
  refine lv_aload_n hx hb dL_law_135 rfl (lv_at hl 0 rfl) ?_
  refine lv_iload hx hb dL_law_136 (lv_at hl 4 rfl) ?_
  refine lv_iconst (v := (2 : Int32)) hx hb dL_law_138 (by decide) ?_
  refine lv_iadd hx hb dL_law_139 ?_
  obtain ⟨hin2, h⟩ := h
  refine va_sld hx hb hX hbl hbA hS hin2 dL_law_140 ?_
  refine lv_aload_n hx hb dL_law_141 rfl (lv_at hl 0 rfl) ?_
  refine lv_iload hx hb dL_law_142 (lv_at hl 4 rfl) ?_
  refine lv_iconst (v := (3 : Int32)) hx hb dL_law_144 (by decide) ?_
  refine lv_iadd hx hb dL_law_145 ?_
  obtain ⟨hin3, h⟩ := h
  refine va_sld hx hb hX hbl hbA hS hin3 dL_law_146 ?_
  refine lv_aload_n hx hb dL_law_147 rfl (lv_at hl 0 rfl) ?_
  refine lv_iload hx hb dL_law_148 (lv_at hl 4 rfl) ?_
  refine lv_iconst (v := (4 : Int32)) hx hb dL_law_150 (by decide) ?_
  refine lv_iadd hx hb dL_law_151 ?_
  obtain ⟨hin4, h⟩ := h
  refine va_sld hx hb hX hbl hbA hS hin4 dL_law_152 ?_
  refine lv_aload_n hx hb dL_law_153 rfl (lv_at hl 0 rfl) ?_
  refine lv_iload hx hb dL_law_154 (lv_at hl 4 rfl) ?_
  refine lv_iconst (v := (5 : Int32)) hx hb dL_law_156 (by decide) ?_
  refine lv_iadd hx hb dL_law_157 ?_
  obtain ⟨hin5, h⟩ := h
  refine va_sld hx hb hX hbl hbA hS hin5 dL_law_158 ?_
  refine lv_aload_n hx hb dL_law_159 rfl (lv_at hl 3 rfl) ?_
  refine lcall_h (vx_runSW (As := [.ref (ad 0), .int (xs (Int32.toNatClampNeg (x4 + (1 : Int32)))), .int (xs (Int32.toNatClampNeg (x4 + (2 : Int32)))), .int (xs (Int32.toNatClampNeg (x4 + (3 : Int32)))), .int (xs (Int32.toNatClampNeg (x4 + (4 : Int32)))), .int (xs (Int32.toNatClampNeg (x4 + (5 : Int32)))), .ref ao]) (rest := []) ⟨hx, hb, hml, hown, hts⟩ (cTL_row l hst dC dI cI cJ ad ao I F g H.size (xs (Int32.toNatClampNeg (x4 + (1 : Int32)))) (xs (Int32.toNatClampNeg (x4 + (2 : Int32)))) (xs (Int32.toNatClampNeg (x4 + (3 : Int32)))) (xs (Int32.toNatClampNeg (x4 + (4 : Int32)))) (xs (Int32.toNatClampNeg (x4 + (5 : Int32)))) _ h) (vx_cwSW 7 hts gL_law_L_row rfl rfl rfl (by decide +kernel) ⟨(Nat.le_of_ble_eq_true rfl), (Nat.le_of_ble_eq_true rfl)⟩) (pv_H hP hO hK2 hN hT hC hZ hS hDc hAo hA (hco _ _ _)) rfl rfl hl.1 rfl (lv_room (Nat.le_of_ble_eq_true rfl)) dL_law_160 hfh) hDc hAo hS hA hM (hcm _ _ _ _) (hmo _ _ g) (fun r6 I7 F8 g9 h H locs hP hM hO hS => ?_)
  refine lv_istore (lv' := [(5, .int r6), (0, .ref b), (1, .ref (ad 0)), (2, .ref (am 0)), (3, .ref ao), (4, .int x4)]) hx hb dL_law_163 hl (by decide) rfl (fun ls hl => ?_)
  refine lv_aload_n hx hb dL_law_165 rfl (lv_at hl 3 rfl) ?_
  refine lv_aload_n hx hb dL_law_166 rfl (lv_at hl 1 rfl) ?_
  refine lv_iload hx hb dL_law_167 (lv_at hl 5 rfl) ?_
  refine lv_iconst (v := (1 : Int32)) hx hb dL_law_169 (by decide) ?_
  refine lv_iadd hx hb dL_law_170 ?_
  obtain ⟨hin10, h⟩ := h
  refine va_sld hx hb hX hbl hbA hS hin10 dL_law_171 ?_
  refine lv_aload_n hx hb dL_law_172 rfl (lv_at hl 1 rfl) ?_
  refine lv_iload hx hb dL_law_173 (lv_at hl 5 rfl) ?_
  refine lv_iconst (v := (2 : Int32)) hx hb dL_law_175 (by decide) ?_
  refine lv_iadd hx hb dL_law_176 ?_
  obtain ⟨hin11, h⟩ := h
  refine va_sld hx hb hX hbl hbA hS hin11 dL_law_177 ?_
  refine lv_aload_n hx hb dL_law_178 rfl (lv_at hl 1 rfl) ?_
  refine lv_iload hx hb dL_law_179 (lv_at hl 5 rfl) ?_
  refine lv_iconst (v := (3 : Int32)) hx hb dL_law_181 (by decide) ?_
  refine lv_iadd hx hb dL_law_182 ?_
  obtain ⟨hin12, h⟩ := h
  refine va_sld hx hb hX hbl hbA hS hin12 dL_law_183 ?_
  refine lv_aload_n hx hb dL_law_184 rfl (lv_at hl 1 rfl) ?_
  refine lv_iload hx hb dL_law_185 (lv_at hl 5 rfl) ?_
  refine lv_iconst (v := (4 : Int32)) hx hb dL_law_187 (by decide) ?_
  refine lv_iadd hx hb dL_law_188 ?_
  obtain ⟨hin13, h⟩ := h
  refine va_sld hx hb hX hbl hbA hS hin13 dL_law_189 ?_
  refine lv_aload_n hx hb dL_law_190 rfl (lv_at hl 1 rfl) ?_
  refine lv_iload hx hb dL_law_191 (lv_at hl 5 rfl) ?_
  refine lv_iconst (v := (5 : Int32)) hx hb dL_law_193 (by decide) ?_
  refine lv_iadd hx hb dL_law_194 ?_
  obtain ⟨hin14, h⟩ := h
  refine va_sld hx hb hX hbl hbA hS hin14 dL_law_195 ?_
  refine lcall_i (wf := wM cI am) (va_runV (As := [.int (xs (Int32.toNatClampNeg (x4 + (1 : Int32)))), .int (xs (Int32.toNatClampNeg (x4 + (2 : Int32)))), .int (xs (Int32.toNatClampNeg (x4 + (3 : Int32)))), .int (xs (Int32.toNatClampNeg (x4 + (4 : Int32)))), .int (xs (Int32.toNatClampNeg (x4 + (5 : Int32))))]) (rest := []) ⟨hx, hb, hml, hown, hts⟩ (cTX5_row l dC dI cI am J G H.size (xs (Int32.toNatClampNeg (x4 + (1 : Int32)))) (xs (Int32.toNatClampNeg (x4 + (2 : Int32)))) (xs (Int32.toNatClampNeg (x4 + (3 : Int32)))) (xs (Int32.toNatClampNeg (x4 + (4 : Int32)))) (xs (Int32.toNatClampNeg (x4 + (5 : Int32)))) _ h) (cwV 5 hts gL_law_X5_row rfl rfl rfl (by decide +kernel) ⟨(Nat.le_of_ble_eq_true rfl), (Nat.le_of_ble_eq_true rfl)⟩) (pv_W hM hK hN ((hDm _ _).weaken (fun _ _ _ _ => trivial)) 0 5 rfl rfl _) rfl rfl hl.1 rfl (lv_room (Nat.le_of_ble_eq_true rfl)) dL_law_196 hf1) hDm hS hA hP (hcm _ _ _ _).symm hO (hmo _ _ _) (fun r15 J16 G17 h H locs hM hP hO hS => ?_)
  refine lv_istore (lv' := [(6, .int r15), (5, .int r6), (0, .ref b), (1, .ref (ad 0)), (2, .ref (am 0)), (3, .ref ao), (4, .int x4)]) hx hb dL_law_199 hl (by decide) rfl (fun ls hl => ?_)
  refine lv_aload_n hx hb dL_law_201 rfl (lv_at hl 4 rfl) ?_
  refine vp_callSi (cr_of (va_runV (As := []) (rest := []) ⟨hx, hb, hml, hown, hts⟩ (cTX5_thrown l dC dI cI am J16 G17 _ h) (cwV 0 hts gL_law_X5_thrown rfl rfl rfl (by decide +kernel) ⟨(Nat.le_of_ble_eq_true rfl), (Nat.le_of_ble_eq_true rfl)⟩) (pv_R hM hK hN 0 5 rfl rfl _) rfl rfl hl.1 rfl (lv_room (Nat.le_of_ble_eq_true rfl)) dL_law_202 hf1)) (fun r18 h => ?_)
  refine lv_iload hx hb dL_law_205 (lv_at hl 1 rfl) ?_
  refine lv_icmp_eq (tgt := 212) hx hb dL_law_207 (by decide) (fun c19 => ?_) (fun c19 => ?_)
  · have h := h.1 c19
    refine lv_iload hx hb dL_law_212 (lv_at hl 1 rfl) ?_
    refine lv_if_ne (tgt := 229) hx hb dL_law_214 (by decide) (fun c20 => ?_) (fun c20 => ?_)
    · have h := h.1 c20
      refine lv_goto (tgt := 1334) hx hb dL_law_229 (by decide) ?_
      obtain ⟨v21, ev21⟩ : ∃ y : Int32, y = x4 + (6 : Int32) := ⟨_, rfl⟩
      have h := h v21 ev21
      refine lv_iinc (v := v21) (lv' := [(4, .int v21), (6, .int r15), (5, .int r6), (0, .ref b), (1, .ref (ad 0)), (2, .ref (am 0)), (3, .ref ao)]) hx hb dL_law_1334 hl (k := 6) rfl (by rw [ev21]; rfl) (by decide) rfl (fun ls hl => ?_)
      refine lv_goto (tgt := 23) hx hb dL_law_1337 (by decide) ?_
      refine W.widen (k := 40 + (k + 1)) (n := 1368 + 6 * (k + 1)) (by omega) (by omega) ?_
      exact ih I7 F8 J16 G17 g9 v21 h (by rw [ev21, hx4]; exact nx6 k) H locs hP hM hO hS ls (lv_sub hl [3, 4, 5, 6, 0] rfl)
    · have h := h.2 c20
      refine lv_aload_n hx hb dL_law_217 rfl (lv_at hl 5 rfl) ?_
      refine lv_iconst (v := (0 : Int32)) hx hb dL_law_218 (by decide) ?_
      refine va_lald hx hb hK2 hO 0 1 rfl rfl in01 dL_law_219 ?_
      refine lv_iload hx hb dL_law_220 (lv_at hl 0 rfl) ?_
      refine lv_i2l (v := r15.toInt64) hx hb dL_law_222 rfl ?_
      refine W.lcmp hx hb dL_law_223 ?_
      refine lv_if_eq (tgt := 229) hx hb dL_law_224 (by decide) (fun c22 => ?_) (fun c22 => ?_)
      · have h := h.1 c22
        refine lv_goto (tgt := 1334) hx hb dL_law_229 (by decide) ?_
        obtain ⟨v23, ev23⟩ : ∃ y : Int32, y = x4 + (6 : Int32) := ⟨_, rfl⟩
        have h := h v23 ev23
        refine lv_iinc (v := v23) (lv' := [(4, .int v23), (6, .int r15), (5, .int r6), (0, .ref b), (1, .ref (ad 0)), (2, .ref (am 0)), (3, .ref ao)]) hx hb dL_law_1334 hl (k := 6) rfl (by rw [ev23]; rfl) (by decide) rfl (fun ls hl => ?_)
        refine lv_goto (tgt := 23) hx hb dL_law_1337 (by decide) ?_
        refine W.widen (k := 40 + (k + 1)) (n := 1368 + 6 * (k + 1)) (by omega) (by omega) ?_
        exact ih I7 F8 J16 G17 g9 v23 h (by rw [ev23, hx4]; exact nx6 k) H locs hP hM hO hS ls (lv_sub hl [3, 4, 5, 6, 0] rfl)
      · have h := h.2 c22
        exact h.elim
  · have h := h.2 c19
    exact h.elim
set_option maxHeartbeats 8000000 in
set_option maxRecDepth 100000 in
theorem sL_1 {p : Program} {l : Launch} {e : Env} {s : State} {m : MethodId} {below : List Frame} {meth : Method} {c : Code} {dC : Nat → ClassId} {dI : Nat → Nat → Nat} {cI cJ : ClassId} {ad am : Nat → Nat} {ao b L : Nat} {xs : Nat → Int32} (hst : l.stackTraces = false) (V : LV p s m meth c b L xs dC dI cI cJ ad am ao) (k : Nat) (hk : k ≤ 511) (K : (Nat → Int32) → (Nat → Nat → Int32) → (Nat → Int32) → (Nat → Nat → Int32) → (Nat → Int64) → Int32 → Prop) (ih : ∀ (I : Nat → Int32) (F : Nat → Nat → Int32) (J : Nat → Int32) (G : Nat → Nat → Int32) (g : Nat → Int64) (x4 : Int32), K I F J G g x4 → x4 = nI (6 * (k + 1)) → ∀ (H : Heap) (locs : List Loc), va_P (dC, dI) vwCl (wC cI ad I F) H → va_P (dC, dI) vwCl (wM cI am J G) H → va_P (dC, dI) vwCl (oC cJ ao g) H → va_S (fun q : Nat => s.heap.size ≤ q) s.heap H locs → ∀ (ls : Array Slot), lv_has ls 7 [(0, .ref b), (1, .ref (ad 0)), (2, .ref (am 0)), (3, .ref ao), (4, .int x4)] → W p l e room_1 s m #[Value.ref b] below meth c H locs (40 + (k + 1)) (1368 + 6 * (k + 1)) (lw_Z below #[Value.ref b] s) (F0 m 23 ls [])) : ∀ (I : Nat → Int32) (F : Nat → Nat → Int32) (J : Nat → Int32) (G : Nat → Nat → Int32) (g : Nat → Int64) (x4 : Int32), pL_1 L xs K I F J G g x4 → x4 = nI (6 * k) → ∀ (H : Heap) (locs : List Loc), va_P (dC, dI) vwCl (wC cI ad I F) H → va_P (dC, dI) vwCl (wM cI am J G) H → va_P (dC, dI) vwCl (oC cJ ao g) H → va_S (fun q : Nat => s.heap.size ≤ q) s.heap H locs → ∀ (ls : Array Slot), lv_has ls 7 [(0, .ref b), (1, .ref (ad 0)), (2, .ref (am 0)), (3, .ref ao), (4, .int x4)] → W p l e room_1 s m #[Value.ref b] below meth c H locs (40 + k) (1368 + 6 * k) (lw_Z below #[Value.ref b] s) (F0 m 232 ls []) := by
  obtain ⟨hx, hb, hml, hown, hts, hX, hbl, hK2, hN, hT, hC, hZ, hDc, hDm, hAo, hcm, hco, hmo⟩ := V
  have hK : va_K (dC, dI) vwCl [(cI, .int)] s := hK2.sub [0] rfl
  have hA : ∀ q : Nat, s.heap.size ≤ q → (fun q : Nat => s.heap.size ≤ q) q := fun _ h => h
  have hbA : ¬ (fun q : Nat => s.heap.size ≤ q) b := Nat.not_le.mpr hbl
  have hf0 : 40 + k + 0 ≤ room_1.cells ∧ 1368 + 6 * k + 0 ≤ room_1.slots := ⟨by show _ ≤ 1095; omega, by show _ ≤ 9746; omega⟩
  have hfh : 40 + k + 1 ≤ room_1.cells ∧ 1368 + 6 * k + 6 ≤ room_1.slots := ⟨by show _ ≤ 1095; omega, by show _ ≤ 9746; omega⟩
  have hf1 : 40 + k + 1 + 0 ≤ room_1.cells ∧ 1368 + 6 * k + 6 + 0 ≤ room_1.slots := ⟨by show _ ≤ 1095; omega, by show _ ≤ 9746; omega⟩
  intro I F J G g x4 h hx4 H locs hP hM hO hS ls hl
  unfold pL_1 at h
  refine lv_aload_n hx hb dL_law_232 rfl (lv_at hl 1 rfl) ?_
  refine lcall_h (vx_runSW (As := [.ref (ad 0)]) (rest := []) ⟨hx, hb, hml, hown, hts⟩ (cTL_undo l hst dC dI cI cJ ad ao I F g H.size _ h) (vx_cwSW 1 hts gL_law_L_undo rfl rfl rfl (by decide +kernel) ⟨(Nat.le_of_ble_eq_true rfl), (Nat.le_of_ble_eq_true rfl)⟩) (pv_H hP hO hK2 hN hT hC hZ hS hDc hAo hA (hco _ _ _)) rfl rfl hl.1 rfl (lv_room (Nat.le_of_ble_eq_true rfl)) dL_law_233 hfh) hDc hAo hS hA hM (hcm _ _ _ _) (hmo _ _ g) (fun r1 I2 F3 g4 h H locs hP hM hO hS => ?_)
  refine lv_istore (lv' := [(5, .int r1), (0, .ref b), (1, .ref (ad 0)), (2, .ref (am 0)), (3, .ref ao), (4, .int x4)]) hx hb dL_law_236 hl (by decide) rfl (fun ls hl => ?_)
  refine lv_aload_n hx hb dL_law_238 rfl (lv_at hl 3 rfl) ?_
  refine lcall_v (wf := wM cI am) (va_runV (As := []) (rest := []) ⟨hx, hb, hml, hown, hts⟩ (cTX5_undo l dC dI cI am J G H.size _ h) (cwV 0 hts gL_law_X5_undo rfl rfl rfl (by decide +kernel) ⟨(Nat.le_of_ble_eq_true rfl), (Nat.le_of_ble_eq_true rfl)⟩) (pv_W hM hK hN ((hDm _ _).weaken (fun _ _ _ _ => trivial)) 0 5 rfl rfl _) rfl rfl hl.1 rfl (lv_room (Nat.le_of_ble_eq_true rfl)) dL_law_239 hf1) hDm hS hA hP (hcm _ _ _ _).symm hO (hmo _ _ _) (fun J6 G7 h H locs hM hP hO hS => ?_)
  refine lv_aload_n hx hb dL_law_242 rfl (lv_at hl 3 rfl) ?_
  refine vp_callSi (cr_of (va_runV (As := []) (rest := []) ⟨hx, hb, hml, hown, hts⟩ (cTX5_thrown l dC dI cI am J6 G7 _ h) (cwV 0 hts gL_law_X5_thrown rfl rfl rfl (by decide +kernel) ⟨(Nat.le_of_ble_eq_true rfl), (Nat.le_of_ble_eq_true rfl)⟩) (pv_R hM hK hN 0 5 rfl rfl _) rfl rfl hl.1 rfl (lv_room (Nat.le_of_ble_eq_true rfl)) dL_law_243 hf1)) (fun r8 h => ?_)
  refine lv_iload hx hb dL_law_246 (lv_at hl 0 rfl) ?_
  refine lv_icmp_eq (tgt := 253) hx hb dL_law_248 (by decide) (fun c9 => ?_) (fun c9 => ?_)
  · have h := h.1 c9
    refine lv_goto (tgt := 1334) hx hb dL_law_253 (by decide) ?_
    obtain ⟨v10, ev10⟩ : ∃ y : Int32, y = x4 + (6 : Int32) := ⟨_, rfl⟩
    have h := h v10 ev10
    refine lv_iinc (v := v10) (lv' := [(4, .int v10), (5, .int r1), (0, .ref b), (1, .ref (ad 0)), (2, .ref (am 0)), (3, .ref ao)]) hx hb dL_law_1334 hl (k := 5) rfl (by rw [ev10]; rfl) (by decide) rfl (fun ls hl => ?_)
    refine lv_goto (tgt := 23) hx hb dL_law_1337 (by decide) ?_
    refine W.widen (k := 40 + (k + 1)) (n := 1368 + 6 * (k + 1)) (by omega) (by omega) ?_
    exact ih I2 F3 J6 G7 g4 v10 h (by rw [ev10, hx4]; exact nx6 k) H locs hP hM hO hS ls (lv_sub hl [2, 3, 4, 5, 0] rfl)
  · have h := h.2 c9
    exact h.elim
set_option maxHeartbeats 8000000 in
set_option maxRecDepth 100000 in
theorem sL_2 {p : Program} {l : Launch} {e : Env} {s : State} {m : MethodId} {below : List Frame} {meth : Method} {c : Code} {dC : Nat → ClassId} {dI : Nat → Nat → Nat} {cI cJ : ClassId} {ad am : Nat → Nat} {ao b L : Nat} {xs : Nat → Int32} (hst : l.stackTraces = false) (V : LV p s m meth c b L xs dC dI cI cJ ad am ao) (k : Nat) (hk : k ≤ 511) (K : (Nat → Int32) → (Nat → Nat → Int32) → (Nat → Int32) → (Nat → Nat → Int32) → (Nat → Int64) → Int32 → Prop) (ih : ∀ (I : Nat → Int32) (F : Nat → Nat → Int32) (J : Nat → Int32) (G : Nat → Nat → Int32) (g : Nat → Int64) (x4 : Int32), K I F J G g x4 → x4 = nI (6 * (k + 1)) → ∀ (H : Heap) (locs : List Loc), va_P (dC, dI) vwCl (wC cI ad I F) H → va_P (dC, dI) vwCl (wM cI am J G) H → va_P (dC, dI) vwCl (oC cJ ao g) H → va_S (fun q : Nat => s.heap.size ≤ q) s.heap H locs → ∀ (ls : Array Slot), lv_has ls 7 [(0, .ref b), (1, .ref (ad 0)), (2, .ref (am 0)), (3, .ref ao), (4, .int x4)] → W p l e room_1 s m #[Value.ref b] below meth c H locs (40 + (k + 1)) (1368 + 6 * (k + 1)) (lw_Z below #[Value.ref b] s) (F0 m 23 ls [])) : ∀ (I : Nat → Int32) (F : Nat → Nat → Int32) (J : Nat → Int32) (G : Nat → Nat → Int32) (g : Nat → Int64) (x4 : Int32), pL_2 L xs K I F J G g x4 → x4 = nI (6 * k) → ∀ (H : Heap) (locs : List Loc), va_P (dC, dI) vwCl (wC cI ad I F) H → va_P (dC, dI) vwCl (wM cI am J G) H → va_P (dC, dI) vwCl (oC cJ ao g) H → va_S (fun q : Nat => s.heap.size ≤ q) s.heap H locs → ∀ (ls : Array Slot), lv_has ls 7 [(0, .ref b), (1, .ref (ad 0)), (2, .ref (am 0)), (3, .ref ao), (4, .int x4)] → W p l e room_1 s m #[Value.ref b] below meth c H locs (40 + k) (1368 + 6 * k) (lw_Z below #[Value.ref b] s) (F0 m 256 ls []) := by
  obtain ⟨hx, hb, hml, hown, hts, hX, hbl, hK2, hN, hT, hC, hZ, hDc, hDm, hAo, hcm, hco, hmo⟩ := V
  have hK : va_K (dC, dI) vwCl [(cI, .int)] s := hK2.sub [0] rfl
  have hA : ∀ q : Nat, s.heap.size ≤ q → (fun q : Nat => s.heap.size ≤ q) q := fun _ h => h
  have hbA : ¬ (fun q : Nat => s.heap.size ≤ q) b := Nat.not_le.mpr hbl
  have hf0 : 40 + k + 0 ≤ room_1.cells ∧ 1368 + 6 * k + 0 ≤ room_1.slots := ⟨by show _ ≤ 1095; omega, by show _ ≤ 9746; omega⟩
  have hfh : 40 + k + 1 ≤ room_1.cells ∧ 1368 + 6 * k + 6 ≤ room_1.slots := ⟨by show _ ≤ 1095; omega, by show _ ≤ 9746; omega⟩
  have hf1 : 40 + k + 1 + 0 ≤ room_1.cells ∧ 1368 + 6 * k + 6 + 0 ≤ room_1.slots := ⟨by show _ ≤ 1095; omega, by show _ ≤ 9746; omega⟩
  intro I F J G g x4 h hx4 H locs hP hM hO hS ls hl
  unfold pL_2 at h
  refine lv_aload_n hx hb dL_law_256 rfl (lv_at hl 1 rfl) ?_
  refine vp_callSi (cr_of (va_runV (As := []) (rest := []) ⟨hx, hb, hml, hown, hts⟩ (cTX4_witness l dC dI cI ad I F _ h) (cwV 0 hts gL_law_X4_witness rfl rfl rfl (by decide +kernel) ⟨(Nat.le_of_ble_eq_true rfl), (Nat.le_of_ble_eq_true rfl)⟩) (pv_R hP hK hN 0 4 rfl rfl _) rfl rfl hl.1 rfl (lv_room (Nat.le_of_ble_eq_true rfl)) dL_law_257 hf0)) (fun r1 h => ?_)
  refine lv_aload_n hx hb dL_law_260 rfl (lv_at hl 2 rfl) ?_
  refine lcall_i (wf := wM cI am) (va_runV (As := []) (rest := [.int r1]) ⟨hx, hb, hml, hown, hts⟩ (cTX5_witness l dC dI cI am J G H.size _ h) (cwV 0 hts gL_law_X5_witness rfl rfl rfl (by decide +kernel) ⟨(Nat.le_of_ble_eq_true rfl), (Nat.le_of_ble_eq_true rfl)⟩) (pv_W hM hK hN ((hDm _ _).weaken (fun _ _ _ _ => trivial)) 0 5 rfl rfl _) rfl rfl hl.1 rfl (lv_room (Nat.le_of_ble_eq_true rfl)) dL_law_261 hf0) hDm hS hA hP (hcm _ _ _ _).symm hO (hmo _ _ _) (fun r2 J3 G4 h H locs hM hP hO hS => ?_)
  refine lv_icmp_eq (tgt := 1334) hx hb dL_law_264 (by decide) (fun c5 => ?_) (fun c5 => ?_)
  · have h := h.1 c5
    obtain ⟨v6, ev6⟩ : ∃ y : Int32, y = x4 + (6 : Int32) := ⟨_, rfl⟩
    have h := h v6 ev6
    refine lv_iinc (v := v6) (lv' := [(4, .int v6), (0, .ref b), (1, .ref (ad 0)), (2, .ref (am 0)), (3, .ref ao)]) hx hb dL_law_1334 hl (k := 4) rfl (by rw [ev6]; rfl) (by decide) rfl (fun ls hl => ?_)
    refine lv_goto (tgt := 23) hx hb dL_law_1337 (by decide) ?_
    refine W.widen (k := 40 + (k + 1)) (n := 1368 + 6 * (k + 1)) (by omega) (by omega) ?_
    exact ih I F J3 G4 g v6 h (by rw [ev6, hx4]; exact nx6 k) H locs hP hM hO hS ls (lv_sub hl [1, 2, 3, 4, 0] rfl)
  · have h := h.2 c5
    exact h.elim
set_option maxHeartbeats 8000000 in
set_option maxRecDepth 100000 in
theorem sL_3 {p : Program} {l : Launch} {e : Env} {s : State} {m : MethodId} {below : List Frame} {meth : Method} {c : Code} {dC : Nat → ClassId} {dI : Nat → Nat → Nat} {cI cJ : ClassId} {ad am : Nat → Nat} {ao b L : Nat} {xs : Nat → Int32} (hst : l.stackTraces = false) (V : LV p s m meth c b L xs dC dI cI cJ ad am ao) (k : Nat) (hk : k ≤ 511) (K : (Nat → Int32) → (Nat → Nat → Int32) → (Nat → Int32) → (Nat → Nat → Int32) → (Nat → Int64) → Int32 → Prop) (ih : ∀ (I : Nat → Int32) (F : Nat → Nat → Int32) (J : Nat → Int32) (G : Nat → Nat → Int32) (g : Nat → Int64) (x4 : Int32), K I F J G g x4 → x4 = nI (6 * (k + 1)) → ∀ (H : Heap) (locs : List Loc), va_P (dC, dI) vwCl (wC cI ad I F) H → va_P (dC, dI) vwCl (wM cI am J G) H → va_P (dC, dI) vwCl (oC cJ ao g) H → va_S (fun q : Nat => s.heap.size ≤ q) s.heap H locs → ∀ (ls : Array Slot), lv_has ls 7 [(0, .ref b), (1, .ref (ad 0)), (2, .ref (am 0)), (3, .ref ao), (4, .int x4)] → W p l e room_1 s m #[Value.ref b] below meth c H locs (40 + (k + 1)) (1368 + 6 * (k + 1)) (lw_Z below #[Value.ref b] s) (F0 m 23 ls [])) : ∀ (I : Nat → Int32) (F : Nat → Nat → Int32) (J : Nat → Int32) (G : Nat → Nat → Int32) (g : Nat → Int64) (x4 : Int32), pL_3 L xs K I F J G g x4 → x4 = nI (6 * k) → ∀ (H : Heap) (locs : List Loc), va_P (dC, dI) vwCl (wC cI ad I F) H → va_P (dC, dI) vwCl (wM cI am J G) H → va_P (dC, dI) vwCl (oC cJ ao g) H → va_S (fun q : Nat => s.heap.size ≤ q) s.heap H locs → ∀ (ls : Array Slot), lv_has ls 7 [(0, .ref b), (1, .ref (ad 0)), (2, .ref (am 0)), (3, .ref ao), (4, .int x4)] → W p l e room_1 s m #[Value.ref b] below meth c H locs (40 + k) (1368 + 6 * k) (lw_Z below #[Value.ref b] s) (F0 m 269 ls []) := by
  obtain ⟨hx, hb, hml, hown, hts, hX, hbl, hK2, hN, hT, hC, hZ, hDc, hDm, hAo, hcm, hco, hmo⟩ := V
  have hK : va_K (dC, dI) vwCl [(cI, .int)] s := hK2.sub [0] rfl
  have hA : ∀ q : Nat, s.heap.size ≤ q → (fun q : Nat => s.heap.size ≤ q) q := fun _ h => h
  have hbA : ¬ (fun q : Nat => s.heap.size ≤ q) b := Nat.not_le.mpr hbl
  have hf0 : 40 + k + 0 ≤ room_1.cells ∧ 1368 + 6 * k + 0 ≤ room_1.slots := ⟨by show _ ≤ 1095; omega, by show _ ≤ 9746; omega⟩
  have hfh : 40 + k + 1 ≤ room_1.cells ∧ 1368 + 6 * k + 6 ≤ room_1.slots := ⟨by show _ ≤ 1095; omega, by show _ ≤ 9746; omega⟩
  have hf1 : 40 + k + 1 + 0 ≤ room_1.cells ∧ 1368 + 6 * k + 6 + 0 ≤ room_1.slots := ⟨by show _ ≤ 1095; omega, by show _ ≤ 9746; omega⟩
  intro I F J G g x4 h hx4 H locs hP hM hO hS ls hl
  unfold pL_3 at h
  refine lv_aload_n hx hb dL_law_269 rfl (lv_at hl 1 rfl) ?_
  refine lv_aload_n hx hb dL_law_270 rfl (lv_at hl 0 rfl) ?_
  refine lv_iload hx hb dL_law_271 (lv_at hl 4 rfl) ?_
  refine lv_iconst (v := (1 : Int32)) hx hb dL_law_273 (by decide) ?_
  refine lv_iadd hx hb dL_law_274 ?_
  obtain ⟨hin1, h⟩ := h
  refine va_sld hx hb hX hbl hbA hS hin1 dL_law_275 ?_
  refine lcall_h (vx_runSW (As := [.ref (ad 0), .int (xs (Int32.toNatClampNeg (x4 + (1 : Int32))))]) (rest := []) ⟨hx, hb, hml, hown, hts⟩ (cTL_quota l hst dC dI cI cJ ad ao I F g H.size (xs (Int32.toNatClampNeg (x4 + (1 : Int32)))) _ h) (vx_cwSW 2 hts gL_law_L_quota rfl rfl rfl (by decide +kernel) ⟨(Nat.le_of_ble_eq_true rfl), (Nat.le_of_ble_eq_true rfl)⟩) (pv_H hP hO hK2 hN hT hC hZ hS hDc hAo hA (hco _ _ _)) rfl rfl hl.1 rfl (lv_room (Nat.le_of_ble_eq_true rfl)) dL_law_276 hfh) hDc hAo hS hA hM (hcm _ _ _ _) (hmo _ _ g) (fun r2 I3 F4 g5 h H locs hP hM hO hS => ?_)
  refine lv_istore (lv' := [(5, .int r2), (0, .ref b), (1, .ref (ad 0)), (2, .ref (am 0)), (3, .ref ao), (4, .int x4)]) hx hb dL_law_279 hl (by decide) rfl (fun ls hl => ?_)
  refine lv_aload_n hx hb dL_law_281 rfl (lv_at hl 3 rfl) ?_
  refine lv_aload_n hx hb dL_law_282 rfl (lv_at hl 1 rfl) ?_
  refine lv_iload hx hb dL_law_283 (lv_at hl 5 rfl) ?_
  refine lv_iconst (v := (1 : Int32)) hx hb dL_law_285 (by decide) ?_
  refine lv_iadd hx hb dL_law_286 ?_
  obtain ⟨hin6, h⟩ := h
  refine va_sld hx hb hX hbl hbA hS hin6 dL_law_287 ?_
  refine lcall_v (wf := wM cI am) (va_runV (As := [.int (xs (Int32.toNatClampNeg (x4 + (1 : Int32))))]) (rest := []) ⟨hx, hb, hml, hown, hts⟩ (cTX5_quota l dC dI cI am J G H.size (xs (Int32.toNatClampNeg (x4 + (1 : Int32)))) _ h) (cwV 1 hts gL_law_X5_quota rfl rfl rfl (by decide +kernel) ⟨(Nat.le_of_ble_eq_true rfl), (Nat.le_of_ble_eq_true rfl)⟩) (pv_W hM hK hN ((hDm _ _).weaken (fun _ _ _ _ => trivial)) 0 5 rfl rfl _) rfl rfl hl.1 rfl (lv_room (Nat.le_of_ble_eq_true rfl)) dL_law_288 hf1) hDm hS hA hP (hcm _ _ _ _).symm hO (hmo _ _ _) (fun J8 G9 h H locs hM hP hO hS => ?_)
  refine lv_aload_n hx hb dL_law_291 rfl (lv_at hl 3 rfl) ?_
  refine vp_callSi (cr_of (va_runV (As := []) (rest := []) ⟨hx, hb, hml, hown, hts⟩ (cTX5_thrown l dC dI cI am J8 G9 _ h) (cwV 0 hts gL_law_X5_thrown rfl rfl rfl (by decide +kernel) ⟨(Nat.le_of_ble_eq_true rfl), (Nat.le_of_ble_eq_true rfl)⟩) (pv_R hM hK hN 0 5 rfl rfl _) rfl rfl hl.1 rfl (lv_room (Nat.le_of_ble_eq_true rfl)) dL_law_292 hf1)) (fun r10 h => ?_)
  refine lv_iload hx hb dL_law_295 (lv_at hl 0 rfl) ?_
  refine lv_icmp_eq (tgt := 302) hx hb dL_law_297 (by decide) (fun c11 => ?_) (fun c11 => ?_)
  · have h := h.1 c11
    refine lv_goto (tgt := 1334) hx hb dL_law_302 (by decide) ?_
    obtain ⟨v12, ev12⟩ : ∃ y : Int32, y = x4 + (6 : Int32) := ⟨_, rfl⟩
    have h := h v12 ev12
    refine lv_iinc (v := v12) (lv' := [(4, .int v12), (5, .int r2), (0, .ref b), (1, .ref (ad 0)), (2, .ref (am 0)), (3, .ref ao)]) hx hb dL_law_1334 hl (k := 5) rfl (by rw [ev12]; rfl) (by decide) rfl (fun ls hl => ?_)
    refine lv_goto (tgt := 23) hx hb dL_law_1337 (by decide) ?_
    refine W.widen (k := 40 + (k + 1)) (n := 1368 + 6 * (k + 1)) (by omega) (by omega) ?_
    exact ih I3 F4 J8 G9 g5 v12 h (by rw [ev12, hx4]; exact nx6 k) H locs hP hM hO hS ls (lv_sub hl [2, 3, 4, 5, 0] rfl)
  · have h := h.2 c11
    exact h.elim
set_option maxHeartbeats 8000000 in
set_option maxRecDepth 100000 in
theorem sL_4 {p : Program} {l : Launch} {e : Env} {s : State} {m : MethodId} {below : List Frame} {meth : Method} {c : Code} {dC : Nat → ClassId} {dI : Nat → Nat → Nat} {cI cJ : ClassId} {ad am : Nat → Nat} {ao b L : Nat} {xs : Nat → Int32} (hst : l.stackTraces = false) (V : LV p s m meth c b L xs dC dI cI cJ ad am ao) (k : Nat) (hk : k ≤ 511) (K : (Nat → Int32) → (Nat → Nat → Int32) → (Nat → Int32) → (Nat → Nat → Int32) → (Nat → Int64) → Int32 → Prop) (ih : ∀ (I : Nat → Int32) (F : Nat → Nat → Int32) (J : Nat → Int32) (G : Nat → Nat → Int32) (g : Nat → Int64) (x4 : Int32), K I F J G g x4 → x4 = nI (6 * (k + 1)) → ∀ (H : Heap) (locs : List Loc), va_P (dC, dI) vwCl (wC cI ad I F) H → va_P (dC, dI) vwCl (wM cI am J G) H → va_P (dC, dI) vwCl (oC cJ ao g) H → va_S (fun q : Nat => s.heap.size ≤ q) s.heap H locs → ∀ (ls : Array Slot), lv_has ls 7 [(0, .ref b), (1, .ref (ad 0)), (2, .ref (am 0)), (3, .ref ao), (4, .int x4)] → W p l e room_1 s m #[Value.ref b] below meth c H locs (40 + (k + 1)) (1368 + 6 * (k + 1)) (lw_Z below #[Value.ref b] s) (F0 m 23 ls [])) : ∀ (I : Nat → Int32) (F : Nat → Nat → Int32) (J : Nat → Int32) (G : Nat → Nat → Int32) (g : Nat → Int64) (x4 : Int32), pL_4 L xs K I F J G g x4 → x4 = nI (6 * k) → ∀ (H : Heap) (locs : List Loc), va_P (dC, dI) vwCl (wC cI ad I F) H → va_P (dC, dI) vwCl (wM cI am J G) H → va_P (dC, dI) vwCl (oC cJ ao g) H → va_S (fun q : Nat => s.heap.size ≤ q) s.heap H locs → ∀ (ls : Array Slot), lv_has ls 7 [(0, .ref b), (1, .ref (ad 0)), (2, .ref (am 0)), (3, .ref ao), (4, .int x4)] → W p l e room_1 s m #[Value.ref b] below meth c H locs (40 + k) (1368 + 6 * k) (lw_Z below #[Value.ref b] s) (F0 m 305 ls []) := by
  obtain ⟨hx, hb, hml, hown, hts, hX, hbl, hK2, hN, hT, hC, hZ, hDc, hDm, hAo, hcm, hco, hmo⟩ := V
  have hK : va_K (dC, dI) vwCl [(cI, .int)] s := hK2.sub [0] rfl
  have hA : ∀ q : Nat, s.heap.size ≤ q → (fun q : Nat => s.heap.size ≤ q) q := fun _ h => h
  have hbA : ¬ (fun q : Nat => s.heap.size ≤ q) b := Nat.not_le.mpr hbl
  have hf0 : 40 + k + 0 ≤ room_1.cells ∧ 1368 + 6 * k + 0 ≤ room_1.slots := ⟨by show _ ≤ 1095; omega, by show _ ≤ 9746; omega⟩
  have hfh : 40 + k + 1 ≤ room_1.cells ∧ 1368 + 6 * k + 6 ≤ room_1.slots := ⟨by show _ ≤ 1095; omega, by show _ ≤ 9746; omega⟩
  have hf1 : 40 + k + 1 + 0 ≤ room_1.cells ∧ 1368 + 6 * k + 6 + 0 ≤ room_1.slots := ⟨by show _ ≤ 1095; omega, by show _ ≤ 9746; omega⟩
  intro I F J G g x4 h hx4 H locs hP hM hO hS ls hl
  unfold pL_4 at h
  refine lv_aload_n hx hb dL_law_305 rfl (lv_at hl 1 rfl) ?_
  refine lv_aload_n hx hb dL_law_306 rfl (lv_at hl 0 rfl) ?_
  refine lv_iload hx hb dL_law_307 (lv_at hl 4 rfl) ?_
  refine lv_iconst (v := (1 : Int32)) hx hb dL_law_309 (by decide) ?_
  refine lv_iadd hx hb dL_law_310 ?_
  obtain ⟨hin1, h⟩ := h
  refine va_sld hx hb hX hbl hbA hS hin1 dL_law_311 ?_
  refine lv_aload_n hx hb dL_law_312 rfl (lv_at hl 0 rfl) ?_
  refine lv_iload hx hb dL_law_313 (lv_at hl 4 rfl) ?_
  refine lv_iconst (v := (2 : Int32)) hx hb dL_law_315 (by decide) ?_
  refine lv_iadd hx hb dL_law_316 ?_
  obtain ⟨hin2, h⟩ := h
  refine va_sld hx hb hX hbl hbA hS hin2 dL_law_317 ?_
  refine lv_aload_n hx hb dL_law_318 rfl (lv_at hl 0 rfl) ?_
  refine lv_iload hx hb dL_law_319 (lv_at hl 4 rfl) ?_
  refine lv_iconst (v := (3 : Int32)) hx hb dL_law_321 (by decide) ?_
  refine lv_iadd hx hb dL_law_322 ?_
  obtain ⟨hin3, h⟩ := h
  refine va_sld hx hb hX hbl hbA hS hin3 dL_law_323 ?_
  refine lcall_h (vx_runSW (As := [.ref (ad 0), .int (xs (Int32.toNatClampNeg (x4 + (1 : Int32)))), .int (xs (Int32.toNatClampNeg (x4 + (2 : Int32)))), .int (xs (Int32.toNatClampNeg (x4 + (3 : Int32))))]) (rest := []) ⟨hx, hb, hml, hown, hts⟩ (cTL_terms l hst dC dI cI cJ ad ao I F g H.size (xs (Int32.toNatClampNeg (x4 + (1 : Int32)))) (xs (Int32.toNatClampNeg (x4 + (2 : Int32)))) (xs (Int32.toNatClampNeg (x4 + (3 : Int32)))) _ h) (vx_cwSW 4 hts gL_law_L_terms rfl rfl rfl (by decide +kernel) ⟨(Nat.le_of_ble_eq_true rfl), (Nat.le_of_ble_eq_true rfl)⟩) (pv_H hP hO hK2 hN hT hC hZ hS hDc hAo hA (hco _ _ _)) rfl rfl hl.1 rfl (lv_room (Nat.le_of_ble_eq_true rfl)) dL_law_324 hfh) hDc hAo hS hA hM (hcm _ _ _ _) (hmo _ _ g) (fun r4 I5 F6 g7 h H locs hP hM hO hS => ?_)
  refine lv_istore (lv' := [(5, .int r4), (0, .ref b), (1, .ref (ad 0)), (2, .ref (am 0)), (3, .ref ao), (4, .int x4)]) hx hb dL_law_327 hl (by decide) rfl (fun ls hl => ?_)
  refine lv_aload_n hx hb dL_law_329 rfl (lv_at hl 3 rfl) ?_
  refine lv_aload_n hx hb dL_law_330 rfl (lv_at hl 1 rfl) ?_
  refine lv_iload hx hb dL_law_331 (lv_at hl 5 rfl) ?_
  refine lv_iconst (v := (1 : Int32)) hx hb dL_law_333 (by decide) ?_
  refine lv_iadd hx hb dL_law_334 ?_
  obtain ⟨hin8, h⟩ := h
  refine va_sld hx hb hX hbl hbA hS hin8 dL_law_335 ?_
  refine lv_aload_n hx hb dL_law_336 rfl (lv_at hl 1 rfl) ?_
  refine lv_iload hx hb dL_law_337 (lv_at hl 5 rfl) ?_
  refine lv_iconst (v := (2 : Int32)) hx hb dL_law_339 (by decide) ?_
  refine lv_iadd hx hb dL_law_340 ?_
  obtain ⟨hin9, h⟩ := h
  refine va_sld hx hb hX hbl hbA hS hin9 dL_law_341 ?_
  refine lv_aload_n hx hb dL_law_342 rfl (lv_at hl 1 rfl) ?_
  refine lv_iload hx hb dL_law_343 (lv_at hl 5 rfl) ?_
  refine lv_iconst (v := (3 : Int32)) hx hb dL_law_345 (by decide) ?_
  refine lv_iadd hx hb dL_law_346 ?_
  obtain ⟨hin10, h⟩ := h
  refine va_sld hx hb hX hbl hbA hS hin10 dL_law_347 ?_
  refine lcall_v (wf := wM cI am) (va_runV (As := [.int (xs (Int32.toNatClampNeg (x4 + (1 : Int32)))), .int (xs (Int32.toNatClampNeg (x4 + (2 : Int32)))), .int (xs (Int32.toNatClampNeg (x4 + (3 : Int32))))]) (rest := []) ⟨hx, hb, hml, hown, hts⟩ (cTX5_terms l dC dI cI am J G H.size (xs (Int32.toNatClampNeg (x4 + (1 : Int32)))) (xs (Int32.toNatClampNeg (x4 + (2 : Int32)))) (xs (Int32.toNatClampNeg (x4 + (3 : Int32)))) _ h) (cwV 3 hts gL_law_X5_terms rfl rfl rfl (by decide +kernel) ⟨(Nat.le_of_ble_eq_true rfl), (Nat.le_of_ble_eq_true rfl)⟩) (pv_W hM hK hN ((hDm _ _).weaken (fun _ _ _ _ => trivial)) 0 5 rfl rfl _) rfl rfl hl.1 rfl (lv_room (Nat.le_of_ble_eq_true rfl)) dL_law_348 hf1) hDm hS hA hP (hcm _ _ _ _).symm hO (hmo _ _ _) (fun J12 G13 h H locs hM hP hO hS => ?_)
  refine lv_aload_n hx hb dL_law_351 rfl (lv_at hl 3 rfl) ?_
  refine vp_callSi (cr_of (va_runV (As := []) (rest := []) ⟨hx, hb, hml, hown, hts⟩ (cTX5_thrown l dC dI cI am J12 G13 _ h) (cwV 0 hts gL_law_X5_thrown rfl rfl rfl (by decide +kernel) ⟨(Nat.le_of_ble_eq_true rfl), (Nat.le_of_ble_eq_true rfl)⟩) (pv_R hM hK hN 0 5 rfl rfl _) rfl rfl hl.1 rfl (lv_room (Nat.le_of_ble_eq_true rfl)) dL_law_352 hf1)) (fun r14 h => ?_)
  refine lv_iload hx hb dL_law_355 (lv_at hl 0 rfl) ?_
  refine lv_icmp_eq (tgt := 362) hx hb dL_law_357 (by decide) (fun c15 => ?_) (fun c15 => ?_)
  · have h := h.1 c15
    refine lv_goto (tgt := 1334) hx hb dL_law_362 (by decide) ?_
    obtain ⟨v16, ev16⟩ : ∃ y : Int32, y = x4 + (6 : Int32) := ⟨_, rfl⟩
    have h := h v16 ev16
    refine lv_iinc (v := v16) (lv' := [(4, .int v16), (5, .int r4), (0, .ref b), (1, .ref (ad 0)), (2, .ref (am 0)), (3, .ref ao)]) hx hb dL_law_1334 hl (k := 5) rfl (by rw [ev16]; rfl) (by decide) rfl (fun ls hl => ?_)
    refine lv_goto (tgt := 23) hx hb dL_law_1337 (by decide) ?_
    refine W.widen (k := 40 + (k + 1)) (n := 1368 + 6 * (k + 1)) (by omega) (by omega) ?_
    exact ih I5 F6 J12 G13 g7 v16 h (by rw [ev16, hx4]; exact nx6 k) H locs hP hM hO hS ls (lv_sub hl [2, 3, 4, 5, 0] rfl)
  · have h := h.2 c15
    exact h.elim
set_option maxHeartbeats 8000000 in
set_option maxRecDepth 100000 in
theorem sL_5 {p : Program} {l : Launch} {e : Env} {s : State} {m : MethodId} {below : List Frame} {meth : Method} {c : Code} {dC : Nat → ClassId} {dI : Nat → Nat → Nat} {cI cJ : ClassId} {ad am : Nat → Nat} {ao b L : Nat} {xs : Nat → Int32} (hst : l.stackTraces = false) (V : LV p s m meth c b L xs dC dI cI cJ ad am ao) (k : Nat) (hk : k ≤ 511) (K : (Nat → Int32) → (Nat → Nat → Int32) → (Nat → Int32) → (Nat → Nat → Int32) → (Nat → Int64) → Int32 → Prop) (ih : ∀ (I : Nat → Int32) (F : Nat → Nat → Int32) (J : Nat → Int32) (G : Nat → Nat → Int32) (g : Nat → Int64) (x4 : Int32), K I F J G g x4 → x4 = nI (6 * (k + 1)) → ∀ (H : Heap) (locs : List Loc), va_P (dC, dI) vwCl (wC cI ad I F) H → va_P (dC, dI) vwCl (wM cI am J G) H → va_P (dC, dI) vwCl (oC cJ ao g) H → va_S (fun q : Nat => s.heap.size ≤ q) s.heap H locs → ∀ (ls : Array Slot), lv_has ls 7 [(0, .ref b), (1, .ref (ad 0)), (2, .ref (am 0)), (3, .ref ao), (4, .int x4)] → W p l e room_1 s m #[Value.ref b] below meth c H locs (40 + (k + 1)) (1368 + 6 * (k + 1)) (lw_Z below #[Value.ref b] s) (F0 m 23 ls [])) : ∀ (I : Nat → Int32) (F : Nat → Nat → Int32) (J : Nat → Int32) (G : Nat → Nat → Int32) (g : Nat → Int64) (x4 : Int32), pL_5 L xs K I F J G g x4 → x4 = nI (6 * k) → ∀ (H : Heap) (locs : List Loc), va_P (dC, dI) vwCl (wC cI ad I F) H → va_P (dC, dI) vwCl (wM cI am J G) H → va_P (dC, dI) vwCl (oC cJ ao g) H → va_S (fun q : Nat => s.heap.size ≤ q) s.heap H locs → ∀ (ls : Array Slot), lv_has ls 7 [(0, .ref b), (1, .ref (ad 0)), (2, .ref (am 0)), (3, .ref ao), (4, .int x4)] → W p l e room_1 s m #[Value.ref b] below meth c H locs (40 + k) (1368 + 6 * k) (lw_Z below #[Value.ref b] s) (F0 m 365 ls []) := by
  obtain ⟨hx, hb, hml, hown, hts, hX, hbl, hK2, hN, hT, hC, hZ, hDc, hDm, hAo, hcm, hco, hmo⟩ := V
  have hK : va_K (dC, dI) vwCl [(cI, .int)] s := hK2.sub [0] rfl
  have hA : ∀ q : Nat, s.heap.size ≤ q → (fun q : Nat => s.heap.size ≤ q) q := fun _ h => h
  have hbA : ¬ (fun q : Nat => s.heap.size ≤ q) b := Nat.not_le.mpr hbl
  have hf0 : 40 + k + 0 ≤ room_1.cells ∧ 1368 + 6 * k + 0 ≤ room_1.slots := ⟨by show _ ≤ 1095; omega, by show _ ≤ 9746; omega⟩
  have hfh : 40 + k + 1 ≤ room_1.cells ∧ 1368 + 6 * k + 6 ≤ room_1.slots := ⟨by show _ ≤ 1095; omega, by show _ ≤ 9746; omega⟩
  have hf1 : 40 + k + 1 + 0 ≤ room_1.cells ∧ 1368 + 6 * k + 6 + 0 ≤ room_1.slots := ⟨by show _ ≤ 1095; omega, by show _ ≤ 9746; omega⟩
  intro I F J G g x4 h hx4 H locs hP hM hO hS ls hl
  unfold pL_5 at h
  refine lv_aload_n hx hb dL_law_365 rfl (lv_at hl 1 rfl) ?_
  refine lv_aload_n hx hb dL_law_366 rfl (lv_at hl 0 rfl) ?_
  refine lv_iload hx hb dL_law_367 (lv_at hl 4 rfl) ?_
  refine lv_iconst (v := (1 : Int32)) hx hb dL_law_369 (by decide) ?_
  refine lv_iadd hx hb dL_law_370 ?_
  obtain ⟨hin1, h⟩ := h
  refine va_sld hx hb hX hbl hbA hS hin1 dL_law_371 ?_
  refine lv_aload_n hx hb dL_law_372 rfl (lv_at hl 0 rfl) ?_
  refine lv_iload hx hb dL_law_373 (lv_at hl 4 rfl) ?_
  refine lv_iconst (v := (2 : Int32)) hx hb dL_law_375 (by decide) ?_
  refine lv_iadd hx hb dL_law_376 ?_
  obtain ⟨hin2, h⟩ := h
  refine va_sld hx hb hX hbl hbA hS hin2 dL_law_377 ?_
  refine lv_aload_n hx hb dL_law_378 rfl (lv_at hl 0 rfl) ?_
  refine lv_iload hx hb dL_law_379 (lv_at hl 4 rfl) ?_
  refine lv_iconst (v := (3 : Int32)) hx hb dL_law_381 (by decide) ?_
  refine lv_iadd hx hb dL_law_382 ?_
  obtain ⟨hin3, h⟩ := h
  refine va_sld hx hb hX hbl hbA hS hin3 dL_law_383 ?_
  refine lv_aload_n hx hb dL_law_384 rfl (lv_at hl 0 rfl) ?_
  refine lv_iload hx hb dL_law_385 (lv_at hl 4 rfl) ?_
  refine lv_iconst (v := (4 : Int32)) hx hb dL_law_387 (by decide) ?_
  refine lv_iadd hx hb dL_law_388 ?_
  obtain ⟨hin4, h⟩ := h
  refine va_sld hx hb hX hbl hbA hS hin4 dL_law_389 ?_
  refine lcall_h (vx_runSW (As := [.ref (ad 0), .int (xs (Int32.toNatClampNeg (x4 + (1 : Int32)))), .int (xs (Int32.toNatClampNeg (x4 + (2 : Int32)))), .int (xs (Int32.toNatClampNeg (x4 + (3 : Int32)))), .int (xs (Int32.toNatClampNeg (x4 + (4 : Int32))))]) (rest := []) ⟨hx, hb, hml, hown, hts⟩ (cTL_layer l hst dC dI cI cJ ad ao I F g H.size (xs (Int32.toNatClampNeg (x4 + (1 : Int32)))) (xs (Int32.toNatClampNeg (x4 + (2 : Int32)))) (xs (Int32.toNatClampNeg (x4 + (3 : Int32)))) (xs (Int32.toNatClampNeg (x4 + (4 : Int32)))) _ h) (vx_cwSW 5 hts gL_law_L_layer rfl rfl rfl (by decide +kernel) ⟨(Nat.le_of_ble_eq_true rfl), (Nat.le_of_ble_eq_true rfl)⟩) (pv_H hP hO hK2 hN hT hC hZ hS hDc hAo hA (hco _ _ _)) rfl rfl hl.1 rfl (lv_room (Nat.le_of_ble_eq_true rfl)) dL_law_390 hfh) hDc hAo hS hA hM (hcm _ _ _ _) (hmo _ _ g) (fun r5 I6 F7 g8 h H locs hP hM hO hS => ?_)
  refine lv_istore (lv' := [(5, .int r5), (0, .ref b), (1, .ref (ad 0)), (2, .ref (am 0)), (3, .ref ao), (4, .int x4)]) hx hb dL_law_393 hl (by decide) rfl (fun ls hl => ?_)
  refine lv_aload_n hx hb dL_law_395 rfl (lv_at hl 3 rfl) ?_
  refine lv_aload_n hx hb dL_law_396 rfl (lv_at hl 1 rfl) ?_
  refine lv_iload hx hb dL_law_397 (lv_at hl 5 rfl) ?_
  refine lv_iconst (v := (1 : Int32)) hx hb dL_law_399 (by decide) ?_
  refine lv_iadd hx hb dL_law_400 ?_
  obtain ⟨hin9, h⟩ := h
  refine va_sld hx hb hX hbl hbA hS hin9 dL_law_401 ?_
  refine lv_aload_n hx hb dL_law_402 rfl (lv_at hl 1 rfl) ?_
  refine lv_iload hx hb dL_law_403 (lv_at hl 5 rfl) ?_
  refine lv_iconst (v := (2 : Int32)) hx hb dL_law_405 (by decide) ?_
  refine lv_iadd hx hb dL_law_406 ?_
  obtain ⟨hin10, h⟩ := h
  refine va_sld hx hb hX hbl hbA hS hin10 dL_law_407 ?_
  refine lv_aload_n hx hb dL_law_408 rfl (lv_at hl 1 rfl) ?_
  refine lv_iload hx hb dL_law_409 (lv_at hl 5 rfl) ?_
  refine lv_iconst (v := (3 : Int32)) hx hb dL_law_411 (by decide) ?_
  refine lv_iadd hx hb dL_law_412 ?_
  obtain ⟨hin11, h⟩ := h
  refine va_sld hx hb hX hbl hbA hS hin11 dL_law_413 ?_
  refine lv_aload_n hx hb dL_law_414 rfl (lv_at hl 1 rfl) ?_
  refine lv_iload hx hb dL_law_415 (lv_at hl 5 rfl) ?_
  refine lv_iconst (v := (4 : Int32)) hx hb dL_law_417 (by decide) ?_
  refine lv_iadd hx hb dL_law_418 ?_
  obtain ⟨hin12, h⟩ := h
  refine va_sld hx hb hX hbl hbA hS hin12 dL_law_419 ?_
  refine lcall_v (wf := wM cI am) (va_runV (As := [.int (xs (Int32.toNatClampNeg (x4 + (1 : Int32)))), .int (xs (Int32.toNatClampNeg (x4 + (2 : Int32)))), .int (xs (Int32.toNatClampNeg (x4 + (3 : Int32)))), .int (xs (Int32.toNatClampNeg (x4 + (4 : Int32))))]) (rest := []) ⟨hx, hb, hml, hown, hts⟩ (cTX5_layer l dC dI cI am J G H.size (xs (Int32.toNatClampNeg (x4 + (1 : Int32)))) (xs (Int32.toNatClampNeg (x4 + (2 : Int32)))) (xs (Int32.toNatClampNeg (x4 + (3 : Int32)))) (xs (Int32.toNatClampNeg (x4 + (4 : Int32)))) _ h) (cwV 4 hts gL_law_X5_layer rfl rfl rfl (by decide +kernel) ⟨(Nat.le_of_ble_eq_true rfl), (Nat.le_of_ble_eq_true rfl)⟩) (pv_W hM hK hN ((hDm _ _).weaken (fun _ _ _ _ => trivial)) 0 5 rfl rfl _) rfl rfl hl.1 rfl (lv_room (Nat.le_of_ble_eq_true rfl)) dL_law_420 hf1) hDm hS hA hP (hcm _ _ _ _).symm hO (hmo _ _ _) (fun J14 G15 h H locs hM hP hO hS => ?_)
  refine lv_aload_n hx hb dL_law_423 rfl (lv_at hl 3 rfl) ?_
  refine vp_callSi (cr_of (va_runV (As := []) (rest := []) ⟨hx, hb, hml, hown, hts⟩ (cTX5_thrown l dC dI cI am J14 G15 _ h) (cwV 0 hts gL_law_X5_thrown rfl rfl rfl (by decide +kernel) ⟨(Nat.le_of_ble_eq_true rfl), (Nat.le_of_ble_eq_true rfl)⟩) (pv_R hM hK hN 0 5 rfl rfl _) rfl rfl hl.1 rfl (lv_room (Nat.le_of_ble_eq_true rfl)) dL_law_424 hf1)) (fun r16 h => ?_)
  refine lv_iload hx hb dL_law_427 (lv_at hl 0 rfl) ?_
  refine lv_icmp_eq (tgt := 434) hx hb dL_law_429 (by decide) (fun c17 => ?_) (fun c17 => ?_)
  · have h := h.1 c17
    refine lv_goto (tgt := 1334) hx hb dL_law_434 (by decide) ?_
    obtain ⟨v18, ev18⟩ : ∃ y : Int32, y = x4 + (6 : Int32) := ⟨_, rfl⟩
    have h := h v18 ev18
    refine lv_iinc (v := v18) (lv' := [(4, .int v18), (5, .int r5), (0, .ref b), (1, .ref (ad 0)), (2, .ref (am 0)), (3, .ref ao)]) hx hb dL_law_1334 hl (k := 5) rfl (by rw [ev18]; rfl) (by decide) rfl (fun ls hl => ?_)
    refine lv_goto (tgt := 23) hx hb dL_law_1337 (by decide) ?_
    refine W.widen (k := 40 + (k + 1)) (n := 1368 + 6 * (k + 1)) (by omega) (by omega) ?_
    exact ih I6 F7 J14 G15 g8 v18 h (by rw [ev18, hx4]; exact nx6 k) H locs hP hM hO hS ls (lv_sub hl [2, 3, 4, 5, 0] rfl)
  · have h := h.2 c17
    exact h.elim
set_option maxHeartbeats 8000000 in
set_option maxRecDepth 100000 in
theorem sL_6 {p : Program} {l : Launch} {e : Env} {s : State} {m : MethodId} {below : List Frame} {meth : Method} {c : Code} {dC : Nat → ClassId} {dI : Nat → Nat → Nat} {cI cJ : ClassId} {ad am : Nat → Nat} {ao b L : Nat} {xs : Nat → Int32} (hst : l.stackTraces = false) (V : LV p s m meth c b L xs dC dI cI cJ ad am ao) (k : Nat) (hk : k ≤ 511) (K : (Nat → Int32) → (Nat → Nat → Int32) → (Nat → Int32) → (Nat → Nat → Int32) → (Nat → Int64) → Int32 → Prop) (ih : ∀ (I : Nat → Int32) (F : Nat → Nat → Int32) (J : Nat → Int32) (G : Nat → Nat → Int32) (g : Nat → Int64) (x4 : Int32), K I F J G g x4 → x4 = nI (6 * (k + 1)) → ∀ (H : Heap) (locs : List Loc), va_P (dC, dI) vwCl (wC cI ad I F) H → va_P (dC, dI) vwCl (wM cI am J G) H → va_P (dC, dI) vwCl (oC cJ ao g) H → va_S (fun q : Nat => s.heap.size ≤ q) s.heap H locs → ∀ (ls : Array Slot), lv_has ls 7 [(0, .ref b), (1, .ref (ad 0)), (2, .ref (am 0)), (3, .ref ao), (4, .int x4)] → W p l e room_1 s m #[Value.ref b] below meth c H locs (40 + (k + 1)) (1368 + 6 * (k + 1)) (lw_Z below #[Value.ref b] s) (F0 m 23 ls [])) : ∀ (I : Nat → Int32) (F : Nat → Nat → Int32) (J : Nat → Int32) (G : Nat → Nat → Int32) (g : Nat → Int64) (x4 : Int32), pL_6 L xs K I F J G g x4 → x4 = nI (6 * k) → ∀ (H : Heap) (locs : List Loc), va_P (dC, dI) vwCl (wC cI ad I F) H → va_P (dC, dI) vwCl (wM cI am J G) H → va_P (dC, dI) vwCl (oC cJ ao g) H → va_S (fun q : Nat => s.heap.size ≤ q) s.heap H locs → ∀ (ls : Array Slot), lv_has ls 7 [(0, .ref b), (1, .ref (ad 0)), (2, .ref (am 0)), (3, .ref ao), (4, .int x4)] → W p l e room_1 s m #[Value.ref b] below meth c H locs (40 + k) (1368 + 6 * k) (lw_Z below #[Value.ref b] s) (F0 m 437 ls []) := by
  obtain ⟨hx, hb, hml, hown, hts, hX, hbl, hK2, hN, hT, hC, hZ, hDc, hDm, hAo, hcm, hco, hmo⟩ := V
  have hK : va_K (dC, dI) vwCl [(cI, .int)] s := hK2.sub [0] rfl
  have hA : ∀ q : Nat, s.heap.size ≤ q → (fun q : Nat => s.heap.size ≤ q) q := fun _ h => h
  have hbA : ¬ (fun q : Nat => s.heap.size ≤ q) b := Nat.not_le.mpr hbl
  have hf0 : 40 + k + 0 ≤ room_1.cells ∧ 1368 + 6 * k + 0 ≤ room_1.slots := ⟨by show _ ≤ 1095; omega, by show _ ≤ 9746; omega⟩
  have hfh : 40 + k + 1 ≤ room_1.cells ∧ 1368 + 6 * k + 6 ≤ room_1.slots := ⟨by show _ ≤ 1095; omega, by show _ ≤ 9746; omega⟩
  have hf1 : 40 + k + 1 + 0 ≤ room_1.cells ∧ 1368 + 6 * k + 6 + 0 ≤ room_1.slots := ⟨by show _ ≤ 1095; omega, by show _ ≤ 9746; omega⟩
  intro I F J G g x4 h hx4 H locs hP hM hO hS ls hl
  unfold pL_6 at h
  refine lv_aload_n hx hb dL_law_437 rfl (lv_at hl 1 rfl) ?_
  refine lv_aload_n hx hb dL_law_438 rfl (lv_at hl 0 rfl) ?_
  refine lv_iload hx hb dL_law_439 (lv_at hl 4 rfl) ?_
  refine lv_iconst (v := (1 : Int32)) hx hb dL_law_441 (by decide) ?_
  refine lv_iadd hx hb dL_law_442 ?_
  obtain ⟨hin1, h⟩ := h
  refine va_sld hx hb hX hbl hbA hS hin1 dL_law_443 ?_
  refine lv_aload_n hx hb dL_law_444 rfl (lv_at hl 0 rfl) ?_
  refine lv_iload hx hb dL_law_445 (lv_at hl 4 rfl) ?_
  refine lv_iconst (v := (2 : Int32)) hx hb dL_law_447 (by decide) ?_
  refine lv_iadd hx hb dL_law_448 ?_
  obtain ⟨hin2, h⟩ := h
  refine va_sld hx hb hX hbl hbA hS hin2 dL_law_449 ?_
  refine lv_aload_n hx hb dL_law_450 rfl (lv_at hl 0 rfl) ?_
  refine lv_iload hx hb dL_law_451 (lv_at hl 4 rfl) ?_
  refine lv_iconst (v := (3 : Int32)) hx hb dL_law_453 (by decide) ?_
  refine lv_iadd hx hb dL_law_454 ?_
  obtain ⟨hin3, h⟩ := h
  refine va_sld hx hb hX hbl hbA hS hin3 dL_law_455 ?_
  refine lv_aload_n hx hb dL_law_456 rfl (lv_at hl 0 rfl) ?_
  refine lv_iload hx hb dL_law_457 (lv_at hl 4 rfl) ?_
  refine lv_iconst (v := (4 : Int32)) hx hb dL_law_459 (by decide) ?_
  refine lv_iadd hx hb dL_law_460 ?_
  obtain ⟨hin4, h⟩ := h
  refine va_sld hx hb hX hbl hbA hS hin4 dL_law_461 ?_
  refine lv_aload_n hx hb dL_law_462 rfl (lv_at hl 0 rfl) ?_
  refine lv_iload hx hb dL_law_463 (lv_at hl 4 rfl) ?_
  refine lv_iconst (v := (5 : Int32)) hx hb dL_law_465 (by decide) ?_
  refine lv_iadd hx hb dL_law_466 ?_
  obtain ⟨hin5, h⟩ := h
  refine va_sld hx hb hX hbl hbA hS hin5 dL_law_467 ?_
  refine lv_aload_n hx hb dL_law_468 rfl (lv_at hl 3 rfl) ?_
  refine lcall_h (vx_runSW (As := [.ref (ad 0), .int (xs (Int32.toNatClampNeg (x4 + (1 : Int32)))), .int (xs (Int32.toNatClampNeg (x4 + (2 : Int32)))), .int (xs (Int32.toNatClampNeg (x4 + (3 : Int32)))), .int (xs (Int32.toNatClampNeg (x4 + (4 : Int32)))), .int (xs (Int32.toNatClampNeg (x4 + (5 : Int32)))), .ref ao]) (rest := []) ⟨hx, hb, hml, hown, hts⟩ (cTL_bind l hst dC dI cI cJ ad ao I F g H.size (xs (Int32.toNatClampNeg (x4 + (1 : Int32)))) (xs (Int32.toNatClampNeg (x4 + (2 : Int32)))) (xs (Int32.toNatClampNeg (x4 + (3 : Int32)))) (xs (Int32.toNatClampNeg (x4 + (4 : Int32)))) (xs (Int32.toNatClampNeg (x4 + (5 : Int32)))) _ h) (vx_cwSW 7 hts gL_law_L_bind rfl rfl rfl (by decide +kernel) ⟨(Nat.le_of_ble_eq_true rfl), (Nat.le_of_ble_eq_true rfl)⟩) (pv_H hP hO hK2 hN hT hC hZ hS hDc hAo hA (hco _ _ _)) rfl rfl hl.1 rfl (lv_room (Nat.le_of_ble_eq_true rfl)) dL_law_469 hfh) hDc hAo hS hA hM (hcm _ _ _ _) (hmo _ _ g) (fun r6 I7 F8 g9 h H locs hP hM hO hS => ?_)
  refine lv_istore (lv' := [(5, .int r6), (0, .ref b), (1, .ref (ad 0)), (2, .ref (am 0)), (3, .ref ao), (4, .int x4)]) hx hb dL_law_472 hl (by decide) rfl (fun ls hl => ?_)
  refine lv_aload_n hx hb dL_law_474 rfl (lv_at hl 3 rfl) ?_
  refine lv_aload_n hx hb dL_law_475 rfl (lv_at hl 1 rfl) ?_
  refine lv_iload hx hb dL_law_476 (lv_at hl 5 rfl) ?_
  refine lv_iconst (v := (1 : Int32)) hx hb dL_law_478 (by decide) ?_
  refine lv_iadd hx hb dL_law_479 ?_
  obtain ⟨hin10, h⟩ := h
  refine va_sld hx hb hX hbl hbA hS hin10 dL_law_480 ?_
  refine lv_aload_n hx hb dL_law_481 rfl (lv_at hl 1 rfl) ?_
  refine lv_iload hx hb dL_law_482 (lv_at hl 5 rfl) ?_
  refine lv_iconst (v := (2 : Int32)) hx hb dL_law_484 (by decide) ?_
  refine lv_iadd hx hb dL_law_485 ?_
  obtain ⟨hin11, h⟩ := h
  refine va_sld hx hb hX hbl hbA hS hin11 dL_law_486 ?_
  refine lv_aload_n hx hb dL_law_487 rfl (lv_at hl 1 rfl) ?_
  refine lv_iload hx hb dL_law_488 (lv_at hl 5 rfl) ?_
  refine lv_iconst (v := (3 : Int32)) hx hb dL_law_490 (by decide) ?_
  refine lv_iadd hx hb dL_law_491 ?_
  obtain ⟨hin12, h⟩ := h
  refine va_sld hx hb hX hbl hbA hS hin12 dL_law_492 ?_
  refine lv_aload_n hx hb dL_law_493 rfl (lv_at hl 1 rfl) ?_
  refine lv_iload hx hb dL_law_494 (lv_at hl 5 rfl) ?_
  refine lv_iconst (v := (4 : Int32)) hx hb dL_law_496 (by decide) ?_
  refine lv_iadd hx hb dL_law_497 ?_
  obtain ⟨hin13, h⟩ := h
  refine va_sld hx hb hX hbl hbA hS hin13 dL_law_498 ?_
  refine lv_aload_n hx hb dL_law_499 rfl (lv_at hl 1 rfl) ?_
  refine lv_iload hx hb dL_law_500 (lv_at hl 5 rfl) ?_
  refine lv_iconst (v := (5 : Int32)) hx hb dL_law_502 (by decide) ?_
  refine lv_iadd hx hb dL_law_503 ?_
  obtain ⟨hin14, h⟩ := h
  refine va_sld hx hb hX hbl hbA hS hin14 dL_law_504 ?_
  refine lcall_i (wf := wM cI am) (va_runV (As := [.int (xs (Int32.toNatClampNeg (x4 + (1 : Int32)))), .int (xs (Int32.toNatClampNeg (x4 + (2 : Int32)))), .int (xs (Int32.toNatClampNeg (x4 + (3 : Int32)))), .int (xs (Int32.toNatClampNeg (x4 + (4 : Int32)))), .int (xs (Int32.toNatClampNeg (x4 + (5 : Int32))))]) (rest := []) ⟨hx, hb, hml, hown, hts⟩ (cTX5_bind l dC dI cI am J G H.size (xs (Int32.toNatClampNeg (x4 + (1 : Int32)))) (xs (Int32.toNatClampNeg (x4 + (2 : Int32)))) (xs (Int32.toNatClampNeg (x4 + (3 : Int32)))) (xs (Int32.toNatClampNeg (x4 + (4 : Int32)))) (xs (Int32.toNatClampNeg (x4 + (5 : Int32)))) _ h) (cwV 5 hts gL_law_X5_bind rfl rfl rfl (by decide +kernel) ⟨(Nat.le_of_ble_eq_true rfl), (Nat.le_of_ble_eq_true rfl)⟩) (pv_W hM hK hN ((hDm _ _).weaken (fun _ _ _ _ => trivial)) 0 5 rfl rfl _) rfl rfl hl.1 rfl (lv_room (Nat.le_of_ble_eq_true rfl)) dL_law_505 hf1) hDm hS hA hP (hcm _ _ _ _).symm hO (hmo _ _ _) (fun r15 J16 G17 h H locs hM hP hO hS => ?_)
  refine lv_istore (lv' := [(6, .int r15), (5, .int r6), (0, .ref b), (1, .ref (ad 0)), (2, .ref (am 0)), (3, .ref ao), (4, .int x4)]) hx hb dL_law_508 hl (by decide) rfl (fun ls hl => ?_)
  refine lv_aload_n hx hb dL_law_510 rfl (lv_at hl 4 rfl) ?_
  refine vp_callSi (cr_of (va_runV (As := []) (rest := []) ⟨hx, hb, hml, hown, hts⟩ (cTX5_thrown l dC dI cI am J16 G17 _ h) (cwV 0 hts gL_law_X5_thrown rfl rfl rfl (by decide +kernel) ⟨(Nat.le_of_ble_eq_true rfl), (Nat.le_of_ble_eq_true rfl)⟩) (pv_R hM hK hN 0 5 rfl rfl _) rfl rfl hl.1 rfl (lv_room (Nat.le_of_ble_eq_true rfl)) dL_law_511 hf1)) (fun r18 h => ?_)
  refine lv_iload hx hb dL_law_514 (lv_at hl 1 rfl) ?_
  refine lv_icmp_eq (tgt := 521) hx hb dL_law_516 (by decide) (fun c19 => ?_) (fun c19 => ?_)
  · have h := h.1 c19
    refine lv_iload hx hb dL_law_521 (lv_at hl 1 rfl) ?_
    refine lv_if_ne (tgt := 538) hx hb dL_law_523 (by decide) (fun c20 => ?_) (fun c20 => ?_)
    · have h := h.1 c20
      refine lv_goto (tgt := 1334) hx hb dL_law_538 (by decide) ?_
      obtain ⟨v21, ev21⟩ : ∃ y : Int32, y = x4 + (6 : Int32) := ⟨_, rfl⟩
      have h := h v21 ev21
      refine lv_iinc (v := v21) (lv' := [(4, .int v21), (6, .int r15), (5, .int r6), (0, .ref b), (1, .ref (ad 0)), (2, .ref (am 0)), (3, .ref ao)]) hx hb dL_law_1334 hl (k := 6) rfl (by rw [ev21]; rfl) (by decide) rfl (fun ls hl => ?_)
      refine lv_goto (tgt := 23) hx hb dL_law_1337 (by decide) ?_
      refine W.widen (k := 40 + (k + 1)) (n := 1368 + 6 * (k + 1)) (by omega) (by omega) ?_
      exact ih I7 F8 J16 G17 g9 v21 h (by rw [ev21, hx4]; exact nx6 k) H locs hP hM hO hS ls (lv_sub hl [3, 4, 5, 6, 0] rfl)
    · have h := h.2 c20
      refine lv_aload_n hx hb dL_law_526 rfl (lv_at hl 5 rfl) ?_
      refine lv_iconst (v := (0 : Int32)) hx hb dL_law_527 (by decide) ?_
      refine va_lald hx hb hK2 hO 0 1 rfl rfl in01 dL_law_528 ?_
      refine lv_iload hx hb dL_law_529 (lv_at hl 0 rfl) ?_
      refine lv_i2l (v := r15.toInt64) hx hb dL_law_531 rfl ?_
      refine W.lcmp hx hb dL_law_532 ?_
      refine lv_if_eq (tgt := 538) hx hb dL_law_533 (by decide) (fun c22 => ?_) (fun c22 => ?_)
      · have h := h.1 c22
        refine lv_goto (tgt := 1334) hx hb dL_law_538 (by decide) ?_
        obtain ⟨v23, ev23⟩ : ∃ y : Int32, y = x4 + (6 : Int32) := ⟨_, rfl⟩
        have h := h v23 ev23
        refine lv_iinc (v := v23) (lv' := [(4, .int v23), (6, .int r15), (5, .int r6), (0, .ref b), (1, .ref (ad 0)), (2, .ref (am 0)), (3, .ref ao)]) hx hb dL_law_1334 hl (k := 6) rfl (by rw [ev23]; rfl) (by decide) rfl (fun ls hl => ?_)
        refine lv_goto (tgt := 23) hx hb dL_law_1337 (by decide) ?_
        refine W.widen (k := 40 + (k + 1)) (n := 1368 + 6 * (k + 1)) (by omega) (by omega) ?_
        exact ih I7 F8 J16 G17 g9 v23 h (by rw [ev23, hx4]; exact nx6 k) H locs hP hM hO hS ls (lv_sub hl [3, 4, 5, 6, 0] rfl)
      · have h := h.2 c22
        exact h.elim
  · have h := h.2 c19
    exact h.elim
set_option maxHeartbeats 8000000 in
set_option maxRecDepth 100000 in
theorem sL_7 {p : Program} {l : Launch} {e : Env} {s : State} {m : MethodId} {below : List Frame} {meth : Method} {c : Code} {dC : Nat → ClassId} {dI : Nat → Nat → Nat} {cI cJ : ClassId} {ad am : Nat → Nat} {ao b L : Nat} {xs : Nat → Int32} (hst : l.stackTraces = false) (V : LV p s m meth c b L xs dC dI cI cJ ad am ao) (k : Nat) (hk : k ≤ 511) (K : (Nat → Int32) → (Nat → Nat → Int32) → (Nat → Int32) → (Nat → Nat → Int32) → (Nat → Int64) → Int32 → Prop) (ih : ∀ (I : Nat → Int32) (F : Nat → Nat → Int32) (J : Nat → Int32) (G : Nat → Nat → Int32) (g : Nat → Int64) (x4 : Int32), K I F J G g x4 → x4 = nI (6 * (k + 1)) → ∀ (H : Heap) (locs : List Loc), va_P (dC, dI) vwCl (wC cI ad I F) H → va_P (dC, dI) vwCl (wM cI am J G) H → va_P (dC, dI) vwCl (oC cJ ao g) H → va_S (fun q : Nat => s.heap.size ≤ q) s.heap H locs → ∀ (ls : Array Slot), lv_has ls 7 [(0, .ref b), (1, .ref (ad 0)), (2, .ref (am 0)), (3, .ref ao), (4, .int x4)] → W p l e room_1 s m #[Value.ref b] below meth c H locs (40 + (k + 1)) (1368 + 6 * (k + 1)) (lw_Z below #[Value.ref b] s) (F0 m 23 ls [])) : ∀ (I : Nat → Int32) (F : Nat → Nat → Int32) (J : Nat → Int32) (G : Nat → Nat → Int32) (g : Nat → Int64) (x4 : Int32), pL_7 L xs K I F J G g x4 → x4 = nI (6 * k) → ∀ (H : Heap) (locs : List Loc), va_P (dC, dI) vwCl (wC cI ad I F) H → va_P (dC, dI) vwCl (wM cI am J G) H → va_P (dC, dI) vwCl (oC cJ ao g) H → va_S (fun q : Nat => s.heap.size ≤ q) s.heap H locs → ∀ (ls : Array Slot), lv_has ls 7 [(0, .ref b), (1, .ref (ad 0)), (2, .ref (am 0)), (3, .ref ao), (4, .int x4)] → W p l e room_1 s m #[Value.ref b] below meth c H locs (40 + k) (1368 + 6 * k) (lw_Z below #[Value.ref b] s) (F0 m 541 ls []) := by
  obtain ⟨hx, hb, hml, hown, hts, hX, hbl, hK2, hN, hT, hC, hZ, hDc, hDm, hAo, hcm, hco, hmo⟩ := V
  have hK : va_K (dC, dI) vwCl [(cI, .int)] s := hK2.sub [0] rfl
  have hA : ∀ q : Nat, s.heap.size ≤ q → (fun q : Nat => s.heap.size ≤ q) q := fun _ h => h
  have hbA : ¬ (fun q : Nat => s.heap.size ≤ q) b := Nat.not_le.mpr hbl
  have hf0 : 40 + k + 0 ≤ room_1.cells ∧ 1368 + 6 * k + 0 ≤ room_1.slots := ⟨by show _ ≤ 1095; omega, by show _ ≤ 9746; omega⟩
  have hfh : 40 + k + 1 ≤ room_1.cells ∧ 1368 + 6 * k + 6 ≤ room_1.slots := ⟨by show _ ≤ 1095; omega, by show _ ≤ 9746; omega⟩
  have hf1 : 40 + k + 1 + 0 ≤ room_1.cells ∧ 1368 + 6 * k + 6 + 0 ≤ room_1.slots := ⟨by show _ ≤ 1095; omega, by show _ ≤ 9746; omega⟩
  intro I F J G g x4 h hx4 H locs hP hM hO hS ls hl
  unfold pL_7 at h
  refine lv_aload_n hx hb dL_law_541 rfl (lv_at hl 1 rfl) ?_
  refine lv_aload_n hx hb dL_law_542 rfl (lv_at hl 0 rfl) ?_
  refine lv_iload hx hb dL_law_543 (lv_at hl 4 rfl) ?_
  refine lv_iconst (v := (1 : Int32)) hx hb dL_law_545 (by decide) ?_
  refine lv_iadd hx hb dL_law_546 ?_
  obtain ⟨hin1, h⟩ := h
  refine va_sld hx hb hX hbl hbA hS hin1 dL_law_547 ?_
  refine lv_aload_n hx hb dL_law_548 rfl (lv_at hl 0 rfl) ?_
  refine lv_iload hx hb dL_law_549 (lv_at hl 4 rfl) ?_
  refine lv_iconst (v := (2 : Int32)) hx hb dL_law_551 (by decide) ?_
  refine lv_iadd hx hb dL_law_552 ?_
  obtain ⟨hin2, h⟩ := h
  refine va_sld hx hb hX hbl hbA hS hin2 dL_law_553 ?_
  refine lv_aload_n hx hb dL_law_554 rfl (lv_at hl 0 rfl) ?_
  refine lv_iload hx hb dL_law_555 (lv_at hl 4 rfl) ?_
  refine lv_iconst (v := (3 : Int32)) hx hb dL_law_557 (by decide) ?_
  refine lv_iadd hx hb dL_law_558 ?_
  obtain ⟨hin3, h⟩ := h
  refine va_sld hx hb hX hbl hbA hS hin3 dL_law_559 ?_
  refine lv_aload_n hx hb dL_law_560 rfl (lv_at hl 0 rfl) ?_
  refine lv_iload hx hb dL_law_561 (lv_at hl 4 rfl) ?_
  refine lv_iconst (v := (4 : Int32)) hx hb dL_law_563 (by decide) ?_
  refine lv_iadd hx hb dL_law_564 ?_
  obtain ⟨hin4, h⟩ := h
  refine va_sld hx hb hX hbl hbA hS hin4 dL_law_565 ?_
  refine lv_aload_n hx hb dL_law_566 rfl (lv_at hl 3 rfl) ?_
  refine lcall_h (vx_runSW (As := [.ref (ad 0), .int (xs (Int32.toNatClampNeg (x4 + (1 : Int32)))), .int (xs (Int32.toNatClampNeg (x4 + (2 : Int32)))), .int (xs (Int32.toNatClampNeg (x4 + (3 : Int32)))), .int (xs (Int32.toNatClampNeg (x4 + (4 : Int32)))), .ref ao]) (rest := []) ⟨hx, hb, hml, hown, hts⟩ (cTL_change l hst dC dI cI cJ ad ao I F g H.size (xs (Int32.toNatClampNeg (x4 + (1 : Int32)))) (xs (Int32.toNatClampNeg (x4 + (2 : Int32)))) (xs (Int32.toNatClampNeg (x4 + (3 : Int32)))) (xs (Int32.toNatClampNeg (x4 + (4 : Int32)))) _ h) (vx_cwSW 6 hts gL_law_L_change rfl rfl rfl (by decide +kernel) ⟨(Nat.le_of_ble_eq_true rfl), (Nat.le_of_ble_eq_true rfl)⟩) (pv_H hP hO hK2 hN hT hC hZ hS hDc hAo hA (hco _ _ _)) rfl rfl hl.1 rfl (lv_room (Nat.le_of_ble_eq_true rfl)) dL_law_567 hfh) hDc hAo hS hA hM (hcm _ _ _ _) (hmo _ _ g) (fun r5 I6 F7 g8 h H locs hP hM hO hS => ?_)
  refine lv_istore (lv' := [(5, .int r5), (0, .ref b), (1, .ref (ad 0)), (2, .ref (am 0)), (3, .ref ao), (4, .int x4)]) hx hb dL_law_570 hl (by decide) rfl (fun ls hl => ?_)
  refine lv_aload_n hx hb dL_law_572 rfl (lv_at hl 3 rfl) ?_
  refine lv_aload_n hx hb dL_law_573 rfl (lv_at hl 1 rfl) ?_
  refine lv_iload hx hb dL_law_574 (lv_at hl 5 rfl) ?_
  refine lv_iconst (v := (1 : Int32)) hx hb dL_law_576 (by decide) ?_
  refine lv_iadd hx hb dL_law_577 ?_
  obtain ⟨hin9, h⟩ := h
  refine va_sld hx hb hX hbl hbA hS hin9 dL_law_578 ?_
  refine lv_aload_n hx hb dL_law_579 rfl (lv_at hl 1 rfl) ?_
  refine lv_iload hx hb dL_law_580 (lv_at hl 5 rfl) ?_
  refine lv_iconst (v := (2 : Int32)) hx hb dL_law_582 (by decide) ?_
  refine lv_iadd hx hb dL_law_583 ?_
  obtain ⟨hin10, h⟩ := h
  refine va_sld hx hb hX hbl hbA hS hin10 dL_law_584 ?_
  refine lv_aload_n hx hb dL_law_585 rfl (lv_at hl 1 rfl) ?_
  refine lv_iload hx hb dL_law_586 (lv_at hl 5 rfl) ?_
  refine lv_iconst (v := (3 : Int32)) hx hb dL_law_588 (by decide) ?_
  refine lv_iadd hx hb dL_law_589 ?_
  obtain ⟨hin11, h⟩ := h
  refine va_sld hx hb hX hbl hbA hS hin11 dL_law_590 ?_
  refine lv_aload_n hx hb dL_law_591 rfl (lv_at hl 1 rfl) ?_
  refine lv_iload hx hb dL_law_592 (lv_at hl 5 rfl) ?_
  refine lv_iconst (v := (4 : Int32)) hx hb dL_law_594 (by decide) ?_
  refine lv_iadd hx hb dL_law_595 ?_
  obtain ⟨hin12, h⟩ := h
  refine va_sld hx hb hX hbl hbA hS hin12 dL_law_596 ?_
  refine lcall_i (wf := wM cI am) (va_runV (As := [.int (xs (Int32.toNatClampNeg (x4 + (1 : Int32)))), .int (xs (Int32.toNatClampNeg (x4 + (2 : Int32)))), .int (xs (Int32.toNatClampNeg (x4 + (3 : Int32)))), .int (xs (Int32.toNatClampNeg (x4 + (4 : Int32))))]) (rest := []) ⟨hx, hb, hml, hown, hts⟩ (cTX5_change l dC dI cI am J G H.size (xs (Int32.toNatClampNeg (x4 + (1 : Int32)))) (xs (Int32.toNatClampNeg (x4 + (2 : Int32)))) (xs (Int32.toNatClampNeg (x4 + (3 : Int32)))) (xs (Int32.toNatClampNeg (x4 + (4 : Int32)))) _ h) (cwV 4 hts gL_law_X5_change rfl rfl rfl (by decide +kernel) ⟨(Nat.le_of_ble_eq_true rfl), (Nat.le_of_ble_eq_true rfl)⟩) (pv_W hM hK hN ((hDm _ _).weaken (fun _ _ _ _ => trivial)) 0 5 rfl rfl _) rfl rfl hl.1 rfl (lv_room (Nat.le_of_ble_eq_true rfl)) dL_law_597 hf1) hDm hS hA hP (hcm _ _ _ _).symm hO (hmo _ _ _) (fun r13 J14 G15 h H locs hM hP hO hS => ?_)
  refine lv_istore (lv' := [(6, .int r13), (5, .int r5), (0, .ref b), (1, .ref (ad 0)), (2, .ref (am 0)), (3, .ref ao), (4, .int x4)]) hx hb dL_law_600 hl (by decide) rfl (fun ls hl => ?_)
  refine lv_aload_n hx hb dL_law_602 rfl (lv_at hl 4 rfl) ?_
  refine vp_callSi (cr_of (va_runV (As := []) (rest := []) ⟨hx, hb, hml, hown, hts⟩ (cTX5_thrown l dC dI cI am J14 G15 _ h) (cwV 0 hts gL_law_X5_thrown rfl rfl rfl (by decide +kernel) ⟨(Nat.le_of_ble_eq_true rfl), (Nat.le_of_ble_eq_true rfl)⟩) (pv_R hM hK hN 0 5 rfl rfl _) rfl rfl hl.1 rfl (lv_room (Nat.le_of_ble_eq_true rfl)) dL_law_603 hf1)) (fun r16 h => ?_)
  refine lv_iload hx hb dL_law_606 (lv_at hl 1 rfl) ?_
  refine lv_icmp_eq (tgt := 613) hx hb dL_law_608 (by decide) (fun c17 => ?_) (fun c17 => ?_)
  · have h := h.1 c17
    refine lv_iload hx hb dL_law_613 (lv_at hl 1 rfl) ?_
    refine lv_if_ne (tgt := 630) hx hb dL_law_615 (by decide) (fun c18 => ?_) (fun c18 => ?_)
    · have h := h.1 c18
      refine lv_goto (tgt := 1334) hx hb dL_law_630 (by decide) ?_
      obtain ⟨v19, ev19⟩ : ∃ y : Int32, y = x4 + (6 : Int32) := ⟨_, rfl⟩
      have h := h v19 ev19
      refine lv_iinc (v := v19) (lv' := [(4, .int v19), (6, .int r13), (5, .int r5), (0, .ref b), (1, .ref (ad 0)), (2, .ref (am 0)), (3, .ref ao)]) hx hb dL_law_1334 hl (k := 6) rfl (by rw [ev19]; rfl) (by decide) rfl (fun ls hl => ?_)
      refine lv_goto (tgt := 23) hx hb dL_law_1337 (by decide) ?_
      refine W.widen (k := 40 + (k + 1)) (n := 1368 + 6 * (k + 1)) (by omega) (by omega) ?_
      exact ih I6 F7 J14 G15 g8 v19 h (by rw [ev19, hx4]; exact nx6 k) H locs hP hM hO hS ls (lv_sub hl [3, 4, 5, 6, 0] rfl)
    · have h := h.2 c18
      refine lv_aload_n hx hb dL_law_618 rfl (lv_at hl 5 rfl) ?_
      refine lv_iconst (v := (0 : Int32)) hx hb dL_law_619 (by decide) ?_
      refine va_lald hx hb hK2 hO 0 1 rfl rfl in01 dL_law_620 ?_
      refine lv_iload hx hb dL_law_621 (lv_at hl 0 rfl) ?_
      refine lv_i2l (v := r13.toInt64) hx hb dL_law_623 rfl ?_
      refine W.lcmp hx hb dL_law_624 ?_
      refine lv_if_eq (tgt := 630) hx hb dL_law_625 (by decide) (fun c20 => ?_) (fun c20 => ?_)
      · have h := h.1 c20
        refine lv_goto (tgt := 1334) hx hb dL_law_630 (by decide) ?_
        obtain ⟨v21, ev21⟩ : ∃ y : Int32, y = x4 + (6 : Int32) := ⟨_, rfl⟩
        have h := h v21 ev21
        refine lv_iinc (v := v21) (lv' := [(4, .int v21), (6, .int r13), (5, .int r5), (0, .ref b), (1, .ref (ad 0)), (2, .ref (am 0)), (3, .ref ao)]) hx hb dL_law_1334 hl (k := 6) rfl (by rw [ev21]; rfl) (by decide) rfl (fun ls hl => ?_)
        refine lv_goto (tgt := 23) hx hb dL_law_1337 (by decide) ?_
        refine W.widen (k := 40 + (k + 1)) (n := 1368 + 6 * (k + 1)) (by omega) (by omega) ?_
        exact ih I6 F7 J14 G15 g8 v21 h (by rw [ev21, hx4]; exact nx6 k) H locs hP hM hO hS ls (lv_sub hl [3, 4, 5, 6, 0] rfl)
      · have h := h.2 c20
        exact h.elim
  · have h := h.2 c17
    exact h.elim
set_option maxHeartbeats 8000000 in
set_option maxRecDepth 100000 in
theorem sL_8 {p : Program} {l : Launch} {e : Env} {s : State} {m : MethodId} {below : List Frame} {meth : Method} {c : Code} {dC : Nat → ClassId} {dI : Nat → Nat → Nat} {cI cJ : ClassId} {ad am : Nat → Nat} {ao b L : Nat} {xs : Nat → Int32} (hst : l.stackTraces = false) (V : LV p s m meth c b L xs dC dI cI cJ ad am ao) (k : Nat) (hk : k ≤ 511) (K : (Nat → Int32) → (Nat → Nat → Int32) → (Nat → Int32) → (Nat → Nat → Int32) → (Nat → Int64) → Int32 → Prop) (ih : ∀ (I : Nat → Int32) (F : Nat → Nat → Int32) (J : Nat → Int32) (G : Nat → Nat → Int32) (g : Nat → Int64) (x4 : Int32), K I F J G g x4 → x4 = nI (6 * (k + 1)) → ∀ (H : Heap) (locs : List Loc), va_P (dC, dI) vwCl (wC cI ad I F) H → va_P (dC, dI) vwCl (wM cI am J G) H → va_P (dC, dI) vwCl (oC cJ ao g) H → va_S (fun q : Nat => s.heap.size ≤ q) s.heap H locs → ∀ (ls : Array Slot), lv_has ls 7 [(0, .ref b), (1, .ref (ad 0)), (2, .ref (am 0)), (3, .ref ao), (4, .int x4)] → W p l e room_1 s m #[Value.ref b] below meth c H locs (40 + (k + 1)) (1368 + 6 * (k + 1)) (lw_Z below #[Value.ref b] s) (F0 m 23 ls [])) : ∀ (I : Nat → Int32) (F : Nat → Nat → Int32) (J : Nat → Int32) (G : Nat → Nat → Int32) (g : Nat → Int64) (x4 : Int32), pL_8 L xs K I F J G g x4 → x4 = nI (6 * k) → ∀ (H : Heap) (locs : List Loc), va_P (dC, dI) vwCl (wC cI ad I F) H → va_P (dC, dI) vwCl (wM cI am J G) H → va_P (dC, dI) vwCl (oC cJ ao g) H → va_S (fun q : Nat => s.heap.size ≤ q) s.heap H locs → ∀ (ls : Array Slot), lv_has ls 7 [(0, .ref b), (1, .ref (ad 0)), (2, .ref (am 0)), (3, .ref ao), (4, .int x4)] → W p l e room_1 s m #[Value.ref b] below meth c H locs (40 + k) (1368 + 6 * k) (lw_Z below #[Value.ref b] s) (F0 m 633 ls []) := by
  obtain ⟨hx, hb, hml, hown, hts, hX, hbl, hK2, hN, hT, hC, hZ, hDc, hDm, hAo, hcm, hco, hmo⟩ := V
  have hK : va_K (dC, dI) vwCl [(cI, .int)] s := hK2.sub [0] rfl
  have hA : ∀ q : Nat, s.heap.size ≤ q → (fun q : Nat => s.heap.size ≤ q) q := fun _ h => h
  have hbA : ¬ (fun q : Nat => s.heap.size ≤ q) b := Nat.not_le.mpr hbl
  have hf0 : 40 + k + 0 ≤ room_1.cells ∧ 1368 + 6 * k + 0 ≤ room_1.slots := ⟨by show _ ≤ 1095; omega, by show _ ≤ 9746; omega⟩
  have hfh : 40 + k + 1 ≤ room_1.cells ∧ 1368 + 6 * k + 6 ≤ room_1.slots := ⟨by show _ ≤ 1095; omega, by show _ ≤ 9746; omega⟩
  have hf1 : 40 + k + 1 + 0 ≤ room_1.cells ∧ 1368 + 6 * k + 6 + 0 ≤ room_1.slots := ⟨by show _ ≤ 1095; omega, by show _ ≤ 9746; omega⟩
  intro I F J G g x4 h hx4 H locs hP hM hO hS ls hl
  unfold pL_8 at h
  refine lv_aload_n hx hb dL_law_633 rfl (lv_at hl 1 rfl) ?_
  refine lv_aload_n hx hb dL_law_634 rfl (lv_at hl 0 rfl) ?_
  refine lv_iload hx hb dL_law_635 (lv_at hl 4 rfl) ?_
  refine lv_iconst (v := (1 : Int32)) hx hb dL_law_637 (by decide) ?_
  refine lv_iadd hx hb dL_law_638 ?_
  obtain ⟨hin1, h⟩ := h
  refine va_sld hx hb hX hbl hbA hS hin1 dL_law_639 ?_
  refine lv_aload_n hx hb dL_law_640 rfl (lv_at hl 0 rfl) ?_
  refine lv_iload hx hb dL_law_641 (lv_at hl 4 rfl) ?_
  refine lv_iconst (v := (2 : Int32)) hx hb dL_law_643 (by decide) ?_
  refine lv_iadd hx hb dL_law_644 ?_
  obtain ⟨hin2, h⟩ := h
  refine va_sld hx hb hX hbl hbA hS hin2 dL_law_645 ?_
  refine lv_aload_n hx hb dL_law_646 rfl (lv_at hl 0 rfl) ?_
  refine lv_iload hx hb dL_law_647 (lv_at hl 4 rfl) ?_
  refine lv_iconst (v := (3 : Int32)) hx hb dL_law_649 (by decide) ?_
  refine lv_iadd hx hb dL_law_650 ?_
  obtain ⟨hin3, h⟩ := h
  refine va_sld hx hb hX hbl hbA hS hin3 dL_law_651 ?_
  refine lv_if_eq (tgt := 659) hx hb dL_law_652 (by decide) (fun c4 => ?_) (fun c4 => ?_)
  · have h := h.1 c4
    refine lv_iconst (v := (0 : Int32)) hx hb dL_law_659 (by decide) ?_
    refine lv_aload_n hx hb dL_law_660 rfl (lv_at hl 3 rfl) ?_
    refine lcall_h (vx_runSW (As := [.ref (ad 0), .int (xs (Int32.toNatClampNeg (x4 + (1 : Int32)))), .int (xs (Int32.toNatClampNeg (x4 + (2 : Int32)))), .int (0 : Int32), .ref ao]) (rest := []) ⟨hx, hb, hml, hown, hts⟩ (cTL_cancel l hst dC dI cI cJ ad ao I F g H.size (xs (Int32.toNatClampNeg (x4 + (1 : Int32)))) (xs (Int32.toNatClampNeg (x4 + (2 : Int32)))) (0 : Int32) _ h) (vx_cwSW 5 hts gL_law_L_cancel rfl rfl rfl (by decide +kernel) ⟨(Nat.le_of_ble_eq_true rfl), (Nat.le_of_ble_eq_true rfl)⟩) (pv_H hP hO hK2 hN hT hC hZ hS hDc hAo hA (hco _ _ _)) rfl rfl hl.1 rfl (lv_room (Nat.le_of_ble_eq_true rfl)) dL_law_661 hfh) hDc hAo hS hA hM (hcm _ _ _ _) (hmo _ _ g) (fun r5 I6 F7 g8 h H locs hP hM hO hS => ?_)
    refine lv_istore (lv' := [(5, .int r5), (0, .ref b), (1, .ref (ad 0)), (2, .ref (am 0)), (3, .ref ao), (4, .int x4)]) hx hb dL_law_664 hl (by decide) rfl (fun ls hl => ?_)
    refine lv_aload_n hx hb dL_law_666 rfl (lv_at hl 3 rfl) ?_
    refine lv_aload_n hx hb dL_law_667 rfl (lv_at hl 1 rfl) ?_
    refine lv_iload hx hb dL_law_668 (lv_at hl 5 rfl) ?_
    refine lv_iconst (v := (1 : Int32)) hx hb dL_law_670 (by decide) ?_
    refine lv_iadd hx hb dL_law_671 ?_
    obtain ⟨hin9, h⟩ := h
    refine va_sld hx hb hX hbl hbA hS hin9 dL_law_672 ?_
    refine lv_aload_n hx hb dL_law_673 rfl (lv_at hl 1 rfl) ?_
    refine lv_iload hx hb dL_law_674 (lv_at hl 5 rfl) ?_
    refine lv_iconst (v := (2 : Int32)) hx hb dL_law_676 (by decide) ?_
    refine lv_iadd hx hb dL_law_677 ?_
    obtain ⟨hin10, h⟩ := h
    refine va_sld hx hb hX hbl hbA hS hin10 dL_law_678 ?_
    refine lv_aload_n hx hb dL_law_679 rfl (lv_at hl 1 rfl) ?_
    refine lv_iload hx hb dL_law_680 (lv_at hl 5 rfl) ?_
    refine lv_iconst (v := (3 : Int32)) hx hb dL_law_682 (by decide) ?_
    refine lv_iadd hx hb dL_law_683 ?_
    obtain ⟨hin11, h⟩ := h
    refine va_sld hx hb hX hbl hbA hS hin11 dL_law_684 ?_
    refine lv_if_eq (tgt := 692) hx hb dL_law_685 (by decide) (fun c12 => ?_) (fun c12 => ?_)
    · have h := h.1 c12
      refine lv_iconst (v := (0 : Int32)) hx hb dL_law_692 (by decide) ?_
      refine lcall_i (wf := wM cI am) (va_runV (As := [.int (xs (Int32.toNatClampNeg (x4 + (1 : Int32)))), .int (xs (Int32.toNatClampNeg (x4 + (2 : Int32)))), .int (0 : Int32)]) (rest := []) ⟨hx, hb, hml, hown, hts⟩ (cTX5_cancel l dC dI cI am J G H.size (xs (Int32.toNatClampNeg (x4 + (1 : Int32)))) (xs (Int32.toNatClampNeg (x4 + (2 : Int32)))) (0 : Int32) _ h) (cwV 3 hts gL_law_X5_cancel rfl rfl rfl (by decide +kernel) ⟨(Nat.le_of_ble_eq_true rfl), (Nat.le_of_ble_eq_true rfl)⟩) (pv_W hM hK hN ((hDm _ _).weaken (fun _ _ _ _ => trivial)) 0 5 rfl rfl _) rfl rfl hl.1 rfl (lv_room (Nat.le_of_ble_eq_true rfl)) dL_law_693 hf1) hDm hS hA hP (hcm _ _ _ _).symm hO (hmo _ _ _) (fun r13 J14 G15 h H locs hM hP hO hS => ?_)
      refine lv_istore (lv' := [(6, .int r13), (5, .int r5), (0, .ref b), (1, .ref (ad 0)), (2, .ref (am 0)), (3, .ref ao), (4, .int x4)]) hx hb dL_law_696 hl (by decide) rfl (fun ls hl => ?_)
      refine lv_aload_n hx hb dL_law_698 rfl (lv_at hl 4 rfl) ?_
      refine vp_callSi (cr_of (va_runV (As := []) (rest := []) ⟨hx, hb, hml, hown, hts⟩ (cTX5_thrown l dC dI cI am J14 G15 _ h) (cwV 0 hts gL_law_X5_thrown rfl rfl rfl (by decide +kernel) ⟨(Nat.le_of_ble_eq_true rfl), (Nat.le_of_ble_eq_true rfl)⟩) (pv_R hM hK hN 0 5 rfl rfl _) rfl rfl hl.1 rfl (lv_room (Nat.le_of_ble_eq_true rfl)) dL_law_699 hf1)) (fun r16 h => ?_)
      refine lv_iload hx hb dL_law_702 (lv_at hl 1 rfl) ?_
      refine lv_icmp_eq (tgt := 709) hx hb dL_law_704 (by decide) (fun c17 => ?_) (fun c17 => ?_)
      · have h := h.1 c17
        refine lv_iload hx hb dL_law_709 (lv_at hl 1 rfl) ?_
        refine lv_if_ne (tgt := 726) hx hb dL_law_711 (by decide) (fun c18 => ?_) (fun c18 => ?_)
        · have h := h.1 c18
          refine lv_goto (tgt := 1334) hx hb dL_law_726 (by decide) ?_
          obtain ⟨v19, ev19⟩ : ∃ y : Int32, y = x4 + (6 : Int32) := ⟨_, rfl⟩
          have h := h v19 ev19
          refine lv_iinc (v := v19) (lv' := [(4, .int v19), (6, .int r13), (5, .int r5), (0, .ref b), (1, .ref (ad 0)), (2, .ref (am 0)), (3, .ref ao)]) hx hb dL_law_1334 hl (k := 6) rfl (by rw [ev19]; rfl) (by decide) rfl (fun ls hl => ?_)
          refine lv_goto (tgt := 23) hx hb dL_law_1337 (by decide) ?_
          refine W.widen (k := 40 + (k + 1)) (n := 1368 + 6 * (k + 1)) (by omega) (by omega) ?_
          exact ih I6 F7 J14 G15 g8 v19 h (by rw [ev19, hx4]; exact nx6 k) H locs hP hM hO hS ls (lv_sub hl [3, 4, 5, 6, 0] rfl)
        · have h := h.2 c18
          refine lv_aload_n hx hb dL_law_714 rfl (lv_at hl 5 rfl) ?_
          refine lv_iconst (v := (0 : Int32)) hx hb dL_law_715 (by decide) ?_
          refine va_lald hx hb hK2 hO 0 1 rfl rfl in01 dL_law_716 ?_
          refine lv_iload hx hb dL_law_717 (lv_at hl 0 rfl) ?_
          refine lv_i2l (v := r13.toInt64) hx hb dL_law_719 rfl ?_
          refine W.lcmp hx hb dL_law_720 ?_
          refine lv_if_eq (tgt := 726) hx hb dL_law_721 (by decide) (fun c20 => ?_) (fun c20 => ?_)
          · have h := h.1 c20
            refine lv_goto (tgt := 1334) hx hb dL_law_726 (by decide) ?_
            obtain ⟨v21, ev21⟩ : ∃ y : Int32, y = x4 + (6 : Int32) := ⟨_, rfl⟩
            have h := h v21 ev21
            refine lv_iinc (v := v21) (lv' := [(4, .int v21), (6, .int r13), (5, .int r5), (0, .ref b), (1, .ref (ad 0)), (2, .ref (am 0)), (3, .ref ao)]) hx hb dL_law_1334 hl (k := 6) rfl (by rw [ev21]; rfl) (by decide) rfl (fun ls hl => ?_)
            refine lv_goto (tgt := 23) hx hb dL_law_1337 (by decide) ?_
            refine W.widen (k := 40 + (k + 1)) (n := 1368 + 6 * (k + 1)) (by omega) (by omega) ?_
            exact ih I6 F7 J14 G15 g8 v21 h (by rw [ev21, hx4]; exact nx6 k) H locs hP hM hO hS ls (lv_sub hl [3, 4, 5, 6, 0] rfl)
          · have h := h.2 c20
            exact h.elim
      · have h := h.2 c17
        exact h.elim
    · have h := h.2 c12
      refine lv_iconst (v := (1 : Int32)) hx hb dL_law_688 (by decide) ?_
      refine lv_goto (tgt := 693) hx hb dL_law_689 (by decide) ?_
      refine lcall_i (wf := wM cI am) (va_runV (As := [.int (xs (Int32.toNatClampNeg (x4 + (1 : Int32)))), .int (xs (Int32.toNatClampNeg (x4 + (2 : Int32)))), .int (1 : Int32)]) (rest := []) ⟨hx, hb, hml, hown, hts⟩ (cTX5_cancel l dC dI cI am J G H.size (xs (Int32.toNatClampNeg (x4 + (1 : Int32)))) (xs (Int32.toNatClampNeg (x4 + (2 : Int32)))) (1 : Int32) _ h) (cwV 3 hts gL_law_X5_cancel rfl rfl rfl (by decide +kernel) ⟨(Nat.le_of_ble_eq_true rfl), (Nat.le_of_ble_eq_true rfl)⟩) (pv_W hM hK hN ((hDm _ _).weaken (fun _ _ _ _ => trivial)) 0 5 rfl rfl _) rfl rfl hl.1 rfl (lv_room (Nat.le_of_ble_eq_true rfl)) dL_law_693 hf1) hDm hS hA hP (hcm _ _ _ _).symm hO (hmo _ _ _) (fun r22 J23 G24 h H locs hM hP hO hS => ?_)
      refine lv_istore (lv' := [(6, .int r22), (5, .int r5), (0, .ref b), (1, .ref (ad 0)), (2, .ref (am 0)), (3, .ref ao), (4, .int x4)]) hx hb dL_law_696 hl (by decide) rfl (fun ls hl => ?_)
      refine lv_aload_n hx hb dL_law_698 rfl (lv_at hl 4 rfl) ?_
      refine vp_callSi (cr_of (va_runV (As := []) (rest := []) ⟨hx, hb, hml, hown, hts⟩ (cTX5_thrown l dC dI cI am J23 G24 _ h) (cwV 0 hts gL_law_X5_thrown rfl rfl rfl (by decide +kernel) ⟨(Nat.le_of_ble_eq_true rfl), (Nat.le_of_ble_eq_true rfl)⟩) (pv_R hM hK hN 0 5 rfl rfl _) rfl rfl hl.1 rfl (lv_room (Nat.le_of_ble_eq_true rfl)) dL_law_699 hf1)) (fun r25 h => ?_)
      refine lv_iload hx hb dL_law_702 (lv_at hl 1 rfl) ?_
      refine lv_icmp_eq (tgt := 709) hx hb dL_law_704 (by decide) (fun c26 => ?_) (fun c26 => ?_)
      · have h := h.1 c26
        refine lv_iload hx hb dL_law_709 (lv_at hl 1 rfl) ?_
        refine lv_if_ne (tgt := 726) hx hb dL_law_711 (by decide) (fun c27 => ?_) (fun c27 => ?_)
        · have h := h.1 c27
          refine lv_goto (tgt := 1334) hx hb dL_law_726 (by decide) ?_
          obtain ⟨v28, ev28⟩ : ∃ y : Int32, y = x4 + (6 : Int32) := ⟨_, rfl⟩
          have h := h v28 ev28
          refine lv_iinc (v := v28) (lv' := [(4, .int v28), (6, .int r22), (5, .int r5), (0, .ref b), (1, .ref (ad 0)), (2, .ref (am 0)), (3, .ref ao)]) hx hb dL_law_1334 hl (k := 6) rfl (by rw [ev28]; rfl) (by decide) rfl (fun ls hl => ?_)
          refine lv_goto (tgt := 23) hx hb dL_law_1337 (by decide) ?_
          refine W.widen (k := 40 + (k + 1)) (n := 1368 + 6 * (k + 1)) (by omega) (by omega) ?_
          exact ih I6 F7 J23 G24 g8 v28 h (by rw [ev28, hx4]; exact nx6 k) H locs hP hM hO hS ls (lv_sub hl [3, 4, 5, 6, 0] rfl)
        · have h := h.2 c27
          refine lv_aload_n hx hb dL_law_714 rfl (lv_at hl 5 rfl) ?_
          refine lv_iconst (v := (0 : Int32)) hx hb dL_law_715 (by decide) ?_
          refine va_lald hx hb hK2 hO 0 1 rfl rfl in01 dL_law_716 ?_
          refine lv_iload hx hb dL_law_717 (lv_at hl 0 rfl) ?_
          refine lv_i2l (v := r22.toInt64) hx hb dL_law_719 rfl ?_
          refine W.lcmp hx hb dL_law_720 ?_
          refine lv_if_eq (tgt := 726) hx hb dL_law_721 (by decide) (fun c29 => ?_) (fun c29 => ?_)
          · have h := h.1 c29
            refine lv_goto (tgt := 1334) hx hb dL_law_726 (by decide) ?_
            obtain ⟨v30, ev30⟩ : ∃ y : Int32, y = x4 + (6 : Int32) := ⟨_, rfl⟩
            have h := h v30 ev30
            refine lv_iinc (v := v30) (lv' := [(4, .int v30), (6, .int r22), (5, .int r5), (0, .ref b), (1, .ref (ad 0)), (2, .ref (am 0)), (3, .ref ao)]) hx hb dL_law_1334 hl (k := 6) rfl (by rw [ev30]; rfl) (by decide) rfl (fun ls hl => ?_)
            refine lv_goto (tgt := 23) hx hb dL_law_1337 (by decide) ?_
            refine W.widen (k := 40 + (k + 1)) (n := 1368 + 6 * (k + 1)) (by omega) (by omega) ?_
            exact ih I6 F7 J23 G24 g8 v30 h (by rw [ev30, hx4]; exact nx6 k) H locs hP hM hO hS ls (lv_sub hl [3, 4, 5, 6, 0] rfl)
          · have h := h.2 c29
            exact h.elim
      · have h := h.2 c26
        exact h.elim
  · have h := h.2 c4
    refine lv_iconst (v := (1 : Int32)) hx hb dL_law_655 (by decide) ?_
    refine lv_goto (tgt := 660) hx hb dL_law_656 (by decide) ?_
    refine lv_aload_n hx hb dL_law_660 rfl (lv_at hl 3 rfl) ?_
    refine lcall_h (vx_runSW (As := [.ref (ad 0), .int (xs (Int32.toNatClampNeg (x4 + (1 : Int32)))), .int (xs (Int32.toNatClampNeg (x4 + (2 : Int32)))), .int (1 : Int32), .ref ao]) (rest := []) ⟨hx, hb, hml, hown, hts⟩ (cTL_cancel l hst dC dI cI cJ ad ao I F g H.size (xs (Int32.toNatClampNeg (x4 + (1 : Int32)))) (xs (Int32.toNatClampNeg (x4 + (2 : Int32)))) (1 : Int32) _ h) (vx_cwSW 5 hts gL_law_L_cancel rfl rfl rfl (by decide +kernel) ⟨(Nat.le_of_ble_eq_true rfl), (Nat.le_of_ble_eq_true rfl)⟩) (pv_H hP hO hK2 hN hT hC hZ hS hDc hAo hA (hco _ _ _)) rfl rfl hl.1 rfl (lv_room (Nat.le_of_ble_eq_true rfl)) dL_law_661 hfh) hDc hAo hS hA hM (hcm _ _ _ _) (hmo _ _ g) (fun r31 I32 F33 g34 h H locs hP hM hO hS => ?_)
    refine lv_istore (lv' := [(5, .int r31), (0, .ref b), (1, .ref (ad 0)), (2, .ref (am 0)), (3, .ref ao), (4, .int x4)]) hx hb dL_law_664 hl (by decide) rfl (fun ls hl => ?_)
    refine lv_aload_n hx hb dL_law_666 rfl (lv_at hl 3 rfl) ?_
    refine lv_aload_n hx hb dL_law_667 rfl (lv_at hl 1 rfl) ?_
    refine lv_iload hx hb dL_law_668 (lv_at hl 5 rfl) ?_
    refine lv_iconst (v := (1 : Int32)) hx hb dL_law_670 (by decide) ?_
    refine lv_iadd hx hb dL_law_671 ?_
    obtain ⟨hin35, h⟩ := h
    refine va_sld hx hb hX hbl hbA hS hin35 dL_law_672 ?_
    refine lv_aload_n hx hb dL_law_673 rfl (lv_at hl 1 rfl) ?_
    refine lv_iload hx hb dL_law_674 (lv_at hl 5 rfl) ?_
    refine lv_iconst (v := (2 : Int32)) hx hb dL_law_676 (by decide) ?_
    refine lv_iadd hx hb dL_law_677 ?_
    obtain ⟨hin36, h⟩ := h
    refine va_sld hx hb hX hbl hbA hS hin36 dL_law_678 ?_
    refine lv_aload_n hx hb dL_law_679 rfl (lv_at hl 1 rfl) ?_
    refine lv_iload hx hb dL_law_680 (lv_at hl 5 rfl) ?_
    refine lv_iconst (v := (3 : Int32)) hx hb dL_law_682 (by decide) ?_
    refine lv_iadd hx hb dL_law_683 ?_
    obtain ⟨hin37, h⟩ := h
    refine va_sld hx hb hX hbl hbA hS hin37 dL_law_684 ?_
    refine lv_if_eq (tgt := 692) hx hb dL_law_685 (by decide) (fun c38 => ?_) (fun c38 => ?_)
    · have h := h.1 c38
      refine lv_iconst (v := (0 : Int32)) hx hb dL_law_692 (by decide) ?_
      refine lcall_i (wf := wM cI am) (va_runV (As := [.int (xs (Int32.toNatClampNeg (x4 + (1 : Int32)))), .int (xs (Int32.toNatClampNeg (x4 + (2 : Int32)))), .int (0 : Int32)]) (rest := []) ⟨hx, hb, hml, hown, hts⟩ (cTX5_cancel l dC dI cI am J G H.size (xs (Int32.toNatClampNeg (x4 + (1 : Int32)))) (xs (Int32.toNatClampNeg (x4 + (2 : Int32)))) (0 : Int32) _ h) (cwV 3 hts gL_law_X5_cancel rfl rfl rfl (by decide +kernel) ⟨(Nat.le_of_ble_eq_true rfl), (Nat.le_of_ble_eq_true rfl)⟩) (pv_W hM hK hN ((hDm _ _).weaken (fun _ _ _ _ => trivial)) 0 5 rfl rfl _) rfl rfl hl.1 rfl (lv_room (Nat.le_of_ble_eq_true rfl)) dL_law_693 hf1) hDm hS hA hP (hcm _ _ _ _).symm hO (hmo _ _ _) (fun r39 J40 G41 h H locs hM hP hO hS => ?_)
      refine lv_istore (lv' := [(6, .int r39), (5, .int r31), (0, .ref b), (1, .ref (ad 0)), (2, .ref (am 0)), (3, .ref ao), (4, .int x4)]) hx hb dL_law_696 hl (by decide) rfl (fun ls hl => ?_)
      refine lv_aload_n hx hb dL_law_698 rfl (lv_at hl 4 rfl) ?_
      refine vp_callSi (cr_of (va_runV (As := []) (rest := []) ⟨hx, hb, hml, hown, hts⟩ (cTX5_thrown l dC dI cI am J40 G41 _ h) (cwV 0 hts gL_law_X5_thrown rfl rfl rfl (by decide +kernel) ⟨(Nat.le_of_ble_eq_true rfl), (Nat.le_of_ble_eq_true rfl)⟩) (pv_R hM hK hN 0 5 rfl rfl _) rfl rfl hl.1 rfl (lv_room (Nat.le_of_ble_eq_true rfl)) dL_law_699 hf1)) (fun r42 h => ?_)
      refine lv_iload hx hb dL_law_702 (lv_at hl 1 rfl) ?_
      refine lv_icmp_eq (tgt := 709) hx hb dL_law_704 (by decide) (fun c43 => ?_) (fun c43 => ?_)
      · have h := h.1 c43
        refine lv_iload hx hb dL_law_709 (lv_at hl 1 rfl) ?_
        refine lv_if_ne (tgt := 726) hx hb dL_law_711 (by decide) (fun c44 => ?_) (fun c44 => ?_)
        · have h := h.1 c44
          refine lv_goto (tgt := 1334) hx hb dL_law_726 (by decide) ?_
          obtain ⟨v45, ev45⟩ : ∃ y : Int32, y = x4 + (6 : Int32) := ⟨_, rfl⟩
          have h := h v45 ev45
          refine lv_iinc (v := v45) (lv' := [(4, .int v45), (6, .int r39), (5, .int r31), (0, .ref b), (1, .ref (ad 0)), (2, .ref (am 0)), (3, .ref ao)]) hx hb dL_law_1334 hl (k := 6) rfl (by rw [ev45]; rfl) (by decide) rfl (fun ls hl => ?_)
          refine lv_goto (tgt := 23) hx hb dL_law_1337 (by decide) ?_
          refine W.widen (k := 40 + (k + 1)) (n := 1368 + 6 * (k + 1)) (by omega) (by omega) ?_
          exact ih I32 F33 J40 G41 g34 v45 h (by rw [ev45, hx4]; exact nx6 k) H locs hP hM hO hS ls (lv_sub hl [3, 4, 5, 6, 0] rfl)
        · have h := h.2 c44
          refine lv_aload_n hx hb dL_law_714 rfl (lv_at hl 5 rfl) ?_
          refine lv_iconst (v := (0 : Int32)) hx hb dL_law_715 (by decide) ?_
          refine va_lald hx hb hK2 hO 0 1 rfl rfl in01 dL_law_716 ?_
          refine lv_iload hx hb dL_law_717 (lv_at hl 0 rfl) ?_
          refine lv_i2l (v := r39.toInt64) hx hb dL_law_719 rfl ?_
          refine W.lcmp hx hb dL_law_720 ?_
          refine lv_if_eq (tgt := 726) hx hb dL_law_721 (by decide) (fun c46 => ?_) (fun c46 => ?_)
          · have h := h.1 c46
            refine lv_goto (tgt := 1334) hx hb dL_law_726 (by decide) ?_
            obtain ⟨v47, ev47⟩ : ∃ y : Int32, y = x4 + (6 : Int32) := ⟨_, rfl⟩
            have h := h v47 ev47
            refine lv_iinc (v := v47) (lv' := [(4, .int v47), (6, .int r39), (5, .int r31), (0, .ref b), (1, .ref (ad 0)), (2, .ref (am 0)), (3, .ref ao)]) hx hb dL_law_1334 hl (k := 6) rfl (by rw [ev47]; rfl) (by decide) rfl (fun ls hl => ?_)
            refine lv_goto (tgt := 23) hx hb dL_law_1337 (by decide) ?_
            refine W.widen (k := 40 + (k + 1)) (n := 1368 + 6 * (k + 1)) (by omega) (by omega) ?_
            exact ih I32 F33 J40 G41 g34 v47 h (by rw [ev47, hx4]; exact nx6 k) H locs hP hM hO hS ls (lv_sub hl [3, 4, 5, 6, 0] rfl)
          · have h := h.2 c46
            exact h.elim
      · have h := h.2 c43
        exact h.elim
    · have h := h.2 c38
      refine lv_iconst (v := (1 : Int32)) hx hb dL_law_688 (by decide) ?_
      refine lv_goto (tgt := 693) hx hb dL_law_689 (by decide) ?_
      refine lcall_i (wf := wM cI am) (va_runV (As := [.int (xs (Int32.toNatClampNeg (x4 + (1 : Int32)))), .int (xs (Int32.toNatClampNeg (x4 + (2 : Int32)))), .int (1 : Int32)]) (rest := []) ⟨hx, hb, hml, hown, hts⟩ (cTX5_cancel l dC dI cI am J G H.size (xs (Int32.toNatClampNeg (x4 + (1 : Int32)))) (xs (Int32.toNatClampNeg (x4 + (2 : Int32)))) (1 : Int32) _ h) (cwV 3 hts gL_law_X5_cancel rfl rfl rfl (by decide +kernel) ⟨(Nat.le_of_ble_eq_true rfl), (Nat.le_of_ble_eq_true rfl)⟩) (pv_W hM hK hN ((hDm _ _).weaken (fun _ _ _ _ => trivial)) 0 5 rfl rfl _) rfl rfl hl.1 rfl (lv_room (Nat.le_of_ble_eq_true rfl)) dL_law_693 hf1) hDm hS hA hP (hcm _ _ _ _).symm hO (hmo _ _ _) (fun r48 J49 G50 h H locs hM hP hO hS => ?_)
      refine lv_istore (lv' := [(6, .int r48), (5, .int r31), (0, .ref b), (1, .ref (ad 0)), (2, .ref (am 0)), (3, .ref ao), (4, .int x4)]) hx hb dL_law_696 hl (by decide) rfl (fun ls hl => ?_)
      refine lv_aload_n hx hb dL_law_698 rfl (lv_at hl 4 rfl) ?_
      refine vp_callSi (cr_of (va_runV (As := []) (rest := []) ⟨hx, hb, hml, hown, hts⟩ (cTX5_thrown l dC dI cI am J49 G50 _ h) (cwV 0 hts gL_law_X5_thrown rfl rfl rfl (by decide +kernel) ⟨(Nat.le_of_ble_eq_true rfl), (Nat.le_of_ble_eq_true rfl)⟩) (pv_R hM hK hN 0 5 rfl rfl _) rfl rfl hl.1 rfl (lv_room (Nat.le_of_ble_eq_true rfl)) dL_law_699 hf1)) (fun r51 h => ?_)
      refine lv_iload hx hb dL_law_702 (lv_at hl 1 rfl) ?_
      refine lv_icmp_eq (tgt := 709) hx hb dL_law_704 (by decide) (fun c52 => ?_) (fun c52 => ?_)
      · have h := h.1 c52
        refine lv_iload hx hb dL_law_709 (lv_at hl 1 rfl) ?_
        refine lv_if_ne (tgt := 726) hx hb dL_law_711 (by decide) (fun c53 => ?_) (fun c53 => ?_)
        · have h := h.1 c53
          refine lv_goto (tgt := 1334) hx hb dL_law_726 (by decide) ?_
          obtain ⟨v54, ev54⟩ : ∃ y : Int32, y = x4 + (6 : Int32) := ⟨_, rfl⟩
          have h := h v54 ev54
          refine lv_iinc (v := v54) (lv' := [(4, .int v54), (6, .int r48), (5, .int r31), (0, .ref b), (1, .ref (ad 0)), (2, .ref (am 0)), (3, .ref ao)]) hx hb dL_law_1334 hl (k := 6) rfl (by rw [ev54]; rfl) (by decide) rfl (fun ls hl => ?_)
          refine lv_goto (tgt := 23) hx hb dL_law_1337 (by decide) ?_
          refine W.widen (k := 40 + (k + 1)) (n := 1368 + 6 * (k + 1)) (by omega) (by omega) ?_
          exact ih I32 F33 J49 G50 g34 v54 h (by rw [ev54, hx4]; exact nx6 k) H locs hP hM hO hS ls (lv_sub hl [3, 4, 5, 6, 0] rfl)
        · have h := h.2 c53
          refine lv_aload_n hx hb dL_law_714 rfl (lv_at hl 5 rfl) ?_
          refine lv_iconst (v := (0 : Int32)) hx hb dL_law_715 (by decide) ?_
          refine va_lald hx hb hK2 hO 0 1 rfl rfl in01 dL_law_716 ?_
          refine lv_iload hx hb dL_law_717 (lv_at hl 0 rfl) ?_
          refine lv_i2l (v := r48.toInt64) hx hb dL_law_719 rfl ?_
          refine W.lcmp hx hb dL_law_720 ?_
          refine lv_if_eq (tgt := 726) hx hb dL_law_721 (by decide) (fun c55 => ?_) (fun c55 => ?_)
          · have h := h.1 c55
            refine lv_goto (tgt := 1334) hx hb dL_law_726 (by decide) ?_
            obtain ⟨v56, ev56⟩ : ∃ y : Int32, y = x4 + (6 : Int32) := ⟨_, rfl⟩
            have h := h v56 ev56
            refine lv_iinc (v := v56) (lv' := [(4, .int v56), (6, .int r48), (5, .int r31), (0, .ref b), (1, .ref (ad 0)), (2, .ref (am 0)), (3, .ref ao)]) hx hb dL_law_1334 hl (k := 6) rfl (by rw [ev56]; rfl) (by decide) rfl (fun ls hl => ?_)
            refine lv_goto (tgt := 23) hx hb dL_law_1337 (by decide) ?_
            refine W.widen (k := 40 + (k + 1)) (n := 1368 + 6 * (k + 1)) (by omega) (by omega) ?_
            exact ih I32 F33 J49 G50 g34 v56 h (by rw [ev56, hx4]; exact nx6 k) H locs hP hM hO hS ls (lv_sub hl [3, 4, 5, 6, 0] rfl)
          · have h := h.2 c55
            exact h.elim
      · have h := h.2 c52
        exact h.elim
