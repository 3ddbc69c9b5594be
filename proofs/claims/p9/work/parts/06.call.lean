/-! Calls in one row: a contract's start and end in a fixed form, and a row for each kind of call that cuts the callee's cells out and joins what comes back. -/
/-- the start of a contract: the heap's size, the cells, the classes, apart, and what else it needs of the state -/
def wPre (D : va_G) (tys : List (ClassId × FieldType)) (ws : va_W) (sz : Nat) (X : State → Prop) : State → Prop := fun U => U.heap.size = sz ∧ va_P D vwCl ws U.heap ∧ va_K D vwCl tys U ∧ va_D (fun _ => True) ws ∧ X U
/-- its end: the cells behind it -/
def wPost (D : va_G) (A : Nat → Prop) (ws : va_W) : State → Prop := fun t => va_P D vwCl ws t.heap ∧ va_D A ws
/-- nothing else is needed -/
def wX0 : State → Prop := fun _ => True
/-- what else is needed holds in every state that a call can begin in -/
def wXk (X : State → Prop) : Prop := (∀ U U' : State, U.vm = U'.vm → U.heap = U'.heap → X U → X U')
theorem wX0_k : wXk wX0 := fun _ _ _ _ _ => trivial
theorem wPre_blind {D : va_G} {tys : List (ClassId × FieldType)} {ws : va_W} {sz : Nat} {X : State → Prop} {av : List Value} (hX : wXk X) : FrameBlind (va_Pc av (wPre D tys ws sz X)) := by
  intro a U g mk q
  obtain ⟨q0, q1, qP, qK, qD, qX⟩ := q
  exact ⟨q0, q1, qP, va_K.moved (u := U) (U := U.calling g mk a) (Vm.Alike.refl U.vm) qK, qD, hX U _ rfl rfl qX⟩
theorem gc_subP {D : va_G} {ws wc : va_W} {H : Heap} (hP : va_P D vwCl ws H) (isC : List Nat) (hC : isC.map (fun i => ws[i]?) = wc.map some) : va_P D vwCl wc H := by
  intro k q hq
  obtain ⟨i, -, hi⟩ := va_in_of isC hC hq
  exact hP i q hi
theorem gc_subD {A : Nat → Prop} {ws wc : va_W} (hD : va_D A ws) (isC : List Nat) (hC : isC.map (fun i => ws[i]?) = wc.map some) (hn : va_nd isC = true) : va_D (fun _ => True) wc := by
  refine ⟨fun i j p q hi hj e => ?_, fun _ _ _ => trivial⟩
  obtain ⟨a, ha, h1⟩ := va_in_of isC hC hi
  obtain ⟨b, hb, h2⟩ := va_in_of isC hC hj
  have hab := hD.1 a b p q h1 h2 e
  subst hab
  exact va_nd_inj isC hn i j a ha hb
section GCA
variable {p : Program} {l : Launch} {e : Env} {R : Room} {s : State} {m : MethodId} {args : Array Value} {below : List Frame} {meth : Method} {c : Code} {H : Heap} {locs : List Loc} {cells slots : Nat} {Q : State → Prop}
variable {y : MethodName} {bytes cc : ByteArray} {maxL nL mc ms n index : Nat} {ret : Option FieldType} {wy : List Cond} {rm : Room} {Qc : Array Value → State → Outcome → State → Prop} {free : Addr → Prop} {Ts : List Cond} {own C : String} {b : Addr} {As rest : List Value} {g : JFrame}
variable {D : va_G} {tys tysC : List (ClassId × FieldType)} {ws wc wr w1 : va_W} {X : State → Prop} {A A0 : Nat → Prop} {H0 : Heap} {pc : Nat} {ls : Array Slot} {st0 : List Value} {a : Array Value}
/-- a virtual call of a class of the world -/
theorem gcV (S : CallFix p m c cc nL s args Ts own) (hM : Met l y wy rm (va_Pc (.ref b :: As) (wPre D tysC wc H.size X)) Qc mc ms free) (cw : CallW R s args own C index y bytes maxL ret wy rm mc ms n) (hK : va_K D vwCl tys s) (isT : List Nat) (hT : isT.filterMap (fun i => tys[i]?) = tysC)
    (hP : va_P D vwCl ws H) (hD : va_D A ws) (isC : List Nat) (hC : isC.map (fun i => ws[i]?) = wc.map some) (hnc : va_nd isC = true) {fs : List Value} {ci : Nat} {T : u_T} {N : Nat} (hr : wc[0]? = some (b, .inr (ci, fs))) (hcl : vwCl[ci]? = some (C, T, N)) (hX : wXk X) (hXs : ∀ U : State, U.heap = H → s.WarmedH U.vm → X U)
    (hg : g.method = m) (hn : As.length = n) (hsize : g.locals.size = nL) (hstack : g.stack = As.reverse ++ .ref b :: rest) (hW : 2 * g.monitorRoom + (rest.map fun v => v.category).sum ≤ 8) (hdg : decode cc g.pc = .ok (.invokevirtual index, 3)) (hf : cells + mc ≤ R.cells ∧ slots + ms ≤ R.slots) :
    va_Run p l e R s m args below meth c H locs cells slots mc ms g rest (Qc (Value.ref b :: As).toArray) free := by
  have hKc := hK.sub (tys' := tysC) isT hT
  have hPc := gc_subP hP isC hC
  have hDc := gc_subD hD isC hC hnc
  exact va_runV S hM cw ⟨wPre_blind hX, va_recv hKc hPc hcl hr, fun U hU hW => ⟨rfl, by rw [hU], by rw [hU]; exact hPc, va_K.moved hW.alike hKc, hDc, hXs U hU hW⟩⟩ hg hn hsize hstack hW hdg hf
/-- a static call -/
theorem gcS (S : CallFix p m c cc nL s args Ts own) (hM : Met l y wy rm (va_Pc As (wPre D tysC wc H.size X)) Qc mc ms free) (cw : CallB R s args own index y bytes maxL ret wy rm mc ms n ∧ (Cond.static y).before args s = true) (hK : va_K D vwCl tys s) (isT : List Nat) (hT : isT.filterMap (fun i => tys[i]?) = tysC)
    (hP : va_P D vwCl ws H) (hD : va_D A ws) (isC : List Nat) (hC : isC.map (fun i => ws[i]?) = wc.map some) (hnc : va_nd isC = true) (hX : wXk X) (hXs : ∀ U : State, U.heap = H → s.WarmedH U.vm → X U)
    (hg : g.method = m) (hn : As.length = n) (hsize : g.locals.size = nL) (hstack : g.stack = As.reverse ++ rest) (hW : 2 * g.monitorRoom + (rest.map fun v => v.category).sum ≤ 8) (hdg : decode cc g.pc = .ok (.invokestatic index, 3)) (hf : cells + mc ≤ R.cells ∧ slots + ms ≤ R.slots) :
    va_Run p l e R s m args below meth c H locs cells slots mc ms g rest (Qc As.toArray) free := by
  have hKc := hK.sub (tys' := tysC) isT hT
  have hPc := gc_subP hP isC hC
  have hDc := gc_subD hD isC hC hnc
  exact va_runS S hM cw ⟨wPre_blind hX, fun U hU hW => ⟨rfl, by rw [hU], by rw [hU]; exact hPc, va_K.moved hW.alike hKc, hDc, hXs U hU hW⟩⟩ hg hn hsize hstack hW hdg hf
/-- a constructor's call -/
theorem gcI (S : CallFix p m c cc nL s args Ts own) (hM : Met l y wy rm (va_Pc (.ref b :: As) (wPre D tysC wc H.size X)) Qc mc ms free) (cw : CallB R s args own index y bytes maxL none wy rm mc ms n ∧ y.name = "<init>" ∧ (Cond.instanceMethod y).before args s = true) (hK : va_K D vwCl tys s) (isT : List Nat) (hT : isT.filterMap (fun i => tys[i]?) = tysC)
    (hP : va_P D vwCl ws H) (hD : va_D A ws) (isC : List Nat) (hC : isC.map (fun i => ws[i]?) = wc.map some) (hnc : va_nd isC = true) (hX : wXk X) (hXs : ∀ U : State, U.heap = H → s.WarmedH U.vm → X U)
    (hg : g.method = m) (hn : As.length = n) (hsize : g.locals.size = nL) (hstack : g.stack = As.reverse ++ .ref b :: rest) (hW : 2 * g.monitorRoom + (rest.map fun v => v.category).sum ≤ 8) (hdg : decode cc g.pc = .ok (.invokespecial index, 3)) (hf : cells + mc ≤ R.cells ∧ slots + ms ≤ R.slots) :
    va_Run p l e R s m args below meth c H locs cells slots mc ms g rest (Qc (Value.ref b :: As).toArray) free := by
  have hKc := hK.sub (tys' := tysC) isT hT
  have hPc := gc_subP hP isC hC
  have hDc := gc_subD hD isC hC hnc
  exact va_runI S hM cw ⟨wPre_blind hX, fun U hU hW => ⟨rfl, by rw [hU], by rw [hU]; exact hPc, va_K.moved hW.alike hKc, hDc, hXs U hU hW⟩⟩ hg hn hsize hstack hW hdg hf
/-- what a call leaves: the rest of the world as it was, behind it the callee's cells -/
theorem gc_v (hr : va_Run p l e R s m args below meth c H locs cells slots mc ms (F0 m pc ls st0) rest (va_Qv (fun _ : Unit => True) (fun _ t => wPost D (va_A wc H.size) w1 t) (va_A wc H.size) a) (va_A wc H.size)) (hP : va_P D vwCl ws H) (hD : va_D A0 ws) (hS : va_S A0 H0 H locs) (hA : ∀ q, H0.size ≤ q → A0 q)
    (isC isR : List Nat) (hC : isC.map (fun i => ws[i]?) = wc.map some) (hR : isR.map (fun i => ws[i]?) = wr.map some) (hn : va_nd isR = true) (hdis : ∀ i ∈ isR, i ∉ isC)
    (kk : ∀ (H1 : Heap) (locs1 : List Loc), va_P D vwCl (wr ++ w1) H1 → va_D A0 (wr ++ w1) → va_S A0 H0 H1 locs1 → W p l e R s m args below meth c H1 locs1 (cells + mc) (slots + ms) Q (F0 m (pc + 3) ls rest)) : W p l e R s m args below meth c H locs cells slots Q (F0 m pc ls st0) := by
  have hF := va_free hD hS hA isC hC
  refine va_callv hr hS (fun q _ h => hF q h) hF (fun u t H1 locs1 ht hvm hw hB hz hk hS1 => ?_)
  obtain ⟨hP1, hD1⟩ := hB
  rw [ht] at hP1
  obtain ⟨hP2, hD2⟩ := va_join hP hD isC isR hC hR hn hdis hk hF hP1 hD1
  exact kk H1 locs1 hP2 hD2 hS1
theorem gc_i {v : Int32} (hr : va_Run p l e R s m args below meth c H locs cells slots mc ms (F0 m pc ls st0) rest (va_Qi (fun (r : Int32) (_ : Unit) => r = v) (fun _ t => wPost D (va_A wc H.size) w1 t) (va_A wc H.size) a) (va_A wc H.size)) (hP : va_P D vwCl ws H) (hD : va_D A0 ws) (hS : va_S A0 H0 H locs) (hA : ∀ q, H0.size ≤ q → A0 q)
    (isC isR : List Nat) (hC : isC.map (fun i => ws[i]?) = wc.map some) (hR : isR.map (fun i => ws[i]?) = wr.map some) (hn : va_nd isR = true) (hdis : ∀ i ∈ isR, i ∉ isC)
    (kk : ∀ (H1 : Heap) (locs1 : List Loc), va_P D vwCl (wr ++ w1) H1 → va_D A0 (wr ++ w1) → va_S A0 H0 H1 locs1 → W p l e R s m args below meth c H1 locs1 (cells + mc) (slots + ms) Q (F0 m (pc + 3) ls (.int v :: rest))) : W p l e R s m args below meth c H locs cells slots Q (F0 m pc ls st0) := by
  have hF := va_free hD hS hA isC hC
  refine va_calli hr hS (fun q _ h => hF q h) hF (fun r u t H1 locs1 ht hvm hw hB hz hk hS1 => ?_)
  obtain ⟨hP1, hD1⟩ := hB
  rw [ht] at hP1
  have hw : r = v := hw
  subst hw
  obtain ⟨hP2, hD2⟩ := va_join hP hD isC isR hC hR hn hdis hk hF hP1 hD1
  exact kk H1 locs1 hP2 hD2 hS1
theorem gc_l {v : Int64} (hr : va_Run p l e R s m args below meth c H locs cells slots mc ms (F0 m pc ls st0) rest (va_Ql (fun (r : Int64) (_ : Unit) => r = v) (fun _ t => wPost D (va_A wc H.size) w1 t) (va_A wc H.size) a) (va_A wc H.size)) (hP : va_P D vwCl ws H) (hD : va_D A0 ws) (hS : va_S A0 H0 H locs) (hA : ∀ q, H0.size ≤ q → A0 q)
    (isC isR : List Nat) (hC : isC.map (fun i => ws[i]?) = wc.map some) (hR : isR.map (fun i => ws[i]?) = wr.map some) (hn : va_nd isR = true) (hdis : ∀ i ∈ isR, i ∉ isC)
    (kk : ∀ (H1 : Heap) (locs1 : List Loc), va_P D vwCl (wr ++ w1) H1 → va_D A0 (wr ++ w1) → va_S A0 H0 H1 locs1 → W p l e R s m args below meth c H1 locs1 (cells + mc) (slots + ms) Q (F0 m (pc + 3) ls (.long v :: rest))) : W p l e R s m args below meth c H locs cells slots Q (F0 m pc ls st0) := by
  have hF := va_free hD hS hA isC hC
  refine va_calll hr hS (fun q _ h => hF q h) hF (fun r u t H1 locs1 ht hvm hw hB hz hk hS1 => ?_)
  obtain ⟨hP1, hD1⟩ := hB
  rw [ht] at hP1
  have hw : r = v := hw
  subst hw
  obtain ⟨hP2, hD2⟩ := va_join hP hD isC isR hC hR hn hdis hk hF hP1 hD1
  exact kk H1 locs1 hP2 hD2 hS1
/-- an answer that is a reference, known -/
theorem gc_q {v : Option Nat} (hr : va_Run p l e R s m args below meth c H locs cells slots mc ms (F0 m pc ls st0) rest (va_Qq (fun (r : Option Nat) (_ : Unit) => r = v) (fun _ t => wPost D (va_A wc H.size) w1 t) (va_A wc H.size) a) (va_A wc H.size)) (hP : va_P D vwCl ws H) (hD : va_D A0 ws) (hS : va_S A0 H0 H locs) (hA : ∀ q, H0.size ≤ q → A0 q)
    (isC isR : List Nat) (hC : isC.map (fun i => ws[i]?) = wc.map some) (hR : isR.map (fun i => ws[i]?) = wr.map some) (hn : va_nd isR = true) (hdis : ∀ i ∈ isR, i ∉ isC)
    (kk : ∀ (H1 : Heap) (locs1 : List Loc), va_P D vwCl (wr ++ w1) H1 → va_D A0 (wr ++ w1) → va_S A0 H0 H1 locs1 → W p l e R s m args below meth c H1 locs1 (cells + mc) (slots + ms) Q (F0 m (pc + 3) ls (va_rf v :: rest))) : W p l e R s m args below meth c H locs cells slots Q (F0 m pc ls st0) := by
  have hF := va_free hD hS hA isC hC
  refine va_callq hr hS (fun q _ h => hF q h) hF (fun r u t H1 locs1 ht hvm hw hB hz hk hS1 => ?_)
  obtain ⟨hP1, hD1⟩ := hB
  rw [ht] at hP1
  have hw : r = v := hw
  subst hw
  obtain ⟨hP2, hD2⟩ := va_join hP hD isC isR hC hR hn hdis hk hF hP1 hD1
  exact kk H1 locs1 hP2 hD2 hS1
end GCA
