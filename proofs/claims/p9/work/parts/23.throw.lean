/-! Calls that may throw, in one row; what a throw needs of the state. -/
def xI : String := "java/lang/IndexOutOfBoundsException"
def xA : String := "java/lang/IllegalArgumentException"
abbrev xN : List String := ["java/lang/RuntimeException", "java/lang/Exception"]
/-- what a throw needs beyond the good words: declarations, casts, the texts, Throwable's two statics -/
def wXE (t1 t2 t3 : Nat) (A : Nat → Prop) : State → Prop := fun U => (va_Nw (.declares (Bundle.initS "java/lang/RuntimeException")) U ∧ va_Nw (.declares (Bundle.initS "java/lang/Exception")) U ∧ va_Nw (.declares (Bundle.initS Bundle.tN)) U ∧ va_Nw (.castable xI xI) U ∧ va_Nw (.castable xA xA) U) ∧
  (vk_R RX4 84 "no such machine, place, register or port" t1 U ∧ vk_R RX4 35 "n is not 1 .. 20" t2 U ∧ vk_R RX4 55 "n is not 0 .. 4000, or ratio not 0 .. 4" t3 U) ∧
  vx_Zq Bundle.tN "UNASSIGNED_STACK" Bundle.steD A U U.heap ∧ vx_Zq Bundle.tN "SUPPRESSED_SENTINEL" Bundle.listD A U U.heap
theorem wXE_k {t1 t2 t3 : Nat} {A : Nat → Prop} : wXk (wXE t1 t2 t3 A) := by
  intro U U' hv hh h
  obtain ⟨⟨a1, a2, a3, a4, a5⟩, ⟨b1, b2, b3⟩, c1, c2⟩ := h
  have ha : U.vm.Alike U'.vm := hv ▸ Vm.Alike.refl U.vm
  refine ⟨⟨va_Nw.same rfl hv a1, va_Nw.same rfl hv a2, va_Nw.same rfl hv a3, va_Nw.same rfl hv a4, va_Nw.same rfl hv a5⟩, ⟨vk_R.same hv.symm b1, vk_R.same hv.symm b2, vk_R.same hv.symm b3⟩, ?_, ?_⟩
  · rw [← hh]; exact vx_Zq.moved ha c1
  · rw [← hh]; exact vx_Zq.moved ha c2
theorem wXE_w {t1 t2 t3 : Nat} {A B : Nat → Prop} {s U : State} {H : Heap} {locs : List Loc} (hW : s.WarmedH U.vm) (hU : U.heap = H) (hS : va_S A s.heap H locs) (hF : ∀ q, B q → A q) (h : wXE t1 t2 t3 A s) : wXE t1 t2 t3 B U := by
  obtain ⟨⟨a1, a2, a3, a4, a5⟩, ⟨b1, b2, b3⟩, c1, c2⟩ := h
  subst hU
  exact ⟨⟨va_Nw.warmD hW a1, va_Nw.warmD hW a2, va_Nw.warmD hW a3, va_Nw.warmC hW a4, va_Nw.warmC hW a5⟩, ⟨vk_R.warm hW b1, vk_R.warm hW b2, vk_R.warm hW b3⟩, ((c1.kept hS.2.1).moved hW.alike).narrow hF, ((c2.kept hS.2.1).moved hW.alike).narrow hF⟩
/-- all that the class's face needs -/
def wXF (t1 t2 t3 tk tw : Nat) (kf wf : Nat → Int32) (A : Nat → Prop) : State → Prop := fun U => wXE t1 t2 t3 A U ∧ wXT tk tw kf wf A U
theorem wXF_k {t1 t2 t3 tk tw : Nat} {kf wf : Nat → Int32} {A : Nat → Prop} : wXk (wXF t1 t2 t3 tk tw kf wf A) := fun U U' hv hh h => ⟨wXE_k U U' hv hh h.1, wXT_k U U' hv hh h.2⟩
theorem wXF_w {t1 t2 t3 tk tw : Nat} {kf wf : Nat → Int32} {A B : Nat → Prop} {s U : State} {H : Heap} {locs : List Loc} (hW : s.WarmedH U.vm) (hU : U.heap = H) (hS : va_S A s.heap H locs) (hF : ∀ q, B q → A q) (h : wXF t1 t2 t3 tk tw kf wf A s) : wXF t1 t2 t3 tk tw kf wf B U := ⟨wXE_w hW hU hS hF h.1, wXT_w hW hU hS hF h.2⟩
/-- the words of 'throw new E(text)' -/
theorem xw_I {args : Array Value} {s : State} {t1 t2 t3 : Nat} {A : Nat → Prop} (hg : ∀ w ∈ gw, w.before args s = true) (h : wXE t1 t2 t3 A s) : ∀ w ∈ vx_atS RX4 86 xI xN, w.before args s = true := by
  obtain ⟨⟨a1, a2, a3, a4, a5⟩, -, -, -⟩ := h
  refine vx_hat (B := [.declares (Bundle.initS "java/lang/RuntimeException"), .declares (Bundle.initS "java/lang/Exception"), .declares (Bundle.initS Bundle.tN), .castable xI xI]) (fun w hw => hg w ?_) (by decide +kernel) (vx_c (va_Nw.use rfl a1) (vx_c (va_Nw.use rfl a2) (vx_c (va_Nw.use rfl a3) (vx_c (va_Nw.use rfl a4) vx_n))))
  have h9 : ∀ w ∈ (vx_atS RX4 86 xI xN).filter goodWord, w ∈ lw_tbl := by decide +kernel
  exact List.mem_filter.mpr ⟨h9 w hw, (List.mem_filter.mp hw).2⟩
theorem xw_A {args : Array Value} {s : State} {t1 t2 t3 : Nat} {A : Nat → Prop} (hg : ∀ w ∈ gw, w.before args s = true) (h : wXE t1 t2 t3 A s) : ∀ w ∈ vx_atS RX4 37 xA xN, w.before args s = true := by
  obtain ⟨⟨a1, a2, a3, a4, a5⟩, -, -, -⟩ := h
  refine vx_hat (B := [.declares (Bundle.initS "java/lang/RuntimeException"), .declares (Bundle.initS "java/lang/Exception"), .declares (Bundle.initS Bundle.tN), .castable xA xA]) (fun w hw => hg w ?_) (by decide +kernel) (vx_c (va_Nw.use rfl a1) (vx_c (va_Nw.use rfl a2) (vx_c (va_Nw.use rfl a3) (vx_c (va_Nw.use rfl a5) vx_n))))
  have h9 : ∀ w ∈ (vx_atS RX4 37 xA xN).filter goodWord, w ∈ lw_tbl := by decide +kernel
  exact List.mem_filter.mpr ⟨h9 w hw, (List.mem_filter.mp hw).2⟩
section GXA
variable {p : Program} {l : Launch} {e : Env} {R : Room} {s : State} {m : MethodId} {args : Array Value} {below : List Frame} {meth : Method} {c : Code} {H : Heap} {locs : List Loc} {cells slots : Nat} {Q : State → Prop}
variable {y : MethodName} {bytes cc : ByteArray} {maxL nL mc ms n index : Nat} {ret : Option FieldType} {wy : List Cond} {rm : Room} {Qc : Array Value → State → Outcome → State → Prop} {XC : String → State → State → Prop} {free : Addr → Prop} {Ts : List Cond} {own C : String} {b : Addr} {As rest : List Value} {g : JFrame}
variable {D : va_G} {tys tysC : List (ClassId × FieldType)} {ws wc wr w1 : va_W} {X : State → Prop} {A A0 : Nat → Prop} {H0 : Heap} {pc : Nat} {ls : Array Slot} {st0 : List Value} {a : Array Value} {PO : Prop} {PX : String → Prop}
theorem gxV (S : CallFix p m c cc nL s args Ts own) (hM : vx_Met l y wy rm (va_Pc (.ref b :: As) (wPre D tysC wc H.size X)) Qc XC mc ms free) (cw : CallW R s args own C index y bytes maxL ret wy rm mc ms n) (hK : va_K D vwCl tys s) (isT : List Nat) (hT : isT.filterMap (fun i => tys[i]?) = tysC)
    (hP : va_P D vwCl ws H) (hD : va_D A ws) (isC : List Nat) (hC : isC.map (fun i => ws[i]?) = wc.map some) (hnc : va_nd isC = true) {fs : List Value} {ci : Nat} {T : u_T} {N : Nat} (hr : wc[0]? = some (b, .inr (ci, fs))) (hcl : vwCl[ci]? = some (C, T, N)) (hX : wXk X) (hXs : ∀ U : State, U.heap = H → s.WarmedH U.vm → X U)
    (hg : g.method = m) (hn : As.length = n) (hsize : g.locals.size = nL) (hstack : g.stack = As.reverse ++ .ref b :: rest) (hW : 2 * g.monitorRoom + (rest.map fun v => v.category).sum ≤ 8) (hdg : decode cc g.pc = .ok (.invokevirtual index, 3)) (hf : cells + mc ≤ R.cells ∧ slots + ms ≤ R.slots) :
    vx_Run p l e R s m args below meth c H locs cells slots mc ms g rest (Qc (Value.ref b :: As).toArray) XC free := by
  have hKc := hK.sub (tys' := tysC) isT hT
  have hPc := gc_subP hP isC hC
  have hDc := gc_subD hD isC hC hnc
  exact vx_runV S hM cw ⟨wPre_blind hX, va_recv hKc hPc hcl hr, fun U hU hW => ⟨rfl, by rw [hU], by rw [hU]; exact hPc, va_K.moved hW.alike hKc, hDc, hXs U hU hW⟩⟩ hg hn hsize hstack hW hdg hf
theorem gxS (S : CallFix p m c cc nL s args Ts own) (hM : vx_Met l y wy rm (va_Pc As (wPre D tysC wc H.size X)) Qc XC mc ms free) (cw : CallB R s args own index y bytes maxL ret wy rm mc ms n ∧ (Cond.static y).before args s = true) (hK : va_K D vwCl tys s) (isT : List Nat) (hT : isT.filterMap (fun i => tys[i]?) = tysC)
    (hP : va_P D vwCl ws H) (hD : va_D A ws) (isC : List Nat) (hC : isC.map (fun i => ws[i]?) = wc.map some) (hnc : va_nd isC = true) (hX : wXk X) (hXs : ∀ U : State, U.heap = H → s.WarmedH U.vm → X U)
    (hg : g.method = m) (hn : As.length = n) (hsize : g.locals.size = nL) (hstack : g.stack = As.reverse ++ rest) (hW : 2 * g.monitorRoom + (rest.map fun v => v.category).sum ≤ 8) (hdg : decode cc g.pc = .ok (.invokestatic index, 3)) (hf : cells + mc ≤ R.cells ∧ slots + ms ≤ R.slots) :
    vx_Run p l e R s m args below meth c H locs cells slots mc ms g rest (Qc As.toArray) XC free := by
  have hKc := hK.sub (tys' := tysC) isT hT
  have hPc := gc_subP hP isC hC
  have hDc := gc_subD hD isC hC hnc
  exact vx_runS S hM cw ⟨wPre_blind hX, fun U hU hW => ⟨rfl, by rw [hU], by rw [hU]; exact hPc, va_K.moved hW.alike hKc, hDc, hXs U hU hW⟩⟩ hg hn hsize hstack hW hdg hf
/-- the end of a contract that throws: which, and the world as it was -/
abbrev wPX (D : va_G) (A : Nat → Prop) (ws : va_W) (PX : String → Prop) : String → State → State → Prop := vx_X (fun _ : Unit => True) (fun E _ t => wPost D A ws t ∧ PX E) A
theorem gx_v (hr : vx_Run p l e R s m args below meth c H locs cells slots mc ms (F0 m pc ls st0) rest (va_Qv (fun _ : Unit => PO) (fun _ t => wPost D (va_A wc H.size) w1 t) (va_A wc H.size) a) (wPX D (va_A wc H.size) wc PX) (va_A wc H.size)) (hP : va_P D vwCl ws H) (hD : va_D A0 ws) (hS : va_S A0 H0 H locs) (hA : ∀ q, H0.size ≤ q → A0 q)
    (isC isR : List Nat) (hC : isC.map (fun i => ws[i]?) = wc.map some) (hR : isR.map (fun i => ws[i]?) = wr.map some) (hn : va_nd isR = true) (hdis : ∀ i ∈ isR, i ∉ isC)
    (kx : ∀ (E : String) (ce : Cell) (q9 : Addr) (H1 : Heap) (locs1 : List Loc), PX E → va_P D vwCl (wr ++ wc) H1 → va_D A0 (wr ++ wc) → va_S A0 H0 H1 locs1 → H1[q9]? = some ce → ce.vm = .none → s.vm.findClass E = some ce.cls → vx_W p l e R s m args below meth c H1 locs1 (cells + mc) (slots + ms) Q (F0 m pc ls rest) q9)
    (kk : ∀ (H1 : Heap) (locs1 : List Loc), PO → va_P D vwCl (wr ++ w1) H1 → va_D A0 (wr ++ w1) → va_S A0 H0 H1 locs1 → W p l e R s m args below meth c H1 locs1 (cells + mc) (slots + ms) Q (F0 m (pc + 3) ls rest)) : W p l e R s m args below meth c H locs cells slots Q (F0 m pc ls st0) := by
  have hF := va_free hD hS hA isC hC
  refine vx_callv hr hS (fun q _ h => hF q h) hF (fun q _ h => hF q h) (fun E ce q9 u t H1 locs1 ht hvm hp hB hz hk hS1 h1 h2 h3 => ?_) (fun u t H1 locs1 ht hvm hw hB hz hk hS1 => ?_)
  · obtain ⟨⟨hP1, hD1⟩, hx⟩ := hB
    rw [ht] at hP1
    obtain ⟨hP2, hD2⟩ := va_join hP hD isC isR hC hR hn hdis hk hF hP1 hD1
    exact kx E ce q9 H1 locs1 hx hP2 hD2 hS1 h1 h2 h3
  · obtain ⟨hP1, hD1⟩ := hB
    rw [ht] at hP1
    obtain ⟨hP2, hD2⟩ := va_join hP hD isC isR hC hR hn hdis hk hF hP1 hD1
    exact kk H1 locs1 hw hP2 hD2 hS1
theorem gx_i {v : Int32} (hr : vx_Run p l e R s m args below meth c H locs cells slots mc ms (F0 m pc ls st0) rest (va_Qi (fun (r : Int32) (_ : Unit) => r = v ∧ PO) (fun _ t => wPost D (va_A wc H.size) w1 t) (va_A wc H.size) a) (wPX D (va_A wc H.size) wc PX) (va_A wc H.size)) (hP : va_P D vwCl ws H) (hD : va_D A0 ws) (hS : va_S A0 H0 H locs) (hA : ∀ q, H0.size ≤ q → A0 q)
    (isC isR : List Nat) (hC : isC.map (fun i => ws[i]?) = wc.map some) (hR : isR.map (fun i => ws[i]?) = wr.map some) (hn : va_nd isR = true) (hdis : ∀ i ∈ isR, i ∉ isC)
    (kx : ∀ (E : String) (ce : Cell) (q9 : Addr) (H1 : Heap) (locs1 : List Loc), PX E → va_P D vwCl (wr ++ wc) H1 → va_D A0 (wr ++ wc) → va_S A0 H0 H1 locs1 → H1[q9]? = some ce → ce.vm = .none → s.vm.findClass E = some ce.cls → vx_W p l e R s m args below meth c H1 locs1 (cells + mc) (slots + ms) Q (F0 m pc ls rest) q9)
    (kk : ∀ (H1 : Heap) (locs1 : List Loc), PO → va_P D vwCl (wr ++ w1) H1 → va_D A0 (wr ++ w1) → va_S A0 H0 H1 locs1 → W p l e R s m args below meth c H1 locs1 (cells + mc) (slots + ms) Q (F0 m (pc + 3) ls (.int v :: rest))) : W p l e R s m args below meth c H locs cells slots Q (F0 m pc ls st0) := by
  have hF := va_free hD hS hA isC hC
  refine vx_calli hr hS (fun q _ h => hF q h) hF (fun q _ h => hF q h) (fun E ce q9 u t H1 locs1 ht hvm hp hB hz hk hS1 h1 h2 h3 => ?_) (fun r u t H1 locs1 ht hvm hw hB hz hk hS1 => ?_)
  · obtain ⟨⟨hP1, hD1⟩, hx⟩ := hB
    rw [ht] at hP1
    obtain ⟨hP2, hD2⟩ := va_join hP hD isC isR hC hR hn hdis hk hF hP1 hD1
    exact kx E ce q9 H1 locs1 hx hP2 hD2 hS1 h1 h2 h3
  · obtain ⟨hP1, hD1⟩ := hB
    rw [ht] at hP1
    obtain ⟨hw1, hw2⟩ := hw
    subst hw1
    obtain ⟨hP2, hD2⟩ := va_join hP hD isC isR hC hR hn hdis hk hF hP1 hD1
    exact kk H1 locs1 hw2 hP2 hD2 hS1
theorem gx_l {v : Int64} (hr : vx_Run p l e R s m args below meth c H locs cells slots mc ms (F0 m pc ls st0) rest (va_Ql (fun (r : Int64) (_ : Unit) => r = v ∧ PO) (fun _ t => wPost D (va_A wc H.size) w1 t) (va_A wc H.size) a) (wPX D (va_A wc H.size) wc PX) (va_A wc H.size)) (hP : va_P D vwCl ws H) (hD : va_D A0 ws) (hS : va_S A0 H0 H locs) (hA : ∀ q, H0.size ≤ q → A0 q)
    (isC isR : List Nat) (hC : isC.map (fun i => ws[i]?) = wc.map some) (hR : isR.map (fun i => ws[i]?) = wr.map some) (hn : va_nd isR = true) (hdis : ∀ i ∈ isR, i ∉ isC)
    (kx : ∀ (E : String) (ce : Cell) (q9 : Addr) (H1 : Heap) (locs1 : List Loc), PX E → va_P D vwCl (wr ++ wc) H1 → va_D A0 (wr ++ wc) → va_S A0 H0 H1 locs1 → H1[q9]? = some ce → ce.vm = .none → s.vm.findClass E = some ce.cls → vx_W p l e R s m args below meth c H1 locs1 (cells + mc) (slots + ms) Q (F0 m pc ls rest) q9)
    (kk : ∀ (H1 : Heap) (locs1 : List Loc), PO → va_P D vwCl (wr ++ w1) H1 → va_D A0 (wr ++ w1) → va_S A0 H0 H1 locs1 → W p l e R s m args below meth c H1 locs1 (cells + mc) (slots + ms) Q (F0 m (pc + 3) ls (.long v :: rest))) : W p l e R s m args below meth c H locs cells slots Q (F0 m pc ls st0) := by
  have hF := va_free hD hS hA isC hC
  refine vx_calll hr hS (fun q _ h => hF q h) hF (fun q _ h => hF q h) (fun E ce q9 u t H1 locs1 ht hvm hp hB hz hk hS1 h1 h2 h3 => ?_) (fun r u t H1 locs1 ht hvm hw hB hz hk hS1 => ?_)
  · obtain ⟨⟨hP1, hD1⟩, hx⟩ := hB
    rw [ht] at hP1
    obtain ⟨hP2, hD2⟩ := va_join hP hD isC isR hC hR hn hdis hk hF hP1 hD1
    exact kx E ce q9 H1 locs1 hx hP2 hD2 hS1 h1 h2 h3
  · obtain ⟨hP1, hD1⟩ := hB
    rw [ht] at hP1
    obtain ⟨hw1, hw2⟩ := hw
    subst hw1
    obtain ⟨hP2, hD2⟩ := va_join hP hD isC isR hC hR hn hdis hk hF hP1 hD1
    exact kk H1 locs1 hw2 hP2 hD2 hS1
end GXA
/-- a throw that is made here -/
theorem xt_end {D : va_G} {A : Nat → Prop} {ws : va_W} {PX : String → Prop} {E : String} {s : State} {H : Heap} {locs : List Loc} (hP : va_P D vwCl ws H) (hD : va_D A ws) (hS : va_S A s.heap H locs) (hp : PX E) : ∀ t : State, s.vm.Alike t.vm → H.size ≤ t.heap.size → (∀ q : Nat, q < H.size → t.heap[q]? = H[q]?) → wPX D A ws PX E s t := by
  intro t _ hz hk
  refine ⟨(), trivial, ⟨⟨fun k q hq => (hP k q hq).kept (hk q.1 (hP k q hq).lt), hD⟩, hp⟩, Nat.le_trans hS.1 hz, fun q h1 h2 => ?_⟩
  rw [hk q (Nat.lt_of_lt_of_le h1 hS.1)]
  exact hS.2.1 q h1 h2
/-- a throw that goes on -/
theorem xo_end {D : va_G} {A : Nat → Prop} {ws : va_W} {PX : String → Prop} {E : String} {s : State} {H : Heap} {locs : List Loc} (hP : va_P D vwCl ws H) (hD : va_D A ws) (hS : va_S A s.heap H locs) (hp : PX E) : ∀ t : State, t.heap = H → s.vm.Alike t.vm → wPX D A ws PX E s t := by
  intro t ht _
  subst ht
  exact ⟨(), trivial, ⟨⟨hP, hD⟩, hp⟩, hS.F rfl⟩
