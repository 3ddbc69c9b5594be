/-! What the class and the reference refuse: the same; how a static method with handlers is called. -/
theorem i_lt {a p : Int32} : a < p ↔ a.toInt < p.toInt := Int32.lt_iff_toInt_lt
theorem i_le {a p : Int32} : a ≤ p ↔ a.toInt ≤ p.toInt := Int32.le_iff_toInt_le
theorem i_step {a b p : Int32} (h : b.toInt = a.toInt + 1) : (b ≤ p) = (a < p) := propext (by rw [i_lt, i_le, h]; omega)
theorem m4 (p : Int32) : (p < 0 ∧ ¬ 1 < p ∧ ¬ p = 0 ∧ ¬ p = 1) ∨ (¬ p < 0 ∧ 1 < p ∧ ¬ p = 0 ∧ ¬ p = 1) ∨ p = 0 ∨ p = 1 := by
  have e0 : (0 : Int32).toInt = 0 := by decide
  have e1 : (1 : Int32).toInt = 1 := by decide
  have n0 : p = 0 ↔ p.toInt = 0 := by rw [← e0]; exact Int32.toInt_inj.symm
  have n1 : p = 1 ↔ p.toInt = 1 := by rw [← e1]; exact Int32.toInt_inj.symm
  rw [i_lt, i_lt, n0, n1, e0, e1]
  omega
theorem im_eq (p : Int32) : f_X5_isMachine_r p = if p < 0 then 0 else if 1 < p then 0 else 1 := by
  unfold f_X5_isMachine_r
  rcases m4 p with ⟨a, b, c, d⟩ | ⟨a, b, c, d⟩ | rfl | rfl
  · simp [a, c, d]
  · simp [a, b, c, d]
  · decide
  · decide
theorem ip_eq (p : Int32) : f_X5_isPlace_r p = if p < 0 then 0 else if 65535 < p then 0 else 1 := by
  unfold f_X5_isPlace_r
  simp only [i_step (a := 65535) (b := 65536) (p := p) (by decide)]
theorem eq_reset (p1 : Int32) : f_X5_thrown_r (f_X5_reset_th p1) = f_L_reset_r p1 := by
  unfold f_X5_thrown_r f_X5_reset_th f_L_reset_r f_X4_reset_t
  rw [im_eq]
  by_cases a : p1 < 0 <;> by_cases b : 1 < p1 <;> simp [a, b]
theorem eq_steps (p1 : Int32) : f_X5_thrown_r (f_X5_steps_th p1) = f_L_steps_r p1 := by
  unfold f_X5_thrown_r f_X5_steps_th f_L_steps_r f_X4_steps_t
  rw [im_eq]
  by_cases a : p1 < 0 <;> by_cases b : 1 < p1 <;> simp [a, b]
theorem eq_byteAt (p1 p2 : Int32) : f_X5_thrown_r (f_X5_byteAt_th p1 p2) = f_L_byteAt_r p1 p2 := by
  unfold f_X5_thrown_r f_X5_byteAt_th f_L_byteAt_r f_X4_byteAt_t
  rw [im_eq, ip_eq]
  by_cases a : p1 < 0 <;> by_cases b : 1 < p1 <;> by_cases c : p2 < 0 <;> by_cases d : 65535 < p2 <;> simp [a, b, c, d]
theorem eq_load (p1 p2 p8 : Int32) : f_X5_thrown_r (f_X5_load_th p1 p2 p8) = f_L_load_r p1 p2 p8 := by
  unfold f_X5_thrown_r f_X5_load_th f_L_load_r f_X4_load_t
  rw [im_eq, ip_eq]
  by_cases a : p1 < 0 <;> by_cases b : 1 < p1 <;> by_cases c : p2 < 0 <;> by_cases d : 65535 < p2 <;> by_cases e : p8 < 1 <;> by_cases f : p8 ≤ 20 <;> simp [a, b, c, d, e, f]
theorem eq_register (p1 p2 : Int32) : f_X5_thrown_r (f_X5_register_th p1 p2) = f_L_register_r p1 p2 := by
  unfold f_X5_thrown_r f_X5_register_th f_L_register_r f_X4_register_t
  simp only [im_eq, i_step (a := 6) (b := 7) (p := p2) (by decide)]
  by_cases a : p1 < 0 <;> by_cases b : 1 < p1 <;> by_cases c : p2 < 0 <;> by_cases d : 6 < p2 <;> simp [a, b, c, d]
theorem eq_port (p1 p2 : Int32) : f_X5_thrown_r (f_X5_port_th p1 p2) = f_L_port_r p1 p2 := by
  unfold f_X5_thrown_r f_X5_port_th f_L_port_r f_X4_port_t
  rw [im_eq]
  by_cases a : p1 < 0 <;> by_cases b : 1 < p1 <;> by_cases c : p2 < 0 <;> by_cases d : 8 ≤ p2 <;> simp [a, b, c, d]
theorem eq_waits (p1 p2 : Int32) : f_X5_thrown_r (f_X5_waits_th p1 p2) = f_L_waits_r p1 p2 := by
  unfold f_X5_thrown_r f_X5_waits_th f_L_waits_r f_X4_waits_t
  rw [im_eq]
  by_cases a : p1 < 0 <;> by_cases b : 1 < p1 <;> by_cases c : p2 < 1 <;> by_cases d : 4 < p2 <;> simp [a, b, c, d]
theorem eq_run0 (p1 p2 : Int32) : f_X5_thrown_r (f_X5_run0_th p1 p2) = f_L_run_r p1 p2 := by
  unfold f_X5_thrown_r f_X5_run0_th f_L_run_r f_X4_run0_t
  by_cases a : p1 < 0 <;> by_cases b : 4000 < p1 <;> by_cases c : p2 < 0 <;> by_cases d : p2 ≤ 4 <;> simp [a, b, c, d]
/-- a number between two others -/
theorem rg_in {p : Int32} (N : Nat) (hN : N < 2 ^ 31) (h0 : ¬ p < 0) (h1 : ¬ nI N ≤ p) : ∃ j : Nat, j < N ∧ p = nI j := by
  rcases pk_ix p hN with h | h | h
  · exact absurd h h0
  · exact absurd h h1
  · exact h
theorem rg_m {p : Int32} (h0 : ¬ p < 0) (h1 : ¬ 1 < p) : p = 0 ∨ p = 1 := by
  rcases m4 p with ⟨a, _⟩ | ⟨_, b, _⟩ | h | h
  · exact absurd a h0
  · exact absurd b h1
  · exact Or.inl h
  · exact Or.inr h
section GSW
variable {p : Program} {l : Launch} {e : Env} {R : Room} {s : State} {m : MethodId} {args : Array Value} {below : List Frame} {meth : Method} {c : Code} {H : Heap} {locs : List Loc} {cells slots : Nat}
variable {y : MethodName} {bytes cc : ByteArray} {maxL nL mc ms n index : Nat} {ret : Option FieldType} {wy : List Cond} {rm : Room} {Qc : Array Value → State → Outcome → State → Prop} {free : Addr → Prop} {Ts : List Cond} {own : String} {As rest : List Value} {g : JFrame} {hh : List (Nat × Nat × Nat × Nat)}
variable {D : va_G} {tys tysC : List (ClassId × FieldType)} {ws wc : va_W} {X : State → Prop} {A : Nat → Prop}
/-- a static call of a method with handlers -/
theorem gcSW (S : CallFix p m c cc nL s args Ts own) (hM : Met l y wy rm (va_Pc As (wPre D tysC wc H.size X)) Qc mc ms free) (cw : vx_CSW R s args own index y bytes maxL ret hh wy rm mc ms n) (hK : va_K D vwCl tys s) (isT : List Nat) (hT : isT.filterMap (fun i => tys[i]?) = tysC)
    (hP : va_P D vwCl ws H) (hD : va_D A ws) (isC : List Nat) (hC : isC.map (fun i => ws[i]?) = wc.map some) (hnc : va_nd isC = true) (hX : wXk X) (hXs : ∀ U : State, U.heap = H → s.WarmedH U.vm → X U)
    (hg : g.method = m) (hn : As.length = n) (hsize : g.locals.size = nL) (hstack : g.stack = As.reverse ++ rest) (hW : 2 * g.monitorRoom + (rest.map fun v => v.category).sum ≤ 8) (hdg : decode cc g.pc = .ok (.invokestatic index, 3)) (hf : cells + mc ≤ R.cells ∧ slots + ms ≤ R.slots) :
    va_Run p l e R s m args below meth c H locs cells slots mc ms g rest (Qc As.toArray) free := by
  have hKc := hK.sub (tys' := tysC) isT hT
  have hPc := gc_subP hP isC hC
  have hDc := gc_subD hD isC hC hnc
  exact vx_runSW S hM cw ⟨wPre_blind hX, fun U hU hW => ⟨rfl, by rw [hU], by rw [hU]; exact hPc, va_K.moved hW.alike hKc, hDc, hXs U hU hW⟩⟩ hg hn hsize hstack hW hdg hf
end GSW
