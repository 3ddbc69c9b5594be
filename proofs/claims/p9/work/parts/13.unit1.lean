def f_X3_isOn_r (ug : Int32) (p1 : Int32) : Int32 := (if (ug &&& p1) = 0 then 0 else 1)
theorem b_X3_isOn (ug : Int32) (p1 : Int32) : wB (f_X3_isOn_r ug p1) := by
  unfold f_X3_isOn_r
  (by_cases c0 : (ug &&& p1) = 0; (· rw [if_pos c0]; exact Or.inl rfl); (· rw [if_neg c0]; exact Or.inr rfl))
set_option maxHeartbeats 4000000 in
set_option maxRecDepth 100000 in
/-- X3_isOn -/
theorem c_X3_isOn (l : Launch) (dC : Nat → ClassId) (dI : Nat → Nat → Nat) (sz : Nat) (h0 : Nat) (hR : Nat) (ug : Int32) (ud : Int32) (p1 : Int32)  : Met l yX3_isOn (Cond.code yX3_isOn cX3_isOn 2 (some .boolean) :: gw) { frames := 0, cells := 0, slots := 0, locals := 0 } (va_Pc [.ref h0, .int p1] (wPre (dC, dI) [] [(h0, .inr (2, [.ref hR, .int ug, .int ud]))] sz wX0)) (va_Qi (fun (r : Int32) (_ : Unit) => r = (f_X3_isOn_r ug p1)) (fun _ t => wPost (dC, dI) (va_A [(h0, .inr (2, [.ref hR, .int ug, .int ud]))] sz) [(h0, .inr (2, [.ref hR, .int ug, .int ud]))] t) (va_A [(h0, .inr (2, [.ref hR, .int ug, .int ud]))] sz)) 0 0 (va_A [(h0, .inr (2, [.ref hR, .int ug, .int ud]))] sz) := by
  refine Met.ofW (cc := cX3_isOn) (maxL := 2) (ret := (some .boolean)) (by decide) rfl ?_
  intro p e s m args below meth c s₁ B hml hv
  obtain ⟨rfl, hsz, hP, hK, hD0, hXX⟩ := hv
  have hx := B.exec
  have hb := B.bytes
  have hr := B.returns
  have hts := atoms_spec (ws := (Cond.code yX3_isOn cX3_isOn 2 (some .boolean) :: gw)) B.pre
  have hown : s.vm.findClass RX3 = some m.cls := findClass_of_methodNamed B.named
  have hlocks := B.notSynchronized
  subst hsz
  have hD := hD0.self (sz := s.heap.size)
  generalize hAe : va_A [(h0, .inr (2, [.ref hR, .int ug, .int ud]))] s.heap.size = A at hD ⊢
  have hA : ∀ q : Nat, s.heap.size ≤ q → A q := fun q h => by rw [← hAe]; exact Or.inr h
  have hS : va_S A s.heap s.heap [] := va_S.rf
  have hl := lv_entry ([.ref h0, .int p1]) (n := 2) (Nat.le_of_ble_eq_true rfl)
  rw [lg_entry_eq]
  generalize (lg_sl ([.ref h0, .int p1]) ++ List.replicate (2 - (lg_sl ([.ref h0, .int p1])).length) Slot.unset).toArray = ls at hl ⊢
  have hl : lv_has ls 2 [(0, .ref h0), (1, .int p1)] := hl
  refine lv_aload_n hx hb dX3_isOn_0 rfl (lv_at hl 0 rfl) ?_
  refine va_get (D := (dC, dI)) (ci := 2) (v := .int ug) (C := RX3) (T := TX3) (N := 3) hx hb hts (fun w h => gw_b w (iX3 w h)) hown hK hP 0 rfl rfl 1 (by decide) (hts _ (gw_b _ gm_123)) (fun _ h9 => h9) rfl dX3_isOn_1 ?_
  refine lv_iload_n hx hb dX3_isOn_4 rfl (lv_at hl 1 rfl) ?_
  refine lv_iand hx hb dX3_isOn_5 ?_
  refine lv_if_eq (tgt := 13) hx hb dX3_isOn_6 (by decide) (fun c_1 => ?_) (fun c_1 => ?_)
  · skip
    refine lv_iconst (v := 0) hx hb dX3_isOn_13 (by decide) ?_
    have hP9 : va_P (dC, dI) vwCl [(h0, .inr (2, [.ref hR, .int ug, .int ud]))] s.heap := by exact hP.sub (ws' := [(h0, .inr (2, [.ref hR, .int ug, .int ud]))]) [0] rfl
    have hD9 : va_D A [(h0, .inr (2, [.ref hR, .int ug, .int ud]))] := by exact hD.sub (ws' := [(h0, .inr (2, [.ref hR, .int ug, .int ud]))]) [0] (by decide) rfl
    exact W.zret (v := 0) hx hb hr rfl (fun t ht hW => ⟨⟨0, (), rfl, Eq.symm ((if_pos c_1) : (f_X3_isOn_r ug p1) = 0), by rw [ht]; exact hP9, hD9⟩, hS.F ht⟩) hS.2.2 dX3_isOn_14
  · skip
    refine lv_iconst (v := 1) hx hb dX3_isOn_9 (by decide) ?_
    refine lv_goto (tgt := 14) hx hb dX3_isOn_10 (by decide) ?_
    have hP9 : va_P (dC, dI) vwCl [(h0, .inr (2, [.ref hR, .int ug, .int ud]))] s.heap := by exact hP.sub (ws' := [(h0, .inr (2, [.ref hR, .int ug, .int ud]))]) [0] rfl
    have hD9 : va_D A [(h0, .inr (2, [.ref hR, .int ug, .int ud]))] := by exact hD.sub (ws' := [(h0, .inr (2, [.ref hR, .int ug, .int ud]))]) [0] (by decide) rfl
    exact W.zret (v := 1) hx hb hr rfl (fun t ht hW => ⟨⟨1, (), rfl, Eq.symm ((if_neg c_1) : (f_X3_isOn_r ug p1) = 1), by rw [ht]; exact hP9, hD9⟩, hS.F ht⟩) hS.2.2 dX3_isOn_14

def f_X3_holds_r (ug : Int32) (p1 : Int32) : Int32 := (if p1 = 1 then (if (f_X3_isOn_r ug 32) = 0 then 0 else 1) else 0)
theorem b_X3_holds (ug : Int32) (p1 : Int32) : wB (f_X3_holds_r ug p1) := by
  unfold f_X3_holds_r
  (by_cases c0 : p1 = 1; (· rw [if_pos c0]; (by_cases c1 : (f_X3_isOn_r ug 32) = 0; (· rw [if_pos c1]; exact Or.inl rfl); (· rw [if_neg c1]; exact Or.inr rfl))); (· rw [if_neg c0]; exact Or.inl rfl))
set_option maxHeartbeats 4000000 in
set_option maxRecDepth 100000 in
/-- X3_holds -/
theorem c_X3_holds (l : Launch) (dC : Nat → ClassId) (dI : Nat → Nat → Nat) (sz : Nat) (h0 : Nat) (hR : Nat) (ug : Int32) (ud : Int32) (p1 : Int32)  : Met l yX3_holds (Cond.code yX3_holds cX3_holds 2 (some .boolean) :: gw) { frames := 1, cells := 0, slots := 0, locals := 21 } (va_Pc [.ref h0, .int p1] (wPre (dC, dI) [] [(h0, .inr (2, [.ref hR, .int ug, .int ud]))] sz wX0)) (va_Qi (fun (r : Int32) (_ : Unit) => r = (f_X3_holds_r ug p1)) (fun _ t => wPost (dC, dI) (va_A [(h0, .inr (2, [.ref hR, .int ug, .int ud]))] sz) [(h0, .inr (2, [.ref hR, .int ug, .int ud]))] t) (va_A [(h0, .inr (2, [.ref hR, .int ug, .int ud]))] sz)) 0 0 (va_A [(h0, .inr (2, [.ref hR, .int ug, .int ud]))] sz) := by
  refine Met.ofW (cc := cX3_holds) (maxL := 2) (ret := (some .boolean)) (by decide) rfl ?_
  intro p e s m args below meth c s₁ B hml hv
  obtain ⟨rfl, hsz, hP, hK, hD0, hXX⟩ := hv
  have hx := B.exec
  have hb := B.bytes
  have hr := B.returns
  have hts := atoms_spec (ws := (Cond.code yX3_holds cX3_holds 2 (some .boolean) :: gw)) B.pre
  have hown : s.vm.findClass RX3 = some m.cls := findClass_of_methodNamed B.named
  have hlocks := B.notSynchronized
  subst hsz
  have hD := hD0.self (sz := s.heap.size)
  generalize hAe : va_A [(h0, .inr (2, [.ref hR, .int ug, .int ud]))] s.heap.size = A at hD ⊢
  have hA : ∀ q : Nat, s.heap.size ≤ q → A q := fun q h => by rw [← hAe]; exact Or.inr h
  have hS : va_S A s.heap s.heap [] := va_S.rf
  have hl := lv_entry ([.ref h0, .int p1]) (n := 2) (Nat.le_of_ble_eq_true rfl)
  rw [lg_entry_eq]
  generalize (lg_sl ([.ref h0, .int p1]) ++ List.replicate (2 - (lg_sl ([.ref h0, .int p1])).length) Slot.unset).toArray = ls at hl ⊢
  have hl : lv_has ls 2 [(0, .ref h0), (1, .int p1)] := hl
  refine lv_iload_n hx hb dX3_holds_0 rfl (lv_at hl 1 rfl) ?_
  refine lv_iconst (v := 1) hx hb dX3_holds_1 (by decide) ?_
  refine lv_icmp_ne (tgt := 18) hx hb dX3_holds_2 (by decide) (fun c_1 => ?_) (fun c_1 => ?_)
  · skip
    refine lv_iconst (v := 0) hx hb dX3_holds_18 (by decide) ?_
    have hP9 : va_P (dC, dI) vwCl [(h0, .inr (2, [.ref hR, .int ug, .int ud]))] s.heap := by exact hP.sub (ws' := [(h0, .inr (2, [.ref hR, .int ug, .int ud]))]) [0] rfl
    have hD9 : va_D A [(h0, .inr (2, [.ref hR, .int ug, .int ud]))] := by exact hD.sub (ws' := [(h0, .inr (2, [.ref hR, .int ug, .int ud]))]) [0] (by decide) rfl
    exact W.zret (v := 0) hx hb hr rfl (fun t ht hW => ⟨⟨0, (), rfl, Eq.symm ((if_neg c_1) : (f_X3_holds_r ug p1) = 0), by rw [ht]; exact hP9, hD9⟩, hS.F ht⟩) hS.2.2 dX3_holds_19
  · skip
    refine lv_aload_n hx hb dX3_holds_5 rfl (lv_at hl 0 rfl) ?_
    refine lv_bipush (v := 32) hx hb dX3_holds_6 (by decide) ?_
    refine gc_i (wr := []) (w1 := [(h0, .inr (2, [.ref hR, .int ug, .int ud]))]) (gcV (As := [.int 32]) (rest := []) ⟨hx, hb, hml, hown, hts⟩ (c_X3_isOn l dC dI s.heap.size h0 hR ug ud 32) (cwV 1 hts (gw_V gw_b gm_206 gm_208 gm_0 gm_69 gm_209) rfl rfl rfl (by decide +kernel) ⟨Nat.le_of_ble_eq_true rfl, Nat.le_of_ble_eq_true rfl⟩) hK [] rfl hP hD [0] rfl rfl rfl rfl wX0_k (fun _ _ _ => trivial) rfl rfl hl.1 rfl (lv_room (Nat.le_of_ble_eq_true rfl)) dX3_holds_8 ⟨Nat.le_of_ble_eq_true rfl, Nat.le_of_ble_eq_true rfl⟩) hP hD hS hA [0] [] rfl rfl rfl (by decide) (fun H locs hP hD hS => ?_)
    have hP : va_P (dC, dI) vwCl [(h0, .inr (2, [.ref hR, .int ug, .int ud]))] H := hP
    have hD : va_D A [(h0, .inr (2, [.ref hR, .int ug, .int ud]))] := hD
    refine lv_if_eq (tgt := 18) hx hb dX3_holds_11 (by decide) (fun c_2 => ?_) (fun c_2 => ?_)
    · skip
      refine lv_iconst (v := 0) hx hb dX3_holds_18 (by decide) ?_
      have hP9 : va_P (dC, dI) vwCl [(h0, .inr (2, [.ref hR, .int ug, .int ud]))] H := by exact hP.sub (ws' := [(h0, .inr (2, [.ref hR, .int ug, .int ud]))]) [0] rfl
      have hD9 : va_D A [(h0, .inr (2, [.ref hR, .int ug, .int ud]))] := by exact hD.sub (ws' := [(h0, .inr (2, [.ref hR, .int ug, .int ud]))]) [0] (by decide) rfl
      exact W.zret (v := 0) hx hb hr rfl (fun t ht hW => ⟨⟨0, (), rfl, Eq.symm (((if_pos c_1)).trans (if_pos c_2) : (f_X3_holds_r ug p1) = 0), by rw [ht]; exact hP9, hD9⟩, hS.F ht⟩) hS.2.2 dX3_holds_19
    · skip
      refine lv_iconst (v := 1) hx hb dX3_holds_14 (by decide) ?_
      refine lv_goto (tgt := 19) hx hb dX3_holds_15 (by decide) ?_
      have hP9 : va_P (dC, dI) vwCl [(h0, .inr (2, [.ref hR, .int ug, .int ud]))] H := by exact hP.sub (ws' := [(h0, .inr (2, [.ref hR, .int ug, .int ud]))]) [0] rfl
      have hD9 : va_D A [(h0, .inr (2, [.ref hR, .int ug, .int ud]))] := by exact hD.sub (ws' := [(h0, .inr (2, [.ref hR, .int ug, .int ud]))]) [0] (by decide) rfl
      exact W.zret (v := 1) hx hb hr rfl (fun t ht hW => ⟨⟨1, (), rfl, Eq.symm (((if_pos c_1)).trans (if_neg c_2) : (f_X3_holds_r ug p1) = 1), by rw [ht]; exact hP9, hD9⟩, hS.F ht⟩) hS.2.2 dX3_holds_19

def f_X3_resetComes_r (ug : Int32) (ud : Int32) (p1 : Int32) : Int32 := (if p1 = 1 then (if ud = 0 then 0 else (if (f_X3_isOn_r ug 32) = 0 then 1 else 0)) else 0)
theorem b_X3_resetComes (ug : Int32) (ud : Int32) (p1 : Int32) : wB (f_X3_resetComes_r ug ud p1) := by
  unfold f_X3_resetComes_r
  (by_cases c0 : p1 = 1; (· rw [if_pos c0]; (by_cases c1 : ud = 0; (· rw [if_pos c1]; exact Or.inl rfl); (· rw [if_neg c1]; (by_cases c2 : (f_X3_isOn_r ug 32) = 0; (· rw [if_pos c2]; exact Or.inr rfl); (· rw [if_neg c2]; exact Or.inl rfl))))); (· rw [if_neg c0]; exact Or.inl rfl))
set_option maxHeartbeats 4000000 in
set_option maxRecDepth 100000 in
/-- X3_resetComes -/
theorem c_X3_resetComes (l : Launch) (dC : Nat → ClassId) (dI : Nat → Nat → Nat) (sz : Nat) (h0 : Nat) (hR : Nat) (ug : Int32) (ud : Int32) (p1 : Int32)  : Met l yX3_resetComes (Cond.code yX3_resetComes cX3_resetComes 2 (some .boolean) :: gw) { frames := 1, cells := 0, slots := 0, locals := 21 } (va_Pc [.ref h0, .int p1] (wPre (dC, dI) [] [(h0, .inr (2, [.ref hR, .int ug, .int ud]))] sz wX0)) (va_Qi (fun (r : Int32) (_ : Unit) => r = (f_X3_resetComes_r ug ud p1)) (fun _ t => wPost (dC, dI) (va_A [(h0, .inr (2, [.ref hR, .int ug, .int ud]))] sz) [(h0, .inr (2, [.ref hR, .int ug, .int ud]))] t) (va_A [(h0, .inr (2, [.ref hR, .int ug, .int ud]))] sz)) 0 0 (va_A [(h0, .inr (2, [.ref hR, .int ug, .int ud]))] sz) := by
  refine Met.ofW (cc := cX3_resetComes) (maxL := 2) (ret := (some .boolean)) (by decide) rfl ?_
  intro p e s m args below meth c s₁ B hml hv
  obtain ⟨rfl, hsz, hP, hK, hD0, hXX⟩ := hv
  have hx := B.exec
  have hb := B.bytes
  have hr := B.returns
  have hts := atoms_spec (ws := (Cond.code yX3_resetComes cX3_resetComes 2 (some .boolean) :: gw)) B.pre
  have hown : s.vm.findClass RX3 = some m.cls := findClass_of_methodNamed B.named
  have hlocks := B.notSynchronized
  subst hsz
  have hD := hD0.self (sz := s.heap.size)
  generalize hAe : va_A [(h0, .inr (2, [.ref hR, .int ug, .int ud]))] s.heap.size = A at hD ⊢
  have hA : ∀ q : Nat, s.heap.size ≤ q → A q := fun q h => by rw [← hAe]; exact Or.inr h
  have hS : va_S A s.heap s.heap [] := va_S.rf
  have hl := lv_entry ([.ref h0, .int p1]) (n := 2) (Nat.le_of_ble_eq_true rfl)
  rw [lg_entry_eq]
  generalize (lg_sl ([.ref h0, .int p1]) ++ List.replicate (2 - (lg_sl ([.ref h0, .int p1])).length) Slot.unset).toArray = ls at hl ⊢
  have hl : lv_has ls 2 [(0, .ref h0), (1, .int p1)] := hl
  refine lv_iload_n hx hb dX3_resetComes_0 rfl (lv_at hl 1 rfl) ?_
  refine lv_iconst (v := 1) hx hb dX3_resetComes_1 (by decide) ?_
  refine lv_icmp_ne (tgt := 25) hx hb dX3_resetComes_2 (by decide) (fun c_1 => ?_) (fun c_1 => ?_)
  · skip
    refine lv_iconst (v := 0) hx hb dX3_resetComes_25 (by decide) ?_
    have hP9 : va_P (dC, dI) vwCl [(h0, .inr (2, [.ref hR, .int ug, .int ud]))] s.heap := by exact hP.sub (ws' := [(h0, .inr (2, [.ref hR, .int ug, .int ud]))]) [0] rfl
    have hD9 : va_D A [(h0, .inr (2, [.ref hR, .int ug, .int ud]))] := by exact hD.sub (ws' := [(h0, .inr (2, [.ref hR, .int ug, .int ud]))]) [0] (by decide) rfl
    exact W.zret (v := 0) hx hb hr rfl (fun t ht hW => ⟨⟨0, (), rfl, Eq.symm ((if_neg c_1) : (f_X3_resetComes_r ug ud p1) = 0), by rw [ht]; exact hP9, hD9⟩, hS.F ht⟩) hS.2.2 dX3_resetComes_26
  · skip
    refine lv_aload_n hx hb dX3_resetComes_5 rfl (lv_at hl 0 rfl) ?_
    refine va_get (D := (dC, dI)) (ci := 2) (v := .int ud) (C := RX3) (T := TX3) (N := 3) hx hb hts (fun w h => gw_b w (iX3 w h)) hown hK hP 0 rfl rfl 2 (by decide) (hts _ (gw_b _ gm_124)) (fun _ h9 => h9) rfl dX3_resetComes_6 ?_
    refine lv_if_eq (tgt := 25) hx hb dX3_resetComes_9 (by decide) (fun c_2 => ?_) (fun c_2 => ?_)
    · skip
      refine lv_iconst (v := 0) hx hb dX3_resetComes_25 (by decide) ?_
      have hP9 : va_P (dC, dI) vwCl [(h0, .inr (2, [.ref hR, .int ug, .int ud]))] s.heap := by exact hP.sub (ws' := [(h0, .inr (2, [.ref hR, .int ug, .int ud]))]) [0] rfl
      have hD9 : va_D A [(h0, .inr (2, [.ref hR, .int ug, .int ud]))] := by exact hD.sub (ws' := [(h0, .inr (2, [.ref hR, .int ug, .int ud]))]) [0] (by decide) rfl
      exact W.zret (v := 0) hx hb hr rfl (fun t ht hW => ⟨⟨0, (), rfl, Eq.symm (((if_pos c_1)).trans (if_pos c_2) : (f_X3_resetComes_r ug ud p1) = 0), by rw [ht]; exact hP9, hD9⟩, hS.F ht⟩) hS.2.2 dX3_resetComes_26
    · skip
      refine lv_aload_n hx hb dX3_resetComes_12 rfl (lv_at hl 0 rfl) ?_
      refine lv_bipush (v := 32) hx hb dX3_resetComes_13 (by decide) ?_
      refine gc_i (wr := []) (w1 := [(h0, .inr (2, [.ref hR, .int ug, .int ud]))]) (gcV (As := [.int 32]) (rest := []) ⟨hx, hb, hml, hown, hts⟩ (c_X3_isOn l dC dI s.heap.size h0 hR ug ud 32) (cwV 1 hts (gw_V gw_b gm_206 gm_208 gm_0 gm_69 gm_209) rfl rfl rfl (by decide +kernel) ⟨Nat.le_of_ble_eq_true rfl, Nat.le_of_ble_eq_true rfl⟩) hK [] rfl hP hD [0] rfl rfl rfl rfl wX0_k (fun _ _ _ => trivial) rfl rfl hl.1 rfl (lv_room (Nat.le_of_ble_eq_true rfl)) dX3_resetComes_15 ⟨Nat.le_of_ble_eq_true rfl, Nat.le_of_ble_eq_true rfl⟩) hP hD hS hA [0] [] rfl rfl rfl (by decide) (fun H locs hP hD hS => ?_)
      have hP : va_P (dC, dI) vwCl [(h0, .inr (2, [.ref hR, .int ug, .int ud]))] H := hP
      have hD : va_D A [(h0, .inr (2, [.ref hR, .int ug, .int ud]))] := hD
      refine lv_if_ne (tgt := 25) hx hb dX3_resetComes_18 (by decide) (fun c_3 => ?_) (fun c_3 => ?_)
      · skip
        refine lv_iconst (v := 0) hx hb dX3_resetComes_25 (by decide) ?_
        have hP9 : va_P (dC, dI) vwCl [(h0, .inr (2, [.ref hR, .int ug, .int ud]))] H := by exact hP.sub (ws' := [(h0, .inr (2, [.ref hR, .int ug, .int ud]))]) [0] rfl
        have hD9 : va_D A [(h0, .inr (2, [.ref hR, .int ug, .int ud]))] := by exact hD.sub (ws' := [(h0, .inr (2, [.ref hR, .int ug, .int ud]))]) [0] (by decide) rfl
        exact W.zret (v := 0) hx hb hr rfl (fun t ht hW => ⟨⟨0, (), rfl, Eq.symm ((((if_pos c_1)).trans (if_neg c_2)).trans (if_neg c_3) : (f_X3_resetComes_r ug ud p1) = 0), by rw [ht]; exact hP9, hD9⟩, hS.F ht⟩) hS.2.2 dX3_resetComes_26
      · skip
        refine lv_iconst (v := 1) hx hb dX3_resetComes_21 (by decide) ?_
        refine lv_goto (tgt := 26) hx hb dX3_resetComes_22 (by decide) ?_
        have hP9 : va_P (dC, dI) vwCl [(h0, .inr (2, [.ref hR, .int ug, .int ud]))] H := by exact hP.sub (ws' := [(h0, .inr (2, [.ref hR, .int ug, .int ud]))]) [0] rfl
        have hD9 : va_D A [(h0, .inr (2, [.ref hR, .int ug, .int ud]))] := by exact hD.sub (ws' := [(h0, .inr (2, [.ref hR, .int ug, .int ud]))]) [0] (by decide) rfl
        exact W.zret (v := 1) hx hb hr rfl (fun t ht hW => ⟨⟨1, (), rfl, Eq.symm ((((if_pos c_1)).trans (if_neg c_2)).trans (if_pos c_3) : (f_X3_resetComes_r ug ud p1) = 1), by rw [ht]; exact hP9, hD9⟩, hS.F ht⟩) hS.2.2 dX3_resetComes_26

def f_X3_endReset_ud  : Int32 := 0
set_option maxHeartbeats 4000000 in
set_option maxRecDepth 100000 in
/-- X3_endReset -/
theorem c_X3_endReset (l : Launch) (dC : Nat → ClassId) (dI : Nat → Nat → Nat) (sz : Nat) (h0 : Nat) (hR : Nat) (ug : Int32) (ud : Int32)  : Met l yX3_endReset (Cond.code yX3_endReset cX3_endReset 1 none :: gw) { frames := 0, cells := 0, slots := 0, locals := 0 } (va_Pc [.ref h0] (wPre (dC, dI) [] [(h0, .inr (2, [.ref hR, .int ug, .int ud]))] sz wX0)) (va_Qv (fun _ : Unit => True) (fun _ t => wPost (dC, dI) (va_A [(h0, .inr (2, [.ref hR, .int ug, .int ud]))] sz) [(h0, .inr (2, [.ref hR, .int ug, .int f_X3_endReset_ud]))] t) (va_A [(h0, .inr (2, [.ref hR, .int ug, .int ud]))] sz)) 0 0 (va_A [(h0, .inr (2, [.ref hR, .int ug, .int ud]))] sz) := by
  refine Met.ofW (cc := cX3_endReset) (maxL := 1) (ret := none) (by decide) rfl ?_
  intro p e s m args below meth c s₁ B hml hv
  obtain ⟨rfl, hsz, hP, hK, hD0, hXX⟩ := hv
  have hx := B.exec
  have hb := B.bytes
  have hr := B.returns
  have hts := atoms_spec (ws := (Cond.code yX3_endReset cX3_endReset 1 none :: gw)) B.pre
  have hown : s.vm.findClass RX3 = some m.cls := findClass_of_methodNamed B.named
  have hlocks := B.notSynchronized
  subst hsz
  have hD := hD0.self (sz := s.heap.size)
  generalize hAe : va_A [(h0, .inr (2, [.ref hR, .int ug, .int ud]))] s.heap.size = A at hD ⊢
  have hA : ∀ q : Nat, s.heap.size ≤ q → A q := fun q h => by rw [← hAe]; exact Or.inr h
  have hS : va_S A s.heap s.heap [] := va_S.rf
  have hl := lv_entry ([.ref h0]) (n := 1) (Nat.le_of_ble_eq_true rfl)
  rw [lg_entry_eq]
  generalize (lg_sl ([.ref h0]) ++ List.replicate (1 - (lg_sl ([.ref h0])).length) Slot.unset).toArray = ls at hl ⊢
  have hl : lv_has ls 1 [(0, .ref h0)] := hl
  refine lv_aload_n hx hb dX3_endReset_0 rfl (lv_at hl 0 rfl) ?_
  refine lv_iconst (v := 0) hx hb dX3_endReset_1 (by decide) ?_
  refine va_put (D := (dC, dI)) (ci := 2) (v := .int 0) (ty := tyX3 2) (C := RX3) (T := TX3) (N := 3) hx hb hts (fun w h => gw_b w (iX3 w h)) tyX3 tyX3_ok nmX3 hown hK hP hD hS 0 rfl rfl 2 (by decide) (hts _ (gw_b _ gm_124)) (fun _ h9 => h9) rfl (tyX3_ok 2 (by decide)) rfl rfl (Nat.le_of_ble_eq_true rfl) dX3_endReset_2 (fun H locs hP hD hS => ?_)
  have hP : va_P (dC, dI) vwCl [(h0, .inr (2, [.ref hR, .int ug, .int 0]))] H := hP
  have hD : va_D A [(h0, .inr (2, [.ref hR, .int ug, .int 0]))] := hD
  have e_ud : f_X3_endReset_ud = 0 := rfl
  have hP9 : va_P (dC, dI) vwCl [(h0, .inr (2, [.ref hR, .int ug, .int f_X3_endReset_ud]))] H := by rw [e_ud]; exact hP.sub (ws' := [(h0, .inr (2, [.ref hR, .int ug, .int 0]))]) [0] rfl
  have hD9 : va_D A [(h0, .inr (2, [.ref hR, .int ug, .int f_X3_endReset_ud]))] := by rw [e_ud]; exact hD.sub (ws' := [(h0, .inr (2, [.ref hR, .int ug, .int 0]))]) [0] (by decide) rfl
  exact W.vret hx hb hr (fun t ht hW => ⟨⟨(), rfl, trivial, by rw [ht]; exact hP9, hD9⟩, hS.F ht⟩) hS.2.2 dX3_endReset_5

theorem rf_in (a b : Int32) : vp_in (((a &&& 1) * 4) + (b &&& 3)) 8 := by
  obtain ⟨i, hi, ei⟩ := pk_andE a (m := 1) 1 (by decide)
  obtain ⟨j, hj, ej⟩ := pk_andE b (m := 3) 2 (by decide)
  rw [ei, ej, show (4 : Int32) = nI 4 from rfl, pk_mul, nI_add]
  exact vp_in_nI (by omega) (by decide)
theorem rf_last {x : Int32} (h : vp_in x 8) (c0 : ¬ x = 0) (c1 : ¬ x = 1) (c2 : ¬ x = 2) (c3 : ¬ x = 3) (c4 : ¬ x = 4) (c5 : ¬ x = 5) (c6 : ¬ x = 6) : x = 7 := by
  obtain ⟨j, hj, rfl⟩ := vp_in_of h (by decide)
  rcases (show j = 0 ∨ j = 1 ∨ j = 2 ∨ j = 3 ∨ j = 4 ∨ j = 5 ∨ j = 6 ∨ j = 7 by omega) with rfl | rfl | rfl | rfl | rfl | rfl | rfl | rfl
  · exact absurd rfl c0
  · exact absurd rfl c1
  · exact absurd rfl c2
  · exact absurd rfl c3
  · exact absurd rfl c4
  · exact absurd rfl c5
  · exact absurd rfl c6
  · rfl
def wXN : State → Prop := fun U => va_Nw (.fieldLinkNest "TwinCores$Unit" 51 "TwinCores$Row" "limit" "I" "TwinCores") U ∧ va_Nw (.fieldLinkNest "TwinCores$Unit" 47 "TwinCores$Row" "count" "I" "TwinCores") U
theorem wXN_k : wXk wXN := fun U U' hv _ h => ⟨va_Nw.same rfl hv h.1, va_Nw.same rfl hv h.2⟩
theorem wXN_w {s U : State} (hW : s.WarmedH U.vm) (h : wXN s) : wXN U := ⟨va_Nw.warmF hW h.1, va_Nw.warmF hW h.2⟩
def f_X3_rowFor_r (ra : Nat → Nat) (p1 : Int32) (p2 : Int32) : Option Nat := ((fun j => some (ra j)) (((p1 &&& 1) * 4) + (p2 &&& 3)).toNatClampNeg)
set_option maxHeartbeats 4000000 in
set_option maxRecDepth 100000 in
/-- X3_rowFor -/
theorem c_X3_rowFor (l : Launch) (dC : Nat → ClassId) (dI : Nat → Nat → Nat) (sz : Nat) (h0 : Nat) (hR : Nat) (ug : Int32) (ud : Int32) (cyO : ClassId) (ra : Nat → Nat) (p1 : Int32) (p2 : Int32)  : Met l yX3_rowFor (Cond.code yX3_rowFor cX3_rowFor 3 (some (FieldType.object "TwinCores$Row")) :: gw) { frames := 0, cells := 0, slots := 0, locals := 0 } (va_Pc [.ref h0, .int p1, .int p2] (wPre (dC, dI) [(cyO, .object "TwinCores$Row")] [(h0, .inr (2, [.ref hR, .int ug, .int ud])), (hR, .inl (cyO, 8, .inr (.inr (.inr (.inr (fun j => some (ra j)))))))] sz wX0)) (va_Qq (fun (r : Option Nat) (_ : Unit) => r = (f_X3_rowFor_r ra p1 p2)) (fun _ t => wPost (dC, dI) (va_A [(h0, .inr (2, [.ref hR, .int ug, .int ud])), (hR, .inl (cyO, 8, .inr (.inr (.inr (.inr (fun j => some (ra j)))))))] sz) [(h0, .inr (2, [.ref hR, .int ug, .int ud])), (hR, .inl (cyO, 8, .inr (.inr (.inr (.inr (fun j => some (ra j)))))))] t) (va_A [(h0, .inr (2, [.ref hR, .int ug, .int ud])), (hR, .inl (cyO, 8, .inr (.inr (.inr (.inr (fun j => some (ra j)))))))] sz)) 0 0 (va_A [(h0, .inr (2, [.ref hR, .int ug, .int ud])), (hR, .inl (cyO, 8, .inr (.inr (.inr (.inr (fun j => some (ra j)))))))] sz) := by
  refine Met.ofW (cc := cX3_rowFor) (maxL := 3) (ret := (some (FieldType.object "TwinCores$Row"))) (by decide) rfl ?_
  intro p e s m args below meth c s₁ B hml hv
  obtain ⟨rfl, hsz, hP, hK, hD0, hXX⟩ := hv
  have hx := B.exec
  have hb := B.bytes
  have hr := B.returns
  have hts := atoms_spec (ws := (Cond.code yX3_rowFor cX3_rowFor 3 (some (FieldType.object "TwinCores$Row")) :: gw)) B.pre
  have hown : s.vm.findClass RX3 = some m.cls := findClass_of_methodNamed B.named
  have hlocks := B.notSynchronized
  subst hsz
  have hD := hD0.self (sz := s.heap.size)
  generalize hAe : va_A [(h0, .inr (2, [.ref hR, .int ug, .int ud])), (hR, .inl (cyO, 8, .inr (.inr (.inr (.inr (fun j => some (ra j)))))))] s.heap.size = A at hD ⊢
  have hA : ∀ q : Nat, s.heap.size ≤ q → A q := fun q h => by rw [← hAe]; exact Or.inr h
  have hS : va_S A s.heap s.heap [] := va_S.rf
  have hl := lv_entry ([.ref h0, .int p1, .int p2]) (n := 3) (Nat.le_of_ble_eq_true rfl)
  rw [lg_entry_eq]
  generalize (lg_sl ([.ref h0, .int p1, .int p2]) ++ List.replicate (3 - (lg_sl ([.ref h0, .int p1, .int p2])).length) Slot.unset).toArray = ls at hl ⊢
  have hl : lv_has ls 3 [(0, .ref h0), (1, .int p1), (2, .int p2)] := hl
  refine lv_aload_n hx hb dX3_rowFor_0 rfl (lv_at hl 0 rfl) ?_
  refine va_get (D := (dC, dI)) (ci := 2) (v := .ref hR) (C := RX3) (T := TX3) (N := 3) hx hb hts (fun w h => gw_b w (iX3 w h)) hown hK hP 0 rfl rfl 0 (by decide) (hts _ (gw_b _ gm_122)) (fun _ h9 => h9) rfl dX3_rowFor_1 ?_
  refine lv_iload_n hx hb dX3_rowFor_4 rfl (lv_at hl 1 rfl) ?_
  refine lv_iconst (v := 1) hx hb dX3_rowFor_5 (by decide) ?_
  refine lv_iand hx hb dX3_rowFor_6 ?_
  refine lv_iconst (v := 4) hx hb dX3_rowFor_7 (by decide) ?_
  refine lv_imul hx hb dX3_rowFor_8 ?_
  refine lv_iload_n hx hb dX3_rowFor_9 rfl (lv_at hl 2 rfl) ?_
  refine lv_iconst (v := 3) hx hb dX3_rowFor_10 (by decide) ?_
  refine lv_iand hx hb dX3_rowFor_11 ?_
  refine lv_iadd hx hb dX3_rowFor_12 ?_
  refine va_aldq (D := (dC, dI)) hx hb hK hP 1 0 rfl rfl (rf_in p1 p2) dX3_rowFor_13 ?_
  have hP9 : va_P (dC, dI) vwCl [(h0, .inr (2, [.ref hR, .int ug, .int ud])), (hR, .inl (cyO, 8, .inr (.inr (.inr (.inr (fun j => some (ra j)))))))] s.heap := by exact hP.sub (ws' := [(h0, .inr (2, [.ref hR, .int ug, .int ud])), (hR, .inl (cyO, 8, .inr (.inr (.inr (.inr (fun j => some (ra j)))))))]) [0, 1] rfl
  have hD9 : va_D A [(h0, .inr (2, [.ref hR, .int ug, .int ud])), (hR, .inl (cyO, 8, .inr (.inr (.inr (.inr (fun j => some (ra j)))))))] := by exact hD.sub (ws' := [(h0, .inr (2, [.ref hR, .int ug, .int ud])), (hR, .inl (cyO, 8, .inr (.inr (.inr (.inr (fun j => some (ra j)))))))]) [0, 1] (by decide) rfl
  exact W.aret (v := va_rf ((fun j => some (ra j)) (((p1 &&& 1) * 4) + (p2 &&& 3)).toNatClampNeg)) hx hb hr (Or.inl ⟨_, rfl⟩) (va_rf_or _) (fun t ht hW => ⟨⟨((fun j => some (ra j)) (((p1 &&& 1) * 4) + (p2 &&& 3)).toNatClampNeg), (), rfl, Eq.symm (rfl : (f_X3_rowFor_r ra p1 p2) = ((fun j => some (ra j)) (((p1 &&& 1) * 4) + (p2 &&& 3)).toNatClampNeg)), by rw [ht]; exact hP9, hD9⟩, hS.F ht⟩) hS.2.2 dX3_rowFor_14

theorem rf_at {ra : Nat → Nat} {a b v : Int32} (c : (((a &&& 1) * 4) + (b &&& 3)) = v) : f_X3_rowFor_r ra a b = some (ra v.toNatClampNeg) := by
  unfold f_X3_rowFor_r
  rw [c]