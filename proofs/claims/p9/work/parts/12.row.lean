/-- a row: how long, its limit, how many wait, where the first lies -/
def rowOk (n : Nat) (t c h : Int32) : Prop := ∃ t' c' h' : Nat, t = nI t' ∧ c = nI c' ∧ h = nI h' ∧ t' ≤ n ∧ c' ≤ n ∧ h' < n ∧ n ≤ 24
theorem ro_h {n : Nat} {t c h : Int32} (hk : rowOk n t c h) : vp_in h n := by
  obtain ⟨t', c', h', rfl, rfl, rfl, h1, h2, h3, h4⟩ := hk
  exact vp_in_nI h3 (by omega)
theorem ro_1 {n : Nat} {t c h : Int32} (hk : rowOk n t c h) (h1 : ¬ t ≤ c) (h2 : ¬ nI n ≤ h + c) : vp_in (h + c) n := by
  obtain ⟨t', c', h', rfl, rfl, rfl, q1, q2, q3, q4⟩ := hk
  rw [nI_add, nI_leI (by omega) (by omega)] at h2
  rw [nI_add]
  exact vp_in_nI (by omega) (by omega)
theorem ro_2 {n : Nat} {t c h : Int32} (hk : rowOk n t c h) (h1 : ¬ t ≤ c) (h2 : nI n ≤ h + c) : vp_in (h + c - nI n) n := by
  obtain ⟨t', c', h', rfl, rfl, rfl, q1, q2, q3, q4⟩ := hk
  rw [nI_leI (by omega) (by omega)] at h1
  rw [nI_add, nI_leI (by omega) (by omega)] at h2
  rw [nI_add, pk_sub h2]
  exact vp_in_nI (by omega) (by omega)
def f_X2_forget_rc  : Int32 := 0
def f_X2_forget_rh  : Int32 := 0
def f_X2_forget_rl  : Int32 := 0
set_option maxHeartbeats 4000000 in
set_option maxRecDepth 100000 in
/-- X2_forget -/
theorem c_X2_forget (l : Launch) (dC : Nat → ClassId) (dI : Nat → Nat → Nat) (sz : Nat) (h0 : Nat) (qb : Nat) (rt : Int32) (rc : Int32) (rh : Int32) (rl : Int32)  : Met l yX2_forget (Cond.code yX2_forget cX2_forget 1 none :: gw) { frames := 0, cells := 0, slots := 0, locals := 0 } (va_Pc [.ref h0] (wPre (dC, dI) [] [(h0, .inr (1, [.ref qb, .int rt, .int rc, .int rh, .int rl]))] sz wX0)) (va_Qv (fun _ : Unit => True) (fun _ t => wPost (dC, dI) (va_A [(h0, .inr (1, [.ref qb, .int rt, .int rc, .int rh, .int rl]))] sz) [(h0, .inr (1, [.ref qb, .int rt, .int f_X2_forget_rc, .int f_X2_forget_rh, .int f_X2_forget_rl]))] t) (va_A [(h0, .inr (1, [.ref qb, .int rt, .int rc, .int rh, .int rl]))] sz)) 0 0 (va_A [(h0, .inr (1, [.ref qb, .int rt, .int rc, .int rh, .int rl]))] sz) := by
  refine Met.ofW (cc := cX2_forget) (maxL := 1) (ret := none) (by decide) rfl ?_
  intro p e s m args below meth c s₁ B hml hv
  obtain ⟨rfl, hsz, hP, hK, hD0, hXX⟩ := hv
  have hx := B.exec
  have hb := B.bytes
  have hr := B.returns
  have hts := atoms_spec (ws := (Cond.code yX2_forget cX2_forget 1 none :: gw)) B.pre
  have hown : s.vm.findClass RX2 = some m.cls := findClass_of_methodNamed B.named
  have hlocks := B.notSynchronized
  subst hsz
  have hD := hD0.self (sz := s.heap.size)
  generalize hAe : va_A [(h0, .inr (1, [.ref qb, .int rt, .int rc, .int rh, .int rl]))] s.heap.size = A at hD ⊢
  have hA : ∀ q : Nat, s.heap.size ≤ q → A q := fun q h => by rw [← hAe]; exact Or.inr h
  have hS : va_S A s.heap s.heap [] := va_S.rf
  have hl := lv_entry ([.ref h0]) (n := 1) (Nat.le_of_ble_eq_true rfl)
  rw [lg_entry_eq]
  generalize (lg_sl ([.ref h0]) ++ List.replicate (1 - (lg_sl ([.ref h0])).length) Slot.unset).toArray = ls at hl ⊢
  have hl : lv_has ls 1 [(0, .ref h0)] := hl
  refine lv_aload_n hx hb dX2_forget_0 rfl (lv_at hl 0 rfl) ?_
  refine lv_iconst (v := 0) hx hb dX2_forget_1 (by decide) ?_
  refine va_put (D := (dC, dI)) (ci := 1) (v := .int 0) (ty := tyX2 2) (C := RX2) (T := TX2) (N := 5) hx hb hts (fun w h => gw_b w (iX2 w h)) tyX2 tyX2_ok nmX2 hown hK hP hD hS 0 rfl rfl 2 (by decide) (hts _ (gw_b _ gm_106)) (fun _ h9 => h9) rfl (tyX2_ok 2 (by decide)) rfl rfl (Nat.le_of_ble_eq_true rfl) dX2_forget_2 (fun H locs hP hD hS => ?_)
  have hP : va_P (dC, dI) vwCl [(h0, .inr (1, [.ref qb, .int rt, .int 0, .int rh, .int rl]))] H := hP
  have hD : va_D A [(h0, .inr (1, [.ref qb, .int rt, .int 0, .int rh, .int rl]))] := hD
  refine lv_aload_n hx hb dX2_forget_5 rfl (lv_at hl 0 rfl) ?_
  refine lv_iconst (v := 0) hx hb dX2_forget_6 (by decide) ?_
  refine va_put (D := (dC, dI)) (ci := 1) (v := .int 0) (ty := tyX2 3) (C := RX2) (T := TX2) (N := 5) hx hb hts (fun w h => gw_b w (iX2 w h)) tyX2 tyX2_ok nmX2 hown hK hP hD hS 0 rfl rfl 3 (by decide) (hts _ (gw_b _ gm_108)) (fun _ h9 => h9) rfl (tyX2_ok 3 (by decide)) rfl rfl (Nat.le_of_ble_eq_true rfl) dX2_forget_7 (fun H locs hP hD hS => ?_)
  have hP : va_P (dC, dI) vwCl [(h0, .inr (1, [.ref qb, .int rt, .int 0, .int 0, .int rl]))] H := hP
  have hD : va_D A [(h0, .inr (1, [.ref qb, .int rt, .int 0, .int 0, .int rl]))] := hD
  refine lv_aload_n hx hb dX2_forget_10 rfl (lv_at hl 0 rfl) ?_
  refine lv_iconst (v := 0) hx hb dX2_forget_11 (by decide) ?_
  refine va_put (D := (dC, dI)) (ci := 1) (v := .int 0) (ty := tyX2 4) (C := RX2) (T := TX2) (N := 5) hx hb hts (fun w h => gw_b w (iX2 w h)) tyX2 tyX2_ok nmX2 hown hK hP hD hS 0 rfl rfl 4 (by decide) (hts _ (gw_b _ gm_109)) (fun _ h9 => h9) rfl (tyX2_ok 4 (by decide)) rfl rfl (Nat.le_of_ble_eq_true rfl) dX2_forget_12 (fun H locs hP hD hS => ?_)
  have hP : va_P (dC, dI) vwCl [(h0, .inr (1, [.ref qb, .int rt, .int 0, .int 0, .int 0]))] H := hP
  have hD : va_D A [(h0, .inr (1, [.ref qb, .int rt, .int 0, .int 0, .int 0]))] := hD
  have e_rc : f_X2_forget_rc = 0 := rfl
  have e_rh : f_X2_forget_rh = 0 := rfl
  have e_rl : f_X2_forget_rl = 0 := rfl
  have hP9 : va_P (dC, dI) vwCl [(h0, .inr (1, [.ref qb, .int rt, .int f_X2_forget_rc, .int f_X2_forget_rh, .int f_X2_forget_rl]))] H := by rw [e_rc, e_rh, e_rl]; exact hP.sub (ws' := [(h0, .inr (1, [.ref qb, .int rt, .int 0, .int 0, .int 0]))]) [0] rfl
  have hD9 : va_D A [(h0, .inr (1, [.ref qb, .int rt, .int f_X2_forget_rc, .int f_X2_forget_rh, .int f_X2_forget_rl]))] := by rw [e_rc, e_rh, e_rl]; exact hD.sub (ws' := [(h0, .inr (1, [.ref qb, .int rt, .int 0, .int 0, .int 0]))]) [0] (by decide) rfl
  exact W.vret hx hb hr (fun t ht hW => ⟨⟨(), rfl, trivial, by rw [ht]; exact hP9, hD9⟩, hS.F ht⟩) hS.2.2 dX2_forget_15

def f_X2_next_r (rc : Int32) (rh : Int32) (rl : Int32) (rb : Nat → Int32) : Int32 := (if rc ≤ 0 then rl else (rb rh.toNatClampNeg))
set_option maxHeartbeats 4000000 in
set_option maxRecDepth 100000 in
/-- X2_next -/
theorem c_X2_next (l : Launch) (dC : Nat → ClassId) (dI : Nat → Nat → Nat) (sz : Nat) (h0 : Nat) (qb : Nat) (rt : Int32) (rc : Int32) (rh : Int32) (rl : Int32) (cyI : ClassId) (rn : Nat) (rb : Nat → Int32) (hk : rowOk rn rt rc rh) : Met l yX2_next (Cond.code yX2_next cX2_next 1 (some .int) :: gw) { frames := 0, cells := 0, slots := 0, locals := 0 } (va_Pc [.ref h0] (wPre (dC, dI) [(cyI, .int)] [(h0, .inr (1, [.ref qb, .int rt, .int rc, .int rh, .int rl])), (qb, .inl (cyI, rn, .inl rb))] sz wX0)) (va_Qi (fun (r : Int32) (_ : Unit) => r = (f_X2_next_r rc rh rl rb)) (fun _ t => wPost (dC, dI) (va_A [(h0, .inr (1, [.ref qb, .int rt, .int rc, .int rh, .int rl])), (qb, .inl (cyI, rn, .inl rb))] sz) [(h0, .inr (1, [.ref qb, .int rt, .int rc, .int rh, .int rl])), (qb, .inl (cyI, rn, .inl rb))] t) (va_A [(h0, .inr (1, [.ref qb, .int rt, .int rc, .int rh, .int rl])), (qb, .inl (cyI, rn, .inl rb))] sz)) 0 0 (va_A [(h0, .inr (1, [.ref qb, .int rt, .int rc, .int rh, .int rl])), (qb, .inl (cyI, rn, .inl rb))] sz) := by
  refine Met.ofW (cc := cX2_next) (maxL := 1) (ret := (some .int)) (by decide) rfl ?_
  intro p e s m args below meth c s₁ B hml hv
  obtain ⟨rfl, hsz, hP, hK, hD0, hXX⟩ := hv
  have hx := B.exec
  have hb := B.bytes
  have hr := B.returns
  have hts := atoms_spec (ws := (Cond.code yX2_next cX2_next 1 (some .int) :: gw)) B.pre
  have hown : s.vm.findClass RX2 = some m.cls := findClass_of_methodNamed B.named
  have hlocks := B.notSynchronized
  subst hsz
  have hD := hD0.self (sz := s.heap.size)
  generalize hAe : va_A [(h0, .inr (1, [.ref qb, .int rt, .int rc, .int rh, .int rl])), (qb, .inl (cyI, rn, .inl rb))] s.heap.size = A at hD ⊢
  have hA : ∀ q : Nat, s.heap.size ≤ q → A q := fun q h => by rw [← hAe]; exact Or.inr h
  have hS : va_S A s.heap s.heap [] := va_S.rf
  have hl := lv_entry ([.ref h0]) (n := 1) (Nat.le_of_ble_eq_true rfl)
  rw [lg_entry_eq]
  generalize (lg_sl ([.ref h0]) ++ List.replicate (1 - (lg_sl ([.ref h0])).length) Slot.unset).toArray = ls at hl ⊢
  have hl : lv_has ls 1 [(0, .ref h0)] := hl
  refine lv_aload_n hx hb dX2_next_0 rfl (lv_at hl 0 rfl) ?_
  refine va_get (D := (dC, dI)) (ci := 1) (v := .int rc) (C := RX2) (T := TX2) (N := 5) hx hb hts (fun w h => gw_b w (iX2 w h)) hown hK hP 0 rfl rfl 2 (by decide) (hts _ (gw_b _ gm_106)) (fun _ h9 => h9) rfl dX2_next_1 ?_
  refine lv_if_le (tgt := 19) hx hb dX2_next_4 (by decide) (fun c_1 => ?_) (fun c_1 => ?_)
  · skip
    refine lv_aload_n hx hb dX2_next_19 rfl (lv_at hl 0 rfl) ?_
    refine va_get (D := (dC, dI)) (ci := 1) (v := .int rl) (C := RX2) (T := TX2) (N := 5) hx hb hts (fun w h => gw_b w (iX2 w h)) hown hK hP 0 rfl rfl 4 (by decide) (hts _ (gw_b _ gm_109)) (fun _ h9 => h9) rfl dX2_next_20 ?_
    have hP9 : va_P (dC, dI) vwCl [(h0, .inr (1, [.ref qb, .int rt, .int rc, .int rh, .int rl])), (qb, .inl (cyI, rn, .inl rb))] s.heap := by exact hP.sub (ws' := [(h0, .inr (1, [.ref qb, .int rt, .int rc, .int rh, .int rl])), (qb, .inl (cyI, rn, .inl rb))]) [0, 1] rfl
    have hD9 : va_D A [(h0, .inr (1, [.ref qb, .int rt, .int rc, .int rh, .int rl])), (qb, .inl (cyI, rn, .inl rb))] := by exact hD.sub (ws' := [(h0, .inr (1, [.ref qb, .int rt, .int rc, .int rh, .int rl])), (qb, .inl (cyI, rn, .inl rb))]) [0, 1] (by decide) rfl
    exact W.iret (v := rl) hx hb hr (fun t ht hW => ⟨⟨rl, (), rfl, Eq.symm ((if_pos c_1) : (f_X2_next_r rc rh rl rb) = rl), by rw [ht]; exact hP9, hD9⟩, hS.F ht⟩) hS.2.2 dX2_next_23
  · skip
    refine lv_aload_n hx hb dX2_next_7 rfl (lv_at hl 0 rfl) ?_
    refine va_get (D := (dC, dI)) (ci := 1) (v := .ref qb) (C := RX2) (T := TX2) (N := 5) hx hb hts (fun w h => gw_b w (iX2 w h)) hown hK hP 0 rfl rfl 0 (by decide) (hts _ (gw_b _ gm_103)) (fun _ h9 => h9) rfl dX2_next_8 ?_
    refine lv_aload_n hx hb dX2_next_11 rfl (lv_at hl 0 rfl) ?_
    refine va_get (D := (dC, dI)) (ci := 1) (v := .int rh) (C := RX2) (T := TX2) (N := 5) hx hb hts (fun w h => gw_b w (iX2 w h)) hown hK hP 0 rfl rfl 3 (by decide) (hts _ (gw_b _ gm_108)) (fun _ h9 => h9) rfl dX2_next_12 ?_
    refine va_iald (D := (dC, dI)) hx hb hK hP 1 0 rfl rfl (ro_h hk) dX2_next_15 ?_
    refine lv_goto (tgt := 23) hx hb dX2_next_16 (by decide) ?_
    have hP9 : va_P (dC, dI) vwCl [(h0, .inr (1, [.ref qb, .int rt, .int rc, .int rh, .int rl])), (qb, .inl (cyI, rn, .inl rb))] s.heap := by exact hP.sub (ws' := [(h0, .inr (1, [.ref qb, .int rt, .int rc, .int rh, .int rl])), (qb, .inl (cyI, rn, .inl rb))]) [0, 1] rfl
    have hD9 : va_D A [(h0, .inr (1, [.ref qb, .int rt, .int rc, .int rh, .int rl])), (qb, .inl (cyI, rn, .inl rb))] := by exact hD.sub (ws' := [(h0, .inr (1, [.ref qb, .int rt, .int rc, .int rh, .int rl])), (qb, .inl (cyI, rn, .inl rb))]) [0, 1] (by decide) rfl
    exact W.iret (v := (rb rh.toNatClampNeg)) hx hb hr (fun t ht hW => ⟨⟨(rb rh.toNatClampNeg), (), rfl, Eq.symm ((if_neg c_1) : (f_X2_next_r rc rh rl rb) = (rb rh.toNatClampNeg)), by rw [ht]; exact hP9, hD9⟩, hS.F ht⟩) hS.2.2 dX2_next_23

def f_X2_take_rc (rc : Int32) : Int32 := (if rc ≤ 0 then rc else (rc - 1))
def f_X2_take_rh (rc : Int32) (rh : Int32) (rn : Nat) : Int32 := (if rc ≤ 0 then rh else (if (nI rn) ≤ (rh + 1) then 0 else (rh + 1)))
def f_X2_take_rl (rc : Int32) (rh : Int32) (rl : Int32) (rb : Nat → Int32) : Int32 := (if rc ≤ 0 then rl else (rb rh.toNatClampNeg))
def f_X2_take_r (rc : Int32) (rh : Int32) (rl : Int32) (rb : Nat → Int32) : Int32 := (if rc ≤ 0 then rl else (rb rh.toNatClampNeg))
set_option maxHeartbeats 4000000 in
set_option maxRecDepth 100000 in
/-- X2_take -/
theorem c_X2_take (l : Launch) (dC : Nat → ClassId) (dI : Nat → Nat → Nat) (sz : Nat) (h0 : Nat) (qb : Nat) (rt : Int32) (rc : Int32) (rh : Int32) (rl : Int32) (cyI : ClassId) (rn : Nat) (rb : Nat → Int32) (hk : rowOk rn rt rc rh) : Met l yX2_take (Cond.code yX2_take cX2_take 1 (some .int) :: gw) { frames := 0, cells := 0, slots := 0, locals := 0 } (va_Pc [.ref h0] (wPre (dC, dI) [(cyI, .int)] [(h0, .inr (1, [.ref qb, .int rt, .int rc, .int rh, .int rl])), (qb, .inl (cyI, rn, .inl rb))] sz wX0)) (va_Qi (fun (r : Int32) (_ : Unit) => r = (f_X2_take_r rc rh rl rb)) (fun _ t => wPost (dC, dI) (va_A [(h0, .inr (1, [.ref qb, .int rt, .int rc, .int rh, .int rl])), (qb, .inl (cyI, rn, .inl rb))] sz) [(h0, .inr (1, [.ref qb, .int rt, .int (f_X2_take_rc rc), .int (f_X2_take_rh rc rh rn), .int (f_X2_take_rl rc rh rl rb)])), (qb, .inl (cyI, rn, .inl rb))] t) (va_A [(h0, .inr (1, [.ref qb, .int rt, .int rc, .int rh, .int rl])), (qb, .inl (cyI, rn, .inl rb))] sz)) 0 0 (va_A [(h0, .inr (1, [.ref qb, .int rt, .int rc, .int rh, .int rl])), (qb, .inl (cyI, rn, .inl rb))] sz) := by
  refine Met.ofW (cc := cX2_take) (maxL := 1) (ret := (some .int)) (by decide) rfl ?_
  intro p e s m args below meth c s₁ B hml hv
  obtain ⟨rfl, hsz, hP, hK, hD0, hXX⟩ := hv
  have hx := B.exec
  have hb := B.bytes
  have hr := B.returns
  have hts := atoms_spec (ws := (Cond.code yX2_take cX2_take 1 (some .int) :: gw)) B.pre
  have hown : s.vm.findClass RX2 = some m.cls := findClass_of_methodNamed B.named
  have hlocks := B.notSynchronized
  subst hsz
  have hD := hD0.self (sz := s.heap.size)
  generalize hAe : va_A [(h0, .inr (1, [.ref qb, .int rt, .int rc, .int rh, .int rl])), (qb, .inl (cyI, rn, .inl rb))] s.heap.size = A at hD ⊢
  have hA : ∀ q : Nat, s.heap.size ≤ q → A q := fun q h => by rw [← hAe]; exact Or.inr h
  have hS : va_S A s.heap s.heap [] := va_S.rf
  have hl := lv_entry ([.ref h0]) (n := 1) (Nat.le_of_ble_eq_true rfl)
  rw [lg_entry_eq]
  generalize (lg_sl ([.ref h0]) ++ List.replicate (1 - (lg_sl ([.ref h0])).length) Slot.unset).toArray = ls at hl ⊢
  have hl : lv_has ls 1 [(0, .ref h0)] := hl
  refine lv_aload_n hx hb dX2_take_0 rfl (lv_at hl 0 rfl) ?_
  refine va_get (D := (dC, dI)) (ci := 1) (v := .int rc) (C := RX2) (T := TX2) (N := 5) hx hb hts (fun w h => gw_b w (iX2 w h)) hown hK hP 0 rfl rfl 2 (by decide) (hts _ (gw_b _ gm_106)) (fun _ h9 => h9) rfl dX2_take_1 ?_
  refine lv_if_le (tgt := 58) hx hb dX2_take_4 (by decide) (fun c_1 => ?_) (fun c_1 => ?_)
  · skip
    refine lv_aload_n hx hb dX2_take_58 rfl (lv_at hl 0 rfl) ?_
    refine va_get (D := (dC, dI)) (ci := 1) (v := .int rl) (C := RX2) (T := TX2) (N := 5) hx hb hts (fun w h => gw_b w (iX2 w h)) hown hK hP 0 rfl rfl 4 (by decide) (hts _ (gw_b _ gm_109)) (fun _ h9 => h9) rfl dX2_take_59 ?_
    have e_rc : (f_X2_take_rc rc) = rc := (if_pos c_1)
    have e_rh : (f_X2_take_rh rc rh rn) = rh := (if_pos c_1)
    have e_rl : (f_X2_take_rl rc rh rl rb) = rl := (if_pos c_1)
    have hP9 : va_P (dC, dI) vwCl [(h0, .inr (1, [.ref qb, .int rt, .int (f_X2_take_rc rc), .int (f_X2_take_rh rc rh rn), .int (f_X2_take_rl rc rh rl rb)])), (qb, .inl (cyI, rn, .inl rb))] s.heap := by rw [e_rc, e_rh, e_rl]; exact hP.sub (ws' := [(h0, .inr (1, [.ref qb, .int rt, .int rc, .int rh, .int rl])), (qb, .inl (cyI, rn, .inl rb))]) [0, 1] rfl
    have hD9 : va_D A [(h0, .inr (1, [.ref qb, .int rt, .int (f_X2_take_rc rc), .int (f_X2_take_rh rc rh rn), .int (f_X2_take_rl rc rh rl rb)])), (qb, .inl (cyI, rn, .inl rb))] := by rw [e_rc, e_rh, e_rl]; exact hD.sub (ws' := [(h0, .inr (1, [.ref qb, .int rt, .int rc, .int rh, .int rl])), (qb, .inl (cyI, rn, .inl rb))]) [0, 1] (by decide) rfl
    exact W.iret (v := rl) hx hb hr (fun t ht hW => ⟨⟨rl, (), rfl, Eq.symm ((if_pos c_1) : (f_X2_take_r rc rh rl rb) = rl), by rw [ht]; exact hP9, hD9⟩, hS.F ht⟩) hS.2.2 dX2_take_62
  · skip
    refine lv_aload_n hx hb dX2_take_7 rfl (lv_at hl 0 rfl) ?_
    refine lv_aload_n hx hb dX2_take_8 rfl (lv_at hl 0 rfl) ?_
    refine va_get (D := (dC, dI)) (ci := 1) (v := .ref qb) (C := RX2) (T := TX2) (N := 5) hx hb hts (fun w h => gw_b w (iX2 w h)) hown hK hP 0 rfl rfl 0 (by decide) (hts _ (gw_b _ gm_103)) (fun _ h9 => h9) rfl dX2_take_9 ?_
    refine lv_aload_n hx hb dX2_take_12 rfl (lv_at hl 0 rfl) ?_
    refine va_get (D := (dC, dI)) (ci := 1) (v := .int rh) (C := RX2) (T := TX2) (N := 5) hx hb hts (fun w h => gw_b w (iX2 w h)) hown hK hP 0 rfl rfl 3 (by decide) (hts _ (gw_b _ gm_108)) (fun _ h9 => h9) rfl dX2_take_13 ?_
    refine va_iald (D := (dC, dI)) hx hb hK hP 1 0 rfl rfl (ro_h hk) dX2_take_16 ?_
    refine va_put (D := (dC, dI)) (ci := 1) (v := .int (rb rh.toNatClampNeg)) (ty := tyX2 4) (C := RX2) (T := TX2) (N := 5) hx hb hts (fun w h => gw_b w (iX2 w h)) tyX2 tyX2_ok nmX2 hown hK hP hD hS 0 rfl rfl 4 (by decide) (hts _ (gw_b _ gm_109)) (fun _ h9 => h9) rfl (tyX2_ok 4 (by decide)) rfl rfl (Nat.le_of_ble_eq_true rfl) dX2_take_17 (fun H locs hP hD hS => ?_)
    have hP : va_P (dC, dI) vwCl [(h0, .inr (1, [.ref qb, .int rt, .int rc, .int rh, .int (rb rh.toNatClampNeg)])), (qb, .inl (cyI, rn, .inl rb))] H := hP
    have hD : va_D A [(h0, .inr (1, [.ref qb, .int rt, .int rc, .int rh, .int (rb rh.toNatClampNeg)])), (qb, .inl (cyI, rn, .inl rb))] := hD
    refine lv_aload_n hx hb dX2_take_20 rfl (lv_at hl 0 rfl) ?_
    refine lv_aload_n hx hb dX2_take_21 rfl (lv_at hl 0 rfl) ?_
    refine va_get (D := (dC, dI)) (ci := 1) (v := .int rh) (C := RX2) (T := TX2) (N := 5) hx hb hts (fun w h => gw_b w (iX2 w h)) hown hK hP 0 rfl rfl 3 (by decide) (hts _ (gw_b _ gm_108)) (fun _ h9 => h9) rfl dX2_take_22 ?_
    refine lv_iconst (v := 1) hx hb dX2_take_25 (by decide) ?_
    refine lv_iadd hx hb dX2_take_26 ?_
    refine lv_aload_n hx hb dX2_take_27 rfl (lv_at hl 0 rfl) ?_
    refine va_get (D := (dC, dI)) (ci := 1) (v := .ref qb) (C := RX2) (T := TX2) (N := 5) hx hb hts (fun w h => gw_b w (iX2 w h)) hown hK hP 0 rfl rfl 0 (by decide) (hts _ (gw_b _ gm_103)) (fun _ h9 => h9) rfl dX2_take_28 ?_
    refine va_alen (D := (dC, dI)) (v := (nI rn)) hx hb hK hP 1 0 rfl rfl rfl dX2_take_31 ?_
    refine lv_icmp_ge (tgt := 44) hx hb dX2_take_32 (by decide) (fun c_2 => ?_) (fun c_2 => ?_)
    · skip
      refine lv_iconst (v := 0) hx hb dX2_take_44 (by decide) ?_
      refine va_put (D := (dC, dI)) (ci := 1) (v := .int 0) (ty := tyX2 3) (C := RX2) (T := TX2) (N := 5) hx hb hts (fun w h => gw_b w (iX2 w h)) tyX2 tyX2_ok nmX2 hown hK hP hD hS 0 rfl rfl 3 (by decide) (hts _ (gw_b _ gm_108)) (fun _ h9 => h9) rfl (tyX2_ok 3 (by decide)) rfl rfl (Nat.le_of_ble_eq_true rfl) dX2_take_45 (fun H locs hP hD hS => ?_)
      have hP : va_P (dC, dI) vwCl [(h0, .inr (1, [.ref qb, .int rt, .int rc, .int 0, .int (rb rh.toNatClampNeg)])), (qb, .inl (cyI, rn, .inl rb))] H := hP
      have hD : va_D A [(h0, .inr (1, [.ref qb, .int rt, .int rc, .int 0, .int (rb rh.toNatClampNeg)])), (qb, .inl (cyI, rn, .inl rb))] := hD
      refine lv_aload_n hx hb dX2_take_48 rfl (lv_at hl 0 rfl) ?_
      refine lv_dup hx hb dX2_take_49 rfl ?_
      refine va_get (D := (dC, dI)) (ci := 1) (v := .int rc) (C := RX2) (T := TX2) (N := 5) hx hb hts (fun w h => gw_b w (iX2 w h)) hown hK hP 0 rfl rfl 2 (by decide) (hts _ (gw_b _ gm_106)) (fun _ h9 => h9) rfl dX2_take_50 ?_
      refine lv_iconst (v := 1) hx hb dX2_take_53 (by decide) ?_
      refine lv_isub hx hb dX2_take_54 ?_
      refine va_put (D := (dC, dI)) (ci := 1) (v := .int (rc - 1)) (ty := tyX2 2) (C := RX2) (T := TX2) (N := 5) hx hb hts (fun w h => gw_b w (iX2 w h)) tyX2 tyX2_ok nmX2 hown hK hP hD hS 0 rfl rfl 2 (by decide) (hts _ (gw_b _ gm_106)) (fun _ h9 => h9) rfl (tyX2_ok 2 (by decide)) rfl rfl (Nat.le_of_ble_eq_true rfl) dX2_take_55 (fun H locs hP hD hS => ?_)
      have hP : va_P (dC, dI) vwCl [(h0, .inr (1, [.ref qb, .int rt, .int (rc - 1), .int 0, .int (rb rh.toNatClampNeg)])), (qb, .inl (cyI, rn, .inl rb))] H := hP
      have hD : va_D A [(h0, .inr (1, [.ref qb, .int rt, .int (rc - 1), .int 0, .int (rb rh.toNatClampNeg)])), (qb, .inl (cyI, rn, .inl rb))] := hD
      refine lv_aload_n hx hb dX2_take_58 rfl (lv_at hl 0 rfl) ?_
      refine va_get (D := (dC, dI)) (ci := 1) (v := .int (rb rh.toNatClampNeg)) (C := RX2) (T := TX2) (N := 5) hx hb hts (fun w h => gw_b w (iX2 w h)) hown hK hP 0 rfl rfl 4 (by decide) (hts _ (gw_b _ gm_109)) (fun _ h9 => h9) rfl dX2_take_59 ?_
      have e_rc : (f_X2_take_rc rc) = (rc - 1) := (if_neg c_1)
      have e_rh : (f_X2_take_rh rc rh rn) = 0 := ((if_neg c_1)).trans (if_pos c_2)
      have e_rl : (f_X2_take_rl rc rh rl rb) = (rb rh.toNatClampNeg) := (if_neg c_1)
      have hP9 : va_P (dC, dI) vwCl [(h0, .inr (1, [.ref qb, .int rt, .int (f_X2_take_rc rc), .int (f_X2_take_rh rc rh rn), .int (f_X2_take_rl rc rh rl rb)])), (qb, .inl (cyI, rn, .inl rb))] H := by rw [e_rc, e_rh, e_rl]; exact hP.sub (ws' := [(h0, .inr (1, [.ref qb, .int rt, .int (rc - 1), .int 0, .int (rb rh.toNatClampNeg)])), (qb, .inl (cyI, rn, .inl rb))]) [0, 1] rfl
      have hD9 : va_D A [(h0, .inr (1, [.ref qb, .int rt, .int (f_X2_take_rc rc), .int (f_X2_take_rh rc rh rn), .int (f_X2_take_rl rc rh rl rb)])), (qb, .inl (cyI, rn, .inl rb))] := by rw [e_rc, e_rh, e_rl]; exact hD.sub (ws' := [(h0, .inr (1, [.ref qb, .int rt, .int (rc - 1), .int 0, .int (rb rh.toNatClampNeg)])), (qb, .inl (cyI, rn, .inl rb))]) [0, 1] (by decide) rfl
      exact W.iret (v := (rb rh.toNatClampNeg)) hx hb hr (fun t ht hW => ⟨⟨(rb rh.toNatClampNeg), (), rfl, Eq.symm ((if_neg c_1) : (f_X2_take_r rc rh rl rb) = (rb rh.toNatClampNeg)), by rw [ht]; exact hP9, hD9⟩, hS.F ht⟩) hS.2.2 dX2_take_62
    · skip
      refine lv_aload_n hx hb dX2_take_35 rfl (lv_at hl 0 rfl) ?_
      refine va_get (D := (dC, dI)) (ci := 1) (v := .int rh) (C := RX2) (T := TX2) (N := 5) hx hb hts (fun w h => gw_b w (iX2 w h)) hown hK hP 0 rfl rfl 3 (by decide) (hts _ (gw_b _ gm_108)) (fun _ h9 => h9) rfl dX2_take_36 ?_
      refine lv_iconst (v := 1) hx hb dX2_take_39 (by decide) ?_
      refine lv_iadd hx hb dX2_take_40 ?_
      refine lv_goto (tgt := 45) hx hb dX2_take_41 (by decide) ?_
      refine va_put (D := (dC, dI)) (ci := 1) (v := .int (rh + 1)) (ty := tyX2 3) (C := RX2) (T := TX2) (N := 5) hx hb hts (fun w h => gw_b w (iX2 w h)) tyX2 tyX2_ok nmX2 hown hK hP hD hS 0 rfl rfl 3 (by decide) (hts _ (gw_b _ gm_108)) (fun _ h9 => h9) rfl (tyX2_ok 3 (by decide)) rfl rfl (Nat.le_of_ble_eq_true rfl) dX2_take_45 (fun H locs hP hD hS => ?_)
      have hP : va_P (dC, dI) vwCl [(h0, .inr (1, [.ref qb, .int rt, .int rc, .int (rh + 1), .int (rb rh.toNatClampNeg)])), (qb, .inl (cyI, rn, .inl rb))] H := hP
      have hD : va_D A [(h0, .inr (1, [.ref qb, .int rt, .int rc, .int (rh + 1), .int (rb rh.toNatClampNeg)])), (qb, .inl (cyI, rn, .inl rb))] := hD
      refine lv_aload_n hx hb dX2_take_48 rfl (lv_at hl 0 rfl) ?_
      refine lv_dup hx hb dX2_take_49 rfl ?_
      refine va_get (D := (dC, dI)) (ci := 1) (v := .int rc) (C := RX2) (T := TX2) (N := 5) hx hb hts (fun w h => gw_b w (iX2 w h)) hown hK hP 0 rfl rfl 2 (by decide) (hts _ (gw_b _ gm_106)) (fun _ h9 => h9) rfl dX2_take_50 ?_
      refine lv_iconst (v := 1) hx hb dX2_take_53 (by decide) ?_
      refine lv_isub hx hb dX2_take_54 ?_
      refine va_put (D := (dC, dI)) (ci := 1) (v := .int (rc - 1)) (ty := tyX2 2) (C := RX2) (T := TX2) (N := 5) hx hb hts (fun w h => gw_b w (iX2 w h)) tyX2 tyX2_ok nmX2 hown hK hP hD hS 0 rfl rfl 2 (by decide) (hts _ (gw_b _ gm_106)) (fun _ h9 => h9) rfl (tyX2_ok 2 (by decide)) rfl rfl (Nat.le_of_ble_eq_true rfl) dX2_take_55 (fun H locs hP hD hS => ?_)
      have hP : va_P (dC, dI) vwCl [(h0, .inr (1, [.ref qb, .int rt, .int (rc - 1), .int (rh + 1), .int (rb rh.toNatClampNeg)])), (qb, .inl (cyI, rn, .inl rb))] H := hP
      have hD : va_D A [(h0, .inr (1, [.ref qb, .int rt, .int (rc - 1), .int (rh + 1), .int (rb rh.toNatClampNeg)])), (qb, .inl (cyI, rn, .inl rb))] := hD
      refine lv_aload_n hx hb dX2_take_58 rfl (lv_at hl 0 rfl) ?_
      refine va_get (D := (dC, dI)) (ci := 1) (v := .int (rb rh.toNatClampNeg)) (C := RX2) (T := TX2) (N := 5) hx hb hts (fun w h => gw_b w (iX2 w h)) hown hK hP 0 rfl rfl 4 (by decide) (hts _ (gw_b _ gm_109)) (fun _ h9 => h9) rfl dX2_take_59 ?_
      have e_rc : (f_X2_take_rc rc) = (rc - 1) := (if_neg c_1)
      have e_rh : (f_X2_take_rh rc rh rn) = (rh + 1) := ((if_neg c_1)).trans (if_neg c_2)
      have e_rl : (f_X2_take_rl rc rh rl rb) = (rb rh.toNatClampNeg) := (if_neg c_1)
      have hP9 : va_P (dC, dI) vwCl [(h0, .inr (1, [.ref qb, .int rt, .int (f_X2_take_rc rc), .int (f_X2_take_rh rc rh rn), .int (f_X2_take_rl rc rh rl rb)])), (qb, .inl (cyI, rn, .inl rb))] H := by rw [e_rc, e_rh, e_rl]; exact hP.sub (ws' := [(h0, .inr (1, [.ref qb, .int rt, .int (rc - 1), .int (rh + 1), .int (rb rh.toNatClampNeg)])), (qb, .inl (cyI, rn, .inl rb))]) [0, 1] rfl
      have hD9 : va_D A [(h0, .inr (1, [.ref qb, .int rt, .int (f_X2_take_rc rc), .int (f_X2_take_rh rc rh rn), .int (f_X2_take_rl rc rh rl rb)])), (qb, .inl (cyI, rn, .inl rb))] := by rw [e_rc, e_rh, e_rl]; exact hD.sub (ws' := [(h0, .inr (1, [.ref qb, .int rt, .int (rc - 1), .int (rh + 1), .int (rb rh.toNatClampNeg)])), (qb, .inl (cyI, rn, .inl rb))]) [0, 1] (by decide) rfl
      exact W.iret (v := (rb rh.toNatClampNeg)) hx hb hr (fun t ht hW => ⟨⟨(rb rh.toNatClampNeg), (), rfl, Eq.symm ((if_neg c_1) : (f_X2_take_r rc rh rl rb) = (rb rh.toNatClampNeg)), by rw [ht]; exact hP9, hD9⟩, hS.F ht⟩) hS.2.2 dX2_take_62

def f_X2_put_rc (rt : Int32) (rc : Int32) : Int32 := (if rt ≤ rc then rc else (rc + 1))
def f_X2_put_rb (rt : Int32) (rc : Int32) (rh : Int32) (rn : Nat) (rb : Nat → Int32) (p1 : Int32) : Nat → Int32 := (if rt ≤ rc then rb else (if (nI rn) ≤ (rh + rc) then (upd rb ((rh + rc) - (nI rn)).toNatClampNeg p1) else (upd rb (rh + rc).toNatClampNeg p1)))
set_option maxHeartbeats 4000000 in
set_option maxRecDepth 100000 in
/-- X2_put -/
theorem c_X2_put (l : Launch) (dC : Nat → ClassId) (dI : Nat → Nat → Nat) (sz : Nat) (h0 : Nat) (qb : Nat) (rt : Int32) (rc : Int32) (rh : Int32) (rl : Int32) (cyI : ClassId) (rn : Nat) (rb : Nat → Int32) (p1 : Int32) (hk : rowOk rn rt rc rh) : Met l yX2_put (Cond.code yX2_put cX2_put 3 none :: gw) { frames := 0, cells := 0, slots := 0, locals := 0 } (va_Pc [.ref h0, .int p1] (wPre (dC, dI) [(cyI, .int)] [(h0, .inr (1, [.ref qb, .int rt, .int rc, .int rh, .int rl])), (qb, .inl (cyI, rn, .inl rb))] sz wX0)) (va_Qv (fun _ : Unit => True) (fun _ t => wPost (dC, dI) (va_A [(h0, .inr (1, [.ref qb, .int rt, .int rc, .int rh, .int rl])), (qb, .inl (cyI, rn, .inl rb))] sz) [(h0, .inr (1, [.ref qb, .int rt, .int (f_X2_put_rc rt rc), .int rh, .int rl])), (qb, .inl (cyI, rn, .inl (f_X2_put_rb rt rc rh rn rb p1)))] t) (va_A [(h0, .inr (1, [.ref qb, .int rt, .int rc, .int rh, .int rl])), (qb, .inl (cyI, rn, .inl rb))] sz)) 0 0 (va_A [(h0, .inr (1, [.ref qb, .int rt, .int rc, .int rh, .int rl])), (qb, .inl (cyI, rn, .inl rb))] sz) := by
  refine Met.ofW (cc := cX2_put) (maxL := 3) (ret := none) (by decide) rfl ?_
  intro p e s m args below meth c s₁ B hml hv
  obtain ⟨rfl, hsz, hP, hK, hD0, hXX⟩ := hv
  have hx := B.exec
  have hb := B.bytes
  have hr := B.returns
  have hts := atoms_spec (ws := (Cond.code yX2_put cX2_put 3 none :: gw)) B.pre
  have hown : s.vm.findClass RX2 = some m.cls := findClass_of_methodNamed B.named
  have hlocks := B.notSynchronized
  subst hsz
  have hD := hD0.self (sz := s.heap.size)
  generalize hAe : va_A [(h0, .inr (1, [.ref qb, .int rt, .int rc, .int rh, .int rl])), (qb, .inl (cyI, rn, .inl rb))] s.heap.size = A at hD ⊢
  have hA : ∀ q : Nat, s.heap.size ≤ q → A q := fun q h => by rw [← hAe]; exact Or.inr h
  have hS : va_S A s.heap s.heap [] := va_S.rf
  have hl := lv_entry ([.ref h0, .int p1]) (n := 3) (Nat.le_of_ble_eq_true rfl)
  rw [lg_entry_eq]
  generalize (lg_sl ([.ref h0, .int p1]) ++ List.replicate (3 - (lg_sl ([.ref h0, .int p1])).length) Slot.unset).toArray = ls at hl ⊢
  have hl : lv_has ls 3 [(0, .ref h0), (1, .int p1)] := hl
  refine lv_aload_n hx hb dX2_put_0 rfl (lv_at hl 0 rfl) ?_
  refine va_get (D := (dC, dI)) (ci := 1) (v := .int rc) (C := RX2) (T := TX2) (N := 5) hx hb hts (fun w h => gw_b w (iX2 w h)) hown hK hP 0 rfl rfl 2 (by decide) (hts _ (gw_b _ gm_106)) (fun _ h9 => h9) rfl dX2_put_1 ?_
  refine lv_aload_n hx hb dX2_put_4 rfl (lv_at hl 0 rfl) ?_
  refine va_get (D := (dC, dI)) (ci := 1) (v := .int rt) (C := RX2) (T := TX2) (N := 5) hx hb hts (fun w h => gw_b w (iX2 w h)) hown hK hP 0 rfl rfl 1 (by decide) (hts _ (gw_b _ gm_104)) (fun _ h9 => h9) rfl dX2_put_5 ?_
  refine lv_icmp_ge (tgt := 57) hx hb dX2_put_8 (by decide) (fun c_1 => ?_) (fun c_1 => ?_)
  · skip
    have e_rc : (f_X2_put_rc rt rc) = rc := (if_pos c_1)
    have e_rb : (f_X2_put_rb rt rc rh rn rb p1) = rb := (if_pos c_1)
    have hP9 : va_P (dC, dI) vwCl [(h0, .inr (1, [.ref qb, .int rt, .int (f_X2_put_rc rt rc), .int rh, .int rl])), (qb, .inl (cyI, rn, .inl (f_X2_put_rb rt rc rh rn rb p1)))] s.heap := by rw [e_rc, e_rb]; exact hP.sub (ws' := [(h0, .inr (1, [.ref qb, .int rt, .int rc, .int rh, .int rl])), (qb, .inl (cyI, rn, .inl rb))]) [0, 1] rfl
    have hD9 : va_D A [(h0, .inr (1, [.ref qb, .int rt, .int (f_X2_put_rc rt rc), .int rh, .int rl])), (qb, .inl (cyI, rn, .inl (f_X2_put_rb rt rc rh rn rb p1)))] := by rw [e_rc, e_rb]; exact hD.sub (ws' := [(h0, .inr (1, [.ref qb, .int rt, .int rc, .int rh, .int rl])), (qb, .inl (cyI, rn, .inl rb))]) [0, 1] (by decide) rfl
    exact W.vret hx hb hr (fun t ht hW => ⟨⟨(), rfl, trivial, by rw [ht]; exact hP9, hD9⟩, hS.F ht⟩) hS.2.2 dX2_put_57
  · skip
    refine lv_aload_n hx hb dX2_put_11 rfl (lv_at hl 0 rfl) ?_
    refine va_get (D := (dC, dI)) (ci := 1) (v := .int rh) (C := RX2) (T := TX2) (N := 5) hx hb hts (fun w h => gw_b w (iX2 w h)) hown hK hP 0 rfl rfl 3 (by decide) (hts _ (gw_b _ gm_108)) (fun _ h9 => h9) rfl dX2_put_12 ?_
    refine lv_aload_n hx hb dX2_put_15 rfl (lv_at hl 0 rfl) ?_
    refine va_get (D := (dC, dI)) (ci := 1) (v := .int rc) (C := RX2) (T := TX2) (N := 5) hx hb hts (fun w h => gw_b w (iX2 w h)) hown hK hP 0 rfl rfl 2 (by decide) (hts _ (gw_b _ gm_106)) (fun _ h9 => h9) rfl dX2_put_16 ?_
    refine lv_iadd hx hb dX2_put_19 ?_
    refine lv_istore_n (lv' := [(2, .int (rh + rc)), (0, .ref h0), (1, .int p1)]) hx hb dX2_put_20 rfl hl (by decide) rfl (fun ls hl => ?_)
    refine lv_aload_n hx hb dX2_put_21 rfl (lv_at hl 1 rfl) ?_
    refine va_get (D := (dC, dI)) (ci := 1) (v := .ref qb) (C := RX2) (T := TX2) (N := 5) hx hb hts (fun w h => gw_b w (iX2 w h)) hown hK hP 0 rfl rfl 0 (by decide) (hts _ (gw_b _ gm_103)) (fun _ h9 => h9) rfl dX2_put_22 ?_
    refine lv_iload_n hx hb dX2_put_25 rfl (lv_at hl 0 rfl) ?_
    refine lv_aload_n hx hb dX2_put_26 rfl (lv_at hl 1 rfl) ?_
    refine va_get (D := (dC, dI)) (ci := 1) (v := .ref qb) (C := RX2) (T := TX2) (N := 5) hx hb hts (fun w h => gw_b w (iX2 w h)) hown hK hP 0 rfl rfl 0 (by decide) (hts _ (gw_b _ gm_103)) (fun _ h9 => h9) rfl dX2_put_27 ?_
    refine va_alen (D := (dC, dI)) (v := (nI rn)) hx hb hK hP 1 0 rfl rfl rfl dX2_put_30 ?_
    refine lv_icmp_ge (tgt := 38) hx hb dX2_put_31 (by decide) (fun c_2 => ?_) (fun c_2 => ?_)
    · skip
      refine lv_iload_n hx hb dX2_put_38 rfl (lv_at hl 0 rfl) ?_
      refine lv_aload_n hx hb dX2_put_39 rfl (lv_at hl 1 rfl) ?_
      refine va_get (D := (dC, dI)) (ci := 1) (v := .ref qb) (C := RX2) (T := TX2) (N := 5) hx hb hts (fun w h => gw_b w (iX2 w h)) hown hK hP 0 rfl rfl 0 (by decide) (hts _ (gw_b _ gm_103)) (fun _ h9 => h9) rfl dX2_put_40 ?_
      refine va_alen (D := (dC, dI)) (v := (nI rn)) hx hb hK hP 1 0 rfl rfl rfl dX2_put_43 ?_
      refine lv_isub hx hb dX2_put_44 ?_
      refine lv_iload_n hx hb dX2_put_45 rfl (lv_at hl 2 rfl) ?_
      refine va_iast (D := (dC, dI)) hx hb hK hP hD hS 1 0 rfl rfl (ro_2 hk c_1 c_2) dX2_put_46 (fun H locs hP hD hS => ?_)
      have hP : va_P (dC, dI) vwCl [(h0, .inr (1, [.ref qb, .int rt, .int rc, .int rh, .int rl])), (qb, .inl (cyI, rn, .inl (upd rb ((rh + rc) - (nI rn)).toNatClampNeg p1)))] H := hP
      have hD : va_D A [(h0, .inr (1, [.ref qb, .int rt, .int rc, .int rh, .int rl])), (qb, .inl (cyI, rn, .inl (upd rb ((rh + rc) - (nI rn)).toNatClampNeg p1)))] := hD
      refine lv_aload_n hx hb dX2_put_47 rfl (lv_at hl 1 rfl) ?_
      refine lv_dup hx hb dX2_put_48 rfl ?_
      refine va_get (D := (dC, dI)) (ci := 1) (v := .int rc) (C := RX2) (T := TX2) (N := 5) hx hb hts (fun w h => gw_b w (iX2 w h)) hown hK hP 0 rfl rfl 2 (by decide) (hts _ (gw_b _ gm_106)) (fun _ h9 => h9) rfl dX2_put_49 ?_
      refine lv_iconst (v := 1) hx hb dX2_put_52 (by decide) ?_
      refine lv_iadd hx hb dX2_put_53 ?_
      refine va_put (D := (dC, dI)) (ci := 1) (v := .int (rc + 1)) (ty := tyX2 2) (C := RX2) (T := TX2) (N := 5) hx hb hts (fun w h => gw_b w (iX2 w h)) tyX2 tyX2_ok nmX2 hown hK hP hD hS 0 rfl rfl 2 (by decide) (hts _ (gw_b _ gm_106)) (fun _ h9 => h9) rfl (tyX2_ok 2 (by decide)) rfl rfl (Nat.le_of_ble_eq_true rfl) dX2_put_54 (fun H locs hP hD hS => ?_)
      have hP : va_P (dC, dI) vwCl [(h0, .inr (1, [.ref qb, .int rt, .int (rc + 1), .int rh, .int rl])), (qb, .inl (cyI, rn, .inl (upd rb ((rh + rc) - (nI rn)).toNatClampNeg p1)))] H := hP
      have hD : va_D A [(h0, .inr (1, [.ref qb, .int rt, .int (rc + 1), .int rh, .int rl])), (qb, .inl (cyI, rn, .inl (upd rb ((rh + rc) - (nI rn)).toNatClampNeg p1)))] := hD
      have e_rc : (f_X2_put_rc rt rc) = (rc + 1) := (if_neg c_1)
      have e_rb : (f_X2_put_rb rt rc rh rn rb p1) = (upd rb ((rh + rc) - (nI rn)).toNatClampNeg p1) := ((if_neg c_1)).trans (if_pos c_2)
      have hP9 : va_P (dC, dI) vwCl [(h0, .inr (1, [.ref qb, .int rt, .int (f_X2_put_rc rt rc), .int rh, .int rl])), (qb, .inl (cyI, rn, .inl (f_X2_put_rb rt rc rh rn rb p1)))] H := by rw [e_rc, e_rb]; exact hP.sub (ws' := [(h0, .inr (1, [.ref qb, .int rt, .int (rc + 1), .int rh, .int rl])), (qb, .inl (cyI, rn, .inl (upd rb ((rh + rc) - (nI rn)).toNatClampNeg p1)))]) [0, 1] rfl
      have hD9 : va_D A [(h0, .inr (1, [.ref qb, .int rt, .int (f_X2_put_rc rt rc), .int rh, .int rl])), (qb, .inl (cyI, rn, .inl (f_X2_put_rb rt rc rh rn rb p1)))] := by rw [e_rc, e_rb]; exact hD.sub (ws' := [(h0, .inr (1, [.ref qb, .int rt, .int (rc + 1), .int rh, .int rl])), (qb, .inl (cyI, rn, .inl (upd rb ((rh + rc) - (nI rn)).toNatClampNeg p1)))]) [0, 1] (by decide) rfl
      exact W.vret hx hb hr (fun t ht hW => ⟨⟨(), rfl, trivial, by rw [ht]; exact hP9, hD9⟩, hS.F ht⟩) hS.2.2 dX2_put_57
    · skip
      refine lv_iload_n hx hb dX2_put_34 rfl (lv_at hl 0 rfl) ?_
      refine lv_goto (tgt := 45) hx hb dX2_put_35 (by decide) ?_
      refine lv_iload_n hx hb dX2_put_45 rfl (lv_at hl 2 rfl) ?_
      refine va_iast (D := (dC, dI)) hx hb hK hP hD hS 1 0 rfl rfl (ro_1 hk c_1 c_2) dX2_put_46 (fun H locs hP hD hS => ?_)
      have hP : va_P (dC, dI) vwCl [(h0, .inr (1, [.ref qb, .int rt, .int rc, .int rh, .int rl])), (qb, .inl (cyI, rn, .inl (upd rb (rh + rc).toNatClampNeg p1)))] H := hP
      have hD : va_D A [(h0, .inr (1, [.ref qb, .int rt, .int rc, .int rh, .int rl])), (qb, .inl (cyI, rn, .inl (upd rb (rh + rc).toNatClampNeg p1)))] := hD
      refine lv_aload_n hx hb dX2_put_47 rfl (lv_at hl 1 rfl) ?_
      refine lv_dup hx hb dX2_put_48 rfl ?_
      refine va_get (D := (dC, dI)) (ci := 1) (v := .int rc) (C := RX2) (T := TX2) (N := 5) hx hb hts (fun w h => gw_b w (iX2 w h)) hown hK hP 0 rfl rfl 2 (by decide) (hts _ (gw_b _ gm_106)) (fun _ h9 => h9) rfl dX2_put_49 ?_
      refine lv_iconst (v := 1) hx hb dX2_put_52 (by decide) ?_
      refine lv_iadd hx hb dX2_put_53 ?_
      refine va_put (D := (dC, dI)) (ci := 1) (v := .int (rc + 1)) (ty := tyX2 2) (C := RX2) (T := TX2) (N := 5) hx hb hts (fun w h => gw_b w (iX2 w h)) tyX2 tyX2_ok nmX2 hown hK hP hD hS 0 rfl rfl 2 (by decide) (hts _ (gw_b _ gm_106)) (fun _ h9 => h9) rfl (tyX2_ok 2 (by decide)) rfl rfl (Nat.le_of_ble_eq_true rfl) dX2_put_54 (fun H locs hP hD hS => ?_)
      have hP : va_P (dC, dI) vwCl [(h0, .inr (1, [.ref qb, .int rt, .int (rc + 1), .int rh, .int rl])), (qb, .inl (cyI, rn, .inl (upd rb (rh + rc).toNatClampNeg p1)))] H := hP
      have hD : va_D A [(h0, .inr (1, [.ref qb, .int rt, .int (rc + 1), .int rh, .int rl])), (qb, .inl (cyI, rn, .inl (upd rb (rh + rc).toNatClampNeg p1)))] := hD
      have e_rc : (f_X2_put_rc rt rc) = (rc + 1) := (if_neg c_1)
      have e_rb : (f_X2_put_rb rt rc rh rn rb p1) = (upd rb (rh + rc).toNatClampNeg p1) := ((if_neg c_1)).trans (if_neg c_2)
      have hP9 : va_P (dC, dI) vwCl [(h0, .inr (1, [.ref qb, .int rt, .int (f_X2_put_rc rt rc), .int rh, .int rl])), (qb, .inl (cyI, rn, .inl (f_X2_put_rb rt rc rh rn rb p1)))] H := by rw [e_rc, e_rb]; exact hP.sub (ws' := [(h0, .inr (1, [.ref qb, .int rt, .int (rc + 1), .int rh, .int rl])), (qb, .inl (cyI, rn, .inl (upd rb (rh + rc).toNatClampNeg p1)))]) [0, 1] rfl
      have hD9 : va_D A [(h0, .inr (1, [.ref qb, .int rt, .int (f_X2_put_rc rt rc), .int rh, .int rl])), (qb, .inl (cyI, rn, .inl (f_X2_put_rb rt rc rh rn rb p1)))] := by rw [e_rc, e_rb]; exact hD.sub (ws' := [(h0, .inr (1, [.ref qb, .int rt, .int (rc + 1), .int rh, .int rl])), (qb, .inl (cyI, rn, .inl (upd rb (rh + rc).toNatClampNeg p1)))]) [0, 1] (by decide) rfl
      exact W.vret hx hb hr (fun t ht hW => ⟨⟨(), rfl, trivial, by rw [ht]; exact hP9, hD9⟩, hS.F ht⟩) hS.2.2 dX2_put_57
