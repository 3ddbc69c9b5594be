/-- the table of lengths -/
def lenF : Nat → Int32 := fun k => match k with | 0 => 24 | 1 => 1 | 2 => 2 | 3 => 1 | 4 => 1 | 5 => 1 | 6 => 2 | 7 => 1 | _ => 0
/-- what the unit's making needs -/
def wXL (tl : Nat) (A : Nat → Prop) : State → Prop := fun U => va_AO "TwinCores$Row" U ∧ va_Z "TwinCores$Unit" "LENGTHS" "[I" (.ref tl) A U U.heap ∧ va_T .int tl 8 (fun j => .int (lenF j)) A U U.heap
theorem wXL_k {tl : Nat} {A : Nat → Prop} : wXk (wXL tl A) := by
  intro U U' hv hh h
  obtain ⟨h1, h4, h5⟩ := h
  have ha : U.vm.Alike U'.vm := hv ▸ Vm.Alike.refl U.vm
  refine ⟨h1.moved ha, ?_, ?_⟩
  · rw [← hh]; exact va_Z.moved ha h4
  · rw [← hh]; exact va_T.moved ha h5
theorem wXL_w {tl : Nat} {A B : Nat → Prop} {s U : State} {H : Heap} {locs : List Loc} (hW : s.WarmedH U.vm) (hU : U.heap = H) (hS : va_S A s.heap H locs) (hF : ∀ q, B q → A q) (h : wXL tl A s) : wXL tl B U := by
  obtain ⟨h1, h4, h5⟩ := h
  subst hU
  exact ⟨h1.moved hW.alike, ((h4.kept hS.2.1).moved hW.alike).narrow hF, ((h5.kept hS.2.1).moved hW.alike).narrow hF⟩
def f_X2_init_f1 (p2 : Int32) : Int32 := p2
set_option maxHeartbeats 4000000 in
set_option maxRecDepth 100000 in
/-- X2_init -/
theorem c_X2_init (l : Launch) (dC : Nat → ClassId) (dI : Nat → Nat → Nat) (sz : Nat) (h0 : Nat) (cyI : ClassId) (rn : Nat) (p2 : Int32) (hrn : rn ≤ 24) : Met l yX2_init (Cond.code yX2_init cX2_init 3 none :: gw) { frames := 1, cells := 1, slots := 24, locals := 12 } (va_Pc [.ref h0, .int (nI rn), .int p2] (wPre (dC, dI) [(cyI, .int)] [(h0, .inr (1, [.null, .int 0, .int 0, .int 0, .int 0]))] sz wX0)) (va_Qv (fun _ : Nat → Nat => True) (fun u t => wPost (dC, dI) (va_A [(h0, .inr (1, [.null, .int 0, .int 0, .int 0, .int 0]))] sz) [(h0, .inr (1, [.ref (u 0), .int (f_X2_init_f1 p2), .int 0, .int 0, .int 0])), ((u 0), .inl (cyI, rn, .inl (fun _ => 0)))] t) (va_A [(h0, .inr (1, [.null, .int 0, .int 0, .int 0, .int 0]))] sz)) 1 24 (va_A [(h0, .inr (1, [.null, .int 0, .int 0, .int 0, .int 0]))] sz) := by
  refine Met.ofW (cc := cX2_init) (maxL := 3) (ret := none) (by decide) rfl ?_
  intro p e s m args below meth c s₁ B hml hv
  obtain ⟨rfl, hsz, hP, hK, hD0, hXX⟩ := hv
  have hx := B.exec
  have hb := B.bytes
  have hr := B.returns
  have hts := atoms_spec (ws := (Cond.code yX2_init cX2_init 3 none :: gw)) B.pre
  have hown : s.vm.findClass RX2 = some m.cls := findClass_of_methodNamed B.named
  have hlocks := B.notSynchronized
  have hin : meth.name = "<init>" := (name_of_methodNamed B.named B.method).1
  subst hsz
  have hD := hD0.self (sz := s.heap.size)
  generalize hAe : va_A [(h0, .inr (1, [.null, .int 0, .int 0, .int 0, .int 0]))] s.heap.size = A at hD ⊢
  have hA : ∀ q : Nat, s.heap.size ≤ q → A q := fun q h => by rw [← hAe]; exact Or.inr h
  have hS : va_S A s.heap s.heap [] := va_S.rf
  have hl := lv_entry ([.ref h0, .int (nI rn), .int p2]) (n := 3) (Nat.le_of_ble_eq_true rfl)
  rw [lg_entry_eq]
  generalize (lg_sl ([.ref h0, .int (nI rn), .int p2]) ++ List.replicate (3 - (lg_sl ([.ref h0, .int (nI rn), .int p2])).length) Slot.unset).toArray = ls at hl ⊢
  have hl : lv_has ls 3 [(0, .ref h0), (1, .int (nI rn)), (2, .int p2)] := hl
  refine lv_aload_n hx hb dX2_init_0 rfl (lv_at hl 0 rfl) ?_
  refine W.objInit hx hb hown (hts _ (gw_b _ gm_102)) (hts _ (gw_b _ gm_86)) (hts _ (gw_b _ gm_87)) rfl (by rw [hml]; exact hl.1) rfl dX2_init_1 (Nat.le_of_ble_eq_true rfl) (Nat.le_of_ble_eq_true rfl) ?_
  refine W.eq (g2 := F0 m 4 ls []) rfl ?_
  refine lv_aload_n hx hb dX2_init_4 rfl (lv_at hl 0 rfl) ?_
  refine lv_iload_n hx hb dX2_init_5 rfl (lv_at hl 1 rfl) ?_
  refine gn_i (N' := rn) hx hb (hts _ (gw_b _ gm_121)) hK 0 rfl hP hD hS hA (nI_pos (by omega)) (nI_clamp (by omega)) (by omega) (Nat.le_of_ble_eq_true rfl) (show 0 + rn ≤ 24 by omega) dX2_init_6 (fun q_1 H hP hD hS => ?_)
  refine W.widen (k := 1) (n := 24) (by omega) (by omega) ?_
  have hP : va_P (dC, dI) vwCl [(h0, .inr (1, [.null, .int 0, .int 0, .int 0, .int 0])), (q_1, .inl (cyI, rn, .inl (fun _ => 0)))] H := hP
  have hD : va_D A [(h0, .inr (1, [.null, .int 0, .int 0, .int 0, .int 0])), (q_1, .inl (cyI, rn, .inl (fun _ => 0)))] := hD
  refine va_putF (D := (dC, dI)) (ci := 1) (v := .ref q_1) (ty := tyX2 0) (C := RX2) (T := TX2) (N := 5) hx hb hts (fun w h => gw_b w (iX2 w h)) tyX2 tyX2_ok nmX2 hown hK hP hD hS 0 rfl rfl 0 (by decide) (hts _ (gw_b _ gm_103)) (fun _ h9 => h9) rfl hin rfl (tyX2_ok 0 (by decide)) rfl rfl (Nat.le_of_ble_eq_true rfl) dX2_init_8 (fun H locs hP hD hS => ?_)
  have hP : va_P (dC, dI) vwCl [(h0, .inr (1, [.ref q_1, .int 0, .int 0, .int 0, .int 0])), (q_1, .inl (cyI, rn, .inl (fun _ => 0)))] H := hP
  have hD : va_D A [(h0, .inr (1, [.ref q_1, .int 0, .int 0, .int 0, .int 0])), (q_1, .inl (cyI, rn, .inl (fun _ => 0)))] := hD
  refine lv_aload_n hx hb dX2_init_11 rfl (lv_at hl 0 rfl) ?_
  refine lv_iload_n hx hb dX2_init_12 rfl (lv_at hl 2 rfl) ?_
  refine va_put (D := (dC, dI)) (ci := 1) (v := .int p2) (ty := tyX2 1) (C := RX2) (T := TX2) (N := 5) hx hb hts (fun w h => gw_b w (iX2 w h)) tyX2 tyX2_ok nmX2 hown hK hP hD hS 0 rfl rfl 1 (by decide) (hts _ (gw_b _ gm_104)) (fun _ h9 => h9) rfl (tyX2_ok 1 (by decide)) rfl rfl (Nat.le_of_ble_eq_true rfl) dX2_init_13 (fun H locs hP hD hS => ?_)
  have hP : va_P (dC, dI) vwCl [(h0, .inr (1, [.ref q_1, .int p2, .int 0, .int 0, .int 0])), (q_1, .inl (cyI, rn, .inl (fun _ => 0)))] H := hP
  have hD : va_D A [(h0, .inr (1, [.ref q_1, .int p2, .int 0, .int 0, .int 0])), (q_1, .inl (cyI, rn, .inl (fun _ => 0)))] := hD
  have e_f1 : (f_X2_init_f1 p2) = p2 := rfl
  have hP9 : va_P (dC, dI) vwCl [(h0, .inr (1, [.ref ((fun k => [q_1].getD k 0) 0), .int (f_X2_init_f1 p2), .int 0, .int 0, .int 0])), (((fun k => [q_1].getD k 0) 0), .inl (cyI, rn, .inl (fun _ => 0)))] H := by rw [e_f1]; exact hP.sub (ws' := [(h0, .inr (1, [.ref q_1, .int p2, .int 0, .int 0, .int 0])), (q_1, .inl (cyI, rn, .inl (fun _ => 0)))]) [0, 1] rfl
  have hD9 : va_D A [(h0, .inr (1, [.ref ((fun k => [q_1].getD k 0) 0), .int (f_X2_init_f1 p2), .int 0, .int 0, .int 0])), (((fun k => [q_1].getD k 0) 0), .inl (cyI, rn, .inl (fun _ => 0)))] := by rw [e_f1]; exact hD.sub (ws' := [(h0, .inr (1, [.ref q_1, .int p2, .int 0, .int 0, .int 0])), (q_1, .inl (cyI, rn, .inl (fun _ => 0)))]) [0, 1] (by decide) rfl
  exact W.vret hx hb hr (fun t ht hW => ⟨⟨(fun k => [q_1].getD k 0), rfl, trivial, by rw [ht]; exact hP9, hD9⟩, hS.F ht⟩) hS.2.2 dX2_init_16

def f_X1_init_f0 (p1 : Int32) : Int32 := p1
def f_X1_init_f2 (p1 : Int32) : Int32 := (if p1 = 0 then 65248 else 65272)
def f_X1_init_f8  : Int32 := 32
def f_X1_init_f10  : Int32 := 1
set_option maxHeartbeats 4000000 in
set_option maxRecDepth 100000 in
/-- X1_init -/
theorem c_X1_init (l : Launch) (dC : Nat → ClassId) (dI : Nat → Nat → Nat) (sz : Nat) (h0 : Nat) (hu : Nat) (cyI : ClassId) (p1 : Int32)  : Met l yX1_init (Cond.code yX1_init cX1_init 3 none :: gw) { frames := 1, cells := 1, slots := 4096, locals := 12 } (va_Pc [.ref h0, .int p1, .ref hu] (wPre (dC, dI) [(cyI, .int)] [(h0, .inr (0, [.int 0, .null, .int 0, .null, .int 0, .int 0, .int 0, .int 0, .int 0, .int 0, .int 0, .int 0, .long 0]))] sz wX0)) (va_Qv (fun _ : Nat → Nat => True) (fun u t => wPost (dC, dI) (va_A [(h0, .inr (0, [.int 0, .null, .int 0, .null, .int 0, .int 0, .int 0, .int 0, .int 0, .int 0, .int 0, .int 0, .long 0]))] sz) [(h0, .inr (0, [.int (f_X1_init_f0 p1), .ref hu, .int (f_X1_init_f2 p1), .ref (u 0), .int 0, .int 0, .int 0, .int 0, .int f_X1_init_f8, .int 0, .int f_X1_init_f10, .int 0, .long 0])), ((u 0), .inl (cyI, 4096, .inl (fun _ => 0)))] t) (va_A [(h0, .inr (0, [.int 0, .null, .int 0, .null, .int 0, .int 0, .int 0, .int 0, .int 0, .int 0, .int 0, .int 0, .long 0]))] sz)) 1 4096 (va_A [(h0, .inr (0, [.int 0, .null, .int 0, .null, .int 0, .int 0, .int 0, .int 0, .int 0, .int 0, .int 0, .int 0, .long 0]))] sz) := by
  refine Met.ofW (cc := cX1_init) (maxL := 3) (ret := none) (by decide) rfl ?_
  intro p e s m args below meth c s₁ B hml hv
  obtain ⟨rfl, hsz, hP, hK, hD0, hXX⟩ := hv
  have hx := B.exec
  have hb := B.bytes
  have hr := B.returns
  have hts := atoms_spec (ws := (Cond.code yX1_init cX1_init 3 none :: gw)) B.pre
  have hown : s.vm.findClass RX1 = some m.cls := findClass_of_methodNamed B.named
  have hlocks := B.notSynchronized
  have hin : meth.name = "<init>" := (name_of_methodNamed B.named B.method).1
  subst hsz
  have hD := hD0.self (sz := s.heap.size)
  generalize hAe : va_A [(h0, .inr (0, [.int 0, .null, .int 0, .null, .int 0, .int 0, .int 0, .int 0, .int 0, .int 0, .int 0, .int 0, .long 0]))] s.heap.size = A at hD ⊢
  have hA : ∀ q : Nat, s.heap.size ≤ q → A q := fun q h => by rw [← hAe]; exact Or.inr h
  have hS : va_S A s.heap s.heap [] := va_S.rf
  have hl := lv_entry ([.ref h0, .int p1, .ref hu]) (n := 3) (Nat.le_of_ble_eq_true rfl)
  rw [lg_entry_eq]
  generalize (lg_sl ([.ref h0, .int p1, .ref hu]) ++ List.replicate (3 - (lg_sl ([.ref h0, .int p1, .ref hu])).length) Slot.unset).toArray = ls at hl ⊢
  have hl : lv_has ls 3 [(0, .ref h0), (1, .int p1), (2, .ref hu)] := hl
  refine lv_aload_n hx hb dX1_init_0 rfl (lv_at hl 0 rfl) ?_
  refine W.objInit hx hb hown (hts _ (gw_b _ gm_137)) (hts _ (gw_b _ gm_86)) (hts _ (gw_b _ gm_87)) rfl (by rw [hml]; exact hl.1) rfl dX1_init_1 (Nat.le_of_ble_eq_true rfl) (Nat.le_of_ble_eq_true rfl) ?_
  refine W.eq (g2 := F0 m 4 ls []) rfl ?_
  refine lv_aload_n hx hb dX1_init_4 rfl (lv_at hl 0 rfl) ?_
  refine lv_iload_n hx hb dX1_init_5 rfl (lv_at hl 1 rfl) ?_
  refine va_putF (D := (dC, dI)) (ci := 0) (v := .int p1) (ty := tyX1 0) (C := RX1) (T := TX1) (N := 13) hx hb hts (fun w h => gw_b w (iX1 w h)) tyX1 tyX1_ok nmX1 hown hK hP hD hS 0 rfl rfl 0 (by decide) (hts _ (gw_b _ gm_140)) (fun _ h9 => h9) rfl hin rfl (tyX1_ok 0 (by decide)) rfl rfl (Nat.le_of_ble_eq_true rfl) dX1_init_6 (fun H locs hP hD hS => ?_)
  have hP : va_P (dC, dI) vwCl [(h0, .inr (0, [.int p1, .null, .int 0, .null, .int 0, .int 0, .int 0, .int 0, .int 0, .int 0, .int 0, .int 0, .long 0]))] H := hP
  have hD : va_D A [(h0, .inr (0, [.int p1, .null, .int 0, .null, .int 0, .int 0, .int 0, .int 0, .int 0, .int 0, .int 0, .int 0, .long 0]))] := hD
  refine lv_aload_n hx hb dX1_init_9 rfl (lv_at hl 0 rfl) ?_
  refine lv_aload_n hx hb dX1_init_10 rfl (lv_at hl 2 rfl) ?_
  refine va_putF (D := (dC, dI)) (ci := 0) (v := .ref hu) (ty := tyX1 1) (C := RX1) (T := TX1) (N := 13) hx hb hts (fun w h => gw_b w (iX1 w h)) tyX1 tyX1_ok nmX1 hown hK hP hD hS 0 rfl rfl 1 (by decide) (hts _ (gw_b _ gm_141)) (fun _ h9 => h9) rfl hin rfl (tyX1_ok 1 (by decide)) rfl rfl (Nat.le_of_ble_eq_true rfl) dX1_init_11 (fun H locs hP hD hS => ?_)
  have hP : va_P (dC, dI) vwCl [(h0, .inr (0, [.int p1, .ref hu, .int 0, .null, .int 0, .int 0, .int 0, .int 0, .int 0, .int 0, .int 0, .int 0, .long 0]))] H := hP
  have hD : va_D A [(h0, .inr (0, [.int p1, .ref hu, .int 0, .null, .int 0, .int 0, .int 0, .int 0, .int 0, .int 0, .int 0, .int 0, .long 0]))] := hD
  refine lv_aload_n hx hb dX1_init_14 rfl (lv_at hl 0 rfl) ?_
  refine lv_iload_n hx hb dX1_init_15 rfl (lv_at hl 1 rfl) ?_
  refine lv_if_ne (tgt := 24) hx hb dX1_init_16 (by decide) (fun c_1 => ?_) (fun c_1 => ?_)
  · skip
    refine lv_ldc (v := 65272) hx hb hown (hts _ (gw_b _ gm_139)) dX1_init_24 ?_
    refine va_putF (D := (dC, dI)) (ci := 0) (v := .int 65272) (ty := tyX1 2) (C := RX1) (T := TX1) (N := 13) hx hb hts (fun w h => gw_b w (iX1 w h)) tyX1 tyX1_ok nmX1 hown hK hP hD hS 0 rfl rfl 2 (by decide) (hts _ (gw_b _ gm_142)) (fun _ h9 => h9) rfl hin rfl (tyX1_ok 2 (by decide)) rfl rfl (Nat.le_of_ble_eq_true rfl) dX1_init_26 (fun H locs hP hD hS => ?_)
    have hP : va_P (dC, dI) vwCl [(h0, .inr (0, [.int p1, .ref hu, .int 65272, .null, .int 0, .int 0, .int 0, .int 0, .int 0, .int 0, .int 0, .int 0, .long 0]))] H := hP
    have hD : va_D A [(h0, .inr (0, [.int p1, .ref hu, .int 65272, .null, .int 0, .int 0, .int 0, .int 0, .int 0, .int 0, .int 0, .int 0, .long 0]))] := hD
    refine lv_aload_n hx hb dX1_init_29 rfl (lv_at hl 0 rfl) ?_
    refine lv_sipush (v := 4096) hx hb dX1_init_30 (by decide) ?_
    refine gn_i (N' := 4096) hx hb (hts _ (gw_b _ gm_121)) hK 0 rfl hP hD hS hA (by decide) (by decide) (by decide) (Nat.le_of_ble_eq_true rfl) (Nat.le_of_ble_eq_true rfl) dX1_init_33 (fun q_2 H hP hD hS => ?_)
    have hP : va_P (dC, dI) vwCl [(h0, .inr (0, [.int p1, .ref hu, .int 65272, .null, .int 0, .int 0, .int 0, .int 0, .int 0, .int 0, .int 0, .int 0, .long 0])), (q_2, .inl (cyI, 4096, .inl (fun _ => 0)))] H := hP
    have hD : va_D A [(h0, .inr (0, [.int p1, .ref hu, .int 65272, .null, .int 0, .int 0, .int 0, .int 0, .int 0, .int 0, .int 0, .int 0, .long 0])), (q_2, .inl (cyI, 4096, .inl (fun _ => 0)))] := hD
    refine va_putF (D := (dC, dI)) (ci := 0) (v := .ref q_2) (ty := tyX1 3) (C := RX1) (T := TX1) (N := 13) hx hb hts (fun w h => gw_b w (iX1 w h)) tyX1 tyX1_ok nmX1 hown hK hP hD hS 0 rfl rfl 3 (by decide) (hts _ (gw_b _ gm_143)) (fun _ h9 => h9) rfl hin rfl (tyX1_ok 3 (by decide)) rfl rfl (Nat.le_of_ble_eq_true rfl) dX1_init_35 (fun H locs hP hD hS => ?_)
    have hP : va_P (dC, dI) vwCl [(h0, .inr (0, [.int p1, .ref hu, .int 65272, .ref q_2, .int 0, .int 0, .int 0, .int 0, .int 0, .int 0, .int 0, .int 0, .long 0])), (q_2, .inl (cyI, 4096, .inl (fun _ => 0)))] H := hP
    have hD : va_D A [(h0, .inr (0, [.int p1, .ref hu, .int 65272, .ref q_2, .int 0, .int 0, .int 0, .int 0, .int 0, .int 0, .int 0, .int 0, .long 0])), (q_2, .inl (cyI, 4096, .inl (fun _ => 0)))] := hD
    refine lv_aload_n hx hb dX1_init_38 rfl (lv_at hl 0 rfl) ?_
    refine lv_bipush (v := 32) hx hb dX1_init_39 (by decide) ?_
    refine va_put (D := (dC, dI)) (ci := 0) (v := .int 32) (ty := tyX1 8) (C := RX1) (T := TX1) (N := 13) hx hb hts (fun w h => gw_b w (iX1 w h)) tyX1 tyX1_ok nmX1 hown hK hP hD hS 0 rfl rfl 8 (by decide) (hts _ (gw_b _ gm_148)) (fun _ h9 => h9) rfl (tyX1_ok 8 (by decide)) rfl rfl (Nat.le_of_ble_eq_true rfl) dX1_init_41 (fun H locs hP hD hS => ?_)
    have hP : va_P (dC, dI) vwCl [(h0, .inr (0, [.int p1, .ref hu, .int 65272, .ref q_2, .int 0, .int 0, .int 0, .int 0, .int 32, .int 0, .int 0, .int 0, .long 0])), (q_2, .inl (cyI, 4096, .inl (fun _ => 0)))] H := hP
    have hD : va_D A [(h0, .inr (0, [.int p1, .ref hu, .int 65272, .ref q_2, .int 0, .int 0, .int 0, .int 0, .int 32, .int 0, .int 0, .int 0, .long 0])), (q_2, .inl (cyI, 4096, .inl (fun _ => 0)))] := hD
    refine lv_aload_n hx hb dX1_init_44 rfl (lv_at hl 0 rfl) ?_
    refine lv_iconst (v := 1) hx hb dX1_init_45 (by decide) ?_
    refine va_put (D := (dC, dI)) (ci := 0) (v := .int 1) (ty := tyX1 10) (C := RX1) (T := TX1) (N := 13) hx hb hts (fun w h => gw_b w (iX1 w h)) tyX1 tyX1_ok nmX1 hown hK hP hD hS 0 rfl rfl 10 (by decide) (hts _ (gw_b _ gm_150)) (fun _ h9 => h9) rfl (tyX1_ok 10 (by decide)) rfl rfl (Nat.le_of_ble_eq_true rfl) dX1_init_46 (fun H locs hP hD hS => ?_)
    have hP : va_P (dC, dI) vwCl [(h0, .inr (0, [.int p1, .ref hu, .int 65272, .ref q_2, .int 0, .int 0, .int 0, .int 0, .int 32, .int 0, .int 1, .int 0, .long 0])), (q_2, .inl (cyI, 4096, .inl (fun _ => 0)))] H := hP
    have hD : va_D A [(h0, .inr (0, [.int p1, .ref hu, .int 65272, .ref q_2, .int 0, .int 0, .int 0, .int 0, .int 32, .int 0, .int 1, .int 0, .long 0])), (q_2, .inl (cyI, 4096, .inl (fun _ => 0)))] := hD
    have e_f0 : (f_X1_init_f0 p1) = p1 := rfl
    have e_f2 : (f_X1_init_f2 p1) = 65272 := (if_neg c_1)
    have e_f8 : f_X1_init_f8 = 32 := rfl
    have e_f10 : f_X1_init_f10 = 1 := rfl
    have hP9 : va_P (dC, dI) vwCl [(h0, .inr (0, [.int (f_X1_init_f0 p1), .ref hu, .int (f_X1_init_f2 p1), .ref ((fun k => [q_2].getD k 0) 0), .int 0, .int 0, .int 0, .int 0, .int f_X1_init_f8, .int 0, .int f_X1_init_f10, .int 0, .long 0])), (((fun k => [q_2].getD k 0) 0), .inl (cyI, 4096, .inl (fun _ => 0)))] H := by rw [e_f0, e_f2, e_f8, e_f10]; exact hP.sub (ws' := [(h0, .inr (0, [.int p1, .ref hu, .int 65272, .ref q_2, .int 0, .int 0, .int 0, .int 0, .int 32, .int 0, .int 1, .int 0, .long 0])), (q_2, .inl (cyI, 4096, .inl (fun _ => 0)))]) [0, 1] rfl
    have hD9 : va_D A [(h0, .inr (0, [.int (f_X1_init_f0 p1), .ref hu, .int (f_X1_init_f2 p1), .ref ((fun k => [q_2].getD k 0) 0), .int 0, .int 0, .int 0, .int 0, .int f_X1_init_f8, .int 0, .int f_X1_init_f10, .int 0, .long 0])), (((fun k => [q_2].getD k 0) 0), .inl (cyI, 4096, .inl (fun _ => 0)))] := by rw [e_f0, e_f2, e_f8, e_f10]; exact hD.sub (ws' := [(h0, .inr (0, [.int p1, .ref hu, .int 65272, .ref q_2, .int 0, .int 0, .int 0, .int 0, .int 32, .int 0, .int 1, .int 0, .long 0])), (q_2, .inl (cyI, 4096, .inl (fun _ => 0)))]) [0, 1] (by decide) rfl
    exact W.vret hx hb hr (fun t ht hW => ⟨⟨(fun k => [q_2].getD k 0), rfl, trivial, by rw [ht]; exact hP9, hD9⟩, hS.F ht⟩) hS.2.2 dX1_init_49
  · skip
    refine lv_ldc (v := 65248) hx hb hown (hts _ (gw_b _ gm_138)) dX1_init_19 ?_
    refine lv_goto (tgt := 26) hx hb dX1_init_21 (by decide) ?_
    refine va_putF (D := (dC, dI)) (ci := 0) (v := .int 65248) (ty := tyX1 2) (C := RX1) (T := TX1) (N := 13) hx hb hts (fun w h => gw_b w (iX1 w h)) tyX1 tyX1_ok nmX1 hown hK hP hD hS 0 rfl rfl 2 (by decide) (hts _ (gw_b _ gm_142)) (fun _ h9 => h9) rfl hin rfl (tyX1_ok 2 (by decide)) rfl rfl (Nat.le_of_ble_eq_true rfl) dX1_init_26 (fun H locs hP hD hS => ?_)
    have hP : va_P (dC, dI) vwCl [(h0, .inr (0, [.int p1, .ref hu, .int 65248, .null, .int 0, .int 0, .int 0, .int 0, .int 0, .int 0, .int 0, .int 0, .long 0]))] H := hP
    have hD : va_D A [(h0, .inr (0, [.int p1, .ref hu, .int 65248, .null, .int 0, .int 0, .int 0, .int 0, .int 0, .int 0, .int 0, .int 0, .long 0]))] := hD
    refine lv_aload_n hx hb dX1_init_29 rfl (lv_at hl 0 rfl) ?_
    refine lv_sipush (v := 4096) hx hb dX1_init_30 (by decide) ?_
    refine gn_i (N' := 4096) hx hb (hts _ (gw_b _ gm_121)) hK 0 rfl hP hD hS hA (by decide) (by decide) (by decide) (Nat.le_of_ble_eq_true rfl) (Nat.le_of_ble_eq_true rfl) dX1_init_33 (fun q_3 H hP hD hS => ?_)
    have hP : va_P (dC, dI) vwCl [(h0, .inr (0, [.int p1, .ref hu, .int 65248, .null, .int 0, .int 0, .int 0, .int 0, .int 0, .int 0, .int 0, .int 0, .long 0])), (q_3, .inl (cyI, 4096, .inl (fun _ => 0)))] H := hP
    have hD : va_D A [(h0, .inr (0, [.int p1, .ref hu, .int 65248, .null, .int 0, .int 0, .int 0, .int 0, .int 0, .int 0, .int 0, .int 0, .long 0])), (q_3, .inl (cyI, 4096, .inl (fun _ => 0)))] := hD
    refine va_putF (D := (dC, dI)) (ci := 0) (v := .ref q_3) (ty := tyX1 3) (C := RX1) (T := TX1) (N := 13) hx hb hts (fun w h => gw_b w (iX1 w h)) tyX1 tyX1_ok nmX1 hown hK hP hD hS 0 rfl rfl 3 (by decide) (hts _ (gw_b _ gm_143)) (fun _ h9 => h9) rfl hin rfl (tyX1_ok 3 (by decide)) rfl rfl (Nat.le_of_ble_eq_true rfl) dX1_init_35 (fun H locs hP hD hS => ?_)
    have hP : va_P (dC, dI) vwCl [(h0, .inr (0, [.int p1, .ref hu, .int 65248, .ref q_3, .int 0, .int 0, .int 0, .int 0, .int 0, .int 0, .int 0, .int 0, .long 0])), (q_3, .inl (cyI, 4096, .inl (fun _ => 0)))] H := hP
    have hD : va_D A [(h0, .inr (0, [.int p1, .ref hu, .int 65248, .ref q_3, .int 0, .int 0, .int 0, .int 0, .int 0, .int 0, .int 0, .int 0, .long 0])), (q_3, .inl (cyI, 4096, .inl (fun _ => 0)))] := hD
    refine lv_aload_n hx hb dX1_init_38 rfl (lv_at hl 0 rfl) ?_
    refine lv_bipush (v := 32) hx hb dX1_init_39 (by decide) ?_
    refine va_put (D := (dC, dI)) (ci := 0) (v := .int 32) (ty := tyX1 8) (C := RX1) (T := TX1) (N := 13) hx hb hts (fun w h => gw_b w (iX1 w h)) tyX1 tyX1_ok nmX1 hown hK hP hD hS 0 rfl rfl 8 (by decide) (hts _ (gw_b _ gm_148)) (fun _ h9 => h9) rfl (tyX1_ok 8 (by decide)) rfl rfl (Nat.le_of_ble_eq_true rfl) dX1_init_41 (fun H locs hP hD hS => ?_)
    have hP : va_P (dC, dI) vwCl [(h0, .inr (0, [.int p1, .ref hu, .int 65248, .ref q_3, .int 0, .int 0, .int 0, .int 0, .int 32, .int 0, .int 0, .int 0, .long 0])), (q_3, .inl (cyI, 4096, .inl (fun _ => 0)))] H := hP
    have hD : va_D A [(h0, .inr (0, [.int p1, .ref hu, .int 65248, .ref q_3, .int 0, .int 0, .int 0, .int 0, .int 32, .int 0, .int 0, .int 0, .long 0])), (q_3, .inl (cyI, 4096, .inl (fun _ => 0)))] := hD
    refine lv_aload_n hx hb dX1_init_44 rfl (lv_at hl 0 rfl) ?_
    refine lv_iconst (v := 1) hx hb dX1_init_45 (by decide) ?_
    refine va_put (D := (dC, dI)) (ci := 0) (v := .int 1) (ty := tyX1 10) (C := RX1) (T := TX1) (N := 13) hx hb hts (fun w h => gw_b w (iX1 w h)) tyX1 tyX1_ok nmX1 hown hK hP hD hS 0 rfl rfl 10 (by decide) (hts _ (gw_b _ gm_150)) (fun _ h9 => h9) rfl (tyX1_ok 10 (by decide)) rfl rfl (Nat.le_of_ble_eq_true rfl) dX1_init_46 (fun H locs hP hD hS => ?_)
    have hP : va_P (dC, dI) vwCl [(h0, .inr (0, [.int p1, .ref hu, .int 65248, .ref q_3, .int 0, .int 0, .int 0, .int 0, .int 32, .int 0, .int 1, .int 0, .long 0])), (q_3, .inl (cyI, 4096, .inl (fun _ => 0)))] H := hP
    have hD : va_D A [(h0, .inr (0, [.int p1, .ref hu, .int 65248, .ref q_3, .int 0, .int 0, .int 0, .int 0, .int 32, .int 0, .int 1, .int 0, .long 0])), (q_3, .inl (cyI, 4096, .inl (fun _ => 0)))] := hD
    have e_f0 : (f_X1_init_f0 p1) = p1 := rfl
    have e_f2 : (f_X1_init_f2 p1) = 65248 := (if_pos c_1)
    have e_f8 : f_X1_init_f8 = 32 := rfl
    have e_f10 : f_X1_init_f10 = 1 := rfl
    have hP9 : va_P (dC, dI) vwCl [(h0, .inr (0, [.int (f_X1_init_f0 p1), .ref hu, .int (f_X1_init_f2 p1), .ref ((fun k => [q_3].getD k 0) 0), .int 0, .int 0, .int 0, .int 0, .int f_X1_init_f8, .int 0, .int f_X1_init_f10, .int 0, .long 0])), (((fun k => [q_3].getD k 0) 0), .inl (cyI, 4096, .inl (fun _ => 0)))] H := by rw [e_f0, e_f2, e_f8, e_f10]; exact hP.sub (ws' := [(h0, .inr (0, [.int p1, .ref hu, .int 65248, .ref q_3, .int 0, .int 0, .int 0, .int 0, .int 32, .int 0, .int 1, .int 0, .long 0])), (q_3, .inl (cyI, 4096, .inl (fun _ => 0)))]) [0, 1] rfl
    have hD9 : va_D A [(h0, .inr (0, [.int (f_X1_init_f0 p1), .ref hu, .int (f_X1_init_f2 p1), .ref ((fun k => [q_3].getD k 0) 0), .int 0, .int 0, .int 0, .int 0, .int f_X1_init_f8, .int 0, .int f_X1_init_f10, .int 0, .long 0])), (((fun k => [q_3].getD k 0) 0), .inl (cyI, 4096, .inl (fun _ => 0)))] := by rw [e_f0, e_f2, e_f8, e_f10]; exact hD.sub (ws' := [(h0, .inr (0, [.int p1, .ref hu, .int 65248, .ref q_3, .int 0, .int 0, .int 0, .int 0, .int 32, .int 0, .int 1, .int 0, .long 0])), (q_3, .inl (cyI, 4096, .inl (fun _ => 0)))]) [0, 1] (by decide) rfl
    exact W.vret hx hb hr (fun t ht hW => ⟨⟨(fun k => [q_3].getD k 0), rfl, trivial, by rw [ht]; exact hP9, hD9⟩, hS.F ht⟩) hS.2.2 dX1_init_49
