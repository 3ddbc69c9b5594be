def f_X1_kept_r (mem : Nat → Int32) (p1 : Int32) : Int32 := (mem (p1 &&& 4095).toNatClampNeg)
set_option maxHeartbeats 4000000 in
set_option maxRecDepth 100000 in
/-- X1_kept -/
theorem c_X1_kept (l : Launch) (dC : Nat → ClassId) (dI : Nat → Nat → Nat) (sz : Nat) (h0 : Nat) (hu : Nat) (hm : Nat) (fn : Int32) (fo : Int32) (fa : Int32) (fx : Int32) (fy : Int32) (fs : Int32) (fp : Int32) (fc : Int32) (fd : Int32) (fb : Int32) (fz : Int64) (cyI : ClassId) (mem : Nat → Int32) (p1 : Int32)  : Met l yX1_kept (Cond.code yX1_kept cX1_kept 2 (some .int) :: gw) { frames := 0, cells := 0, slots := 0, locals := 0 } (va_Pc [.ref h0, .int p1] (wPre (dC, dI) [(cyI, .int)] [(h0, .inr (0, [.int fn, .ref hu, .int fo, .ref hm, .int fa, .int fx, .int fy, .int fs, .int fp, .int fc, .int fd, .int fb, .long fz])), (hm, .inl (cyI, 4096, .inl mem))] sz wX0)) (va_Qi (fun (r : Int32) (_ : Unit) => r = (f_X1_kept_r mem p1)) (fun _ t => wPost (dC, dI) (va_A [(h0, .inr (0, [.int fn, .ref hu, .int fo, .ref hm, .int fa, .int fx, .int fy, .int fs, .int fp, .int fc, .int fd, .int fb, .long fz])), (hm, .inl (cyI, 4096, .inl mem))] sz) [(h0, .inr (0, [.int fn, .ref hu, .int fo, .ref hm, .int fa, .int fx, .int fy, .int fs, .int fp, .int fc, .int fd, .int fb, .long fz])), (hm, .inl (cyI, 4096, .inl mem))] t) (va_A [(h0, .inr (0, [.int fn, .ref hu, .int fo, .ref hm, .int fa, .int fx, .int fy, .int fs, .int fp, .int fc, .int fd, .int fb, .long fz])), (hm, .inl (cyI, 4096, .inl mem))] sz)) 0 0 (va_A [(h0, .inr (0, [.int fn, .ref hu, .int fo, .ref hm, .int fa, .int fx, .int fy, .int fs, .int fp, .int fc, .int fd, .int fb, .long fz])), (hm, .inl (cyI, 4096, .inl mem))] sz) := by
  refine Met.ofW (cc := cX1_kept) (maxL := 2) (ret := (some .int)) (by decide) rfl ?_
  intro p e s m args below meth c s₁ B hml hv
  obtain ⟨rfl, hsz, hP, hK, hD0, hXX⟩ := hv
  have hx := B.exec
  have hb := B.bytes
  have hr := B.returns
  have hts := atoms_spec (ws := (Cond.code yX1_kept cX1_kept 2 (some .int) :: gw)) B.pre
  have hown : s.vm.findClass RX1 = some m.cls := findClass_of_methodNamed B.named
  have hlocks := B.notSynchronized
  subst hsz
  have hD := hD0.self (sz := s.heap.size)
  generalize hAe : va_A [(h0, .inr (0, [.int fn, .ref hu, .int fo, .ref hm, .int fa, .int fx, .int fy, .int fs, .int fp, .int fc, .int fd, .int fb, .long fz])), (hm, .inl (cyI, 4096, .inl mem))] s.heap.size = A at hD ⊢
  have hA : ∀ q : Nat, s.heap.size ≤ q → A q := fun q h => by rw [← hAe]; exact Or.inr h
  have hS : va_S A s.heap s.heap [] := va_S.rf
  have hl := lv_entry ([.ref h0, .int p1]) (n := 2) (Nat.le_of_ble_eq_true rfl)
  rw [lg_entry_eq]
  generalize (lg_sl ([.ref h0, .int p1]) ++ List.replicate (2 - (lg_sl ([.ref h0, .int p1])).length) Slot.unset).toArray = ls at hl ⊢
  have hl : lv_has ls 2 [(0, .ref h0), (1, .int p1)] := hl
  refine lv_aload_n hx hb dX1_kept_0 rfl (lv_at hl 0 rfl) ?_
  refine va_get (D := (dC, dI)) (ci := 0) (v := .ref hm) (C := RX1) (T := TX1) (N := 13) hx hb hts (fun w h => gw_b w (iX1 w h)) hown hK hP 0 rfl rfl 3 (by decide) (hts _ (gw_b _ gm_143)) (fun _ h9 => h9) rfl dX1_kept_1 ?_
  refine lv_iload_n hx hb dX1_kept_4 rfl (lv_at hl 1 rfl) ?_
  refine lv_sipush (v := 4095) hx hb dX1_kept_5 (by decide) ?_
  refine lv_iand hx hb dX1_kept_8 ?_
  refine va_iald (D := (dC, dI)) hx hb hK hP 1 0 rfl rfl (pk_andIn p1 (m := 4095) 12 (by decide) (by decide)) dX1_kept_9 ?_
  have hP9 : va_P (dC, dI) vwCl [(h0, .inr (0, [.int fn, .ref hu, .int fo, .ref hm, .int fa, .int fx, .int fy, .int fs, .int fp, .int fc, .int fd, .int fb, .long fz])), (hm, .inl (cyI, 4096, .inl mem))] s.heap := by exact hP.sub (ws' := [(h0, .inr (0, [.int fn, .ref hu, .int fo, .ref hm, .int fa, .int fx, .int fy, .int fs, .int fp, .int fc, .int fd, .int fb, .long fz])), (hm, .inl (cyI, 4096, .inl mem))]) [0, 1] rfl
  have hD9 : va_D A [(h0, .inr (0, [.int fn, .ref hu, .int fo, .ref hm, .int fa, .int fx, .int fy, .int fs, .int fp, .int fc, .int fd, .int fb, .long fz])), (hm, .inl (cyI, 4096, .inl mem))] := by exact hD.sub (ws' := [(h0, .inr (0, [.int fn, .ref hu, .int fo, .ref hm, .int fa, .int fx, .int fy, .int fs, .int fp, .int fc, .int fd, .int fb, .long fz])), (hm, .inl (cyI, 4096, .inl mem))]) [0, 1] (by decide) rfl
  exact W.iret (v := (mem (p1 &&& 4095).toNatClampNeg)) hx hb hr (fun t ht hW => ⟨⟨(mem (p1 &&& 4095).toNatClampNeg), (), rfl, Eq.symm (rfl : (f_X1_kept_r mem p1) = (mem (p1 &&& 4095).toNatClampNeg)), by rw [ht]; exact hP9, hD9⟩, hS.F ht⟩) hS.2.2 dX1_kept_10

def f_X1_keptWord_r (mem : Nat → Int32) (p1 : Int32) : Int32 := (((f_X1_kept_r mem (p1 + 1)) <<< ((8 : Int32) &&& 31)) ||| (f_X1_kept_r mem p1))
set_option maxHeartbeats 4000000 in
set_option maxRecDepth 100000 in
/-- X1_keptWord -/
theorem c_X1_keptWord (l : Launch) (dC : Nat → ClassId) (dI : Nat → Nat → Nat) (sz : Nat) (h0 : Nat) (hu : Nat) (hm : Nat) (fn : Int32) (fo : Int32) (fa : Int32) (fx : Int32) (fy : Int32) (fs : Int32) (fp : Int32) (fc : Int32) (fd : Int32) (fb : Int32) (fz : Int64) (cyI : ClassId) (mem : Nat → Int32) (p1 : Int32)  : Met l yX1_keptWord (Cond.code yX1_keptWord cX1_keptWord 2 (some .int) :: gw) { frames := 1, cells := 0, slots := 0, locals := 21 } (va_Pc [.ref h0, .int p1] (wPre (dC, dI) [(cyI, .int)] [(h0, .inr (0, [.int fn, .ref hu, .int fo, .ref hm, .int fa, .int fx, .int fy, .int fs, .int fp, .int fc, .int fd, .int fb, .long fz])), (hm, .inl (cyI, 4096, .inl mem))] sz wX0)) (va_Qi (fun (r : Int32) (_ : Unit) => r = (f_X1_keptWord_r mem p1)) (fun _ t => wPost (dC, dI) (va_A [(h0, .inr (0, [.int fn, .ref hu, .int fo, .ref hm, .int fa, .int fx, .int fy, .int fs, .int fp, .int fc, .int fd, .int fb, .long fz])), (hm, .inl (cyI, 4096, .inl mem))] sz) [(h0, .inr (0, [.int fn, .ref hu, .int fo, .ref hm, .int fa, .int fx, .int fy, .int fs, .int fp, .int fc, .int fd, .int fb, .long fz])), (hm, .inl (cyI, 4096, .inl mem))] t) (va_A [(h0, .inr (0, [.int fn, .ref hu, .int fo, .ref hm, .int fa, .int fx, .int fy, .int fs, .int fp, .int fc, .int fd, .int fb, .long fz])), (hm, .inl (cyI, 4096, .inl mem))] sz)) 0 0 (va_A [(h0, .inr (0, [.int fn, .ref hu, .int fo, .ref hm, .int fa, .int fx, .int fy, .int fs, .int fp, .int fc, .int fd, .int fb, .long fz])), (hm, .inl (cyI, 4096, .inl mem))] sz) := by
  refine Met.ofW (cc := cX1_keptWord) (maxL := 2) (ret := (some .int)) (by decide) rfl ?_
  intro p e s m args below meth c s₁ B hml hv
  obtain ⟨rfl, hsz, hP, hK, hD0, hXX⟩ := hv
  have hx := B.exec
  have hb := B.bytes
  have hr := B.returns
  have hts := atoms_spec (ws := (Cond.code yX1_keptWord cX1_keptWord 2 (some .int) :: gw)) B.pre
  have hown : s.vm.findClass RX1 = some m.cls := findClass_of_methodNamed B.named
  have hlocks := B.notSynchronized
  subst hsz
  have hD := hD0.self (sz := s.heap.size)
  generalize hAe : va_A [(h0, .inr (0, [.int fn, .ref hu, .int fo, .ref hm, .int fa, .int fx, .int fy, .int fs, .int fp, .int fc, .int fd, .int fb, .long fz])), (hm, .inl (cyI, 4096, .inl mem))] s.heap.size = A at hD ⊢
  have hA : ∀ q : Nat, s.heap.size ≤ q → A q := fun q h => by rw [← hAe]; exact Or.inr h
  have hS : va_S A s.heap s.heap [] := va_S.rf
  have hl := lv_entry ([.ref h0, .int p1]) (n := 2) (Nat.le_of_ble_eq_true rfl)
  rw [lg_entry_eq]
  generalize (lg_sl ([.ref h0, .int p1]) ++ List.replicate (2 - (lg_sl ([.ref h0, .int p1])).length) Slot.unset).toArray = ls at hl ⊢
  have hl : lv_has ls 2 [(0, .ref h0), (1, .int p1)] := hl
  refine lv_aload_n hx hb dX1_keptWord_0 rfl (lv_at hl 0 rfl) ?_
  refine lv_iload_n hx hb dX1_keptWord_1 rfl (lv_at hl 1 rfl) ?_
  refine lv_iconst (v := 1) hx hb dX1_keptWord_2 (by decide) ?_
  refine lv_iadd hx hb dX1_keptWord_3 ?_
  refine gc_i (wr := []) (w1 := [(h0, .inr (0, [.int fn, .ref hu, .int fo, .ref hm, .int fa, .int fx, .int fy, .int fs, .int fp, .int fc, .int fd, .int fb, .long fz])), (hm, .inl (cyI, 4096, .inl mem))]) (gcV (As := [.int (p1 + 1)]) (rest := []) ⟨hx, hb, hml, hown, hts⟩ (c_X1_kept l dC dI s.heap.size h0 hu hm fn fo fa fx fy fs fp fc fd fb fz cyI mem (p1 + 1)) (cwV 1 hts (gw_V gw_b gm_352 gm_333 gm_334 gm_71 gm_335) rfl rfl rfl (by decide +kernel) ⟨Nat.le_of_ble_eq_true rfl, Nat.le_of_ble_eq_true rfl⟩) hK [0] rfl hP hD [0, 1] rfl rfl rfl rfl wX0_k (fun _ _ _ => trivial) rfl rfl hl.1 rfl (lv_room (Nat.le_of_ble_eq_true rfl)) dX1_keptWord_4 ⟨Nat.le_of_ble_eq_true rfl, Nat.le_of_ble_eq_true rfl⟩) hP hD hS hA [0, 1] [] rfl rfl rfl (by decide) (fun H locs hP hD hS => ?_)
  have hP : va_P (dC, dI) vwCl [(h0, .inr (0, [.int fn, .ref hu, .int fo, .ref hm, .int fa, .int fx, .int fy, .int fs, .int fp, .int fc, .int fd, .int fb, .long fz])), (hm, .inl (cyI, 4096, .inl mem))] H := hP
  have hD : va_D A [(h0, .inr (0, [.int fn, .ref hu, .int fo, .ref hm, .int fa, .int fx, .int fy, .int fs, .int fp, .int fc, .int fd, .int fb, .long fz])), (hm, .inl (cyI, 4096, .inl mem))] := hD
  refine lv_bipush (v := 8) hx hb dX1_keptWord_7 (by decide) ?_
  refine lv_ishl hx hb dX1_keptWord_9 ?_
  refine lv_aload_n hx hb dX1_keptWord_10 rfl (lv_at hl 0 rfl) ?_
  refine lv_iload_n hx hb dX1_keptWord_11 rfl (lv_at hl 1 rfl) ?_
  refine gc_i (wr := []) (w1 := [(h0, .inr (0, [.int fn, .ref hu, .int fo, .ref hm, .int fa, .int fx, .int fy, .int fs, .int fp, .int fc, .int fd, .int fb, .long fz])), (hm, .inl (cyI, 4096, .inl mem))]) (gcV (As := [.int p1]) (rest := [.int ((f_X1_kept_r mem (p1 + 1)) <<< ((8 : Int32) &&& 31))]) ⟨hx, hb, hml, hown, hts⟩ (c_X1_kept l dC dI H.size h0 hu hm fn fo fa fx fy fs fp fc fd fb fz cyI mem p1) (cwV 1 hts (gw_V gw_b gm_352 gm_333 gm_334 gm_71 gm_335) rfl rfl rfl (by decide +kernel) ⟨Nat.le_of_ble_eq_true rfl, Nat.le_of_ble_eq_true rfl⟩) hK [0] rfl hP hD [0, 1] rfl rfl rfl rfl wX0_k (fun _ _ _ => trivial) rfl rfl hl.1 rfl (lv_room (Nat.le_of_ble_eq_true rfl)) dX1_keptWord_12 ⟨Nat.le_of_ble_eq_true rfl, Nat.le_of_ble_eq_true rfl⟩) hP hD hS hA [0, 1] [] rfl rfl rfl (by decide) (fun H locs hP hD hS => ?_)
  have hP : va_P (dC, dI) vwCl [(h0, .inr (0, [.int fn, .ref hu, .int fo, .ref hm, .int fa, .int fx, .int fy, .int fs, .int fp, .int fc, .int fd, .int fb, .long fz])), (hm, .inl (cyI, 4096, .inl mem))] H := hP
  have hD : va_D A [(h0, .inr (0, [.int fn, .ref hu, .int fo, .ref hm, .int fa, .int fx, .int fy, .int fs, .int fp, .int fc, .int fd, .int fb, .long fz])), (hm, .inl (cyI, 4096, .inl mem))] := hD
  refine lv_ior hx hb dX1_keptWord_15 ?_
  have hP9 : va_P (dC, dI) vwCl [(h0, .inr (0, [.int fn, .ref hu, .int fo, .ref hm, .int fa, .int fx, .int fy, .int fs, .int fp, .int fc, .int fd, .int fb, .long fz])), (hm, .inl (cyI, 4096, .inl mem))] H := by exact hP.sub (ws' := [(h0, .inr (0, [.int fn, .ref hu, .int fo, .ref hm, .int fa, .int fx, .int fy, .int fs, .int fp, .int fc, .int fd, .int fb, .long fz])), (hm, .inl (cyI, 4096, .inl mem))]) [0, 1] rfl
  have hD9 : va_D A [(h0, .inr (0, [.int fn, .ref hu, .int fo, .ref hm, .int fa, .int fx, .int fy, .int fs, .int fp, .int fc, .int fd, .int fb, .long fz])), (hm, .inl (cyI, 4096, .inl mem))] := by exact hD.sub (ws' := [(h0, .inr (0, [.int fn, .ref hu, .int fo, .ref hm, .int fa, .int fx, .int fy, .int fs, .int fp, .int fc, .int fd, .int fb, .long fz])), (hm, .inl (cyI, 4096, .inl mem))]) [0, 1] (by decide) rfl
  exact W.iret (v := (((f_X1_kept_r mem (p1 + 1)) <<< ((8 : Int32) &&& 31)) ||| (f_X1_kept_r mem p1))) hx hb hr (fun t ht hW => ⟨⟨(((f_X1_kept_r mem (p1 + 1)) <<< ((8 : Int32) &&& 31)) ||| (f_X1_kept_r mem p1)), (), rfl, Eq.symm (rfl : (f_X1_keptWord_r mem p1) = (((f_X1_kept_r mem (p1 + 1)) <<< ((8 : Int32) &&& 31)) ||| (f_X1_kept_r mem p1))), by rw [ht]; exact hP9, hD9⟩, hS.F ht⟩) hS.2.2 dX1_keptWord_16

def f_X1_push_fs (fs : Int32) : Int32 := ((fs - 1) &&& 255)
def f_X1_push_mem (fs : Int32) (mem : Nat → Int32) (p1 : Int32) : Nat → Int32 := (upd mem ((256 + fs) &&& 4095).toNatClampNeg (p1 &&& 255))
set_option maxHeartbeats 4000000 in
set_option maxRecDepth 100000 in
/-- X1_push -/
theorem c_X1_push (l : Launch) (dC : Nat → ClassId) (dI : Nat → Nat → Nat) (sz : Nat) (h0 : Nat) (hu : Nat) (hm : Nat) (fn : Int32) (fo : Int32) (fa : Int32) (fx : Int32) (fy : Int32) (fs : Int32) (fp : Int32) (fc : Int32) (fd : Int32) (fb : Int32) (fz : Int64) (cyI : ClassId) (mem : Nat → Int32) (p1 : Int32)  : Met l yX1_push (Cond.code yX1_push cX1_push 2 none :: gw) { frames := 0, cells := 0, slots := 0, locals := 0 } (va_Pc [.ref h0, .int p1] (wPre (dC, dI) [(cyI, .int)] [(h0, .inr (0, [.int fn, .ref hu, .int fo, .ref hm, .int fa, .int fx, .int fy, .int fs, .int fp, .int fc, .int fd, .int fb, .long fz])), (hm, .inl (cyI, 4096, .inl mem))] sz wX0)) (va_Qv (fun _ : Unit => True) (fun _ t => wPost (dC, dI) (va_A [(h0, .inr (0, [.int fn, .ref hu, .int fo, .ref hm, .int fa, .int fx, .int fy, .int fs, .int fp, .int fc, .int fd, .int fb, .long fz])), (hm, .inl (cyI, 4096, .inl mem))] sz) [(h0, .inr (0, [.int fn, .ref hu, .int fo, .ref hm, .int fa, .int fx, .int fy, .int (f_X1_push_fs fs), .int fp, .int fc, .int fd, .int fb, .long fz])), (hm, .inl (cyI, 4096, .inl (f_X1_push_mem fs mem p1)))] t) (va_A [(h0, .inr (0, [.int fn, .ref hu, .int fo, .ref hm, .int fa, .int fx, .int fy, .int fs, .int fp, .int fc, .int fd, .int fb, .long fz])), (hm, .inl (cyI, 4096, .inl mem))] sz)) 0 0 (va_A [(h0, .inr (0, [.int fn, .ref hu, .int fo, .ref hm, .int fa, .int fx, .int fy, .int fs, .int fp, .int fc, .int fd, .int fb, .long fz])), (hm, .inl (cyI, 4096, .inl mem))] sz) := by
  refine Met.ofW (cc := cX1_push) (maxL := 2) (ret := none) (by decide) rfl ?_
  intro p e s m args below meth c s₁ B hml hv
  obtain ⟨rfl, hsz, hP, hK, hD0, hXX⟩ := hv
  have hx := B.exec
  have hb := B.bytes
  have hr := B.returns
  have hts := atoms_spec (ws := (Cond.code yX1_push cX1_push 2 none :: gw)) B.pre
  have hown : s.vm.findClass RX1 = some m.cls := findClass_of_methodNamed B.named
  have hlocks := B.notSynchronized
  subst hsz
  have hD := hD0.self (sz := s.heap.size)
  generalize hAe : va_A [(h0, .inr (0, [.int fn, .ref hu, .int fo, .ref hm, .int fa, .int fx, .int fy, .int fs, .int fp, .int fc, .int fd, .int fb, .long fz])), (hm, .inl (cyI, 4096, .inl mem))] s.heap.size = A at hD ⊢
  have hA : ∀ q : Nat, s.heap.size ≤ q → A q := fun q h => by rw [← hAe]; exact Or.inr h
  have hS : va_S A s.heap s.heap [] := va_S.rf
  have hl := lv_entry ([.ref h0, .int p1]) (n := 2) (Nat.le_of_ble_eq_true rfl)
  rw [lg_entry_eq]
  generalize (lg_sl ([.ref h0, .int p1]) ++ List.replicate (2 - (lg_sl ([.ref h0, .int p1])).length) Slot.unset).toArray = ls at hl ⊢
  have hl : lv_has ls 2 [(0, .ref h0), (1, .int p1)] := hl
  refine lv_aload_n hx hb dX1_push_0 rfl (lv_at hl 0 rfl) ?_
  refine va_get (D := (dC, dI)) (ci := 0) (v := .ref hm) (C := RX1) (T := TX1) (N := 13) hx hb hts (fun w h => gw_b w (iX1 w h)) hown hK hP 0 rfl rfl 3 (by decide) (hts _ (gw_b _ gm_143)) (fun _ h9 => h9) rfl dX1_push_1 ?_
  refine lv_sipush (v := 256) hx hb dX1_push_4 (by decide) ?_
  refine lv_aload_n hx hb dX1_push_7 rfl (lv_at hl 0 rfl) ?_
  refine va_get (D := (dC, dI)) (ci := 0) (v := .int fs) (C := RX1) (T := TX1) (N := 13) hx hb hts (fun w h => gw_b w (iX1 w h)) hown hK hP 0 rfl rfl 7 (by decide) (hts _ (gw_b _ gm_147)) (fun _ h9 => h9) rfl dX1_push_8 ?_
  refine lv_iadd hx hb dX1_push_11 ?_
  refine lv_sipush (v := 4095) hx hb dX1_push_12 (by decide) ?_
  refine lv_iand hx hb dX1_push_15 ?_
  refine lv_iload_n hx hb dX1_push_16 rfl (lv_at hl 1 rfl) ?_
  refine lv_sipush (v := 255) hx hb dX1_push_17 (by decide) ?_
  refine lv_iand hx hb dX1_push_20 ?_
  refine va_iast (D := (dC, dI)) hx hb hK hP hD hS 1 0 rfl rfl (pk_andIn (256 + fs) (m := 4095) 12 (by decide) (by decide)) dX1_push_21 (fun H locs hP hD hS => ?_)
  have hP : va_P (dC, dI) vwCl [(h0, .inr (0, [.int fn, .ref hu, .int fo, .ref hm, .int fa, .int fx, .int fy, .int fs, .int fp, .int fc, .int fd, .int fb, .long fz])), (hm, .inl (cyI, 4096, .inl (upd mem ((256 + fs) &&& 4095).toNatClampNeg (p1 &&& 255))))] H := hP
  have hD : va_D A [(h0, .inr (0, [.int fn, .ref hu, .int fo, .ref hm, .int fa, .int fx, .int fy, .int fs, .int fp, .int fc, .int fd, .int fb, .long fz])), (hm, .inl (cyI, 4096, .inl (upd mem ((256 + fs) &&& 4095).toNatClampNeg (p1 &&& 255))))] := hD
  refine lv_aload_n hx hb dX1_push_22 rfl (lv_at hl 0 rfl) ?_
  refine lv_aload_n hx hb dX1_push_23 rfl (lv_at hl 0 rfl) ?_
  refine va_get (D := (dC, dI)) (ci := 0) (v := .int fs) (C := RX1) (T := TX1) (N := 13) hx hb hts (fun w h => gw_b w (iX1 w h)) hown hK hP 0 rfl rfl 7 (by decide) (hts _ (gw_b _ gm_147)) (fun _ h9 => h9) rfl dX1_push_24 ?_
  refine lv_iconst (v := 1) hx hb dX1_push_27 (by decide) ?_
  refine lv_isub hx hb dX1_push_28 ?_
  refine lv_sipush (v := 255) hx hb dX1_push_29 (by decide) ?_
  refine lv_iand hx hb dX1_push_32 ?_
  refine va_put (D := (dC, dI)) (ci := 0) (v := .int ((fs - 1) &&& 255)) (ty := tyX1 7) (C := RX1) (T := TX1) (N := 13) hx hb hts (fun w h => gw_b w (iX1 w h)) tyX1 tyX1_ok nmX1 hown hK hP hD hS 0 rfl rfl 7 (by decide) (hts _ (gw_b _ gm_147)) (fun _ h9 => h9) rfl (tyX1_ok 7 (by decide)) rfl rfl (Nat.le_of_ble_eq_true rfl) dX1_push_33 (fun H locs hP hD hS => ?_)
  have hP : va_P (dC, dI) vwCl [(h0, .inr (0, [.int fn, .ref hu, .int fo, .ref hm, .int fa, .int fx, .int fy, .int ((fs - 1) &&& 255), .int fp, .int fc, .int fd, .int fb, .long fz])), (hm, .inl (cyI, 4096, .inl (upd mem ((256 + fs) &&& 4095).toNatClampNeg (p1 &&& 255))))] H := hP
  have hD : va_D A [(h0, .inr (0, [.int fn, .ref hu, .int fo, .ref hm, .int fa, .int fx, .int fy, .int ((fs - 1) &&& 255), .int fp, .int fc, .int fd, .int fb, .long fz])), (hm, .inl (cyI, 4096, .inl (upd mem ((256 + fs) &&& 4095).toNatClampNeg (p1 &&& 255))))] := hD
  have e_fs : (f_X1_push_fs fs) = ((fs - 1) &&& 255) := rfl
  have e_mem : (f_X1_push_mem fs mem p1) = (upd mem ((256 + fs) &&& 4095).toNatClampNeg (p1 &&& 255)) := rfl
  have hP9 : va_P (dC, dI) vwCl [(h0, .inr (0, [.int fn, .ref hu, .int fo, .ref hm, .int fa, .int fx, .int fy, .int (f_X1_push_fs fs), .int fp, .int fc, .int fd, .int fb, .long fz])), (hm, .inl (cyI, 4096, .inl (f_X1_push_mem fs mem p1)))] H := by rw [e_fs, e_mem]; exact hP.sub (ws' := [(h0, .inr (0, [.int fn, .ref hu, .int fo, .ref hm, .int fa, .int fx, .int fy, .int ((fs - 1) &&& 255), .int fp, .int fc, .int fd, .int fb, .long fz])), (hm, .inl (cyI, 4096, .inl (upd mem ((256 + fs) &&& 4095).toNatClampNeg (p1 &&& 255))))]) [0, 1] rfl
  have hD9 : va_D A [(h0, .inr (0, [.int fn, .ref hu, .int fo, .ref hm, .int fa, .int fx, .int fy, .int (f_X1_push_fs fs), .int fp, .int fc, .int fd, .int fb, .long fz])), (hm, .inl (cyI, 4096, .inl (f_X1_push_mem fs mem p1)))] := by rw [e_fs, e_mem]; exact hD.sub (ws' := [(h0, .inr (0, [.int fn, .ref hu, .int fo, .ref hm, .int fa, .int fx, .int fy, .int ((fs - 1) &&& 255), .int fp, .int fc, .int fd, .int fb, .long fz])), (hm, .inl (cyI, 4096, .inl (upd mem ((256 + fs) &&& 4095).toNatClampNeg (p1 &&& 255))))]) [0, 1] (by decide) rfl
  exact W.vret hx hb hr (fun t ht hW => ⟨⟨(), rfl, trivial, by rw [ht]; exact hP9, hD9⟩, hS.F ht⟩) hS.2.2 dX1_push_36

def f_X1_pushWord_fs (fs : Int32) : Int32 := (f_X1_push_fs (f_X1_push_fs fs))
def f_X1_pushWord_mem (fs : Int32) (mem : Nat → Int32) (p1 : Int32) : Nat → Int32 := (f_X1_push_mem (f_X1_push_fs fs) (f_X1_push_mem fs mem (p1 >>> ((8 : Int32) &&& 31))) p1)
set_option maxHeartbeats 4000000 in
set_option maxRecDepth 100000 in
/-- X1_pushWord -/
theorem c_X1_pushWord (l : Launch) (dC : Nat → ClassId) (dI : Nat → Nat → Nat) (sz : Nat) (h0 : Nat) (hu : Nat) (hm : Nat) (fn : Int32) (fo : Int32) (fa : Int32) (fx : Int32) (fy : Int32) (fs : Int32) (fp : Int32) (fc : Int32) (fd : Int32) (fb : Int32) (fz : Int64) (cyI : ClassId) (mem : Nat → Int32) (p1 : Int32)  : Met l yX1_pushWord (Cond.code yX1_pushWord cX1_pushWord 2 none :: gw) { frames := 1, cells := 0, slots := 0, locals := 21 } (va_Pc [.ref h0, .int p1] (wPre (dC, dI) [(cyI, .int)] [(h0, .inr (0, [.int fn, .ref hu, .int fo, .ref hm, .int fa, .int fx, .int fy, .int fs, .int fp, .int fc, .int fd, .int fb, .long fz])), (hm, .inl (cyI, 4096, .inl mem))] sz wX0)) (va_Qv (fun _ : Unit => True) (fun _ t => wPost (dC, dI) (va_A [(h0, .inr (0, [.int fn, .ref hu, .int fo, .ref hm, .int fa, .int fx, .int fy, .int fs, .int fp, .int fc, .int fd, .int fb, .long fz])), (hm, .inl (cyI, 4096, .inl mem))] sz) [(h0, .inr (0, [.int fn, .ref hu, .int fo, .ref hm, .int fa, .int fx, .int fy, .int (f_X1_pushWord_fs fs), .int fp, .int fc, .int fd, .int fb, .long fz])), (hm, .inl (cyI, 4096, .inl (f_X1_pushWord_mem fs mem p1)))] t) (va_A [(h0, .inr (0, [.int fn, .ref hu, .int fo, .ref hm, .int fa, .int fx, .int fy, .int fs, .int fp, .int fc, .int fd, .int fb, .long fz])), (hm, .inl (cyI, 4096, .inl mem))] sz)) 0 0 (va_A [(h0, .inr (0, [.int fn, .ref hu, .int fo, .ref hm, .int fa, .int fx, .int fy, .int fs, .int fp, .int fc, .int fd, .int fb, .long fz])), (hm, .inl (cyI, 4096, .inl mem))] sz) := by
  refine Met.ofW (cc := cX1_pushWord) (maxL := 2) (ret := none) (by decide) rfl ?_
  intro p e s m args below meth c s₁ B hml hv
  obtain ⟨rfl, hsz, hP, hK, hD0, hXX⟩ := hv
  have hx := B.exec
  have hb := B.bytes
  have hr := B.returns
  have hts := atoms_spec (ws := (Cond.code yX1_pushWord cX1_pushWord 2 none :: gw)) B.pre
  have hown : s.vm.findClass RX1 = some m.cls := findClass_of_methodNamed B.named
  have hlocks := B.notSynchronized
  subst hsz
  have hD := hD0.self (sz := s.heap.size)
  generalize hAe : va_A [(h0, .inr (0, [.int fn, .ref hu, .int fo, .ref hm, .int fa, .int fx, .int fy, .int fs, .int fp, .int fc, .int fd, .int fb, .long fz])), (hm, .inl (cyI, 4096, .inl mem))] s.heap.size = A at hD ⊢
  have hA : ∀ q : Nat, s.heap.size ≤ q → A q := fun q h => by rw [← hAe]; exact Or.inr h
  have hS : va_S A s.heap s.heap [] := va_S.rf
  have hl := lv_entry ([.ref h0, .int p1]) (n := 2) (Nat.le_of_ble_eq_true rfl)
  rw [lg_entry_eq]
  generalize (lg_sl ([.ref h0, .int p1]) ++ List.replicate (2 - (lg_sl ([.ref h0, .int p1])).length) Slot.unset).toArray = ls at hl ⊢
  have hl : lv_has ls 2 [(0, .ref h0), (1, .int p1)] := hl
  refine lv_aload_n hx hb dX1_pushWord_0 rfl (lv_at hl 0 rfl) ?_
  refine lv_iload_n hx hb dX1_pushWord_1 rfl (lv_at hl 1 rfl) ?_
  refine lv_bipush (v := 8) hx hb dX1_pushWord_2 (by decide) ?_
  refine lv_ishr hx hb dX1_pushWord_4 ?_
  refine gc_v (wr := []) (w1 := [(h0, .inr (0, [.int fn, .ref hu, .int fo, .ref hm, .int fa, .int fx, .int fy, .int (f_X1_push_fs fs), .int fp, .int fc, .int fd, .int fb, .long fz])), (hm, .inl (cyI, 4096, .inl (f_X1_push_mem fs mem (p1 >>> ((8 : Int32) &&& 31)))))]) (gcV (As := [.int (p1 >>> ((8 : Int32) &&& 31))]) (rest := []) ⟨hx, hb, hml, hown, hts⟩ (c_X1_push l dC dI s.heap.size h0 hu hm fn fo fa fx fy fs fp fc fd fb fz cyI mem (p1 >>> ((8 : Int32) &&& 31))) (cwV 1 hts (gw_V gw_b gm_403 gm_405 gm_7 gm_71 gm_406) rfl rfl rfl (by decide +kernel) ⟨Nat.le_of_ble_eq_true rfl, Nat.le_of_ble_eq_true rfl⟩) hK [0] rfl hP hD [0, 1] rfl rfl rfl rfl wX0_k (fun _ _ _ => trivial) rfl rfl hl.1 rfl (lv_room (Nat.le_of_ble_eq_true rfl)) dX1_pushWord_5 ⟨Nat.le_of_ble_eq_true rfl, Nat.le_of_ble_eq_true rfl⟩) hP hD hS hA [0, 1] [] rfl rfl rfl (by decide) (fun H locs hP hD hS => ?_)
  have hP : va_P (dC, dI) vwCl [(h0, .inr (0, [.int fn, .ref hu, .int fo, .ref hm, .int fa, .int fx, .int fy, .int (f_X1_push_fs fs), .int fp, .int fc, .int fd, .int fb, .long fz])), (hm, .inl (cyI, 4096, .inl (f_X1_push_mem fs mem (p1 >>> ((8 : Int32) &&& 31)))))] H := hP
  have hD : va_D A [(h0, .inr (0, [.int fn, .ref hu, .int fo, .ref hm, .int fa, .int fx, .int fy, .int (f_X1_push_fs fs), .int fp, .int fc, .int fd, .int fb, .long fz])), (hm, .inl (cyI, 4096, .inl (f_X1_push_mem fs mem (p1 >>> ((8 : Int32) &&& 31)))))] := hD
  refine lv_aload_n hx hb dX1_pushWord_8 rfl (lv_at hl 0 rfl) ?_
  refine lv_iload_n hx hb dX1_pushWord_9 rfl (lv_at hl 1 rfl) ?_
  refine gc_v (wr := []) (w1 := [(h0, .inr (0, [.int fn, .ref hu, .int fo, .ref hm, .int fa, .int fx, .int fy, .int (f_X1_push_fs (f_X1_push_fs fs)), .int fp, .int fc, .int fd, .int fb, .long fz])), (hm, .inl (cyI, 4096, .inl (f_X1_push_mem (f_X1_push_fs fs) (f_X1_push_mem fs mem (p1 >>> ((8 : Int32) &&& 31))) p1)))]) (gcV (As := [.int p1]) (rest := []) ⟨hx, hb, hml, hown, hts⟩ (c_X1_push l dC dI H.size h0 hu hm fn fo fa fx fy (f_X1_push_fs fs) fp fc fd fb fz cyI (f_X1_push_mem fs mem (p1 >>> ((8 : Int32) &&& 31))) p1) (cwV 1 hts (gw_V gw_b gm_403 gm_405 gm_7 gm_71 gm_406) rfl rfl rfl (by decide +kernel) ⟨Nat.le_of_ble_eq_true rfl, Nat.le_of_ble_eq_true rfl⟩) hK [0] rfl hP hD [0, 1] rfl rfl rfl rfl wX0_k (fun _ _ _ => trivial) rfl rfl hl.1 rfl (lv_room (Nat.le_of_ble_eq_true rfl)) dX1_pushWord_10 ⟨Nat.le_of_ble_eq_true rfl, Nat.le_of_ble_eq_true rfl⟩) hP hD hS hA [0, 1] [] rfl rfl rfl (by decide) (fun H locs hP hD hS => ?_)
  have hP : va_P (dC, dI) vwCl [(h0, .inr (0, [.int fn, .ref hu, .int fo, .ref hm, .int fa, .int fx, .int fy, .int (f_X1_push_fs (f_X1_push_fs fs)), .int fp, .int fc, .int fd, .int fb, .long fz])), (hm, .inl (cyI, 4096, .inl (f_X1_push_mem (f_X1_push_fs fs) (f_X1_push_mem fs mem (p1 >>> ((8 : Int32) &&& 31))) p1)))] H := hP
  have hD : va_D A [(h0, .inr (0, [.int fn, .ref hu, .int fo, .ref hm, .int fa, .int fx, .int fy, .int (f_X1_push_fs (f_X1_push_fs fs)), .int fp, .int fc, .int fd, .int fb, .long fz])), (hm, .inl (cyI, 4096, .inl (f_X1_push_mem (f_X1_push_fs fs) (f_X1_push_mem fs mem (p1 >>> ((8 : Int32) &&& 31))) p1)))] := hD
  have e_fs : (f_X1_pushWord_fs fs) = (f_X1_push_fs (f_X1_push_fs fs)) := rfl
  have e_mem : (f_X1_pushWord_mem fs mem p1) = (f_X1_push_mem (f_X1_push_fs fs) (f_X1_push_mem fs mem (p1 >>> ((8 : Int32) &&& 31))) p1) := rfl
  have hP9 : va_P (dC, dI) vwCl [(h0, .inr (0, [.int fn, .ref hu, .int fo, .ref hm, .int fa, .int fx, .int fy, .int (f_X1_pushWord_fs fs), .int fp, .int fc, .int fd, .int fb, .long fz])), (hm, .inl (cyI, 4096, .inl (f_X1_pushWord_mem fs mem p1)))] H := by rw [e_fs, e_mem]; exact hP.sub (ws' := [(h0, .inr (0, [.int fn, .ref hu, .int fo, .ref hm, .int fa, .int fx, .int fy, .int (f_X1_push_fs (f_X1_push_fs fs)), .int fp, .int fc, .int fd, .int fb, .long fz])), (hm, .inl (cyI, 4096, .inl (f_X1_push_mem (f_X1_push_fs fs) (f_X1_push_mem fs mem (p1 >>> ((8 : Int32) &&& 31))) p1)))]) [0, 1] rfl
  have hD9 : va_D A [(h0, .inr (0, [.int fn, .ref hu, .int fo, .ref hm, .int fa, .int fx, .int fy, .int (f_X1_pushWord_fs fs), .int fp, .int fc, .int fd, .int fb, .long fz])), (hm, .inl (cyI, 4096, .inl (f_X1_pushWord_mem fs mem p1)))] := by rw [e_fs, e_mem]; exact hD.sub (ws' := [(h0, .inr (0, [.int fn, .ref hu, .int fo, .ref hm, .int fa, .int fx, .int fy, .int (f_X1_push_fs (f_X1_push_fs fs)), .int fp, .int fc, .int fd, .int fb, .long fz])), (hm, .inl (cyI, 4096, .inl (f_X1_push_mem (f_X1_push_fs fs) (f_X1_push_mem fs mem (p1 >>> ((8 : Int32) &&& 31))) p1)))]) [0, 1] (by decide) rfl
  exact W.vret hx hb hr (fun t ht hW => ⟨⟨(), rfl, trivial, by rw [ht]; exact hP9, hD9⟩, hS.F ht⟩) hS.2.2 dX1_pushWord_13

def f_X1_pull_fs (fs : Int32) : Int32 := ((fs + 1) &&& 255)
def f_X1_pull_r (fs : Int32) (mem : Nat → Int32) : Int32 := (f_X1_kept_r mem (256 + ((fs + 1) &&& 255)))
set_option maxHeartbeats 4000000 in
set_option maxRecDepth 100000 in
/-- X1_pull -/
theorem c_X1_pull (l : Launch) (dC : Nat → ClassId) (dI : Nat → Nat → Nat) (sz : Nat) (h0 : Nat) (hu : Nat) (hm : Nat) (fn : Int32) (fo : Int32) (fa : Int32) (fx : Int32) (fy : Int32) (fs : Int32) (fp : Int32) (fc : Int32) (fd : Int32) (fb : Int32) (fz : Int64) (cyI : ClassId) (mem : Nat → Int32)  : Met l yX1_pull (Cond.code yX1_pull cX1_pull 1 (some .int) :: gw) { frames := 1, cells := 0, slots := 0, locals := 21 } (va_Pc [.ref h0] (wPre (dC, dI) [(cyI, .int)] [(h0, .inr (0, [.int fn, .ref hu, .int fo, .ref hm, .int fa, .int fx, .int fy, .int fs, .int fp, .int fc, .int fd, .int fb, .long fz])), (hm, .inl (cyI, 4096, .inl mem))] sz wX0)) (va_Qi (fun (r : Int32) (_ : Unit) => r = (f_X1_pull_r fs mem)) (fun _ t => wPost (dC, dI) (va_A [(h0, .inr (0, [.int fn, .ref hu, .int fo, .ref hm, .int fa, .int fx, .int fy, .int fs, .int fp, .int fc, .int fd, .int fb, .long fz])), (hm, .inl (cyI, 4096, .inl mem))] sz) [(h0, .inr (0, [.int fn, .ref hu, .int fo, .ref hm, .int fa, .int fx, .int fy, .int (f_X1_pull_fs fs), .int fp, .int fc, .int fd, .int fb, .long fz])), (hm, .inl (cyI, 4096, .inl mem))] t) (va_A [(h0, .inr (0, [.int fn, .ref hu, .int fo, .ref hm, .int fa, .int fx, .int fy, .int fs, .int fp, .int fc, .int fd, .int fb, .long fz])), (hm, .inl (cyI, 4096, .inl mem))] sz)) 0 0 (va_A [(h0, .inr (0, [.int fn, .ref hu, .int fo, .ref hm, .int fa, .int fx, .int fy, .int fs, .int fp, .int fc, .int fd, .int fb, .long fz])), (hm, .inl (cyI, 4096, .inl mem))] sz) := by
  refine Met.ofW (cc := cX1_pull) (maxL := 1) (ret := (some .int)) (by decide) rfl ?_
  intro p e s m args below meth c s₁ B hml hv
  obtain ⟨rfl, hsz, hP, hK, hD0, hXX⟩ := hv
  have hx := B.exec
  have hb := B.bytes
  have hr := B.returns
  have hts := atoms_spec (ws := (Cond.code yX1_pull cX1_pull 1 (some .int) :: gw)) B.pre
  have hown : s.vm.findClass RX1 = some m.cls := findClass_of_methodNamed B.named
  have hlocks := B.notSynchronized
  subst hsz
  have hD := hD0.self (sz := s.heap.size)
  generalize hAe : va_A [(h0, .inr (0, [.int fn, .ref hu, .int fo, .ref hm, .int fa, .int fx, .int fy, .int fs, .int fp, .int fc, .int fd, .int fb, .long fz])), (hm, .inl (cyI, 4096, .inl mem))] s.heap.size = A at hD ⊢
  have hA : ∀ q : Nat, s.heap.size ≤ q → A q := fun q h => by rw [← hAe]; exact Or.inr h
  have hS : va_S A s.heap s.heap [] := va_S.rf
  have hl := lv_entry ([.ref h0]) (n := 1) (Nat.le_of_ble_eq_true rfl)
  rw [lg_entry_eq]
  generalize (lg_sl ([.ref h0]) ++ List.replicate (1 - (lg_sl ([.ref h0])).length) Slot.unset).toArray = ls at hl ⊢
  have hl : lv_has ls 1 [(0, .ref h0)] := hl
  refine lv_aload_n hx hb dX1_pull_0 rfl (lv_at hl 0 rfl) ?_
  refine lv_aload_n hx hb dX1_pull_1 rfl (lv_at hl 0 rfl) ?_
  refine va_get (D := (dC, dI)) (ci := 0) (v := .int fs) (C := RX1) (T := TX1) (N := 13) hx hb hts (fun w h => gw_b w (iX1 w h)) hown hK hP 0 rfl rfl 7 (by decide) (hts _ (gw_b _ gm_147)) (fun _ h9 => h9) rfl dX1_pull_2 ?_
  refine lv_iconst (v := 1) hx hb dX1_pull_5 (by decide) ?_
  refine lv_iadd hx hb dX1_pull_6 ?_
  refine lv_sipush (v := 255) hx hb dX1_pull_7 (by decide) ?_
  refine lv_iand hx hb dX1_pull_10 ?_
  refine va_put (D := (dC, dI)) (ci := 0) (v := .int ((fs + 1) &&& 255)) (ty := tyX1 7) (C := RX1) (T := TX1) (N := 13) hx hb hts (fun w h => gw_b w (iX1 w h)) tyX1 tyX1_ok nmX1 hown hK hP hD hS 0 rfl rfl 7 (by decide) (hts _ (gw_b _ gm_147)) (fun _ h9 => h9) rfl (tyX1_ok 7 (by decide)) rfl rfl (Nat.le_of_ble_eq_true rfl) dX1_pull_11 (fun H locs hP hD hS => ?_)
  have hP : va_P (dC, dI) vwCl [(h0, .inr (0, [.int fn, .ref hu, .int fo, .ref hm, .int fa, .int fx, .int fy, .int ((fs + 1) &&& 255), .int fp, .int fc, .int fd, .int fb, .long fz])), (hm, .inl (cyI, 4096, .inl mem))] H := hP
  have hD : va_D A [(h0, .inr (0, [.int fn, .ref hu, .int fo, .ref hm, .int fa, .int fx, .int fy, .int ((fs + 1) &&& 255), .int fp, .int fc, .int fd, .int fb, .long fz])), (hm, .inl (cyI, 4096, .inl mem))] := hD
  refine lv_aload_n hx hb dX1_pull_14 rfl (lv_at hl 0 rfl) ?_
  refine lv_sipush (v := 256) hx hb dX1_pull_15 (by decide) ?_
  refine lv_aload_n hx hb dX1_pull_18 rfl (lv_at hl 0 rfl) ?_
  refine va_get (D := (dC, dI)) (ci := 0) (v := .int ((fs + 1) &&& 255)) (C := RX1) (T := TX1) (N := 13) hx hb hts (fun w h => gw_b w (iX1 w h)) hown hK hP 0 rfl rfl 7 (by decide) (hts _ (gw_b _ gm_147)) (fun _ h9 => h9) rfl dX1_pull_19 ?_
  refine lv_iadd hx hb dX1_pull_22 ?_
  refine gc_i (wr := []) (w1 := [(h0, .inr (0, [.int fn, .ref hu, .int fo, .ref hm, .int fa, .int fx, .int fy, .int ((fs + 1) &&& 255), .int fp, .int fc, .int fd, .int fb, .long fz])), (hm, .inl (cyI, 4096, .inl mem))]) (gcV (As := [.int (256 + ((fs + 1) &&& 255))]) (rest := []) ⟨hx, hb, hml, hown, hts⟩ (c_X1_kept l dC dI H.size h0 hu hm fn fo fa fx fy ((fs + 1) &&& 255) fp fc fd fb fz cyI mem (256 + ((fs + 1) &&& 255))) (cwV 1 hts (gw_V gw_b gm_352 gm_333 gm_334 gm_71 gm_335) rfl rfl rfl (by decide +kernel) ⟨Nat.le_of_ble_eq_true rfl, Nat.le_of_ble_eq_true rfl⟩) hK [0] rfl hP hD [0, 1] rfl rfl rfl rfl wX0_k (fun _ _ _ => trivial) rfl rfl hl.1 rfl (lv_room (Nat.le_of_ble_eq_true rfl)) dX1_pull_23 ⟨Nat.le_of_ble_eq_true rfl, Nat.le_of_ble_eq_true rfl⟩) hP hD hS hA [0, 1] [] rfl rfl rfl (by decide) (fun H locs hP hD hS => ?_)
  have hP : va_P (dC, dI) vwCl [(h0, .inr (0, [.int fn, .ref hu, .int fo, .ref hm, .int fa, .int fx, .int fy, .int ((fs + 1) &&& 255), .int fp, .int fc, .int fd, .int fb, .long fz])), (hm, .inl (cyI, 4096, .inl mem))] H := hP
  have hD : va_D A [(h0, .inr (0, [.int fn, .ref hu, .int fo, .ref hm, .int fa, .int fx, .int fy, .int ((fs + 1) &&& 255), .int fp, .int fc, .int fd, .int fb, .long fz])), (hm, .inl (cyI, 4096, .inl mem))] := hD
  have e_fs : (f_X1_pull_fs fs) = ((fs + 1) &&& 255) := rfl
  have hP9 : va_P (dC, dI) vwCl [(h0, .inr (0, [.int fn, .ref hu, .int fo, .ref hm, .int fa, .int fx, .int fy, .int (f_X1_pull_fs fs), .int fp, .int fc, .int fd, .int fb, .long fz])), (hm, .inl (cyI, 4096, .inl mem))] H := by rw [e_fs]; exact hP.sub (ws' := [(h0, .inr (0, [.int fn, .ref hu, .int fo, .ref hm, .int fa, .int fx, .int fy, .int ((fs + 1) &&& 255), .int fp, .int fc, .int fd, .int fb, .long fz])), (hm, .inl (cyI, 4096, .inl mem))]) [0, 1] rfl
  have hD9 : va_D A [(h0, .inr (0, [.int fn, .ref hu, .int fo, .ref hm, .int fa, .int fx, .int fy, .int (f_X1_pull_fs fs), .int fp, .int fc, .int fd, .int fb, .long fz])), (hm, .inl (cyI, 4096, .inl mem))] := by rw [e_fs]; exact hD.sub (ws' := [(h0, .inr (0, [.int fn, .ref hu, .int fo, .ref hm, .int fa, .int fx, .int fy, .int ((fs + 1) &&& 255), .int fp, .int fc, .int fd, .int fb, .long fz])), (hm, .inl (cyI, 4096, .inl mem))]) [0, 1] (by decide) rfl
  exact W.iret (v := (f_X1_kept_r mem (256 + ((fs + 1) &&& 255)))) hx hb hr (fun t ht hW => ⟨⟨(f_X1_kept_r mem (256 + ((fs + 1) &&& 255))), (), rfl, Eq.symm (rfl : (f_X1_pull_r fs mem) = (f_X1_kept_r mem (256 + ((fs + 1) &&& 255)))), by rw [ht]; exact hP9, hD9⟩, hS.F ht⟩) hS.2.2 dX1_pull_26

def f_X1_pullWord_fs (fs : Int32) : Int32 := (f_X1_pull_fs (f_X1_pull_fs fs))
def f_X1_pullWord_r (fs : Int32) (mem : Nat → Int32) : Int32 := (((f_X1_pull_r (f_X1_pull_fs fs) mem) <<< ((8 : Int32) &&& 31)) ||| (f_X1_pull_r fs mem))
set_option maxHeartbeats 4000000 in
set_option maxRecDepth 100000 in
/-- X1_pullWord -/
theorem c_X1_pullWord (l : Launch) (dC : Nat → ClassId) (dI : Nat → Nat → Nat) (sz : Nat) (h0 : Nat) (hu : Nat) (hm : Nat) (fn : Int32) (fo : Int32) (fa : Int32) (fx : Int32) (fy : Int32) (fs : Int32) (fp : Int32) (fc : Int32) (fd : Int32) (fb : Int32) (fz : Int64) (cyI : ClassId) (mem : Nat → Int32)  : Met l yX1_pullWord (Cond.code yX1_pullWord cX1_pullWord 2 (some .int) :: gw) { frames := 2, cells := 0, slots := 0, locals := 41 } (va_Pc [.ref h0] (wPre (dC, dI) [(cyI, .int)] [(h0, .inr (0, [.int fn, .ref hu, .int fo, .ref hm, .int fa, .int fx, .int fy, .int fs, .int fp, .int fc, .int fd, .int fb, .long fz])), (hm, .inl (cyI, 4096, .inl mem))] sz wX0)) (va_Qi (fun (r : Int32) (_ : Unit) => r = (f_X1_pullWord_r fs mem)) (fun _ t => wPost (dC, dI) (va_A [(h0, .inr (0, [.int fn, .ref hu, .int fo, .ref hm, .int fa, .int fx, .int fy, .int fs, .int fp, .int fc, .int fd, .int fb, .long fz])), (hm, .inl (cyI, 4096, .inl mem))] sz) [(h0, .inr (0, [.int fn, .ref hu, .int fo, .ref hm, .int fa, .int fx, .int fy, .int (f_X1_pullWord_fs fs), .int fp, .int fc, .int fd, .int fb, .long fz])), (hm, .inl (cyI, 4096, .inl mem))] t) (va_A [(h0, .inr (0, [.int fn, .ref hu, .int fo, .ref hm, .int fa, .int fx, .int fy, .int fs, .int fp, .int fc, .int fd, .int fb, .long fz])), (hm, .inl (cyI, 4096, .inl mem))] sz)) 0 0 (va_A [(h0, .inr (0, [.int fn, .ref hu, .int fo, .ref hm, .int fa, .int fx, .int fy, .int fs, .int fp, .int fc, .int fd, .int fb, .long fz])), (hm, .inl (cyI, 4096, .inl mem))] sz) := by
  refine Met.ofW (cc := cX1_pullWord) (maxL := 2) (ret := (some .int)) (by decide) rfl ?_
  intro p e s m args below meth c s₁ B hml hv
  obtain ⟨rfl, hsz, hP, hK, hD0, hXX⟩ := hv
  have hx := B.exec
  have hb := B.bytes
  have hr := B.returns
  have hts := atoms_spec (ws := (Cond.code yX1_pullWord cX1_pullWord 2 (some .int) :: gw)) B.pre
  have hown : s.vm.findClass RX1 = some m.cls := findClass_of_methodNamed B.named
  have hlocks := B.notSynchronized
  subst hsz
  have hD := hD0.self (sz := s.heap.size)
  generalize hAe : va_A [(h0, .inr (0, [.int fn, .ref hu, .int fo, .ref hm, .int fa, .int fx, .int fy, .int fs, .int fp, .int fc, .int fd, .int fb, .long fz])), (hm, .inl (cyI, 4096, .inl mem))] s.heap.size = A at hD ⊢
  have hA : ∀ q : Nat, s.heap.size ≤ q → A q := fun q h => by rw [← hAe]; exact Or.inr h
  have hS : va_S A s.heap s.heap [] := va_S.rf
  have hl := lv_entry ([.ref h0]) (n := 2) (Nat.le_of_ble_eq_true rfl)
  rw [lg_entry_eq]
  generalize (lg_sl ([.ref h0]) ++ List.replicate (2 - (lg_sl ([.ref h0])).length) Slot.unset).toArray = ls at hl ⊢
  have hl : lv_has ls 2 [(0, .ref h0)] := hl
  refine lv_aload_n hx hb dX1_pullWord_0 rfl (lv_at hl 0 rfl) ?_
  refine gc_i (wr := []) (w1 := [(h0, .inr (0, [.int fn, .ref hu, .int fo, .ref hm, .int fa, .int fx, .int fy, .int (f_X1_pull_fs fs), .int fp, .int fc, .int fd, .int fb, .long fz])), (hm, .inl (cyI, 4096, .inl mem))]) (gcV (As := []) (rest := []) ⟨hx, hb, hml, hown, hts⟩ (c_X1_pull l dC dI s.heap.size h0 hu hm fn fo fa fx fy fs fp fc fd fb fz cyI mem) (cwV 0 hts (gw_V gw_b gm_512 gm_514 gm_28 gm_71 gm_515) rfl rfl rfl (by decide +kernel) ⟨Nat.le_of_ble_eq_true rfl, Nat.le_of_ble_eq_true rfl⟩) hK [0] rfl hP hD [0, 1] rfl rfl rfl rfl wX0_k (fun _ _ _ => trivial) rfl rfl hl.1 rfl (lv_room (Nat.le_of_ble_eq_true rfl)) dX1_pullWord_1 ⟨Nat.le_of_ble_eq_true rfl, Nat.le_of_ble_eq_true rfl⟩) hP hD hS hA [0, 1] [] rfl rfl rfl (by decide) (fun H locs hP hD hS => ?_)
  have hP : va_P (dC, dI) vwCl [(h0, .inr (0, [.int fn, .ref hu, .int fo, .ref hm, .int fa, .int fx, .int fy, .int (f_X1_pull_fs fs), .int fp, .int fc, .int fd, .int fb, .long fz])), (hm, .inl (cyI, 4096, .inl mem))] H := hP
  have hD : va_D A [(h0, .inr (0, [.int fn, .ref hu, .int fo, .ref hm, .int fa, .int fx, .int fy, .int (f_X1_pull_fs fs), .int fp, .int fc, .int fd, .int fb, .long fz])), (hm, .inl (cyI, 4096, .inl mem))] := hD
  refine lv_istore_n (lv' := [(1, .int (f_X1_pull_r fs mem)), (0, .ref h0)]) hx hb dX1_pullWord_4 rfl hl (by decide) rfl (fun ls hl => ?_)
  refine lv_aload_n hx hb dX1_pullWord_5 rfl (lv_at hl 1 rfl) ?_
  refine gc_i (wr := []) (w1 := [(h0, .inr (0, [.int fn, .ref hu, .int fo, .ref hm, .int fa, .int fx, .int fy, .int (f_X1_pull_fs (f_X1_pull_fs fs)), .int fp, .int fc, .int fd, .int fb, .long fz])), (hm, .inl (cyI, 4096, .inl mem))]) (gcV (As := []) (rest := []) ⟨hx, hb, hml, hown, hts⟩ (c_X1_pull l dC dI H.size h0 hu hm fn fo fa fx fy (f_X1_pull_fs fs) fp fc fd fb fz cyI mem) (cwV 0 hts (gw_V gw_b gm_512 gm_514 gm_28 gm_71 gm_515) rfl rfl rfl (by decide +kernel) ⟨Nat.le_of_ble_eq_true rfl, Nat.le_of_ble_eq_true rfl⟩) hK [0] rfl hP hD [0, 1] rfl rfl rfl rfl wX0_k (fun _ _ _ => trivial) rfl rfl hl.1 rfl (lv_room (Nat.le_of_ble_eq_true rfl)) dX1_pullWord_6 ⟨Nat.le_of_ble_eq_true rfl, Nat.le_of_ble_eq_true rfl⟩) hP hD hS hA [0, 1] [] rfl rfl rfl (by decide) (fun H locs hP hD hS => ?_)
  have hP : va_P (dC, dI) vwCl [(h0, .inr (0, [.int fn, .ref hu, .int fo, .ref hm, .int fa, .int fx, .int fy, .int (f_X1_pull_fs (f_X1_pull_fs fs)), .int fp, .int fc, .int fd, .int fb, .long fz])), (hm, .inl (cyI, 4096, .inl mem))] H := hP
  have hD : va_D A [(h0, .inr (0, [.int fn, .ref hu, .int fo, .ref hm, .int fa, .int fx, .int fy, .int (f_X1_pull_fs (f_X1_pull_fs fs)), .int fp, .int fc, .int fd, .int fb, .long fz])), (hm, .inl (cyI, 4096, .inl mem))] := hD
  refine lv_bipush (v := 8) hx hb dX1_pullWord_9 (by decide) ?_
  refine lv_ishl hx hb dX1_pullWord_11 ?_
  refine lv_iload_n hx hb dX1_pullWord_12 rfl (lv_at hl 0 rfl) ?_
  refine lv_ior hx hb dX1_pullWord_13 ?_
  have e_fs : (f_X1_pullWord_fs fs) = (f_X1_pull_fs (f_X1_pull_fs fs)) := rfl
  have hP9 : va_P (dC, dI) vwCl [(h0, .inr (0, [.int fn, .ref hu, .int fo, .ref hm, .int fa, .int fx, .int fy, .int (f_X1_pullWord_fs fs), .int fp, .int fc, .int fd, .int fb, .long fz])), (hm, .inl (cyI, 4096, .inl mem))] H := by rw [e_fs]; exact hP.sub (ws' := [(h0, .inr (0, [.int fn, .ref hu, .int fo, .ref hm, .int fa, .int fx, .int fy, .int (f_X1_pull_fs (f_X1_pull_fs fs)), .int fp, .int fc, .int fd, .int fb, .long fz])), (hm, .inl (cyI, 4096, .inl mem))]) [0, 1] rfl
  have hD9 : va_D A [(h0, .inr (0, [.int fn, .ref hu, .int fo, .ref hm, .int fa, .int fx, .int fy, .int (f_X1_pullWord_fs fs), .int fp, .int fc, .int fd, .int fb, .long fz])), (hm, .inl (cyI, 4096, .inl mem))] := by rw [e_fs]; exact hD.sub (ws' := [(h0, .inr (0, [.int fn, .ref hu, .int fo, .ref hm, .int fa, .int fx, .int fy, .int (f_X1_pull_fs (f_X1_pull_fs fs)), .int fp, .int fc, .int fd, .int fb, .long fz])), (hm, .inl (cyI, 4096, .inl mem))]) [0, 1] (by decide) rfl
  exact W.iret (v := (((f_X1_pull_r (f_X1_pull_fs fs) mem) <<< ((8 : Int32) &&& 31)) ||| (f_X1_pull_r fs mem))) hx hb hr (fun t ht hW => ⟨⟨(((f_X1_pull_r (f_X1_pull_fs fs) mem) <<< ((8 : Int32) &&& 31)) ||| (f_X1_pull_r fs mem)), (), rfl, Eq.symm (rfl : (f_X1_pullWord_r fs mem) = (((f_X1_pull_r (f_X1_pull_fs fs) mem) <<< ((8 : Int32) &&& 31)) ||| (f_X1_pull_r fs mem))), by rw [ht]; exact hP9, hD9⟩, hS.F ht⟩) hS.2.2 dX1_pullWord_14

def f_X1_pullStatus_fs (fs : Int32) : Int32 := (f_X1_pull_fs fs)
def f_X1_pullStatus_fp (fs : Int32) (mem : Nat → Int32) : Int32 := (((f_X1_pull_r fs mem) &&& (-17)) ||| 32)
set_option maxHeartbeats 4000000 in
set_option maxRecDepth 100000 in
/-- X1_pullStatus -/
theorem c_X1_pullStatus (l : Launch) (dC : Nat → ClassId) (dI : Nat → Nat → Nat) (sz : Nat) (h0 : Nat) (hu : Nat) (hm : Nat) (fn : Int32) (fo : Int32) (fa : Int32) (fx : Int32) (fy : Int32) (fs : Int32) (fp : Int32) (fc : Int32) (fd : Int32) (fb : Int32) (fz : Int64) (cyI : ClassId) (mem : Nat → Int32)  : Met l yX1_pullStatus (Cond.code yX1_pullStatus cX1_pullStatus 1 none :: gw) { frames := 2, cells := 0, slots := 0, locals := 41 } (va_Pc [.ref h0] (wPre (dC, dI) [(cyI, .int)] [(h0, .inr (0, [.int fn, .ref hu, .int fo, .ref hm, .int fa, .int fx, .int fy, .int fs, .int fp, .int fc, .int fd, .int fb, .long fz])), (hm, .inl (cyI, 4096, .inl mem))] sz wX0)) (va_Qv (fun _ : Unit => True) (fun _ t => wPost (dC, dI) (va_A [(h0, .inr (0, [.int fn, .ref hu, .int fo, .ref hm, .int fa, .int fx, .int fy, .int fs, .int fp, .int fc, .int fd, .int fb, .long fz])), (hm, .inl (cyI, 4096, .inl mem))] sz) [(h0, .inr (0, [.int fn, .ref hu, .int fo, .ref hm, .int fa, .int fx, .int fy, .int (f_X1_pullStatus_fs fs), .int (f_X1_pullStatus_fp fs mem), .int fc, .int fd, .int fb, .long fz])), (hm, .inl (cyI, 4096, .inl mem))] t) (va_A [(h0, .inr (0, [.int fn, .ref hu, .int fo, .ref hm, .int fa, .int fx, .int fy, .int fs, .int fp, .int fc, .int fd, .int fb, .long fz])), (hm, .inl (cyI, 4096, .inl mem))] sz)) 0 0 (va_A [(h0, .inr (0, [.int fn, .ref hu, .int fo, .ref hm, .int fa, .int fx, .int fy, .int fs, .int fp, .int fc, .int fd, .int fb, .long fz])), (hm, .inl (cyI, 4096, .inl mem))] sz) := by
  refine Met.ofW (cc := cX1_pullStatus) (maxL := 1) (ret := none) (by decide) rfl ?_
  intro p e s m args below meth c s₁ B hml hv
  obtain ⟨rfl, hsz, hP, hK, hD0, hXX⟩ := hv
  have hx := B.exec
  have hb := B.bytes
  have hr := B.returns
  have hts := atoms_spec (ws := (Cond.code yX1_pullStatus cX1_pullStatus 1 none :: gw)) B.pre
  have hown : s.vm.findClass RX1 = some m.cls := findClass_of_methodNamed B.named
  have hlocks := B.notSynchronized
  subst hsz
  have hD := hD0.self (sz := s.heap.size)
  generalize hAe : va_A [(h0, .inr (0, [.int fn, .ref hu, .int fo, .ref hm, .int fa, .int fx, .int fy, .int fs, .int fp, .int fc, .int fd, .int fb, .long fz])), (hm, .inl (cyI, 4096, .inl mem))] s.heap.size = A at hD ⊢
  have hA : ∀ q : Nat, s.heap.size ≤ q → A q := fun q h => by rw [← hAe]; exact Or.inr h
  have hS : va_S A s.heap s.heap [] := va_S.rf
  have hl := lv_entry ([.ref h0]) (n := 1) (Nat.le_of_ble_eq_true rfl)
  rw [lg_entry_eq]
  generalize (lg_sl ([.ref h0]) ++ List.replicate (1 - (lg_sl ([.ref h0])).length) Slot.unset).toArray = ls at hl ⊢
  have hl : lv_has ls 1 [(0, .ref h0)] := hl
  refine lv_aload_n hx hb dX1_pullStatus_0 rfl (lv_at hl 0 rfl) ?_
  refine lv_aload_n hx hb dX1_pullStatus_1 rfl (lv_at hl 0 rfl) ?_
  refine gc_i (wr := []) (w1 := [(h0, .inr (0, [.int fn, .ref hu, .int fo, .ref hm, .int fa, .int fx, .int fy, .int (f_X1_pull_fs fs), .int fp, .int fc, .int fd, .int fb, .long fz])), (hm, .inl (cyI, 4096, .inl mem))]) (gcV (As := []) (rest := [.ref h0]) ⟨hx, hb, hml, hown, hts⟩ (c_X1_pull l dC dI s.heap.size h0 hu hm fn fo fa fx fy fs fp fc fd fb fz cyI mem) (cwV 0 hts (gw_V gw_b gm_512 gm_514 gm_28 gm_71 gm_515) rfl rfl rfl (by decide +kernel) ⟨Nat.le_of_ble_eq_true rfl, Nat.le_of_ble_eq_true rfl⟩) hK [0] rfl hP hD [0, 1] rfl rfl rfl rfl wX0_k (fun _ _ _ => trivial) rfl rfl hl.1 rfl (lv_room (Nat.le_of_ble_eq_true rfl)) dX1_pullStatus_2 ⟨Nat.le_of_ble_eq_true rfl, Nat.le_of_ble_eq_true rfl⟩) hP hD hS hA [0, 1] [] rfl rfl rfl (by decide) (fun H locs hP hD hS => ?_)
  have hP : va_P (dC, dI) vwCl [(h0, .inr (0, [.int fn, .ref hu, .int fo, .ref hm, .int fa, .int fx, .int fy, .int (f_X1_pull_fs fs), .int fp, .int fc, .int fd, .int fb, .long fz])), (hm, .inl (cyI, 4096, .inl mem))] H := hP
  have hD : va_D A [(h0, .inr (0, [.int fn, .ref hu, .int fo, .ref hm, .int fa, .int fx, .int fy, .int (f_X1_pull_fs fs), .int fp, .int fc, .int fd, .int fb, .long fz])), (hm, .inl (cyI, 4096, .inl mem))] := hD
  refine lv_bipush (v := (-17)) hx hb dX1_pullStatus_5 (by decide) ?_
  refine lv_iand hx hb dX1_pullStatus_7 ?_
  refine lv_bipush (v := 32) hx hb dX1_pullStatus_8 (by decide) ?_
  refine lv_ior hx hb dX1_pullStatus_10 ?_
  refine va_put (D := (dC, dI)) (ci := 0) (v := .int (((f_X1_pull_r fs mem) &&& (-17)) ||| 32)) (ty := tyX1 8) (C := RX1) (T := TX1) (N := 13) hx hb hts (fun w h => gw_b w (iX1 w h)) tyX1 tyX1_ok nmX1 hown hK hP hD hS 0 rfl rfl 8 (by decide) (hts _ (gw_b _ gm_148)) (fun _ h9 => h9) rfl (tyX1_ok 8 (by decide)) rfl rfl (Nat.le_of_ble_eq_true rfl) dX1_pullStatus_11 (fun H locs hP hD hS => ?_)
  have hP : va_P (dC, dI) vwCl [(h0, .inr (0, [.int fn, .ref hu, .int fo, .ref hm, .int fa, .int fx, .int fy, .int (f_X1_pull_fs fs), .int (((f_X1_pull_r fs mem) &&& (-17)) ||| 32), .int fc, .int fd, .int fb, .long fz])), (hm, .inl (cyI, 4096, .inl mem))] H := hP
  have hD : va_D A [(h0, .inr (0, [.int fn, .ref hu, .int fo, .ref hm, .int fa, .int fx, .int fy, .int (f_X1_pull_fs fs), .int (((f_X1_pull_r fs mem) &&& (-17)) ||| 32), .int fc, .int fd, .int fb, .long fz])), (hm, .inl (cyI, 4096, .inl mem))] := hD
  have e_fs : (f_X1_pullStatus_fs fs) = (f_X1_pull_fs fs) := rfl
  have e_fp : (f_X1_pullStatus_fp fs mem) = (((f_X1_pull_r fs mem) &&& (-17)) ||| 32) := rfl
  have hP9 : va_P (dC, dI) vwCl [(h0, .inr (0, [.int fn, .ref hu, .int fo, .ref hm, .int fa, .int fx, .int fy, .int (f_X1_pullStatus_fs fs), .int (f_X1_pullStatus_fp fs mem), .int fc, .int fd, .int fb, .long fz])), (hm, .inl (cyI, 4096, .inl mem))] H := by rw [e_fs, e_fp]; exact hP.sub (ws' := [(h0, .inr (0, [.int fn, .ref hu, .int fo, .ref hm, .int fa, .int fx, .int fy, .int (f_X1_pull_fs fs), .int (((f_X1_pull_r fs mem) &&& (-17)) ||| 32), .int fc, .int fd, .int fb, .long fz])), (hm, .inl (cyI, 4096, .inl mem))]) [0, 1] rfl
  have hD9 : va_D A [(h0, .inr (0, [.int fn, .ref hu, .int fo, .ref hm, .int fa, .int fx, .int fy, .int (f_X1_pullStatus_fs fs), .int (f_X1_pullStatus_fp fs mem), .int fc, .int fd, .int fb, .long fz])), (hm, .inl (cyI, 4096, .inl mem))] := by rw [e_fs, e_fp]; exact hD.sub (ws' := [(h0, .inr (0, [.int fn, .ref hu, .int fo, .ref hm, .int fa, .int fx, .int fy, .int (f_X1_pull_fs fs), .int (((f_X1_pull_r fs mem) &&& (-17)) ||| 32), .int fc, .int fd, .int fb, .long fz])), (hm, .inl (cyI, 4096, .inl mem))]) [0, 1] (by decide) rfl
  exact W.vret hx hb hr (fun t ht hW => ⟨⟨(), rfl, trivial, by rw [ht]; exact hP9, hD9⟩, hS.F ht⟩) hS.2.2 dX1_pullStatus_14

def f_X1_useStack_fa (fa : Int32) (fs : Int32) (mem : Nat → Int32) (p1 : Int32) : Int32 := (if p1 = 96 then fa else (if p1 = 97 then (f_X1_shown_r (f_X1_pull_r fs mem)) else fa))
def f_X1_useStack_fs (fs : Int32) (p1 : Int32) : Int32 := (if p1 = 96 then (f_X1_push_fs fs) else (if p1 = 97 then (f_X1_pull_fs fs) else (if p1 = 98 then (f_X1_push_fs fs) else (f_X1_pullStatus_fs fs))))
def f_X1_useStack_fp (fs : Int32) (fp : Int32) (mem : Nat → Int32) (p1 : Int32) : Int32 := (if p1 = 96 then fp else (if p1 = 97 then (f_X1_shown_fp fp (f_X1_pull_r fs mem)) else (if p1 = 98 then fp else (f_X1_pullStatus_fp fs mem))))
def f_X1_useStack_mem (fa : Int32) (fs : Int32) (fp : Int32) (mem : Nat → Int32) (p1 : Int32) : Nat → Int32 := (if p1 = 96 then (f_X1_push_mem fs mem fa) else (if p1 = 97 then mem else (if p1 = 98 then (f_X1_push_mem fs mem (fp ||| 16)) else mem)))
set_option maxHeartbeats 4000000 in
set_option maxRecDepth 100000 in
/-- X1_useStack -/
theorem c_X1_useStack (l : Launch) (dC : Nat → ClassId) (dI : Nat → Nat → Nat) (sz : Nat) (h0 : Nat) (hu : Nat) (hm : Nat) (fn : Int32) (fo : Int32) (fa : Int32) (fx : Int32) (fy : Int32) (fs : Int32) (fp : Int32) (fc : Int32) (fd : Int32) (fb : Int32) (fz : Int64) (cyI : ClassId) (mem : Nat → Int32) (p1 : Int32)  : Met l yX1_useStack (Cond.code yX1_useStack cX1_useStack 2 none :: gw) { frames := 3, cells := 0, slots := 0, locals := 61 } (va_Pc [.ref h0, .int p1] (wPre (dC, dI) [(cyI, .int)] [(h0, .inr (0, [.int fn, .ref hu, .int fo, .ref hm, .int fa, .int fx, .int fy, .int fs, .int fp, .int fc, .int fd, .int fb, .long fz])), (hm, .inl (cyI, 4096, .inl mem))] sz wX0)) (va_Qv (fun _ : Unit => True) (fun _ t => wPost (dC, dI) (va_A [(h0, .inr (0, [.int fn, .ref hu, .int fo, .ref hm, .int fa, .int fx, .int fy, .int fs, .int fp, .int fc, .int fd, .int fb, .long fz])), (hm, .inl (cyI, 4096, .inl mem))] sz) [(h0, .inr (0, [.int fn, .ref hu, .int fo, .ref hm, .int (f_X1_useStack_fa fa fs mem p1), .int fx, .int fy, .int (f_X1_useStack_fs fs p1), .int (f_X1_useStack_fp fs fp mem p1), .int fc, .int fd, .int fb, .long fz])), (hm, .inl (cyI, 4096, .inl (f_X1_useStack_mem fa fs fp mem p1)))] t) (va_A [(h0, .inr (0, [.int fn, .ref hu, .int fo, .ref hm, .int fa, .int fx, .int fy, .int fs, .int fp, .int fc, .int fd, .int fb, .long fz])), (hm, .inl (cyI, 4096, .inl mem))] sz)) 0 0 (va_A [(h0, .inr (0, [.int fn, .ref hu, .int fo, .ref hm, .int fa, .int fx, .int fy, .int fs, .int fp, .int fc, .int fd, .int fb, .long fz])), (hm, .inl (cyI, 4096, .inl mem))] sz) := by
  refine Met.ofW (cc := cX1_useStack) (maxL := 2) (ret := none) (by decide) rfl ?_
  intro p e s m args below meth c s₁ B hml hv
  obtain ⟨rfl, hsz, hP, hK, hD0, hXX⟩ := hv
  have hx := B.exec
  have hb := B.bytes
  have hr := B.returns
  have hts := atoms_spec (ws := (Cond.code yX1_useStack cX1_useStack 2 none :: gw)) B.pre
  have hown : s.vm.findClass RX1 = some m.cls := findClass_of_methodNamed B.named
  have hlocks := B.notSynchronized
  subst hsz
  have hD := hD0.self (sz := s.heap.size)
  generalize hAe : va_A [(h0, .inr (0, [.int fn, .ref hu, .int fo, .ref hm, .int fa, .int fx, .int fy, .int fs, .int fp, .int fc, .int fd, .int fb, .long fz])), (hm, .inl (cyI, 4096, .inl mem))] s.heap.size = A at hD ⊢
  have hA : ∀ q : Nat, s.heap.size ≤ q → A q := fun q h => by rw [← hAe]; exact Or.inr h
  have hS : va_S A s.heap s.heap [] := va_S.rf
  have hl := lv_entry ([.ref h0, .int p1]) (n := 2) (Nat.le_of_ble_eq_true rfl)
  rw [lg_entry_eq]
  generalize (lg_sl ([.ref h0, .int p1]) ++ List.replicate (2 - (lg_sl ([.ref h0, .int p1])).length) Slot.unset).toArray = ls at hl ⊢
  have hl : lv_has ls 2 [(0, .ref h0), (1, .int p1)] := hl
  refine lv_iload_n hx hb dX1_useStack_0 rfl (lv_at hl 1 rfl) ?_
  refine sw_by (p := p1 = 96) (fun c_1 => ?_) (fun c_1 => ?_)
  · refine sw_at c_1 ?_
    refine lv_tableIn (tgt := 28) hx hb dX1_useStack_1 (by decide) (by decide) rfl (by decide) ?_
    refine lv_aload_n hx hb dX1_useStack_28 rfl (lv_at hl 0 rfl) ?_
    refine lv_aload_n hx hb dX1_useStack_29 rfl (lv_at hl 0 rfl) ?_
    refine va_get (D := (dC, dI)) (ci := 0) (v := .int fa) (C := RX1) (T := TX1) (N := 13) hx hb hts (fun w h => gw_b w (iX1 w h)) hown hK hP 0 rfl rfl 4 (by decide) (hts _ (gw_b _ gm_144)) (fun _ h9 => h9) rfl dX1_useStack_30 ?_
    refine gc_v (wr := []) (w1 := [(h0, .inr (0, [.int fn, .ref hu, .int fo, .ref hm, .int fa, .int fx, .int fy, .int (f_X1_push_fs fs), .int fp, .int fc, .int fd, .int fb, .long fz])), (hm, .inl (cyI, 4096, .inl (f_X1_push_mem fs mem fa)))]) (gcV (As := [.int fa]) (rest := []) ⟨hx, hb, hml, hown, hts⟩ (c_X1_push l dC dI s.heap.size h0 hu hm fn fo fa fx fy fs fp fc fd fb fz cyI mem fa) (cwV 1 hts (gw_V gw_b gm_403 gm_405 gm_7 gm_71 gm_406) rfl rfl rfl (by decide +kernel) ⟨Nat.le_of_ble_eq_true rfl, Nat.le_of_ble_eq_true rfl⟩) hK [0] rfl hP hD [0, 1] rfl rfl rfl rfl wX0_k (fun _ _ _ => trivial) rfl rfl hl.1 rfl (lv_room (Nat.le_of_ble_eq_true rfl)) dX1_useStack_33 ⟨Nat.le_of_ble_eq_true rfl, Nat.le_of_ble_eq_true rfl⟩) hP hD hS hA [0, 1] [] rfl rfl rfl (by decide) (fun H locs hP hD hS => ?_)
    have hP : va_P (dC, dI) vwCl [(h0, .inr (0, [.int fn, .ref hu, .int fo, .ref hm, .int fa, .int fx, .int fy, .int (f_X1_push_fs fs), .int fp, .int fc, .int fd, .int fb, .long fz])), (hm, .inl (cyI, 4096, .inl (f_X1_push_mem fs mem fa)))] H := hP
    have hD : va_D A [(h0, .inr (0, [.int fn, .ref hu, .int fo, .ref hm, .int fa, .int fx, .int fy, .int (f_X1_push_fs fs), .int fp, .int fc, .int fd, .int fb, .long fz])), (hm, .inl (cyI, 4096, .inl (f_X1_push_mem fs mem fa)))] := hD
    refine lv_goto (tgt := 72) hx hb dX1_useStack_36 (by decide) ?_
    have e_fa : (f_X1_useStack_fa fa fs mem p1) = fa := (if_pos c_1)
    have e_fs : (f_X1_useStack_fs fs p1) = (f_X1_push_fs fs) := (if_pos c_1)
    have e_fp : (f_X1_useStack_fp fs fp mem p1) = fp := (if_pos c_1)
    have e_mem : (f_X1_useStack_mem fa fs fp mem p1) = (f_X1_push_mem fs mem fa) := (if_pos c_1)
    have hP9 : va_P (dC, dI) vwCl [(h0, .inr (0, [.int fn, .ref hu, .int fo, .ref hm, .int (f_X1_useStack_fa fa fs mem p1), .int fx, .int fy, .int (f_X1_useStack_fs fs p1), .int (f_X1_useStack_fp fs fp mem p1), .int fc, .int fd, .int fb, .long fz])), (hm, .inl (cyI, 4096, .inl (f_X1_useStack_mem fa fs fp mem p1)))] H := by rw [e_fa, e_fs, e_fp, e_mem]; exact hP.sub (ws' := [(h0, .inr (0, [.int fn, .ref hu, .int fo, .ref hm, .int fa, .int fx, .int fy, .int (f_X1_push_fs fs), .int fp, .int fc, .int fd, .int fb, .long fz])), (hm, .inl (cyI, 4096, .inl (f_X1_push_mem fs mem fa)))]) [0, 1] rfl
    have hD9 : va_D A [(h0, .inr (0, [.int fn, .ref hu, .int fo, .ref hm, .int (f_X1_useStack_fa fa fs mem p1), .int fx, .int fy, .int (f_X1_useStack_fs fs p1), .int (f_X1_useStack_fp fs fp mem p1), .int fc, .int fd, .int fb, .long fz])), (hm, .inl (cyI, 4096, .inl (f_X1_useStack_mem fa fs fp mem p1)))] := by rw [e_fa, e_fs, e_fp, e_mem]; exact hD.sub (ws' := [(h0, .inr (0, [.int fn, .ref hu, .int fo, .ref hm, .int fa, .int fx, .int fy, .int (f_X1_push_fs fs), .int fp, .int fc, .int fd, .int fb, .long fz])), (hm, .inl (cyI, 4096, .inl (f_X1_push_mem fs mem fa)))]) [0, 1] (by decide) rfl
    exact W.vret hx hb hr (fun t ht hW => ⟨⟨(), rfl, trivial, by rw [ht]; exact hP9, hD9⟩, hS.F ht⟩) hS.2.2 dX1_useStack_72
  refine sw_by (p := p1 = 97) (fun c_2 => ?_) (fun c_2 => ?_)
  · refine sw_at c_2 ?_
    refine lv_tableIn (tgt := 39) hx hb dX1_useStack_1 (by decide) (by decide) rfl (by decide) ?_
    refine lv_aload_n hx hb dX1_useStack_39 rfl (lv_at hl 0 rfl) ?_
    refine lv_aload_n hx hb dX1_useStack_40 rfl (lv_at hl 0 rfl) ?_
    refine lv_aload_n hx hb dX1_useStack_41 rfl (lv_at hl 0 rfl) ?_
    refine gc_i (wr := []) (w1 := [(h0, .inr (0, [.int fn, .ref hu, .int fo, .ref hm, .int fa, .int fx, .int fy, .int (f_X1_pull_fs fs), .int fp, .int fc, .int fd, .int fb, .long fz])), (hm, .inl (cyI, 4096, .inl mem))]) (gcV (As := []) (rest := [.ref h0, .ref h0]) ⟨hx, hb, hml, hown, hts⟩ (c_X1_pull l dC dI s.heap.size h0 hu hm fn fo fa fx fy fs fp fc fd fb fz cyI mem) (cwV 0 hts (gw_V gw_b gm_512 gm_514 gm_28 gm_71 gm_515) rfl rfl rfl (by decide +kernel) ⟨Nat.le_of_ble_eq_true rfl, Nat.le_of_ble_eq_true rfl⟩) hK [0] rfl hP hD [0, 1] rfl rfl rfl rfl wX0_k (fun _ _ _ => trivial) rfl rfl hl.1 rfl (lv_room (Nat.le_of_ble_eq_true rfl)) dX1_useStack_42 ⟨Nat.le_of_ble_eq_true rfl, Nat.le_of_ble_eq_true rfl⟩) hP hD hS hA [0, 1] [] rfl rfl rfl (by decide) (fun H locs hP hD hS => ?_)
    have hP : va_P (dC, dI) vwCl [(h0, .inr (0, [.int fn, .ref hu, .int fo, .ref hm, .int fa, .int fx, .int fy, .int (f_X1_pull_fs fs), .int fp, .int fc, .int fd, .int fb, .long fz])), (hm, .inl (cyI, 4096, .inl mem))] H := hP
    have hD : va_D A [(h0, .inr (0, [.int fn, .ref hu, .int fo, .ref hm, .int fa, .int fx, .int fy, .int (f_X1_pull_fs fs), .int fp, .int fc, .int fd, .int fb, .long fz])), (hm, .inl (cyI, 4096, .inl mem))] := hD
    refine gc_i (wr := [(hm, .inl (cyI, 4096, .inl mem))]) (w1 := [(h0, .inr (0, [.int fn, .ref hu, .int fo, .ref hm, .int fa, .int fx, .int fy, .int (f_X1_pull_fs fs), .int (f_X1_shown_fp fp (f_X1_pull_r fs mem)), .int fc, .int fd, .int fb, .long fz]))]) (gcV (As := [.int (f_X1_pull_r fs mem)]) (rest := [.ref h0]) ⟨hx, hb, hml, hown, hts⟩ (c_X1_shown l dC dI H.size h0 hu hm fn fo fa fx fy (f_X1_pull_fs fs) fp fc fd fb fz (f_X1_pull_r fs mem)) (cwV 1 hts (gw_V gw_b gm_459 gm_461 gm_16 gm_71 gm_462) rfl rfl rfl (by decide +kernel) ⟨Nat.le_of_ble_eq_true rfl, Nat.le_of_ble_eq_true rfl⟩) hK [] rfl hP hD [0] rfl rfl rfl rfl wX0_k (fun _ _ _ => trivial) rfl rfl hl.1 rfl (lv_room (Nat.le_of_ble_eq_true rfl)) dX1_useStack_45 ⟨Nat.le_of_ble_eq_true rfl, Nat.le_of_ble_eq_true rfl⟩) hP hD hS hA [0] [1] rfl rfl rfl (by decide) (fun H locs hP hD hS => ?_)
    have hP : va_P (dC, dI) vwCl [(hm, .inl (cyI, 4096, .inl mem)), (h0, .inr (0, [.int fn, .ref hu, .int fo, .ref hm, .int fa, .int fx, .int fy, .int (f_X1_pull_fs fs), .int (f_X1_shown_fp fp (f_X1_pull_r fs mem)), .int fc, .int fd, .int fb, .long fz]))] H := hP
    have hD : va_D A [(hm, .inl (cyI, 4096, .inl mem)), (h0, .inr (0, [.int fn, .ref hu, .int fo, .ref hm, .int fa, .int fx, .int fy, .int (f_X1_pull_fs fs), .int (f_X1_shown_fp fp (f_X1_pull_r fs mem)), .int fc, .int fd, .int fb, .long fz]))] := hD
    refine va_put (D := (dC, dI)) (ci := 0) (v := .int (f_X1_shown_r (f_X1_pull_r fs mem))) (ty := tyX1 4) (C := RX1) (T := TX1) (N := 13) hx hb hts (fun w h => gw_b w (iX1 w h)) tyX1 tyX1_ok nmX1 hown hK hP hD hS 1 rfl rfl 4 (by decide) (hts _ (gw_b _ gm_144)) (fun _ h9 => h9) rfl (tyX1_ok 4 (by decide)) rfl rfl (Nat.le_of_ble_eq_true rfl) dX1_useStack_48 (fun H locs hP hD hS => ?_)
    have hP : va_P (dC, dI) vwCl [(hm, .inl (cyI, 4096, .inl mem)), (h0, .inr (0, [.int fn, .ref hu, .int fo, .ref hm, .int (f_X1_shown_r (f_X1_pull_r fs mem)), .int fx, .int fy, .int (f_X1_pull_fs fs), .int (f_X1_shown_fp fp (f_X1_pull_r fs mem)), .int fc, .int fd, .int fb, .long fz]))] H := hP
    have hD : va_D A [(hm, .inl (cyI, 4096, .inl mem)), (h0, .inr (0, [.int fn, .ref hu, .int fo, .ref hm, .int (f_X1_shown_r (f_X1_pull_r fs mem)), .int fx, .int fy, .int (f_X1_pull_fs fs), .int (f_X1_shown_fp fp (f_X1_pull_r fs mem)), .int fc, .int fd, .int fb, .long fz]))] := hD
    refine lv_goto (tgt := 72) hx hb dX1_useStack_51 (by decide) ?_
    have e_fa : (f_X1_useStack_fa fa fs mem p1) = (f_X1_shown_r (f_X1_pull_r fs mem)) := ((if_neg c_1)).trans (if_pos c_2)
    have e_fs : (f_X1_useStack_fs fs p1) = (f_X1_pull_fs fs) := ((if_neg c_1)).trans (if_pos c_2)
    have e_fp : (f_X1_useStack_fp fs fp mem p1) = (f_X1_shown_fp fp (f_X1_pull_r fs mem)) := ((if_neg c_1)).trans (if_pos c_2)
    have e_mem : (f_X1_useStack_mem fa fs fp mem p1) = mem := ((if_neg c_1)).trans (if_pos c_2)
    have hP9 : va_P (dC, dI) vwCl [(h0, .inr (0, [.int fn, .ref hu, .int fo, .ref hm, .int (f_X1_useStack_fa fa fs mem p1), .int fx, .int fy, .int (f_X1_useStack_fs fs p1), .int (f_X1_useStack_fp fs fp mem p1), .int fc, .int fd, .int fb, .long fz])), (hm, .inl (cyI, 4096, .inl (f_X1_useStack_mem fa fs fp mem p1)))] H := by rw [e_fa, e_fs, e_fp, e_mem]; exact hP.sub (ws' := [(h0, .inr (0, [.int fn, .ref hu, .int fo, .ref hm, .int (f_X1_shown_r (f_X1_pull_r fs mem)), .int fx, .int fy, .int (f_X1_pull_fs fs), .int (f_X1_shown_fp fp (f_X1_pull_r fs mem)), .int fc, .int fd, .int fb, .long fz])), (hm, .inl (cyI, 4096, .inl mem))]) [1, 0] rfl
    have hD9 : va_D A [(h0, .inr (0, [.int fn, .ref hu, .int fo, .ref hm, .int (f_X1_useStack_fa fa fs mem p1), .int fx, .int fy, .int (f_X1_useStack_fs fs p1), .int (f_X1_useStack_fp fs fp mem p1), .int fc, .int fd, .int fb, .long fz])), (hm, .inl (cyI, 4096, .inl (f_X1_useStack_mem fa fs fp mem p1)))] := by rw [e_fa, e_fs, e_fp, e_mem]; exact hD.sub (ws' := [(h0, .inr (0, [.int fn, .ref hu, .int fo, .ref hm, .int (f_X1_shown_r (f_X1_pull_r fs mem)), .int fx, .int fy, .int (f_X1_pull_fs fs), .int (f_X1_shown_fp fp (f_X1_pull_r fs mem)), .int fc, .int fd, .int fb, .long fz])), (hm, .inl (cyI, 4096, .inl mem))]) [1, 0] (by decide) rfl
    exact W.vret hx hb hr (fun t ht hW => ⟨⟨(), rfl, trivial, by rw [ht]; exact hP9, hD9⟩, hS.F ht⟩) hS.2.2 dX1_useStack_72
  refine sw_by (p := p1 = 98) (fun c_3 => ?_) (fun c_3 => ?_)
  · refine sw_at c_3 ?_
    refine lv_tableIn (tgt := 54) hx hb dX1_useStack_1 (by decide) (by decide) rfl (by decide) ?_
    refine lv_aload_n hx hb dX1_useStack_54 rfl (lv_at hl 0 rfl) ?_
    refine lv_aload_n hx hb dX1_useStack_55 rfl (lv_at hl 0 rfl) ?_
    refine va_get (D := (dC, dI)) (ci := 0) (v := .int fp) (C := RX1) (T := TX1) (N := 13) hx hb hts (fun w h => gw_b w (iX1 w h)) hown hK hP 0 rfl rfl 8 (by decide) (hts _ (gw_b _ gm_148)) (fun _ h9 => h9) rfl dX1_useStack_56 ?_
    refine lv_bipush (v := 16) hx hb dX1_useStack_59 (by decide) ?_
    refine lv_ior hx hb dX1_useStack_61 ?_
    refine gc_v (wr := []) (w1 := [(h0, .inr (0, [.int fn, .ref hu, .int fo, .ref hm, .int fa, .int fx, .int fy, .int (f_X1_push_fs fs), .int fp, .int fc, .int fd, .int fb, .long fz])), (hm, .inl (cyI, 4096, .inl (f_X1_push_mem fs mem (fp ||| 16))))]) (gcV (As := [.int (fp ||| 16)]) (rest := []) ⟨hx, hb, hml, hown, hts⟩ (c_X1_push l dC dI s.heap.size h0 hu hm fn fo fa fx fy fs fp fc fd fb fz cyI mem (fp ||| 16)) (cwV 1 hts (gw_V gw_b gm_403 gm_405 gm_7 gm_71 gm_406) rfl rfl rfl (by decide +kernel) ⟨Nat.le_of_ble_eq_true rfl, Nat.le_of_ble_eq_true rfl⟩) hK [0] rfl hP hD [0, 1] rfl rfl rfl rfl wX0_k (fun _ _ _ => trivial) rfl rfl hl.1 rfl (lv_room (Nat.le_of_ble_eq_true rfl)) dX1_useStack_62 ⟨Nat.le_of_ble_eq_true rfl, Nat.le_of_ble_eq_true rfl⟩) hP hD hS hA [0, 1] [] rfl rfl rfl (by decide) (fun H locs hP hD hS => ?_)
    have hP : va_P (dC, dI) vwCl [(h0, .inr (0, [.int fn, .ref hu, .int fo, .ref hm, .int fa, .int fx, .int fy, .int (f_X1_push_fs fs), .int fp, .int fc, .int fd, .int fb, .long fz])), (hm, .inl (cyI, 4096, .inl (f_X1_push_mem fs mem (fp ||| 16))))] H := hP
    have hD : va_D A [(h0, .inr (0, [.int fn, .ref hu, .int fo, .ref hm, .int fa, .int fx, .int fy, .int (f_X1_push_fs fs), .int fp, .int fc, .int fd, .int fb, .long fz])), (hm, .inl (cyI, 4096, .inl (f_X1_push_mem fs mem (fp ||| 16))))] := hD
    refine lv_goto (tgt := 72) hx hb dX1_useStack_65 (by decide) ?_
    have e_fa : (f_X1_useStack_fa fa fs mem p1) = fa := ((if_neg c_1)).trans (if_neg c_2)
    have e_fs : (f_X1_useStack_fs fs p1) = (f_X1_push_fs fs) := (((if_neg c_1)).trans (if_neg c_2)).trans (if_pos c_3)
    have e_fp : (f_X1_useStack_fp fs fp mem p1) = fp := (((if_neg c_1)).trans (if_neg c_2)).trans (if_pos c_3)
    have e_mem : (f_X1_useStack_mem fa fs fp mem p1) = (f_X1_push_mem fs mem (fp ||| 16)) := (((if_neg c_1)).trans (if_neg c_2)).trans (if_pos c_3)
    have hP9 : va_P (dC, dI) vwCl [(h0, .inr (0, [.int fn, .ref hu, .int fo, .ref hm, .int (f_X1_useStack_fa fa fs mem p1), .int fx, .int fy, .int (f_X1_useStack_fs fs p1), .int (f_X1_useStack_fp fs fp mem p1), .int fc, .int fd, .int fb, .long fz])), (hm, .inl (cyI, 4096, .inl (f_X1_useStack_mem fa fs fp mem p1)))] H := by rw [e_fa, e_fs, e_fp, e_mem]; exact hP.sub (ws' := [(h0, .inr (0, [.int fn, .ref hu, .int fo, .ref hm, .int fa, .int fx, .int fy, .int (f_X1_push_fs fs), .int fp, .int fc, .int fd, .int fb, .long fz])), (hm, .inl (cyI, 4096, .inl (f_X1_push_mem fs mem (fp ||| 16))))]) [0, 1] rfl
    have hD9 : va_D A [(h0, .inr (0, [.int fn, .ref hu, .int fo, .ref hm, .int (f_X1_useStack_fa fa fs mem p1), .int fx, .int fy, .int (f_X1_useStack_fs fs p1), .int (f_X1_useStack_fp fs fp mem p1), .int fc, .int fd, .int fb, .long fz])), (hm, .inl (cyI, 4096, .inl (f_X1_useStack_mem fa fs fp mem p1)))] := by rw [e_fa, e_fs, e_fp, e_mem]; exact hD.sub (ws' := [(h0, .inr (0, [.int fn, .ref hu, .int fo, .ref hm, .int fa, .int fx, .int fy, .int (f_X1_push_fs fs), .int fp, .int fc, .int fd, .int fb, .long fz])), (hm, .inl (cyI, 4096, .inl (f_X1_push_mem fs mem (fp ||| 16))))]) [0, 1] (by decide) rfl
    exact W.vret hx hb hr (fun t ht hW => ⟨⟨(), rfl, trivial, by rw [ht]; exact hP9, hD9⟩, hS.F ht⟩) hS.2.2 dX1_useStack_72
  refine lv_tableOut (tgt := 68) hx hb dX1_useStack_1 (sw_range (fun v h1 h2 => by rcases (show v = 96 ∨ v = 97 ∨ v = 98 by omega) with rfl | rfl | rfl; (· exact c_1); (· exact c_2); (· exact c_3))) (by decide) ?_
  refine lv_aload_n hx hb dX1_useStack_68 rfl (lv_at hl 0 rfl) ?_
  refine gc_v (wr := []) (w1 := [(h0, .inr (0, [.int fn, .ref hu, .int fo, .ref hm, .int fa, .int fx, .int fy, .int (f_X1_pullStatus_fs fs), .int (f_X1_pullStatus_fp fs mem), .int fc, .int fd, .int fb, .long fz])), (hm, .inl (cyI, 4096, .inl mem))]) (gcV (As := []) (rest := []) ⟨hx, hb, hml, hown, hts⟩ (c_X1_pullStatus l dC dI s.heap.size h0 hu hm fn fo fa fx fy fs fp fc fd fb fz cyI mem) (cwV 0 hts (gw_V gw_b gm_516 gm_518 gm_29 gm_71 gm_519) rfl rfl rfl (by decide +kernel) ⟨Nat.le_of_ble_eq_true rfl, Nat.le_of_ble_eq_true rfl⟩) hK [0] rfl hP hD [0, 1] rfl rfl rfl rfl wX0_k (fun _ _ _ => trivial) rfl rfl hl.1 rfl (lv_room (Nat.le_of_ble_eq_true rfl)) dX1_useStack_69 ⟨Nat.le_of_ble_eq_true rfl, Nat.le_of_ble_eq_true rfl⟩) hP hD hS hA [0, 1] [] rfl rfl rfl (by decide) (fun H locs hP hD hS => ?_)
  have hP : va_P (dC, dI) vwCl [(h0, .inr (0, [.int fn, .ref hu, .int fo, .ref hm, .int fa, .int fx, .int fy, .int (f_X1_pullStatus_fs fs), .int (f_X1_pullStatus_fp fs mem), .int fc, .int fd, .int fb, .long fz])), (hm, .inl (cyI, 4096, .inl mem))] H := hP
  have hD : va_D A [(h0, .inr (0, [.int fn, .ref hu, .int fo, .ref hm, .int fa, .int fx, .int fy, .int (f_X1_pullStatus_fs fs), .int (f_X1_pullStatus_fp fs mem), .int fc, .int fd, .int fb, .long fz])), (hm, .inl (cyI, 4096, .inl mem))] := hD
  have e_fa : (f_X1_useStack_fa fa fs mem p1) = fa := ((if_neg c_1)).trans (if_neg c_2)
  have e_fs : (f_X1_useStack_fs fs p1) = (f_X1_pullStatus_fs fs) := (((if_neg c_1)).trans (if_neg c_2)).trans (if_neg c_3)
  have e_fp : (f_X1_useStack_fp fs fp mem p1) = (f_X1_pullStatus_fp fs mem) := (((if_neg c_1)).trans (if_neg c_2)).trans (if_neg c_3)
  have e_mem : (f_X1_useStack_mem fa fs fp mem p1) = mem := (((if_neg c_1)).trans (if_neg c_2)).trans (if_neg c_3)
  have hP9 : va_P (dC, dI) vwCl [(h0, .inr (0, [.int fn, .ref hu, .int fo, .ref hm, .int (f_X1_useStack_fa fa fs mem p1), .int fx, .int fy, .int (f_X1_useStack_fs fs p1), .int (f_X1_useStack_fp fs fp mem p1), .int fc, .int fd, .int fb, .long fz])), (hm, .inl (cyI, 4096, .inl (f_X1_useStack_mem fa fs fp mem p1)))] H := by rw [e_fa, e_fs, e_fp, e_mem]; exact hP.sub (ws' := [(h0, .inr (0, [.int fn, .ref hu, .int fo, .ref hm, .int fa, .int fx, .int fy, .int (f_X1_pullStatus_fs fs), .int (f_X1_pullStatus_fp fs mem), .int fc, .int fd, .int fb, .long fz])), (hm, .inl (cyI, 4096, .inl mem))]) [0, 1] rfl
  have hD9 : va_D A [(h0, .inr (0, [.int fn, .ref hu, .int fo, .ref hm, .int (f_X1_useStack_fa fa fs mem p1), .int fx, .int fy, .int (f_X1_useStack_fs fs p1), .int (f_X1_useStack_fp fs fp mem p1), .int fc, .int fd, .int fb, .long fz])), (hm, .inl (cyI, 4096, .inl (f_X1_useStack_mem fa fs fp mem p1)))] := by rw [e_fa, e_fs, e_fp, e_mem]; exact hD.sub (ws' := [(h0, .inr (0, [.int fn, .ref hu, .int fo, .ref hm, .int fa, .int fx, .int fy, .int (f_X1_pullStatus_fs fs), .int (f_X1_pullStatus_fp fs mem), .int fc, .int fd, .int fb, .long fz])), (hm, .inl (cyI, 4096, .inl mem))]) [0, 1] (by decide) rfl
  exact W.vret hx hb hr (fun t ht hW => ⟨⟨(), rfl, trivial, by rw [ht]; exact hP9, hD9⟩, hS.F ht⟩) hS.2.2 dX1_useStack_72

def f_X1_breakTo_fs (fs : Int32) : Int32 := (f_X1_push_fs (f_X1_pushWord_fs fs))
def f_X1_breakTo_fp (fp : Int32) : Int32 := (fp ||| 4)
def f_X1_breakTo_fc (fs : Int32) (mem : Nat → Int32) (p1 : Int32) (p2 : Int32) (p3 : Int32) : Int32 := (f_X1_keptWord_r (f_X1_push_mem (f_X1_pushWord_fs fs) (f_X1_pushWord_mem fs mem p2) p3) p1)
def f_X1_breakTo_mem (fs : Int32) (mem : Nat → Int32) (p2 : Int32) (p3 : Int32) : Nat → Int32 := (f_X1_push_mem (f_X1_pushWord_fs fs) (f_X1_pushWord_mem fs mem p2) p3)
set_option maxHeartbeats 4000000 in
set_option maxRecDepth 100000 in
/-- X1_breakTo -/
theorem c_X1_breakTo (l : Launch) (dC : Nat → ClassId) (dI : Nat → Nat → Nat) (sz : Nat) (h0 : Nat) (hu : Nat) (hm : Nat) (fn : Int32) (fo : Int32) (fa : Int32) (fx : Int32) (fy : Int32) (fs : Int32) (fp : Int32) (fc : Int32) (fd : Int32) (fb : Int32) (fz : Int64) (cyI : ClassId) (mem : Nat → Int32) (p1 : Int32) (p2 : Int32) (p3 : Int32)  : Met l yX1_breakTo (Cond.code yX1_breakTo cX1_breakTo 4 none :: gw) { frames := 2, cells := 0, slots := 0, locals := 42 } (va_Pc [.ref h0, .int p1, .int p2, .int p3] (wPre (dC, dI) [(cyI, .int)] [(h0, .inr (0, [.int fn, .ref hu, .int fo, .ref hm, .int fa, .int fx, .int fy, .int fs, .int fp, .int fc, .int fd, .int fb, .long fz])), (hm, .inl (cyI, 4096, .inl mem))] sz wX0)) (va_Qv (fun _ : Unit => True) (fun _ t => wPost (dC, dI) (va_A [(h0, .inr (0, [.int fn, .ref hu, .int fo, .ref hm, .int fa, .int fx, .int fy, .int fs, .int fp, .int fc, .int fd, .int fb, .long fz])), (hm, .inl (cyI, 4096, .inl mem))] sz) [(h0, .inr (0, [.int fn, .ref hu, .int fo, .ref hm, .int fa, .int fx, .int fy, .int (f_X1_breakTo_fs fs), .int (f_X1_breakTo_fp fp), .int (f_X1_breakTo_fc fs mem p1 p2 p3), .int fd, .int fb, .long fz])), (hm, .inl (cyI, 4096, .inl (f_X1_breakTo_mem fs mem p2 p3)))] t) (va_A [(h0, .inr (0, [.int fn, .ref hu, .int fo, .ref hm, .int fa, .int fx, .int fy, .int fs, .int fp, .int fc, .int fd, .int fb, .long fz])), (hm, .inl (cyI, 4096, .inl mem))] sz)) 0 0 (va_A [(h0, .inr (0, [.int fn, .ref hu, .int fo, .ref hm, .int fa, .int fx, .int fy, .int fs, .int fp, .int fc, .int fd, .int fb, .long fz])), (hm, .inl (cyI, 4096, .inl mem))] sz) := by
  refine Met.ofW (cc := cX1_breakTo) (maxL := 4) (ret := none) (by decide) rfl ?_
  intro p e s m args below meth c s₁ B hml hv
  obtain ⟨rfl, hsz, hP, hK, hD0, hXX⟩ := hv
  have hx := B.exec
  have hb := B.bytes
  have hr := B.returns
  have hts := atoms_spec (ws := (Cond.code yX1_breakTo cX1_breakTo 4 none :: gw)) B.pre
  have hown : s.vm.findClass RX1 = some m.cls := findClass_of_methodNamed B.named
  have hlocks := B.notSynchronized
  subst hsz
  have hD := hD0.self (sz := s.heap.size)
  generalize hAe : va_A [(h0, .inr (0, [.int fn, .ref hu, .int fo, .ref hm, .int fa, .int fx, .int fy, .int fs, .int fp, .int fc, .int fd, .int fb, .long fz])), (hm, .inl (cyI, 4096, .inl mem))] s.heap.size = A at hD ⊢
  have hA : ∀ q : Nat, s.heap.size ≤ q → A q := fun q h => by rw [← hAe]; exact Or.inr h
  have hS : va_S A s.heap s.heap [] := va_S.rf
  have hl := lv_entry ([.ref h0, .int p1, .int p2, .int p3]) (n := 4) (Nat.le_of_ble_eq_true rfl)
  rw [lg_entry_eq]
  generalize (lg_sl ([.ref h0, .int p1, .int p2, .int p3]) ++ List.replicate (4 - (lg_sl ([.ref h0, .int p1, .int p2, .int p3])).length) Slot.unset).toArray = ls at hl ⊢
  have hl : lv_has ls 4 [(0, .ref h0), (1, .int p1), (2, .int p2), (3, .int p3)] := hl
  refine lv_aload_n hx hb dX1_breakTo_0 rfl (lv_at hl 0 rfl) ?_
  refine lv_iload_n hx hb dX1_breakTo_1 rfl (lv_at hl 2 rfl) ?_
  refine gc_v (wr := []) (w1 := [(h0, .inr (0, [.int fn, .ref hu, .int fo, .ref hm, .int fa, .int fx, .int fy, .int (f_X1_pushWord_fs fs), .int fp, .int fc, .int fd, .int fb, .long fz])), (hm, .inl (cyI, 4096, .inl (f_X1_pushWord_mem fs mem p2)))]) (gcV (As := [.int p2]) (rest := []) ⟨hx, hb, hml, hown, hts⟩ (c_X1_pushWord l dC dI s.heap.size h0 hu hm fn fo fa fx fy fs fp fc fd fb fz cyI mem p2) (cwV 1 hts (gw_V gw_b gm_399 gm_401 gm_6 gm_71 gm_402) rfl rfl rfl (by decide +kernel) ⟨Nat.le_of_ble_eq_true rfl, Nat.le_of_ble_eq_true rfl⟩) hK [0] rfl hP hD [0, 1] rfl rfl rfl rfl wX0_k (fun _ _ _ => trivial) rfl rfl hl.1 rfl (lv_room (Nat.le_of_ble_eq_true rfl)) dX1_breakTo_2 ⟨Nat.le_of_ble_eq_true rfl, Nat.le_of_ble_eq_true rfl⟩) hP hD hS hA [0, 1] [] rfl rfl rfl (by decide) (fun H locs hP hD hS => ?_)
  have hP : va_P (dC, dI) vwCl [(h0, .inr (0, [.int fn, .ref hu, .int fo, .ref hm, .int fa, .int fx, .int fy, .int (f_X1_pushWord_fs fs), .int fp, .int fc, .int fd, .int fb, .long fz])), (hm, .inl (cyI, 4096, .inl (f_X1_pushWord_mem fs mem p2)))] H := hP
  have hD : va_D A [(h0, .inr (0, [.int fn, .ref hu, .int fo, .ref hm, .int fa, .int fx, .int fy, .int (f_X1_pushWord_fs fs), .int fp, .int fc, .int fd, .int fb, .long fz])), (hm, .inl (cyI, 4096, .inl (f_X1_pushWord_mem fs mem p2)))] := hD
  refine lv_aload_n hx hb dX1_breakTo_5 rfl (lv_at hl 0 rfl) ?_
  refine lv_iload_n hx hb dX1_breakTo_6 rfl (lv_at hl 3 rfl) ?_
  refine gc_v (wr := []) (w1 := [(h0, .inr (0, [.int fn, .ref hu, .int fo, .ref hm, .int fa, .int fx, .int fy, .int (f_X1_push_fs (f_X1_pushWord_fs fs)), .int fp, .int fc, .int fd, .int fb, .long fz])), (hm, .inl (cyI, 4096, .inl (f_X1_push_mem (f_X1_pushWord_fs fs) (f_X1_pushWord_mem fs mem p2) p3)))]) (gcV (As := [.int p3]) (rest := []) ⟨hx, hb, hml, hown, hts⟩ (c_X1_push l dC dI H.size h0 hu hm fn fo fa fx fy (f_X1_pushWord_fs fs) fp fc fd fb fz cyI (f_X1_pushWord_mem fs mem p2) p3) (cwV 1 hts (gw_V gw_b gm_403 gm_405 gm_7 gm_71 gm_406) rfl rfl rfl (by decide +kernel) ⟨Nat.le_of_ble_eq_true rfl, Nat.le_of_ble_eq_true rfl⟩) hK [0] rfl hP hD [0, 1] rfl rfl rfl rfl wX0_k (fun _ _ _ => trivial) rfl rfl hl.1 rfl (lv_room (Nat.le_of_ble_eq_true rfl)) dX1_breakTo_7 ⟨Nat.le_of_ble_eq_true rfl, Nat.le_of_ble_eq_true rfl⟩) hP hD hS hA [0, 1] [] rfl rfl rfl (by decide) (fun H locs hP hD hS => ?_)
  have hP : va_P (dC, dI) vwCl [(h0, .inr (0, [.int fn, .ref hu, .int fo, .ref hm, .int fa, .int fx, .int fy, .int (f_X1_push_fs (f_X1_pushWord_fs fs)), .int fp, .int fc, .int fd, .int fb, .long fz])), (hm, .inl (cyI, 4096, .inl (f_X1_push_mem (f_X1_pushWord_fs fs) (f_X1_pushWord_mem fs mem p2) p3)))] H := hP
  have hD : va_D A [(h0, .inr (0, [.int fn, .ref hu, .int fo, .ref hm, .int fa, .int fx, .int fy, .int (f_X1_push_fs (f_X1_pushWord_fs fs)), .int fp, .int fc, .int fd, .int fb, .long fz])), (hm, .inl (cyI, 4096, .inl (f_X1_push_mem (f_X1_pushWord_fs fs) (f_X1_pushWord_mem fs mem p2) p3)))] := hD
  refine lv_aload_n hx hb dX1_breakTo_10 rfl (lv_at hl 0 rfl) ?_
  refine lv_dup hx hb dX1_breakTo_11 rfl ?_
  refine va_get (D := (dC, dI)) (ci := 0) (v := .int fp) (C := RX1) (T := TX1) (N := 13) hx hb hts (fun w h => gw_b w (iX1 w h)) hown hK hP 0 rfl rfl 8 (by decide) (hts _ (gw_b _ gm_148)) (fun _ h9 => h9) rfl dX1_breakTo_12 ?_
  refine lv_iconst (v := 4) hx hb dX1_breakTo_15 (by decide) ?_
  refine lv_ior hx hb dX1_breakTo_16 ?_
  refine va_put (D := (dC, dI)) (ci := 0) (v := .int (fp ||| 4)) (ty := tyX1 8) (C := RX1) (T := TX1) (N := 13) hx hb hts (fun w h => gw_b w (iX1 w h)) tyX1 tyX1_ok nmX1 hown hK hP hD hS 0 rfl rfl 8 (by decide) (hts _ (gw_b _ gm_148)) (fun _ h9 => h9) rfl (tyX1_ok 8 (by decide)) rfl rfl (Nat.le_of_ble_eq_true rfl) dX1_breakTo_17 (fun H locs hP hD hS => ?_)
  have hP : va_P (dC, dI) vwCl [(h0, .inr (0, [.int fn, .ref hu, .int fo, .ref hm, .int fa, .int fx, .int fy, .int (f_X1_push_fs (f_X1_pushWord_fs fs)), .int (fp ||| 4), .int fc, .int fd, .int fb, .long fz])), (hm, .inl (cyI, 4096, .inl (f_X1_push_mem (f_X1_pushWord_fs fs) (f_X1_pushWord_mem fs mem p2) p3)))] H := hP
  have hD : va_D A [(h0, .inr (0, [.int fn, .ref hu, .int fo, .ref hm, .int fa, .int fx, .int fy, .int (f_X1_push_fs (f_X1_pushWord_fs fs)), .int (fp ||| 4), .int fc, .int fd, .int fb, .long fz])), (hm, .inl (cyI, 4096, .inl (f_X1_push_mem (f_X1_pushWord_fs fs) (f_X1_pushWord_mem fs mem p2) p3)))] := hD
  refine lv_aload_n hx hb dX1_breakTo_20 rfl (lv_at hl 0 rfl) ?_
  refine lv_aload_n hx hb dX1_breakTo_21 rfl (lv_at hl 0 rfl) ?_
  refine lv_iload_n hx hb dX1_breakTo_22 rfl (lv_at hl 1 rfl) ?_
  refine gc_i (wr := []) (w1 := [(h0, .inr (0, [.int fn, .ref hu, .int fo, .ref hm, .int fa, .int fx, .int fy, .int (f_X1_push_fs (f_X1_pushWord_fs fs)), .int (fp ||| 4), .int fc, .int fd, .int fb, .long fz])), (hm, .inl (cyI, 4096, .inl (f_X1_push_mem (f_X1_pushWord_fs fs) (f_X1_pushWord_mem fs mem p2) p3)))]) (gcV (As := [.int p1]) (rest := [.ref h0]) ⟨hx, hb, hml, hown, hts⟩ (c_X1_keptWord l dC dI H.size h0 hu hm fn fo fa fx fy (f_X1_push_fs (f_X1_pushWord_fs fs)) (fp ||| 4) fc fd fb fz cyI (f_X1_push_mem (f_X1_pushWord_fs fs) (f_X1_pushWord_mem fs mem p2) p3) p1) (cwV 1 hts (gw_V gw_b gm_348 gm_350 gm_3 gm_71 gm_351) rfl rfl rfl (by decide +kernel) ⟨Nat.le_of_ble_eq_true rfl, Nat.le_of_ble_eq_true rfl⟩) hK [0] rfl hP hD [0, 1] rfl rfl rfl rfl wX0_k (fun _ _ _ => trivial) rfl rfl hl.1 rfl (lv_room (Nat.le_of_ble_eq_true rfl)) dX1_breakTo_23 ⟨Nat.le_of_ble_eq_true rfl, Nat.le_of_ble_eq_true rfl⟩) hP hD hS hA [0, 1] [] rfl rfl rfl (by decide) (fun H locs hP hD hS => ?_)
  have hP : va_P (dC, dI) vwCl [(h0, .inr (0, [.int fn, .ref hu, .int fo, .ref hm, .int fa, .int fx, .int fy, .int (f_X1_push_fs (f_X1_pushWord_fs fs)), .int (fp ||| 4), .int fc, .int fd, .int fb, .long fz])), (hm, .inl (cyI, 4096, .inl (f_X1_push_mem (f_X1_pushWord_fs fs) (f_X1_pushWord_mem fs mem p2) p3)))] H := hP
  have hD : va_D A [(h0, .inr (0, [.int fn, .ref hu, .int fo, .ref hm, .int fa, .int fx, .int fy, .int (f_X1_push_fs (f_X1_pushWord_fs fs)), .int (fp ||| 4), .int fc, .int fd, .int fb, .long fz])), (hm, .inl (cyI, 4096, .inl (f_X1_push_mem (f_X1_pushWord_fs fs) (f_X1_pushWord_mem fs mem p2) p3)))] := hD
  refine va_put (D := (dC, dI)) (ci := 0) (v := .int (f_X1_keptWord_r (f_X1_push_mem (f_X1_pushWord_fs fs) (f_X1_pushWord_mem fs mem p2) p3) p1)) (ty := tyX1 9) (C := RX1) (T := TX1) (N := 13) hx hb hts (fun w h => gw_b w (iX1 w h)) tyX1 tyX1_ok nmX1 hown hK hP hD hS 0 rfl rfl 9 (by decide) (hts _ (gw_b _ gm_149)) (fun _ h9 => h9) rfl (tyX1_ok 9 (by decide)) rfl rfl (Nat.le_of_ble_eq_true rfl) dX1_breakTo_26 (fun H locs hP hD hS => ?_)
  have hP : va_P (dC, dI) vwCl [(h0, .inr (0, [.int fn, .ref hu, .int fo, .ref hm, .int fa, .int fx, .int fy, .int (f_X1_push_fs (f_X1_pushWord_fs fs)), .int (fp ||| 4), .int (f_X1_keptWord_r (f_X1_push_mem (f_X1_pushWord_fs fs) (f_X1_pushWord_mem fs mem p2) p3) p1), .int fd, .int fb, .long fz])), (hm, .inl (cyI, 4096, .inl (f_X1_push_mem (f_X1_pushWord_fs fs) (f_X1_pushWord_mem fs mem p2) p3)))] H := hP
  have hD : va_D A [(h0, .inr (0, [.int fn, .ref hu, .int fo, .ref hm, .int fa, .int fx, .int fy, .int (f_X1_push_fs (f_X1_pushWord_fs fs)), .int (fp ||| 4), .int (f_X1_keptWord_r (f_X1_push_mem (f_X1_pushWord_fs fs) (f_X1_pushWord_mem fs mem p2) p3) p1), .int fd, .int fb, .long fz])), (hm, .inl (cyI, 4096, .inl (f_X1_push_mem (f_X1_pushWord_fs fs) (f_X1_pushWord_mem fs mem p2) p3)))] := hD
  have e_fs : (f_X1_breakTo_fs fs) = (f_X1_push_fs (f_X1_pushWord_fs fs)) := rfl
  have e_fp : (f_X1_breakTo_fp fp) = (fp ||| 4) := rfl
  have e_fc : (f_X1_breakTo_fc fs mem p1 p2 p3) = (f_X1_keptWord_r (f_X1_push_mem (f_X1_pushWord_fs fs) (f_X1_pushWord_mem fs mem p2) p3) p1) := rfl
  have e_mem : (f_X1_breakTo_mem fs mem p2 p3) = (f_X1_push_mem (f_X1_pushWord_fs fs) (f_X1_pushWord_mem fs mem p2) p3) := rfl
  have hP9 : va_P (dC, dI) vwCl [(h0, .inr (0, [.int fn, .ref hu, .int fo, .ref hm, .int fa, .int fx, .int fy, .int (f_X1_breakTo_fs fs), .int (f_X1_breakTo_fp fp), .int (f_X1_breakTo_fc fs mem p1 p2 p3), .int fd, .int fb, .long fz])), (hm, .inl (cyI, 4096, .inl (f_X1_breakTo_mem fs mem p2 p3)))] H := by rw [e_fs, e_fp, e_fc, e_mem]; exact hP.sub (ws' := [(h0, .inr (0, [.int fn, .ref hu, .int fo, .ref hm, .int fa, .int fx, .int fy, .int (f_X1_push_fs (f_X1_pushWord_fs fs)), .int (fp ||| 4), .int (f_X1_keptWord_r (f_X1_push_mem (f_X1_pushWord_fs fs) (f_X1_pushWord_mem fs mem p2) p3) p1), .int fd, .int fb, .long fz])), (hm, .inl (cyI, 4096, .inl (f_X1_push_mem (f_X1_pushWord_fs fs) (f_X1_pushWord_mem fs mem p2) p3)))]) [0, 1] rfl
  have hD9 : va_D A [(h0, .inr (0, [.int fn, .ref hu, .int fo, .ref hm, .int fa, .int fx, .int fy, .int (f_X1_breakTo_fs fs), .int (f_X1_breakTo_fp fp), .int (f_X1_breakTo_fc fs mem p1 p2 p3), .int fd, .int fb, .long fz])), (hm, .inl (cyI, 4096, .inl (f_X1_breakTo_mem fs mem p2 p3)))] := by rw [e_fs, e_fp, e_fc, e_mem]; exact hD.sub (ws' := [(h0, .inr (0, [.int fn, .ref hu, .int fo, .ref hm, .int fa, .int fx, .int fy, .int (f_X1_push_fs (f_X1_pushWord_fs fs)), .int (fp ||| 4), .int (f_X1_keptWord_r (f_X1_push_mem (f_X1_pushWord_fs fs) (f_X1_pushWord_mem fs mem p2) p3) p1), .int fd, .int fb, .long fz])), (hm, .inl (cyI, 4096, .inl (f_X1_push_mem (f_X1_pushWord_fs fs) (f_X1_pushWord_mem fs mem p2) p3)))]) [0, 1] (by decide) rfl
  exact W.vret hx hb hr (fun t ht hW => ⟨⟨(), rfl, trivial, by rw [ht]; exact hP9, hD9⟩, hS.F ht⟩) hS.2.2 dX1_breakTo_29

def f_X1_jump_fs (fs : Int32) (p1 : Int32) : Int32 := (if p1 = 112 then fs else (if p1 = 113 then (f_X1_pushWord_fs fs) else (if p1 = 114 then (f_X1_pullWord_fs fs) else (if p1 = 115 then (f_X1_pullWord_fs (f_X1_pullStatus_fs fs)) else (f_X1_breakTo_fs fs)))))
def f_X1_jump_fp (fs : Int32) (fp : Int32) (mem : Nat → Int32) (p1 : Int32) : Int32 := (if p1 = 112 then fp else (if p1 = 113 then fp else (if p1 = 114 then fp else (if p1 = 115 then (f_X1_pullStatus_fp fs mem) else (f_X1_breakTo_fp fp)))))
def f_X1_jump_fc (fs : Int32) (fp : Int32) (fc : Int32) (mem : Nat → Int32) (p1 : Int32) (p2 : Int32) : Int32 := (if p1 = 112 then p2 else (if p1 = 113 then p2 else (if p1 = 114 then (((f_X1_pullWord_r fs mem) + 1) &&& 65535) else (if p1 = 115 then (f_X1_pullWord_r (f_X1_pullStatus_fs fs) mem) else (f_X1_breakTo_fc fs mem 65534 (fc + 1) (fp ||| 16))))))
def f_X1_jump_mem (fs : Int32) (fp : Int32) (fc : Int32) (mem : Nat → Int32) (p1 : Int32) : Nat → Int32 := (if p1 = 112 then mem else (if p1 = 113 then (f_X1_pushWord_mem fs mem (fc - 1)) else (if p1 = 114 then mem else (if p1 = 115 then mem else (f_X1_breakTo_mem fs mem (fc + 1) (fp ||| 16))))))
set_option maxHeartbeats 4000000 in
set_option maxRecDepth 100000 in
/-- X1_jump -/
theorem c_X1_jump (l : Launch) (dC : Nat → ClassId) (dI : Nat → Nat → Nat) (sz : Nat) (h0 : Nat) (hu : Nat) (hm : Nat) (fn : Int32) (fo : Int32) (fa : Int32) (fx : Int32) (fy : Int32) (fs : Int32) (fp : Int32) (fc : Int32) (fd : Int32) (fb : Int32) (fz : Int64) (cyI : ClassId) (mem : Nat → Int32) (p1 : Int32) (p2 : Int32)  : Met l yX1_jump (Cond.code yX1_jump cX1_jump 3 none :: gw) { frames := 3, cells := 0, slots := 0, locals := 65 } (va_Pc [.ref h0, .int p1, .int p2] (wPre (dC, dI) [(cyI, .int)] [(h0, .inr (0, [.int fn, .ref hu, .int fo, .ref hm, .int fa, .int fx, .int fy, .int fs, .int fp, .int fc, .int fd, .int fb, .long fz])), (hm, .inl (cyI, 4096, .inl mem))] sz wX0)) (va_Qv (fun _ : Unit => True) (fun _ t => wPost (dC, dI) (va_A [(h0, .inr (0, [.int fn, .ref hu, .int fo, .ref hm, .int fa, .int fx, .int fy, .int fs, .int fp, .int fc, .int fd, .int fb, .long fz])), (hm, .inl (cyI, 4096, .inl mem))] sz) [(h0, .inr (0, [.int fn, .ref hu, .int fo, .ref hm, .int fa, .int fx, .int fy, .int (f_X1_jump_fs fs p1), .int (f_X1_jump_fp fs fp mem p1), .int (f_X1_jump_fc fs fp fc mem p1 p2), .int fd, .int fb, .long fz])), (hm, .inl (cyI, 4096, .inl (f_X1_jump_mem fs fp fc mem p1)))] t) (va_A [(h0, .inr (0, [.int fn, .ref hu, .int fo, .ref hm, .int fa, .int fx, .int fy, .int fs, .int fp, .int fc, .int fd, .int fb, .long fz])), (hm, .inl (cyI, 4096, .inl mem))] sz)) 0 0 (va_A [(h0, .inr (0, [.int fn, .ref hu, .int fo, .ref hm, .int fa, .int fx, .int fy, .int fs, .int fp, .int fc, .int fd, .int fb, .long fz])), (hm, .inl (cyI, 4096, .inl mem))] sz) := by
  refine Met.ofW (cc := cX1_jump) (maxL := 3) (ret := none) (by decide) rfl ?_
  intro p e s m args below meth c s₁ B hml hv
  obtain ⟨rfl, hsz, hP, hK, hD0, hXX⟩ := hv
  have hx := B.exec
  have hb := B.bytes
  have hr := B.returns
  have hts := atoms_spec (ws := (Cond.code yX1_jump cX1_jump 3 none :: gw)) B.pre
  have hown : s.vm.findClass RX1 = some m.cls := findClass_of_methodNamed B.named
  have hlocks := B.notSynchronized
  subst hsz
  have hD := hD0.self (sz := s.heap.size)
  generalize hAe : va_A [(h0, .inr (0, [.int fn, .ref hu, .int fo, .ref hm, .int fa, .int fx, .int fy, .int fs, .int fp, .int fc, .int fd, .int fb, .long fz])), (hm, .inl (cyI, 4096, .inl mem))] s.heap.size = A at hD ⊢
  have hA : ∀ q : Nat, s.heap.size ≤ q → A q := fun q h => by rw [← hAe]; exact Or.inr h
  have hS : va_S A s.heap s.heap [] := va_S.rf
  have hl := lv_entry ([.ref h0, .int p1, .int p2]) (n := 3) (Nat.le_of_ble_eq_true rfl)
  rw [lg_entry_eq]
  generalize (lg_sl ([.ref h0, .int p1, .int p2]) ++ List.replicate (3 - (lg_sl ([.ref h0, .int p1, .int p2])).length) Slot.unset).toArray = ls at hl ⊢
  have hl : lv_has ls 3 [(0, .ref h0), (1, .int p1), (2, .int p2)] := hl
  refine lv_iload_n hx hb dX1_jump_0 rfl (lv_at hl 1 rfl) ?_
  refine sw_by (p := p1 = 112) (fun c_1 => ?_) (fun c_1 => ?_)
  · refine sw_at c_1 ?_
    refine lv_tableIn (tgt := 32) hx hb dX1_jump_1 (by decide) (by decide) rfl (by decide) ?_
    refine lv_aload_n hx hb dX1_jump_32 rfl (lv_at hl 0 rfl) ?_
    refine lv_iload_n hx hb dX1_jump_33 rfl (lv_at hl 2 rfl) ?_
    refine va_put (D := (dC, dI)) (ci := 0) (v := .int p2) (ty := tyX1 9) (C := RX1) (T := TX1) (N := 13) hx hb hts (fun w h => gw_b w (iX1 w h)) tyX1 tyX1_ok nmX1 hown hK hP hD hS 0 rfl rfl 9 (by decide) (hts _ (gw_b _ gm_149)) (fun _ h9 => h9) rfl (tyX1_ok 9 (by decide)) rfl rfl (Nat.le_of_ble_eq_true rfl) dX1_jump_34 (fun H locs hP hD hS => ?_)
    have hP : va_P (dC, dI) vwCl [(h0, .inr (0, [.int fn, .ref hu, .int fo, .ref hm, .int fa, .int fx, .int fy, .int fs, .int fp, .int p2, .int fd, .int fb, .long fz])), (hm, .inl (cyI, 4096, .inl mem))] H := hP
    have hD : va_D A [(h0, .inr (0, [.int fn, .ref hu, .int fo, .ref hm, .int fa, .int fx, .int fy, .int fs, .int fp, .int p2, .int fd, .int fb, .long fz])), (hm, .inl (cyI, 4096, .inl mem))] := hD
    refine lv_goto (tgt := 108) hx hb dX1_jump_37 (by decide) ?_
    have e_fs : (f_X1_jump_fs fs p1) = fs := (if_pos c_1)
    have e_fp : (f_X1_jump_fp fs fp mem p1) = fp := (if_pos c_1)
    have e_fc : (f_X1_jump_fc fs fp fc mem p1 p2) = p2 := (if_pos c_1)
    have e_mem : (f_X1_jump_mem fs fp fc mem p1) = mem := (if_pos c_1)
    have hP9 : va_P (dC, dI) vwCl [(h0, .inr (0, [.int fn, .ref hu, .int fo, .ref hm, .int fa, .int fx, .int fy, .int (f_X1_jump_fs fs p1), .int (f_X1_jump_fp fs fp mem p1), .int (f_X1_jump_fc fs fp fc mem p1 p2), .int fd, .int fb, .long fz])), (hm, .inl (cyI, 4096, .inl (f_X1_jump_mem fs fp fc mem p1)))] H := by rw [e_fs, e_fp, e_fc, e_mem]; exact hP.sub (ws' := [(h0, .inr (0, [.int fn, .ref hu, .int fo, .ref hm, .int fa, .int fx, .int fy, .int fs, .int fp, .int p2, .int fd, .int fb, .long fz])), (hm, .inl (cyI, 4096, .inl mem))]) [0, 1] rfl
    have hD9 : va_D A [(h0, .inr (0, [.int fn, .ref hu, .int fo, .ref hm, .int fa, .int fx, .int fy, .int (f_X1_jump_fs fs p1), .int (f_X1_jump_fp fs fp mem p1), .int (f_X1_jump_fc fs fp fc mem p1 p2), .int fd, .int fb, .long fz])), (hm, .inl (cyI, 4096, .inl (f_X1_jump_mem fs fp fc mem p1)))] := by rw [e_fs, e_fp, e_fc, e_mem]; exact hD.sub (ws' := [(h0, .inr (0, [.int fn, .ref hu, .int fo, .ref hm, .int fa, .int fx, .int fy, .int fs, .int fp, .int p2, .int fd, .int fb, .long fz])), (hm, .inl (cyI, 4096, .inl mem))]) [0, 1] (by decide) rfl
    exact W.vret hx hb hr (fun t ht hW => ⟨⟨(), rfl, trivial, by rw [ht]; exact hP9, hD9⟩, hS.F ht⟩) hS.2.2 dX1_jump_108
  refine sw_by (p := p1 = 113) (fun c_2 => ?_) (fun c_2 => ?_)
  · refine sw_at c_2 ?_
    refine lv_tableIn (tgt := 40) hx hb dX1_jump_1 (by decide) (by decide) rfl (by decide) ?_
    refine lv_aload_n hx hb dX1_jump_40 rfl (lv_at hl 0 rfl) ?_
    refine lv_aload_n hx hb dX1_jump_41 rfl (lv_at hl 0 rfl) ?_
    refine va_get (D := (dC, dI)) (ci := 0) (v := .int fc) (C := RX1) (T := TX1) (N := 13) hx hb hts (fun w h => gw_b w (iX1 w h)) hown hK hP 0 rfl rfl 9 (by decide) (hts _ (gw_b _ gm_149)) (fun _ h9 => h9) rfl dX1_jump_42 ?_
    refine lv_iconst (v := 1) hx hb dX1_jump_45 (by decide) ?_
    refine lv_isub hx hb dX1_jump_46 ?_
    refine gc_v (wr := []) (w1 := [(h0, .inr (0, [.int fn, .ref hu, .int fo, .ref hm, .int fa, .int fx, .int fy, .int (f_X1_pushWord_fs fs), .int fp, .int fc, .int fd, .int fb, .long fz])), (hm, .inl (cyI, 4096, .inl (f_X1_pushWord_mem fs mem (fc - 1))))]) (gcV (As := [.int (fc - 1)]) (rest := []) ⟨hx, hb, hml, hown, hts⟩ (c_X1_pushWord l dC dI s.heap.size h0 hu hm fn fo fa fx fy fs fp fc fd fb fz cyI mem (fc - 1)) (cwV 1 hts (gw_V gw_b gm_399 gm_401 gm_6 gm_71 gm_402) rfl rfl rfl (by decide +kernel) ⟨Nat.le_of_ble_eq_true rfl, Nat.le_of_ble_eq_true rfl⟩) hK [0] rfl hP hD [0, 1] rfl rfl rfl rfl wX0_k (fun _ _ _ => trivial) rfl rfl hl.1 rfl (lv_room (Nat.le_of_ble_eq_true rfl)) dX1_jump_47 ⟨Nat.le_of_ble_eq_true rfl, Nat.le_of_ble_eq_true rfl⟩) hP hD hS hA [0, 1] [] rfl rfl rfl (by decide) (fun H locs hP hD hS => ?_)
    have hP : va_P (dC, dI) vwCl [(h0, .inr (0, [.int fn, .ref hu, .int fo, .ref hm, .int fa, .int fx, .int fy, .int (f_X1_pushWord_fs fs), .int fp, .int fc, .int fd, .int fb, .long fz])), (hm, .inl (cyI, 4096, .inl (f_X1_pushWord_mem fs mem (fc - 1))))] H := hP
    have hD : va_D A [(h0, .inr (0, [.int fn, .ref hu, .int fo, .ref hm, .int fa, .int fx, .int fy, .int (f_X1_pushWord_fs fs), .int fp, .int fc, .int fd, .int fb, .long fz])), (hm, .inl (cyI, 4096, .inl (f_X1_pushWord_mem fs mem (fc - 1))))] := hD
    refine lv_aload_n hx hb dX1_jump_50 rfl (lv_at hl 0 rfl) ?_
    refine lv_iload_n hx hb dX1_jump_51 rfl (lv_at hl 2 rfl) ?_
    refine va_put (D := (dC, dI)) (ci := 0) (v := .int p2) (ty := tyX1 9) (C := RX1) (T := TX1) (N := 13) hx hb hts (fun w h => gw_b w (iX1 w h)) tyX1 tyX1_ok nmX1 hown hK hP hD hS 0 rfl rfl 9 (by decide) (hts _ (gw_b _ gm_149)) (fun _ h9 => h9) rfl (tyX1_ok 9 (by decide)) rfl rfl (Nat.le_of_ble_eq_true rfl) dX1_jump_52 (fun H locs hP hD hS => ?_)
    have hP : va_P (dC, dI) vwCl [(h0, .inr (0, [.int fn, .ref hu, .int fo, .ref hm, .int fa, .int fx, .int fy, .int (f_X1_pushWord_fs fs), .int fp, .int p2, .int fd, .int fb, .long fz])), (hm, .inl (cyI, 4096, .inl (f_X1_pushWord_mem fs mem (fc - 1))))] H := hP
    have hD : va_D A [(h0, .inr (0, [.int fn, .ref hu, .int fo, .ref hm, .int fa, .int fx, .int fy, .int (f_X1_pushWord_fs fs), .int fp, .int p2, .int fd, .int fb, .long fz])), (hm, .inl (cyI, 4096, .inl (f_X1_pushWord_mem fs mem (fc - 1))))] := hD
    refine lv_goto (tgt := 108) hx hb dX1_jump_55 (by decide) ?_
    have e_fs : (f_X1_jump_fs fs p1) = (f_X1_pushWord_fs fs) := ((if_neg c_1)).trans (if_pos c_2)
    have e_fp : (f_X1_jump_fp fs fp mem p1) = fp := ((if_neg c_1)).trans (if_pos c_2)
    have e_fc : (f_X1_jump_fc fs fp fc mem p1 p2) = p2 := ((if_neg c_1)).trans (if_pos c_2)
    have e_mem : (f_X1_jump_mem fs fp fc mem p1) = (f_X1_pushWord_mem fs mem (fc - 1)) := ((if_neg c_1)).trans (if_pos c_2)
    have hP9 : va_P (dC, dI) vwCl [(h0, .inr (0, [.int fn, .ref hu, .int fo, .ref hm, .int fa, .int fx, .int fy, .int (f_X1_jump_fs fs p1), .int (f_X1_jump_fp fs fp mem p1), .int (f_X1_jump_fc fs fp fc mem p1 p2), .int fd, .int fb, .long fz])), (hm, .inl (cyI, 4096, .inl (f_X1_jump_mem fs fp fc mem p1)))] H := by rw [e_fs, e_fp, e_fc, e_mem]; exact hP.sub (ws' := [(h0, .inr (0, [.int fn, .ref hu, .int fo, .ref hm, .int fa, .int fx, .int fy, .int (f_X1_pushWord_fs fs), .int fp, .int p2, .int fd, .int fb, .long fz])), (hm, .inl (cyI, 4096, .inl (f_X1_pushWord_mem fs mem (fc - 1))))]) [0, 1] rfl
    have hD9 : va_D A [(h0, .inr (0, [.int fn, .ref hu, .int fo, .ref hm, .int fa, .int fx, .int fy, .int (f_X1_jump_fs fs p1), .int (f_X1_jump_fp fs fp mem p1), .int (f_X1_jump_fc fs fp fc mem p1 p2), .int fd, .int fb, .long fz])), (hm, .inl (cyI, 4096, .inl (f_X1_jump_mem fs fp fc mem p1)))] := by rw [e_fs, e_fp, e_fc, e_mem]; exact hD.sub (ws' := [(h0, .inr (0, [.int fn, .ref hu, .int fo, .ref hm, .int fa, .int fx, .int fy, .int (f_X1_pushWord_fs fs), .int fp, .int p2, .int fd, .int fb, .long fz])), (hm, .inl (cyI, 4096, .inl (f_X1_pushWord_mem fs mem (fc - 1))))]) [0, 1] (by decide) rfl
    exact W.vret hx hb hr (fun t ht hW => ⟨⟨(), rfl, trivial, by rw [ht]; exact hP9, hD9⟩, hS.F ht⟩) hS.2.2 dX1_jump_108
  refine sw_by (p := p1 = 114) (fun c_3 => ?_) (fun c_3 => ?_)
  · refine sw_at c_3 ?_
    refine lv_tableIn (tgt := 58) hx hb dX1_jump_1 (by decide) (by decide) rfl (by decide) ?_
    refine lv_aload_n hx hb dX1_jump_58 rfl (lv_at hl 0 rfl) ?_
    refine lv_aload_n hx hb dX1_jump_59 rfl (lv_at hl 0 rfl) ?_
    refine gc_i (wr := []) (w1 := [(h0, .inr (0, [.int fn, .ref hu, .int fo, .ref hm, .int fa, .int fx, .int fy, .int (f_X1_pullWord_fs fs), .int fp, .int fc, .int fd, .int fb, .long fz])), (hm, .inl (cyI, 4096, .inl mem))]) (gcV (As := []) (rest := [.ref h0]) ⟨hx, hb, hml, hown, hts⟩ (c_X1_pullWord l dC dI s.heap.size h0 hu hm fn fo fa fx fy fs fp fc fd fb fz cyI mem) (cwV 0 hts (gw_V gw_b gm_524 gm_526 gm_31 gm_71 gm_527) rfl rfl rfl (by decide +kernel) ⟨Nat.le_of_ble_eq_true rfl, Nat.le_of_ble_eq_true rfl⟩) hK [0] rfl hP hD [0, 1] rfl rfl rfl rfl wX0_k (fun _ _ _ => trivial) rfl rfl hl.1 rfl (lv_room (Nat.le_of_ble_eq_true rfl)) dX1_jump_60 ⟨Nat.le_of_ble_eq_true rfl, Nat.le_of_ble_eq_true rfl⟩) hP hD hS hA [0, 1] [] rfl rfl rfl (by decide) (fun H locs hP hD hS => ?_)
    have hP : va_P (dC, dI) vwCl [(h0, .inr (0, [.int fn, .ref hu, .int fo, .ref hm, .int fa, .int fx, .int fy, .int (f_X1_pullWord_fs fs), .int fp, .int fc, .int fd, .int fb, .long fz])), (hm, .inl (cyI, 4096, .inl mem))] H := hP
    have hD : va_D A [(h0, .inr (0, [.int fn, .ref hu, .int fo, .ref hm, .int fa, .int fx, .int fy, .int (f_X1_pullWord_fs fs), .int fp, .int fc, .int fd, .int fb, .long fz])), (hm, .inl (cyI, 4096, .inl mem))] := hD
    refine lv_iconst (v := 1) hx hb dX1_jump_63 (by decide) ?_
    refine lv_iadd hx hb dX1_jump_64 ?_
    refine lv_ldc (v := 65535) hx hb hown (hts _ (gw_b _ gm_431)) dX1_jump_65 ?_
    refine lv_iand hx hb dX1_jump_67 ?_
    refine va_put (D := (dC, dI)) (ci := 0) (v := .int (((f_X1_pullWord_r fs mem) + 1) &&& 65535)) (ty := tyX1 9) (C := RX1) (T := TX1) (N := 13) hx hb hts (fun w h => gw_b w (iX1 w h)) tyX1 tyX1_ok nmX1 hown hK hP hD hS 0 rfl rfl 9 (by decide) (hts _ (gw_b _ gm_149)) (fun _ h9 => h9) rfl (tyX1_ok 9 (by decide)) rfl rfl (Nat.le_of_ble_eq_true rfl) dX1_jump_68 (fun H locs hP hD hS => ?_)
    have hP : va_P (dC, dI) vwCl [(h0, .inr (0, [.int fn, .ref hu, .int fo, .ref hm, .int fa, .int fx, .int fy, .int (f_X1_pullWord_fs fs), .int fp, .int (((f_X1_pullWord_r fs mem) + 1) &&& 65535), .int fd, .int fb, .long fz])), (hm, .inl (cyI, 4096, .inl mem))] H := hP
    have hD : va_D A [(h0, .inr (0, [.int fn, .ref hu, .int fo, .ref hm, .int fa, .int fx, .int fy, .int (f_X1_pullWord_fs fs), .int fp, .int (((f_X1_pullWord_r fs mem) + 1) &&& 65535), .int fd, .int fb, .long fz])), (hm, .inl (cyI, 4096, .inl mem))] := hD
    refine lv_goto (tgt := 108) hx hb dX1_jump_71 (by decide) ?_
    have e_fs : (f_X1_jump_fs fs p1) = (f_X1_pullWord_fs fs) := (((if_neg c_1)).trans (if_neg c_2)).trans (if_pos c_3)
    have e_fp : (f_X1_jump_fp fs fp mem p1) = fp := (((if_neg c_1)).trans (if_neg c_2)).trans (if_pos c_3)
    have e_fc : (f_X1_jump_fc fs fp fc mem p1 p2) = (((f_X1_pullWord_r fs mem) + 1) &&& 65535) := (((if_neg c_1)).trans (if_neg c_2)).trans (if_pos c_3)
    have e_mem : (f_X1_jump_mem fs fp fc mem p1) = mem := (((if_neg c_1)).trans (if_neg c_2)).trans (if_pos c_3)
    have hP9 : va_P (dC, dI) vwCl [(h0, .inr (0, [.int fn, .ref hu, .int fo, .ref hm, .int fa, .int fx, .int fy, .int (f_X1_jump_fs fs p1), .int (f_X1_jump_fp fs fp mem p1), .int (f_X1_jump_fc fs fp fc mem p1 p2), .int fd, .int fb, .long fz])), (hm, .inl (cyI, 4096, .inl (f_X1_jump_mem fs fp fc mem p1)))] H := by rw [e_fs, e_fp, e_fc, e_mem]; exact hP.sub (ws' := [(h0, .inr (0, [.int fn, .ref hu, .int fo, .ref hm, .int fa, .int fx, .int fy, .int (f_X1_pullWord_fs fs), .int fp, .int (((f_X1_pullWord_r fs mem) + 1) &&& 65535), .int fd, .int fb, .long fz])), (hm, .inl (cyI, 4096, .inl mem))]) [0, 1] rfl
    have hD9 : va_D A [(h0, .inr (0, [.int fn, .ref hu, .int fo, .ref hm, .int fa, .int fx, .int fy, .int (f_X1_jump_fs fs p1), .int (f_X1_jump_fp fs fp mem p1), .int (f_X1_jump_fc fs fp fc mem p1 p2), .int fd, .int fb, .long fz])), (hm, .inl (cyI, 4096, .inl (f_X1_jump_mem fs fp fc mem p1)))] := by rw [e_fs, e_fp, e_fc, e_mem]; exact hD.sub (ws' := [(h0, .inr (0, [.int fn, .ref hu, .int fo, .ref hm, .int fa, .int fx, .int fy, .int (f_X1_pullWord_fs fs), .int fp, .int (((f_X1_pullWord_r fs mem) + 1) &&& 65535), .int fd, .int fb, .long fz])), (hm, .inl (cyI, 4096, .inl mem))]) [0, 1] (by decide) rfl
    exact W.vret hx hb hr (fun t ht hW => ⟨⟨(), rfl, trivial, by rw [ht]; exact hP9, hD9⟩, hS.F ht⟩) hS.2.2 dX1_jump_108
  refine sw_by (p := p1 = 115) (fun c_4 => ?_) (fun c_4 => ?_)
  · refine sw_at c_4 ?_
    refine lv_tableIn (tgt := 74) hx hb dX1_jump_1 (by decide) (by decide) rfl (by decide) ?_
    refine lv_aload_n hx hb dX1_jump_74 rfl (lv_at hl 0 rfl) ?_
    refine gc_v (wr := []) (w1 := [(h0, .inr (0, [.int fn, .ref hu, .int fo, .ref hm, .int fa, .int fx, .int fy, .int (f_X1_pullStatus_fs fs), .int (f_X1_pullStatus_fp fs mem), .int fc, .int fd, .int fb, .long fz])), (hm, .inl (cyI, 4096, .inl mem))]) (gcV (As := []) (rest := []) ⟨hx, hb, hml, hown, hts⟩ (c_X1_pullStatus l dC dI s.heap.size h0 hu hm fn fo fa fx fy fs fp fc fd fb fz cyI mem) (cwV 0 hts (gw_V gw_b gm_516 gm_518 gm_29 gm_71 gm_519) rfl rfl rfl (by decide +kernel) ⟨Nat.le_of_ble_eq_true rfl, Nat.le_of_ble_eq_true rfl⟩) hK [0] rfl hP hD [0, 1] rfl rfl rfl rfl wX0_k (fun _ _ _ => trivial) rfl rfl hl.1 rfl (lv_room (Nat.le_of_ble_eq_true rfl)) dX1_jump_75 ⟨Nat.le_of_ble_eq_true rfl, Nat.le_of_ble_eq_true rfl⟩) hP hD hS hA [0, 1] [] rfl rfl rfl (by decide) (fun H locs hP hD hS => ?_)
    have hP : va_P (dC, dI) vwCl [(h0, .inr (0, [.int fn, .ref hu, .int fo, .ref hm, .int fa, .int fx, .int fy, .int (f_X1_pullStatus_fs fs), .int (f_X1_pullStatus_fp fs mem), .int fc, .int fd, .int fb, .long fz])), (hm, .inl (cyI, 4096, .inl mem))] H := hP
    have hD : va_D A [(h0, .inr (0, [.int fn, .ref hu, .int fo, .ref hm, .int fa, .int fx, .int fy, .int (f_X1_pullStatus_fs fs), .int (f_X1_pullStatus_fp fs mem), .int fc, .int fd, .int fb, .long fz])), (hm, .inl (cyI, 4096, .inl mem))] := hD
    refine lv_aload_n hx hb dX1_jump_78 rfl (lv_at hl 0 rfl) ?_
    refine lv_aload_n hx hb dX1_jump_79 rfl (lv_at hl 0 rfl) ?_
    refine gc_i (wr := []) (w1 := [(h0, .inr (0, [.int fn, .ref hu, .int fo, .ref hm, .int fa, .int fx, .int fy, .int (f_X1_pullWord_fs (f_X1_pullStatus_fs fs)), .int (f_X1_pullStatus_fp fs mem), .int fc, .int fd, .int fb, .long fz])), (hm, .inl (cyI, 4096, .inl mem))]) (gcV (As := []) (rest := [.ref h0]) ⟨hx, hb, hml, hown, hts⟩ (c_X1_pullWord l dC dI H.size h0 hu hm fn fo fa fx fy (f_X1_pullStatus_fs fs) (f_X1_pullStatus_fp fs mem) fc fd fb fz cyI mem) (cwV 0 hts (gw_V gw_b gm_524 gm_526 gm_31 gm_71 gm_527) rfl rfl rfl (by decide +kernel) ⟨Nat.le_of_ble_eq_true rfl, Nat.le_of_ble_eq_true rfl⟩) hK [0] rfl hP hD [0, 1] rfl rfl rfl rfl wX0_k (fun _ _ _ => trivial) rfl rfl hl.1 rfl (lv_room (Nat.le_of_ble_eq_true rfl)) dX1_jump_80 ⟨Nat.le_of_ble_eq_true rfl, Nat.le_of_ble_eq_true rfl⟩) hP hD hS hA [0, 1] [] rfl rfl rfl (by decide) (fun H locs hP hD hS => ?_)
    have hP : va_P (dC, dI) vwCl [(h0, .inr (0, [.int fn, .ref hu, .int fo, .ref hm, .int fa, .int fx, .int fy, .int (f_X1_pullWord_fs (f_X1_pullStatus_fs fs)), .int (f_X1_pullStatus_fp fs mem), .int fc, .int fd, .int fb, .long fz])), (hm, .inl (cyI, 4096, .inl mem))] H := hP
    have hD : va_D A [(h0, .inr (0, [.int fn, .ref hu, .int fo, .ref hm, .int fa, .int fx, .int fy, .int (f_X1_pullWord_fs (f_X1_pullStatus_fs fs)), .int (f_X1_pullStatus_fp fs mem), .int fc, .int fd, .int fb, .long fz])), (hm, .inl (cyI, 4096, .inl mem))] := hD
    refine va_put (D := (dC, dI)) (ci := 0) (v := .int (f_X1_pullWord_r (f_X1_pullStatus_fs fs) mem)) (ty := tyX1 9) (C := RX1) (T := TX1) (N := 13) hx hb hts (fun w h => gw_b w (iX1 w h)) tyX1 tyX1_ok nmX1 hown hK hP hD hS 0 rfl rfl 9 (by decide) (hts _ (gw_b _ gm_149)) (fun _ h9 => h9) rfl (tyX1_ok 9 (by decide)) rfl rfl (Nat.le_of_ble_eq_true rfl) dX1_jump_83 (fun H locs hP hD hS => ?_)
    have hP : va_P (dC, dI) vwCl [(h0, .inr (0, [.int fn, .ref hu, .int fo, .ref hm, .int fa, .int fx, .int fy, .int (f_X1_pullWord_fs (f_X1_pullStatus_fs fs)), .int (f_X1_pullStatus_fp fs mem), .int (f_X1_pullWord_r (f_X1_pullStatus_fs fs) mem), .int fd, .int fb, .long fz])), (hm, .inl (cyI, 4096, .inl mem))] H := hP
    have hD : va_D A [(h0, .inr (0, [.int fn, .ref hu, .int fo, .ref hm, .int fa, .int fx, .int fy, .int (f_X1_pullWord_fs (f_X1_pullStatus_fs fs)), .int (f_X1_pullStatus_fp fs mem), .int (f_X1_pullWord_r (f_X1_pullStatus_fs fs) mem), .int fd, .int fb, .long fz])), (hm, .inl (cyI, 4096, .inl mem))] := hD
    refine lv_goto (tgt := 108) hx hb dX1_jump_86 (by decide) ?_
    have e_fs : (f_X1_jump_fs fs p1) = (f_X1_pullWord_fs (f_X1_pullStatus_fs fs)) := ((((if_neg c_1)).trans (if_neg c_2)).trans (if_neg c_3)).trans (if_pos c_4)
    have e_fp : (f_X1_jump_fp fs fp mem p1) = (f_X1_pullStatus_fp fs mem) := ((((if_neg c_1)).trans (if_neg c_2)).trans (if_neg c_3)).trans (if_pos c_4)
    have e_fc : (f_X1_jump_fc fs fp fc mem p1 p2) = (f_X1_pullWord_r (f_X1_pullStatus_fs fs) mem) := ((((if_neg c_1)).trans (if_neg c_2)).trans (if_neg c_3)).trans (if_pos c_4)
    have e_mem : (f_X1_jump_mem fs fp fc mem p1) = mem := ((((if_neg c_1)).trans (if_neg c_2)).trans (if_neg c_3)).trans (if_pos c_4)
    have hP9 : va_P (dC, dI) vwCl [(h0, .inr (0, [.int fn, .ref hu, .int fo, .ref hm, .int fa, .int fx, .int fy, .int (f_X1_jump_fs fs p1), .int (f_X1_jump_fp fs fp mem p1), .int (f_X1_jump_fc fs fp fc mem p1 p2), .int fd, .int fb, .long fz])), (hm, .inl (cyI, 4096, .inl (f_X1_jump_mem fs fp fc mem p1)))] H := by rw [e_fs, e_fp, e_fc, e_mem]; exact hP.sub (ws' := [(h0, .inr (0, [.int fn, .ref hu, .int fo, .ref hm, .int fa, .int fx, .int fy, .int (f_X1_pullWord_fs (f_X1_pullStatus_fs fs)), .int (f_X1_pullStatus_fp fs mem), .int (f_X1_pullWord_r (f_X1_pullStatus_fs fs) mem), .int fd, .int fb, .long fz])), (hm, .inl (cyI, 4096, .inl mem))]) [0, 1] rfl
    have hD9 : va_D A [(h0, .inr (0, [.int fn, .ref hu, .int fo, .ref hm, .int fa, .int fx, .int fy, .int (f_X1_jump_fs fs p1), .int (f_X1_jump_fp fs fp mem p1), .int (f_X1_jump_fc fs fp fc mem p1 p2), .int fd, .int fb, .long fz])), (hm, .inl (cyI, 4096, .inl (f_X1_jump_mem fs fp fc mem p1)))] := by rw [e_fs, e_fp, e_fc, e_mem]; exact hD.sub (ws' := [(h0, .inr (0, [.int fn, .ref hu, .int fo, .ref hm, .int fa, .int fx, .int fy, .int (f_X1_pullWord_fs (f_X1_pullStatus_fs fs)), .int (f_X1_pullStatus_fp fs mem), .int (f_X1_pullWord_r (f_X1_pullStatus_fs fs) mem), .int fd, .int fb, .long fz])), (hm, .inl (cyI, 4096, .inl mem))]) [0, 1] (by decide) rfl
    exact W.vret hx hb hr (fun t ht hW => ⟨⟨(), rfl, trivial, by rw [ht]; exact hP9, hD9⟩, hS.F ht⟩) hS.2.2 dX1_jump_108
  refine lv_tableOut (tgt := 89) hx hb dX1_jump_1 (sw_range (fun v h1 h2 => by rcases (show v = 112 ∨ v = 113 ∨ v = 114 ∨ v = 115 by omega) with rfl | rfl | rfl | rfl; (· exact c_1); (· exact c_2); (· exact c_3); (· exact c_4))) (by decide) ?_
  refine lv_aload_n hx hb dX1_jump_89 rfl (lv_at hl 0 rfl) ?_
  refine lv_ldc (v := 65534) hx hb hown (hts _ (gw_b _ gm_411)) dX1_jump_90 ?_
  refine lv_aload_n hx hb dX1_jump_92 rfl (lv_at hl 0 rfl) ?_
  refine va_get (D := (dC, dI)) (ci := 0) (v := .int fc) (C := RX1) (T := TX1) (N := 13) hx hb hts (fun w h => gw_b w (iX1 w h)) hown hK hP 0 rfl rfl 9 (by decide) (hts _ (gw_b _ gm_149)) (fun _ h9 => h9) rfl dX1_jump_93 ?_
  refine lv_iconst (v := 1) hx hb dX1_jump_96 (by decide) ?_
  refine lv_iadd hx hb dX1_jump_97 ?_
  refine lv_aload_n hx hb dX1_jump_98 rfl (lv_at hl 0 rfl) ?_
  refine va_get (D := (dC, dI)) (ci := 0) (v := .int fp) (C := RX1) (T := TX1) (N := 13) hx hb hts (fun w h => gw_b w (iX1 w h)) hown hK hP 0 rfl rfl 8 (by decide) (hts _ (gw_b _ gm_148)) (fun _ h9 => h9) rfl dX1_jump_99 ?_
  refine lv_bipush (v := 16) hx hb dX1_jump_102 (by decide) ?_
  refine lv_ior hx hb dX1_jump_104 ?_
  refine gc_v (wr := []) (w1 := [(h0, .inr (0, [.int fn, .ref hu, .int fo, .ref hm, .int fa, .int fx, .int fy, .int (f_X1_breakTo_fs fs), .int (f_X1_breakTo_fp fp), .int (f_X1_breakTo_fc fs mem 65534 (fc + 1) (fp ||| 16)), .int fd, .int fb, .long fz])), (hm, .inl (cyI, 4096, .inl (f_X1_breakTo_mem fs mem (fc + 1) (fp ||| 16))))]) (gcV (As := [.int 65534, .int (fc + 1), .int (fp ||| 16)]) (rest := []) ⟨hx, hb, hml, hown, hts⟩ (c_X1_breakTo l dC dI s.heap.size h0 hu hm fn fo fa fx fy fs fp fc fd fb fz cyI mem 65534 (fc + 1) (fp ||| 16)) (cwV 3 hts (gw_V gw_b gm_395 gm_397 gm_5 gm_71 gm_398) rfl rfl rfl (by decide +kernel) ⟨Nat.le_of_ble_eq_true rfl, Nat.le_of_ble_eq_true rfl⟩) hK [0] rfl hP hD [0, 1] rfl rfl rfl rfl wX0_k (fun _ _ _ => trivial) rfl rfl hl.1 rfl (lv_room (Nat.le_of_ble_eq_true rfl)) dX1_jump_105 ⟨Nat.le_of_ble_eq_true rfl, Nat.le_of_ble_eq_true rfl⟩) hP hD hS hA [0, 1] [] rfl rfl rfl (by decide) (fun H locs hP hD hS => ?_)
  have hP : va_P (dC, dI) vwCl [(h0, .inr (0, [.int fn, .ref hu, .int fo, .ref hm, .int fa, .int fx, .int fy, .int (f_X1_breakTo_fs fs), .int (f_X1_breakTo_fp fp), .int (f_X1_breakTo_fc fs mem 65534 (fc + 1) (fp ||| 16)), .int fd, .int fb, .long fz])), (hm, .inl (cyI, 4096, .inl (f_X1_breakTo_mem fs mem (fc + 1) (fp ||| 16))))] H := hP
  have hD : va_D A [(h0, .inr (0, [.int fn, .ref hu, .int fo, .ref hm, .int fa, .int fx, .int fy, .int (f_X1_breakTo_fs fs), .int (f_X1_breakTo_fp fp), .int (f_X1_breakTo_fc fs mem 65534 (fc + 1) (fp ||| 16)), .int fd, .int fb, .long fz])), (hm, .inl (cyI, 4096, .inl (f_X1_breakTo_mem fs mem (fc + 1) (fp ||| 16))))] := hD
  have e_fs : (f_X1_jump_fs fs p1) = (f_X1_breakTo_fs fs) := ((((if_neg c_1)).trans (if_neg c_2)).trans (if_neg c_3)).trans (if_neg c_4)
  have e_fp : (f_X1_jump_fp fs fp mem p1) = (f_X1_breakTo_fp fp) := ((((if_neg c_1)).trans (if_neg c_2)).trans (if_neg c_3)).trans (if_neg c_4)
  have e_fc : (f_X1_jump_fc fs fp fc mem p1 p2) = (f_X1_breakTo_fc fs mem 65534 (fc + 1) (fp ||| 16)) := ((((if_neg c_1)).trans (if_neg c_2)).trans (if_neg c_3)).trans (if_neg c_4)
  have e_mem : (f_X1_jump_mem fs fp fc mem p1) = (f_X1_breakTo_mem fs mem (fc + 1) (fp ||| 16)) := ((((if_neg c_1)).trans (if_neg c_2)).trans (if_neg c_3)).trans (if_neg c_4)
  have hP9 : va_P (dC, dI) vwCl [(h0, .inr (0, [.int fn, .ref hu, .int fo, .ref hm, .int fa, .int fx, .int fy, .int (f_X1_jump_fs fs p1), .int (f_X1_jump_fp fs fp mem p1), .int (f_X1_jump_fc fs fp fc mem p1 p2), .int fd, .int fb, .long fz])), (hm, .inl (cyI, 4096, .inl (f_X1_jump_mem fs fp fc mem p1)))] H := by rw [e_fs, e_fp, e_fc, e_mem]; exact hP.sub (ws' := [(h0, .inr (0, [.int fn, .ref hu, .int fo, .ref hm, .int fa, .int fx, .int fy, .int (f_X1_breakTo_fs fs), .int (f_X1_breakTo_fp fp), .int (f_X1_breakTo_fc fs mem 65534 (fc + 1) (fp ||| 16)), .int fd, .int fb, .long fz])), (hm, .inl (cyI, 4096, .inl (f_X1_breakTo_mem fs mem (fc + 1) (fp ||| 16))))]) [0, 1] rfl
  have hD9 : va_D A [(h0, .inr (0, [.int fn, .ref hu, .int fo, .ref hm, .int fa, .int fx, .int fy, .int (f_X1_jump_fs fs p1), .int (f_X1_jump_fp fs fp mem p1), .int (f_X1_jump_fc fs fp fc mem p1 p2), .int fd, .int fb, .long fz])), (hm, .inl (cyI, 4096, .inl (f_X1_jump_mem fs fp fc mem p1)))] := by rw [e_fs, e_fp, e_fc, e_mem]; exact hD.sub (ws' := [(h0, .inr (0, [.int fn, .ref hu, .int fo, .ref hm, .int fa, .int fx, .int fy, .int (f_X1_breakTo_fs fs), .int (f_X1_breakTo_fp fp), .int (f_X1_breakTo_fc fs mem 65534 (fc + 1) (fp ||| 16)), .int fd, .int fb, .long fz])), (hm, .inl (cyI, 4096, .inl (f_X1_breakTo_mem fs mem (fc + 1) (fp ||| 16))))]) [0, 1] (by decide) rfl
  exact W.vret hx hb hr (fun t ht hW => ⟨⟨(), rfl, trivial, by rw [ht]; exact hP9, hD9⟩, hS.F ht⟩) hS.2.2 dX1_jump_108

def f_X1_keep_mem (mem : Nat → Int32) (p1 : Int32) (p2 : Int32) (p3 : Int32) : Nat → Int32 := (if p3 ≤ 0 then mem else (if p3 ≤ 1 then (upd mem ((p1 + 0) &&& 4095).toNatClampNeg (((p2.toUInt32 >>> ((24 : Int32).toUInt32 &&& Int32.toUInt32 31)).toInt32) &&& 255)) else (if p3 ≤ 2 then (upd (upd mem ((p1 + 0) &&& 4095).toNatClampNeg (((p2.toUInt32 >>> ((24 : Int32).toUInt32 &&& Int32.toUInt32 31)).toInt32) &&& 255)) ((p1 + 1) &&& 4095).toNatClampNeg (((p2.toUInt32 >>> ((16 : Int32).toUInt32 &&& Int32.toUInt32 31)).toInt32) &&& 255)) else (if p3 ≤ 3 then (upd (upd (upd mem ((p1 + 0) &&& 4095).toNatClampNeg (((p2.toUInt32 >>> ((24 : Int32).toUInt32 &&& Int32.toUInt32 31)).toInt32) &&& 255)) ((p1 + 1) &&& 4095).toNatClampNeg (((p2.toUInt32 >>> ((16 : Int32).toUInt32 &&& Int32.toUInt32 31)).toInt32) &&& 255)) ((p1 + 2) &&& 4095).toNatClampNeg (((p2.toUInt32 >>> ((8 : Int32).toUInt32 &&& Int32.toUInt32 31)).toInt32) &&& 255)) else (upd (upd (upd (upd mem ((p1 + 0) &&& 4095).toNatClampNeg (((p2.toUInt32 >>> ((24 : Int32).toUInt32 &&& Int32.toUInt32 31)).toInt32) &&& 255)) ((p1 + 1) &&& 4095).toNatClampNeg (((p2.toUInt32 >>> ((16 : Int32).toUInt32 &&& Int32.toUInt32 31)).toInt32) &&& 255)) ((p1 + 2) &&& 4095).toNatClampNeg (((p2.toUInt32 >>> ((8 : Int32).toUInt32 &&& Int32.toUInt32 31)).toInt32) &&& 255)) ((p1 + 3) &&& 4095).toNatClampNeg (((p2.toUInt32 >>> ((0 : Int32).toUInt32 &&& Int32.toUInt32 31)).toInt32) &&& 255))))))
set_option maxHeartbeats 4000000 in
set_option maxRecDepth 100000 in
/-- X1_keep -/
theorem c_X1_keep (l : Launch) (dC : Nat → ClassId) (dI : Nat → Nat → Nat) (sz : Nat) (h0 : Nat) (hu : Nat) (hm : Nat) (fn : Int32) (fo : Int32) (fa : Int32) (fx : Int32) (fy : Int32) (fs : Int32) (fp : Int32) (fc : Int32) (fd : Int32) (fb : Int32) (fz : Int64) (cyI : ClassId) (mem : Nat → Int32) (p1 : Int32) (p2 : Int32) (p3 : Int32)  : Met l yX1_keep (Cond.code yX1_keep cX1_keep 5 none :: gw) { frames := 0, cells := 0, slots := 0, locals := 0 } (va_Pc [.ref h0, .int p1, .int p2, .int p3] (wPre (dC, dI) [(cyI, .int)] [(h0, .inr (0, [.int fn, .ref hu, .int fo, .ref hm, .int fa, .int fx, .int fy, .int fs, .int fp, .int fc, .int fd, .int fb, .long fz])), (hm, .inl (cyI, 4096, .inl mem))] sz wX0)) (va_Qv (fun _ : Unit => True) (fun _ t => wPost (dC, dI) (va_A [(h0, .inr (0, [.int fn, .ref hu, .int fo, .ref hm, .int fa, .int fx, .int fy, .int fs, .int fp, .int fc, .int fd, .int fb, .long fz])), (hm, .inl (cyI, 4096, .inl mem))] sz) [(h0, .inr (0, [.int fn, .ref hu, .int fo, .ref hm, .int fa, .int fx, .int fy, .int fs, .int fp, .int fc, .int fd, .int fb, .long fz])), (hm, .inl (cyI, 4096, .inl (f_X1_keep_mem mem p1 p2 p3)))] t) (va_A [(h0, .inr (0, [.int fn, .ref hu, .int fo, .ref hm, .int fa, .int fx, .int fy, .int fs, .int fp, .int fc, .int fd, .int fb, .long fz])), (hm, .inl (cyI, 4096, .inl mem))] sz)) 0 0 (va_A [(h0, .inr (0, [.int fn, .ref hu, .int fo, .ref hm, .int fa, .int fx, .int fy, .int fs, .int fp, .int fc, .int fd, .int fb, .long fz])), (hm, .inl (cyI, 4096, .inl mem))] sz) := by
  refine Met.ofW (cc := cX1_keep) (maxL := 5) (ret := none) (by decide) rfl ?_
  intro p e s m args below meth c s₁ B hml hv
  obtain ⟨rfl, hsz, hP, hK, hD0, hXX⟩ := hv
  have hx := B.exec
  have hb := B.bytes
  have hr := B.returns
  have hts := atoms_spec (ws := (Cond.code yX1_keep cX1_keep 5 none :: gw)) B.pre
  have hown : s.vm.findClass RX1 = some m.cls := findClass_of_methodNamed B.named
  have hlocks := B.notSynchronized
  subst hsz
  have hD := hD0.self (sz := s.heap.size)
  generalize hAe : va_A [(h0, .inr (0, [.int fn, .ref hu, .int fo, .ref hm, .int fa, .int fx, .int fy, .int fs, .int fp, .int fc, .int fd, .int fb, .long fz])), (hm, .inl (cyI, 4096, .inl mem))] s.heap.size = A at hD ⊢
  have hA : ∀ q : Nat, s.heap.size ≤ q → A q := fun q h => by rw [← hAe]; exact Or.inr h
  have hS : va_S A s.heap s.heap [] := va_S.rf
  have hl := lv_entry ([.ref h0, .int p1, .int p2, .int p3]) (n := 5) (Nat.le_of_ble_eq_true rfl)
  rw [lg_entry_eq]
  generalize (lg_sl ([.ref h0, .int p1, .int p2, .int p3]) ++ List.replicate (5 - (lg_sl ([.ref h0, .int p1, .int p2, .int p3])).length) Slot.unset).toArray = ls at hl ⊢
  have hl : lv_has ls 5 [(0, .ref h0), (1, .int p1), (2, .int p2), (3, .int p3)] := hl
  refine lv_iconst (v := 0) hx hb dX1_keep_0 (by decide) ?_
  refine lv_istore (lv' := [(4, .int 0), (0, .ref h0), (1, .int p1), (2, .int p2), (3, .int p3)]) hx hb dX1_keep_1 hl (by decide) rfl (fun ls hl => ?_)
  refine lv_iload hx hb dX1_keep_3 (lv_at hl 0 rfl) ?_
  refine lv_iconst (v := 4) hx hb dX1_keep_5 (by decide) ?_
  refine lv_icmp_ge (tgt := 48) hx hb dX1_keep_6 (by decide) (fun c => absurd c (by decide)) (fun _ => ?_)
  refine lv_iload hx hb dX1_keep_9 (lv_at hl 0 rfl) ?_
  refine lv_iload_n hx hb dX1_keep_11 rfl (lv_at hl 4 rfl) ?_
  refine lv_icmp_ge (tgt := 48) hx hb dX1_keep_12 (by decide) (fun c_1 => ?_) (fun c_1 => ?_)
  · skip
    have e_mem : (f_X1_keep_mem mem p1 p2 p3) = mem := (if_pos c_1)
    have hP9 : va_P (dC, dI) vwCl [(h0, .inr (0, [.int fn, .ref hu, .int fo, .ref hm, .int fa, .int fx, .int fy, .int fs, .int fp, .int fc, .int fd, .int fb, .long fz])), (hm, .inl (cyI, 4096, .inl (f_X1_keep_mem mem p1 p2 p3)))] s.heap := by rw [e_mem]; exact hP.sub (ws' := [(h0, .inr (0, [.int fn, .ref hu, .int fo, .ref hm, .int fa, .int fx, .int fy, .int fs, .int fp, .int fc, .int fd, .int fb, .long fz])), (hm, .inl (cyI, 4096, .inl mem))]) [0, 1] rfl
    have hD9 : va_D A [(h0, .inr (0, [.int fn, .ref hu, .int fo, .ref hm, .int fa, .int fx, .int fy, .int fs, .int fp, .int fc, .int fd, .int fb, .long fz])), (hm, .inl (cyI, 4096, .inl (f_X1_keep_mem mem p1 p2 p3)))] := by rw [e_mem]; exact hD.sub (ws' := [(h0, .inr (0, [.int fn, .ref hu, .int fo, .ref hm, .int fa, .int fx, .int fy, .int fs, .int fp, .int fc, .int fd, .int fb, .long fz])), (hm, .inl (cyI, 4096, .inl mem))]) [0, 1] (by decide) rfl
    exact W.vret hx hb hr (fun t ht hW => ⟨⟨(), rfl, trivial, by rw [ht]; exact hP9, hD9⟩, hS.F ht⟩) hS.2.2 dX1_keep_48
  · skip
    refine lv_aload_n hx hb dX1_keep_15 rfl (lv_at hl 1 rfl) ?_
    refine va_get (D := (dC, dI)) (ci := 0) (v := .ref hm) (C := RX1) (T := TX1) (N := 13) hx hb hts (fun w h => gw_b w (iX1 w h)) hown hK hP 0 rfl rfl 3 (by decide) (hts _ (gw_b _ gm_143)) (fun _ h9 => h9) rfl dX1_keep_16 ?_
    refine lv_iload_n hx hb dX1_keep_19 rfl (lv_at hl 2 rfl) ?_
    refine lv_iload hx hb dX1_keep_20 (lv_at hl 0 rfl) ?_
    refine lv_iadd hx hb dX1_keep_22 ?_
    refine lv_sipush (v := 4095) hx hb dX1_keep_23 (by decide) ?_
    refine lv_iand hx hb dX1_keep_26 ?_
    refine lv_iload_n hx hb dX1_keep_27 rfl (lv_at hl 3 rfl) ?_
    refine lv_bipush (v := 24) hx hb dX1_keep_28 (by decide) ?_
    refine lv_bipush (v := 8) hx hb dX1_keep_30 (by decide) ?_
    refine lv_iload hx hb dX1_keep_32 (lv_at hl 0 rfl) ?_
    refine lv_imul hx hb dX1_keep_34 ?_
    refine lv_fold (v := 0) (by decide) ?_
    refine lv_isub hx hb dX1_keep_35 ?_
    refine lv_fold (v := 24) (by decide) ?_
    refine lv_iushr (v := (p2.toUInt32 >>> ((24 : Int32).toUInt32 &&& Int32.toUInt32 31)).toInt32) hx hb dX1_keep_36 rfl ?_
    refine lv_sipush (v := 255) hx hb dX1_keep_37 (by decide) ?_
    refine lv_iand hx hb dX1_keep_40 ?_
    refine va_iast (D := (dC, dI)) hx hb hK hP hD hS 1 0 rfl rfl (pk_andIn (p1 + 0) (m := 4095) 12 (by decide) (by decide)) dX1_keep_41 (fun H locs hP hD hS => ?_)
    have hP : va_P (dC, dI) vwCl [(h0, .inr (0, [.int fn, .ref hu, .int fo, .ref hm, .int fa, .int fx, .int fy, .int fs, .int fp, .int fc, .int fd, .int fb, .long fz])), (hm, .inl (cyI, 4096, .inl (upd mem ((p1 + 0) &&& 4095).toNatClampNeg (((p2.toUInt32 >>> ((24 : Int32).toUInt32 &&& Int32.toUInt32 31)).toInt32) &&& 255))))] H := hP
    have hD : va_D A [(h0, .inr (0, [.int fn, .ref hu, .int fo, .ref hm, .int fa, .int fx, .int fy, .int fs, .int fp, .int fc, .int fd, .int fb, .long fz])), (hm, .inl (cyI, 4096, .inl (upd mem ((p1 + 0) &&& 4095).toNatClampNeg (((p2.toUInt32 >>> ((24 : Int32).toUInt32 &&& Int32.toUInt32 31)).toInt32) &&& 255))))] := hD
    refine lv_iinc (v := 1) (lv' := [(4, .int 1), (0, .ref h0), (1, .int p1), (2, .int p2), (3, .int p3)]) hx hb dX1_keep_42 hl (k := 0) rfl (by decide) (by decide) rfl (fun ls hl => ?_)
    refine lv_goto (tgt := 3) hx hb dX1_keep_45 (by decide) ?_
    refine lv_iload hx hb dX1_keep_3 (lv_at hl 0 rfl) ?_
    refine lv_iconst (v := 4) hx hb dX1_keep_5 (by decide) ?_
    refine lv_icmp_ge (tgt := 48) hx hb dX1_keep_6 (by decide) (fun c => absurd c (by decide)) (fun _ => ?_)
    refine lv_iload hx hb dX1_keep_9 (lv_at hl 0 rfl) ?_
    refine lv_iload_n hx hb dX1_keep_11 rfl (lv_at hl 4 rfl) ?_
    refine lv_icmp_ge (tgt := 48) hx hb dX1_keep_12 (by decide) (fun c_2 => ?_) (fun c_2 => ?_)
    · skip
      have e_mem : (f_X1_keep_mem mem p1 p2 p3) = (upd mem ((p1 + 0) &&& 4095).toNatClampNeg (((p2.toUInt32 >>> ((24 : Int32).toUInt32 &&& Int32.toUInt32 31)).toInt32) &&& 255)) := ((if_neg c_1)).trans (if_pos c_2)
      have hP9 : va_P (dC, dI) vwCl [(h0, .inr (0, [.int fn, .ref hu, .int fo, .ref hm, .int fa, .int fx, .int fy, .int fs, .int fp, .int fc, .int fd, .int fb, .long fz])), (hm, .inl (cyI, 4096, .inl (f_X1_keep_mem mem p1 p2 p3)))] H := by rw [e_mem]; exact hP.sub (ws' := [(h0, .inr (0, [.int fn, .ref hu, .int fo, .ref hm, .int fa, .int fx, .int fy, .int fs, .int fp, .int fc, .int fd, .int fb, .long fz])), (hm, .inl (cyI, 4096, .inl (upd mem ((p1 + 0) &&& 4095).toNatClampNeg (((p2.toUInt32 >>> ((24 : Int32).toUInt32 &&& Int32.toUInt32 31)).toInt32) &&& 255))))]) [0, 1] rfl
      have hD9 : va_D A [(h0, .inr (0, [.int fn, .ref hu, .int fo, .ref hm, .int fa, .int fx, .int fy, .int fs, .int fp, .int fc, .int fd, .int fb, .long fz])), (hm, .inl (cyI, 4096, .inl (f_X1_keep_mem mem p1 p2 p3)))] := by rw [e_mem]; exact hD.sub (ws' := [(h0, .inr (0, [.int fn, .ref hu, .int fo, .ref hm, .int fa, .int fx, .int fy, .int fs, .int fp, .int fc, .int fd, .int fb, .long fz])), (hm, .inl (cyI, 4096, .inl (upd mem ((p1 + 0) &&& 4095).toNatClampNeg (((p2.toUInt32 >>> ((24 : Int32).toUInt32 &&& Int32.toUInt32 31)).toInt32) &&& 255))))]) [0, 1] (by decide) rfl
      exact W.vret hx hb hr (fun t ht hW => ⟨⟨(), rfl, trivial, by rw [ht]; exact hP9, hD9⟩, hS.F ht⟩) hS.2.2 dX1_keep_48
    · skip
      refine lv_aload_n hx hb dX1_keep_15 rfl (lv_at hl 1 rfl) ?_
      refine va_get (D := (dC, dI)) (ci := 0) (v := .ref hm) (C := RX1) (T := TX1) (N := 13) hx hb hts (fun w h => gw_b w (iX1 w h)) hown hK hP 0 rfl rfl 3 (by decide) (hts _ (gw_b _ gm_143)) (fun _ h9 => h9) rfl dX1_keep_16 ?_
      refine lv_iload_n hx hb dX1_keep_19 rfl (lv_at hl 2 rfl) ?_
      refine lv_iload hx hb dX1_keep_20 (lv_at hl 0 rfl) ?_
      refine lv_iadd hx hb dX1_keep_22 ?_
      refine lv_sipush (v := 4095) hx hb dX1_keep_23 (by decide) ?_
      refine lv_iand hx hb dX1_keep_26 ?_
      refine lv_iload_n hx hb dX1_keep_27 rfl (lv_at hl 3 rfl) ?_
      refine lv_bipush (v := 24) hx hb dX1_keep_28 (by decide) ?_
      refine lv_bipush (v := 8) hx hb dX1_keep_30 (by decide) ?_
      refine lv_iload hx hb dX1_keep_32 (lv_at hl 0 rfl) ?_
      refine lv_imul hx hb dX1_keep_34 ?_
      refine lv_fold (v := 8) (by decide) ?_
      refine lv_isub hx hb dX1_keep_35 ?_
      refine lv_fold (v := 16) (by decide) ?_
      refine lv_iushr (v := (p2.toUInt32 >>> ((16 : Int32).toUInt32 &&& Int32.toUInt32 31)).toInt32) hx hb dX1_keep_36 rfl ?_
      refine lv_sipush (v := 255) hx hb dX1_keep_37 (by decide) ?_
      refine lv_iand hx hb dX1_keep_40 ?_
      refine va_iast (D := (dC, dI)) hx hb hK hP hD hS 1 0 rfl rfl (pk_andIn (p1 + 1) (m := 4095) 12 (by decide) (by decide)) dX1_keep_41 (fun H locs hP hD hS => ?_)
      have hP : va_P (dC, dI) vwCl [(h0, .inr (0, [.int fn, .ref hu, .int fo, .ref hm, .int fa, .int fx, .int fy, .int fs, .int fp, .int fc, .int fd, .int fb, .long fz])), (hm, .inl (cyI, 4096, .inl (upd (upd mem ((p1 + 0) &&& 4095).toNatClampNeg (((p2.toUInt32 >>> ((24 : Int32).toUInt32 &&& Int32.toUInt32 31)).toInt32) &&& 255)) ((p1 + 1) &&& 4095).toNatClampNeg (((p2.toUInt32 >>> ((16 : Int32).toUInt32 &&& Int32.toUInt32 31)).toInt32) &&& 255))))] H := hP
      have hD : va_D A [(h0, .inr (0, [.int fn, .ref hu, .int fo, .ref hm, .int fa, .int fx, .int fy, .int fs, .int fp, .int fc, .int fd, .int fb, .long fz])), (hm, .inl (cyI, 4096, .inl (upd (upd mem ((p1 + 0) &&& 4095).toNatClampNeg (((p2.toUInt32 >>> ((24 : Int32).toUInt32 &&& Int32.toUInt32 31)).toInt32) &&& 255)) ((p1 + 1) &&& 4095).toNatClampNeg (((p2.toUInt32 >>> ((16 : Int32).toUInt32 &&& Int32.toUInt32 31)).toInt32) &&& 255))))] := hD
      refine lv_iinc (v := 2) (lv' := [(4, .int 2), (0, .ref h0), (1, .int p1), (2, .int p2), (3, .int p3)]) hx hb dX1_keep_42 hl (k := 0) rfl (by decide) (by decide) rfl (fun ls hl => ?_)
      refine lv_goto (tgt := 3) hx hb dX1_keep_45 (by decide) ?_
      refine lv_iload hx hb dX1_keep_3 (lv_at hl 0 rfl) ?_
      refine lv_iconst (v := 4) hx hb dX1_keep_5 (by decide) ?_
      refine lv_icmp_ge (tgt := 48) hx hb dX1_keep_6 (by decide) (fun c => absurd c (by decide)) (fun _ => ?_)
      refine lv_iload hx hb dX1_keep_9 (lv_at hl 0 rfl) ?_
      refine lv_iload_n hx hb dX1_keep_11 rfl (lv_at hl 4 rfl) ?_
      refine lv_icmp_ge (tgt := 48) hx hb dX1_keep_12 (by decide) (fun c_3 => ?_) (fun c_3 => ?_)
      · skip
        have e_mem : (f_X1_keep_mem mem p1 p2 p3) = (upd (upd mem ((p1 + 0) &&& 4095).toNatClampNeg (((p2.toUInt32 >>> ((24 : Int32).toUInt32 &&& Int32.toUInt32 31)).toInt32) &&& 255)) ((p1 + 1) &&& 4095).toNatClampNeg (((p2.toUInt32 >>> ((16 : Int32).toUInt32 &&& Int32.toUInt32 31)).toInt32) &&& 255)) := (((if_neg c_1)).trans (if_neg c_2)).trans (if_pos c_3)
        have hP9 : va_P (dC, dI) vwCl [(h0, .inr (0, [.int fn, .ref hu, .int fo, .ref hm, .int fa, .int fx, .int fy, .int fs, .int fp, .int fc, .int fd, .int fb, .long fz])), (hm, .inl (cyI, 4096, .inl (f_X1_keep_mem mem p1 p2 p3)))] H := by rw [e_mem]; exact hP.sub (ws' := [(h0, .inr (0, [.int fn, .ref hu, .int fo, .ref hm, .int fa, .int fx, .int fy, .int fs, .int fp, .int fc, .int fd, .int fb, .long fz])), (hm, .inl (cyI, 4096, .inl (upd (upd mem ((p1 + 0) &&& 4095).toNatClampNeg (((p2.toUInt32 >>> ((24 : Int32).toUInt32 &&& Int32.toUInt32 31)).toInt32) &&& 255)) ((p1 + 1) &&& 4095).toNatClampNeg (((p2.toUInt32 >>> ((16 : Int32).toUInt32 &&& Int32.toUInt32 31)).toInt32) &&& 255))))]) [0, 1] rfl
        have hD9 : va_D A [(h0, .inr (0, [.int fn, .ref hu, .int fo, .ref hm, .int fa, .int fx, .int fy, .int fs, .int fp, .int fc, .int fd, .int fb, .long fz])), (hm, .inl (cyI, 4096, .inl (f_X1_keep_mem mem p1 p2 p3)))] := by rw [e_mem]; exact hD.sub (ws' := [(h0, .inr (0, [.int fn, .ref hu, .int fo, .ref hm, .int fa, .int fx, .int fy, .int fs, .int fp, .int fc, .int fd, .int fb, .long fz])), (hm, .inl (cyI, 4096, .inl (upd (upd mem ((p1 + 0) &&& 4095).toNatClampNeg (((p2.toUInt32 >>> ((24 : Int32).toUInt32 &&& Int32.toUInt32 31)).toInt32) &&& 255)) ((p1 + 1) &&& 4095).toNatClampNeg (((p2.toUInt32 >>> ((16 : Int32).toUInt32 &&& Int32.toUInt32 31)).toInt32) &&& 255))))]) [0, 1] (by decide) rfl
        exact W.vret hx hb hr (fun t ht hW => ⟨⟨(), rfl, trivial, by rw [ht]; exact hP9, hD9⟩, hS.F ht⟩) hS.2.2 dX1_keep_48
      · skip
        refine lv_aload_n hx hb dX1_keep_15 rfl (lv_at hl 1 rfl) ?_
        refine va_get (D := (dC, dI)) (ci := 0) (v := .ref hm) (C := RX1) (T := TX1) (N := 13) hx hb hts (fun w h => gw_b w (iX1 w h)) hown hK hP 0 rfl rfl 3 (by decide) (hts _ (gw_b _ gm_143)) (fun _ h9 => h9) rfl dX1_keep_16 ?_
        refine lv_iload_n hx hb dX1_keep_19 rfl (lv_at hl 2 rfl) ?_
        refine lv_iload hx hb dX1_keep_20 (lv_at hl 0 rfl) ?_
        refine lv_iadd hx hb dX1_keep_22 ?_
        refine lv_sipush (v := 4095) hx hb dX1_keep_23 (by decide) ?_
        refine lv_iand hx hb dX1_keep_26 ?_
        refine lv_iload_n hx hb dX1_keep_27 rfl (lv_at hl 3 rfl) ?_
        refine lv_bipush (v := 24) hx hb dX1_keep_28 (by decide) ?_
        refine lv_bipush (v := 8) hx hb dX1_keep_30 (by decide) ?_
        refine lv_iload hx hb dX1_keep_32 (lv_at hl 0 rfl) ?_
        refine lv_imul hx hb dX1_keep_34 ?_
        refine lv_fold (v := 16) (by decide) ?_
        refine lv_isub hx hb dX1_keep_35 ?_
        refine lv_fold (v := 8) (by decide) ?_
        refine lv_iushr (v := (p2.toUInt32 >>> ((8 : Int32).toUInt32 &&& Int32.toUInt32 31)).toInt32) hx hb dX1_keep_36 rfl ?_
        refine lv_sipush (v := 255) hx hb dX1_keep_37 (by decide) ?_
        refine lv_iand hx hb dX1_keep_40 ?_
        refine va_iast (D := (dC, dI)) hx hb hK hP hD hS 1 0 rfl rfl (pk_andIn (p1 + 2) (m := 4095) 12 (by decide) (by decide)) dX1_keep_41 (fun H locs hP hD hS => ?_)
        have hP : va_P (dC, dI) vwCl [(h0, .inr (0, [.int fn, .ref hu, .int fo, .ref hm, .int fa, .int fx, .int fy, .int fs, .int fp, .int fc, .int fd, .int fb, .long fz])), (hm, .inl (cyI, 4096, .inl (upd (upd (upd mem ((p1 + 0) &&& 4095).toNatClampNeg (((p2.toUInt32 >>> ((24 : Int32).toUInt32 &&& Int32.toUInt32 31)).toInt32) &&& 255)) ((p1 + 1) &&& 4095).toNatClampNeg (((p2.toUInt32 >>> ((16 : Int32).toUInt32 &&& Int32.toUInt32 31)).toInt32) &&& 255)) ((p1 + 2) &&& 4095).toNatClampNeg (((p2.toUInt32 >>> ((8 : Int32).toUInt32 &&& Int32.toUInt32 31)).toInt32) &&& 255))))] H := hP
        have hD : va_D A [(h0, .inr (0, [.int fn, .ref hu, .int fo, .ref hm, .int fa, .int fx, .int fy, .int fs, .int fp, .int fc, .int fd, .int fb, .long fz])), (hm, .inl (cyI, 4096, .inl (upd (upd (upd mem ((p1 + 0) &&& 4095).toNatClampNeg (((p2.toUInt32 >>> ((24 : Int32).toUInt32 &&& Int32.toUInt32 31)).toInt32) &&& 255)) ((p1 + 1) &&& 4095).toNatClampNeg (((p2.toUInt32 >>> ((16 : Int32).toUInt32 &&& Int32.toUInt32 31)).toInt32) &&& 255)) ((p1 + 2) &&& 4095).toNatClampNeg (((p2.toUInt32 >>> ((8 : Int32).toUInt32 &&& Int32.toUInt32 31)).toInt32) &&& 255))))] := hD
        refine lv_iinc (v := 3) (lv' := [(4, .int 3), (0, .ref h0), (1, .int p1), (2, .int p2), (3, .int p3)]) hx hb dX1_keep_42 hl (k := 0) rfl (by decide) (by decide) rfl (fun ls hl => ?_)
        refine lv_goto (tgt := 3) hx hb dX1_keep_45 (by decide) ?_
        refine lv_iload hx hb dX1_keep_3 (lv_at hl 0 rfl) ?_
        refine lv_iconst (v := 4) hx hb dX1_keep_5 (by decide) ?_
        refine lv_icmp_ge (tgt := 48) hx hb dX1_keep_6 (by decide) (fun c => absurd c (by decide)) (fun _ => ?_)
        refine lv_iload hx hb dX1_keep_9 (lv_at hl 0 rfl) ?_
        refine lv_iload_n hx hb dX1_keep_11 rfl (lv_at hl 4 rfl) ?_
        refine lv_icmp_ge (tgt := 48) hx hb dX1_keep_12 (by decide) (fun c_4 => ?_) (fun c_4 => ?_)
        · skip
          have e_mem : (f_X1_keep_mem mem p1 p2 p3) = (upd (upd (upd mem ((p1 + 0) &&& 4095).toNatClampNeg (((p2.toUInt32 >>> ((24 : Int32).toUInt32 &&& Int32.toUInt32 31)).toInt32) &&& 255)) ((p1 + 1) &&& 4095).toNatClampNeg (((p2.toUInt32 >>> ((16 : Int32).toUInt32 &&& Int32.toUInt32 31)).toInt32) &&& 255)) ((p1 + 2) &&& 4095).toNatClampNeg (((p2.toUInt32 >>> ((8 : Int32).toUInt32 &&& Int32.toUInt32 31)).toInt32) &&& 255)) := ((((if_neg c_1)).trans (if_neg c_2)).trans (if_neg c_3)).trans (if_pos c_4)
          have hP9 : va_P (dC, dI) vwCl [(h0, .inr (0, [.int fn, .ref hu, .int fo, .ref hm, .int fa, .int fx, .int fy, .int fs, .int fp, .int fc, .int fd, .int fb, .long fz])), (hm, .inl (cyI, 4096, .inl (f_X1_keep_mem mem p1 p2 p3)))] H := by rw [e_mem]; exact hP.sub (ws' := [(h0, .inr (0, [.int fn, .ref hu, .int fo, .ref hm, .int fa, .int fx, .int fy, .int fs, .int fp, .int fc, .int fd, .int fb, .long fz])), (hm, .inl (cyI, 4096, .inl (upd (upd (upd mem ((p1 + 0) &&& 4095).toNatClampNeg (((p2.toUInt32 >>> ((24 : Int32).toUInt32 &&& Int32.toUInt32 31)).toInt32) &&& 255)) ((p1 + 1) &&& 4095).toNatClampNeg (((p2.toUInt32 >>> ((16 : Int32).toUInt32 &&& Int32.toUInt32 31)).toInt32) &&& 255)) ((p1 + 2) &&& 4095).toNatClampNeg (((p2.toUInt32 >>> ((8 : Int32).toUInt32 &&& Int32.toUInt32 31)).toInt32) &&& 255))))]) [0, 1] rfl
          have hD9 : va_D A [(h0, .inr (0, [.int fn, .ref hu, .int fo, .ref hm, .int fa, .int fx, .int fy, .int fs, .int fp, .int fc, .int fd, .int fb, .long fz])), (hm, .inl (cyI, 4096, .inl (f_X1_keep_mem mem p1 p2 p3)))] := by rw [e_mem]; exact hD.sub (ws' := [(h0, .inr (0, [.int fn, .ref hu, .int fo, .ref hm, .int fa, .int fx, .int fy, .int fs, .int fp, .int fc, .int fd, .int fb, .long fz])), (hm, .inl (cyI, 4096, .inl (upd (upd (upd mem ((p1 + 0) &&& 4095).toNatClampNeg (((p2.toUInt32 >>> ((24 : Int32).toUInt32 &&& Int32.toUInt32 31)).toInt32) &&& 255)) ((p1 + 1) &&& 4095).toNatClampNeg (((p2.toUInt32 >>> ((16 : Int32).toUInt32 &&& Int32.toUInt32 31)).toInt32) &&& 255)) ((p1 + 2) &&& 4095).toNatClampNeg (((p2.toUInt32 >>> ((8 : Int32).toUInt32 &&& Int32.toUInt32 31)).toInt32) &&& 255))))]) [0, 1] (by decide) rfl
          exact W.vret hx hb hr (fun t ht hW => ⟨⟨(), rfl, trivial, by rw [ht]; exact hP9, hD9⟩, hS.F ht⟩) hS.2.2 dX1_keep_48
        · skip
          refine lv_aload_n hx hb dX1_keep_15 rfl (lv_at hl 1 rfl) ?_
          refine va_get (D := (dC, dI)) (ci := 0) (v := .ref hm) (C := RX1) (T := TX1) (N := 13) hx hb hts (fun w h => gw_b w (iX1 w h)) hown hK hP 0 rfl rfl 3 (by decide) (hts _ (gw_b _ gm_143)) (fun _ h9 => h9) rfl dX1_keep_16 ?_
          refine lv_iload_n hx hb dX1_keep_19 rfl (lv_at hl 2 rfl) ?_
          refine lv_iload hx hb dX1_keep_20 (lv_at hl 0 rfl) ?_
          refine lv_iadd hx hb dX1_keep_22 ?_
          refine lv_sipush (v := 4095) hx hb dX1_keep_23 (by decide) ?_
          refine lv_iand hx hb dX1_keep_26 ?_
          refine lv_iload_n hx hb dX1_keep_27 rfl (lv_at hl 3 rfl) ?_
          refine lv_bipush (v := 24) hx hb dX1_keep_28 (by decide) ?_
          refine lv_bipush (v := 8) hx hb dX1_keep_30 (by decide) ?_
          refine lv_iload hx hb dX1_keep_32 (lv_at hl 0 rfl) ?_
          refine lv_imul hx hb dX1_keep_34 ?_
          refine lv_fold (v := 24) (by decide) ?_
          refine lv_isub hx hb dX1_keep_35 ?_
          refine lv_fold (v := 0) (by decide) ?_
          refine lv_iushr (v := (p2.toUInt32 >>> ((0 : Int32).toUInt32 &&& Int32.toUInt32 31)).toInt32) hx hb dX1_keep_36 rfl ?_
          refine lv_sipush (v := 255) hx hb dX1_keep_37 (by decide) ?_
          refine lv_iand hx hb dX1_keep_40 ?_
          refine va_iast (D := (dC, dI)) hx hb hK hP hD hS 1 0 rfl rfl (pk_andIn (p1 + 3) (m := 4095) 12 (by decide) (by decide)) dX1_keep_41 (fun H locs hP hD hS => ?_)
          have hP : va_P (dC, dI) vwCl [(h0, .inr (0, [.int fn, .ref hu, .int fo, .ref hm, .int fa, .int fx, .int fy, .int fs, .int fp, .int fc, .int fd, .int fb, .long fz])), (hm, .inl (cyI, 4096, .inl (upd (upd (upd (upd mem ((p1 + 0) &&& 4095).toNatClampNeg (((p2.toUInt32 >>> ((24 : Int32).toUInt32 &&& Int32.toUInt32 31)).toInt32) &&& 255)) ((p1 + 1) &&& 4095).toNatClampNeg (((p2.toUInt32 >>> ((16 : Int32).toUInt32 &&& Int32.toUInt32 31)).toInt32) &&& 255)) ((p1 + 2) &&& 4095).toNatClampNeg (((p2.toUInt32 >>> ((8 : Int32).toUInt32 &&& Int32.toUInt32 31)).toInt32) &&& 255)) ((p1 + 3) &&& 4095).toNatClampNeg (((p2.toUInt32 >>> ((0 : Int32).toUInt32 &&& Int32.toUInt32 31)).toInt32) &&& 255))))] H := hP
          have hD : va_D A [(h0, .inr (0, [.int fn, .ref hu, .int fo, .ref hm, .int fa, .int fx, .int fy, .int fs, .int fp, .int fc, .int fd, .int fb, .long fz])), (hm, .inl (cyI, 4096, .inl (upd (upd (upd (upd mem ((p1 + 0) &&& 4095).toNatClampNeg (((p2.toUInt32 >>> ((24 : Int32).toUInt32 &&& Int32.toUInt32 31)).toInt32) &&& 255)) ((p1 + 1) &&& 4095).toNatClampNeg (((p2.toUInt32 >>> ((16 : Int32).toUInt32 &&& Int32.toUInt32 31)).toInt32) &&& 255)) ((p1 + 2) &&& 4095).toNatClampNeg (((p2.toUInt32 >>> ((8 : Int32).toUInt32 &&& Int32.toUInt32 31)).toInt32) &&& 255)) ((p1 + 3) &&& 4095).toNatClampNeg (((p2.toUInt32 >>> ((0 : Int32).toUInt32 &&& Int32.toUInt32 31)).toInt32) &&& 255))))] := hD
          refine lv_iinc (v := 4) (lv' := [(4, .int 4), (0, .ref h0), (1, .int p1), (2, .int p2), (3, .int p3)]) hx hb dX1_keep_42 hl (k := 0) rfl (by decide) (by decide) rfl (fun ls hl => ?_)
          refine lv_goto (tgt := 3) hx hb dX1_keep_45 (by decide) ?_
          refine lv_iload hx hb dX1_keep_3 (lv_at hl 0 rfl) ?_
          refine lv_iconst (v := 4) hx hb dX1_keep_5 (by decide) ?_
          refine lv_icmp_ge (tgt := 48) hx hb dX1_keep_6 (by decide) (fun _ => ?_) (fun c => absurd (by decide) c)
          have e_mem : (f_X1_keep_mem mem p1 p2 p3) = (upd (upd (upd (upd mem ((p1 + 0) &&& 4095).toNatClampNeg (((p2.toUInt32 >>> ((24 : Int32).toUInt32 &&& Int32.toUInt32 31)).toInt32) &&& 255)) ((p1 + 1) &&& 4095).toNatClampNeg (((p2.toUInt32 >>> ((16 : Int32).toUInt32 &&& Int32.toUInt32 31)).toInt32) &&& 255)) ((p1 + 2) &&& 4095).toNatClampNeg (((p2.toUInt32 >>> ((8 : Int32).toUInt32 &&& Int32.toUInt32 31)).toInt32) &&& 255)) ((p1 + 3) &&& 4095).toNatClampNeg (((p2.toUInt32 >>> ((0 : Int32).toUInt32 &&& Int32.toUInt32 31)).toInt32) &&& 255)) := ((((if_neg c_1)).trans (if_neg c_2)).trans (if_neg c_3)).trans (if_neg c_4)
          have hP9 : va_P (dC, dI) vwCl [(h0, .inr (0, [.int fn, .ref hu, .int fo, .ref hm, .int fa, .int fx, .int fy, .int fs, .int fp, .int fc, .int fd, .int fb, .long fz])), (hm, .inl (cyI, 4096, .inl (f_X1_keep_mem mem p1 p2 p3)))] H := by rw [e_mem]; exact hP.sub (ws' := [(h0, .inr (0, [.int fn, .ref hu, .int fo, .ref hm, .int fa, .int fx, .int fy, .int fs, .int fp, .int fc, .int fd, .int fb, .long fz])), (hm, .inl (cyI, 4096, .inl (upd (upd (upd (upd mem ((p1 + 0) &&& 4095).toNatClampNeg (((p2.toUInt32 >>> ((24 : Int32).toUInt32 &&& Int32.toUInt32 31)).toInt32) &&& 255)) ((p1 + 1) &&& 4095).toNatClampNeg (((p2.toUInt32 >>> ((16 : Int32).toUInt32 &&& Int32.toUInt32 31)).toInt32) &&& 255)) ((p1 + 2) &&& 4095).toNatClampNeg (((p2.toUInt32 >>> ((8 : Int32).toUInt32 &&& Int32.toUInt32 31)).toInt32) &&& 255)) ((p1 + 3) &&& 4095).toNatClampNeg (((p2.toUInt32 >>> ((0 : Int32).toUInt32 &&& Int32.toUInt32 31)).toInt32) &&& 255))))]) [0, 1] rfl
          have hD9 : va_D A [(h0, .inr (0, [.int fn, .ref hu, .int fo, .ref hm, .int fa, .int fx, .int fy, .int fs, .int fp, .int fc, .int fd, .int fb, .long fz])), (hm, .inl (cyI, 4096, .inl (f_X1_keep_mem mem p1 p2 p3)))] := by rw [e_mem]; exact hD.sub (ws' := [(h0, .inr (0, [.int fn, .ref hu, .int fo, .ref hm, .int fa, .int fx, .int fy, .int fs, .int fp, .int fc, .int fd, .int fb, .long fz])), (hm, .inl (cyI, 4096, .inl (upd (upd (upd (upd mem ((p1 + 0) &&& 4095).toNatClampNeg (((p2.toUInt32 >>> ((24 : Int32).toUInt32 &&& Int32.toUInt32 31)).toInt32) &&& 255)) ((p1 + 1) &&& 4095).toNatClampNeg (((p2.toUInt32 >>> ((16 : Int32).toUInt32 &&& Int32.toUInt32 31)).toInt32) &&& 255)) ((p1 + 2) &&& 4095).toNatClampNeg (((p2.toUInt32 >>> ((8 : Int32).toUInt32 &&& Int32.toUInt32 31)).toInt32) &&& 255)) ((p1 + 3) &&& 4095).toNatClampNeg (((p2.toUInt32 >>> ((0 : Int32).toUInt32 &&& Int32.toUInt32 31)).toInt32) &&& 255))))]) [0, 1] (by decide) rfl
          exact W.vret hx hb hr (fun t ht hW => ⟨⟨(), rfl, trivial, by rw [ht]; exact hP9, hD9⟩, hS.F ht⟩) hS.2.2 dX1_keep_48
