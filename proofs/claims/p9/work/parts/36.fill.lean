def f_J7_fill_53178_mem (p2 : Int32) : Nat → Int32 := (fun _ => p2)
set_option maxHeartbeats 4000000 in
set_option maxRecDepth 100000 in
/-- J7_fill_53178 -/
theorem c_J7_fill_53178 (l : Launch) (dC : Nat → ClassId) (dI : Nat → Nat → Nat) (sz : Nat) (h0 : Nat) (cyI : ClassId) (mem : Nat → Int32) (p2 : Int32)  : Met l yJ7_fill_53178 (Cond.code yJ7_fill_53178 cJ7_fill_53178 4 none :: gw) { frames := 0, cells := 0, slots := 0, locals := 0 } (va_Pc [.ref h0, .int p2] (wPre (dC, dI) [(cyI, .int)] [(h0, .inl (cyI, 4096, .inl mem))] sz wX0)) (va_Qv (fun _ : Unit => True) (fun _ t => wPost (dC, dI) (va_A [(h0, .inl (cyI, 4096, .inl mem))] sz) [(h0, .inl (cyI, 4096, .inl (f_J7_fill_53178_mem p2)))] t) (va_A [(h0, .inl (cyI, 4096, .inl mem))] sz)) 0 0 (va_A [(h0, .inl (cyI, 4096, .inl mem))] sz) := by
  refine Met.ofW (cc := cJ7_fill_53178) (maxL := 4) (ret := none) (by decide) rfl ?_
  intro p e s m args below meth c s₁ B hml hv
  obtain ⟨rfl, hsz, hP, hK, hD0, hXX⟩ := hv
  have hx := B.exec
  have hb := B.bytes
  have hr := B.returns
  have hts := atoms_spec (ws := (Cond.code yJ7_fill_53178 cJ7_fill_53178 4 none :: gw)) B.pre
  have hown : s.vm.findClass RJ7 = some m.cls := findClass_of_methodNamed B.named
  have hlocks := B.notSynchronized
  subst hsz
  have hD := hD0.self (sz := s.heap.size)
  generalize hAe : va_A [(h0, .inl (cyI, 4096, .inl mem))] s.heap.size = A at hD ⊢
  have hA : ∀ q : Nat, s.heap.size ≤ q → A q := fun q h => by rw [← hAe]; exact Or.inr h
  have hS : va_S A s.heap s.heap [] := va_S.rf
  have hl := lv_entry ([.ref h0, .int p2]) (n := 4) (Nat.le_of_ble_eq_true rfl)
  rw [lg_entry_eq]
  generalize (lg_sl ([.ref h0, .int p2]) ++ List.replicate (4 - (lg_sl ([.ref h0, .int p2])).length) Slot.unset).toArray = ls at hl ⊢
  have hl : lv_has ls 4 [(0, .ref h0), (1, .int p2)] := hl
  refine lv_iconst (v := 0) hx hb dJ7_fill_53178_0 (by decide) ?_
  refine lv_istore_n (lv' := [(2, .int 0), (0, .ref h0), (1, .int p2)]) hx hb dJ7_fill_53178_1 rfl hl (by decide) rfl (fun ls hl => ?_)
  refine lv_aload_n hx hb dJ7_fill_53178_2 rfl (lv_at hl 1 rfl) ?_
  refine va_alen (D := (dC, dI)) (v := 4096) hx hb hK hP 0 0 rfl rfl rfl dJ7_fill_53178_3 ?_
  refine lv_istore_n (lv' := [(3, .int 4096), (2, .int 0), (0, .ref h0), (1, .int p2)]) hx hb dJ7_fill_53178_4 rfl hl (by decide) rfl (fun ls hl => ?_)
  refine l_fill hx hb hK rfl (fun H locs ls f hf hP hD hS => ?_) 4096 0 s.heap [] ls mem (by decide) (fun j hj => absurd hj (Nat.not_lt_zero j)) hP hD hS (lv_sub hl [0, 1, 2, 3] rfl)
  have hP : va_P (dC, dI) vwCl [(h0, .inl (cyI, 4096, .inl (fun _ => p2)))] H := P_set 0 (h0, .inl (cyI, 4096, .inl (fun _ => p2))) hP (at_i (hP 0 _ rfl) hf)
  have hD : va_D A [(h0, .inl (cyI, 4096, .inl (fun _ => p2)))] := D_set 0 (h0, .inl (cyI, 4096, .inl (fun _ => p2))) _ hD rfl rfl
  have e_mem : (f_J7_fill_53178_mem p2) = (fun _ => p2) := rfl
  have hP9 : va_P (dC, dI) vwCl [(h0, .inl (cyI, 4096, .inl (f_J7_fill_53178_mem p2)))] H := by rw [e_mem]; exact hP.sub (ws' := [(h0, .inl (cyI, 4096, .inl (fun _ => p2)))]) [0] rfl
  have hD9 : va_D A [(h0, .inl (cyI, 4096, .inl (f_J7_fill_53178_mem p2)))] := by rw [e_mem]; exact hD.sub (ws' := [(h0, .inl (cyI, 4096, .inl (fun _ => p2)))]) [0] (by decide) rfl
  exact W.vret hx hb hr (fun t ht hW => ⟨⟨(), rfl, trivial, by rw [ht]; exact hP9, hD9⟩, hS.F ht⟩) hS.2.2 dJ7_fill_53178_20

def f_X1_forget_fa  : Int32 := 0
def f_X1_forget_fx  : Int32 := 0
def f_X1_forget_fy  : Int32 := 0
def f_X1_forget_fs  : Int32 := 0
def f_X1_forget_fp  : Int32 := 32
def f_X1_forget_fc  : Int32 := 0
def f_X1_forget_fd  : Int32 := 1
def f_X1_forget_fb  : Int32 := 0
def f_X1_forget_fz  : Int64 := 0
def f_X1_forget_mem  : Nat → Int32 := (f_J7_fill_53178_mem 0)
set_option maxHeartbeats 4000000 in
set_option maxRecDepth 100000 in
/-- X1_forget -/
theorem c_X1_forget (l : Launch) (dC : Nat → ClassId) (dI : Nat → Nat → Nat) (sz : Nat) (h0 : Nat) (hu : Nat) (hm : Nat) (fn : Int32) (fo : Int32) (fa : Int32) (fx : Int32) (fy : Int32) (fs : Int32) (fp : Int32) (fc : Int32) (fd : Int32) (fb : Int32) (fz : Int64) (cyI : ClassId) (mem : Nat → Int32)  : Met l yX1_forget (Cond.code yX1_forget cX1_forget 1 none :: gw) { frames := 1, cells := 0, slots := 0, locals := 23 } (va_Pc [.ref h0] (wPre (dC, dI) [(cyI, .int)] [(h0, .inr (0, [.int fn, .ref hu, .int fo, .ref hm, .int fa, .int fx, .int fy, .int fs, .int fp, .int fc, .int fd, .int fb, .long fz])), (hm, .inl (cyI, 4096, .inl mem))] sz wX0)) (va_Qv (fun _ : Unit => True) (fun _ t => wPost (dC, dI) (va_A [(h0, .inr (0, [.int fn, .ref hu, .int fo, .ref hm, .int fa, .int fx, .int fy, .int fs, .int fp, .int fc, .int fd, .int fb, .long fz])), (hm, .inl (cyI, 4096, .inl mem))] sz) [(h0, .inr (0, [.int fn, .ref hu, .int fo, .ref hm, .int f_X1_forget_fa, .int f_X1_forget_fx, .int f_X1_forget_fy, .int f_X1_forget_fs, .int f_X1_forget_fp, .int f_X1_forget_fc, .int f_X1_forget_fd, .int f_X1_forget_fb, .long f_X1_forget_fz])), (hm, .inl (cyI, 4096, .inl f_X1_forget_mem))] t) (va_A [(h0, .inr (0, [.int fn, .ref hu, .int fo, .ref hm, .int fa, .int fx, .int fy, .int fs, .int fp, .int fc, .int fd, .int fb, .long fz])), (hm, .inl (cyI, 4096, .inl mem))] sz)) 0 0 (va_A [(h0, .inr (0, [.int fn, .ref hu, .int fo, .ref hm, .int fa, .int fx, .int fy, .int fs, .int fp, .int fc, .int fd, .int fb, .long fz])), (hm, .inl (cyI, 4096, .inl mem))] sz) := by
  refine Met.ofW (cc := cX1_forget) (maxL := 1) (ret := none) (by decide) rfl ?_
  intro p e s m args below meth c s₁ B hml hv
  obtain ⟨rfl, hsz, hP, hK, hD0, hXX⟩ := hv
  have hx := B.exec
  have hb := B.bytes
  have hr := B.returns
  have hts := atoms_spec (ws := (Cond.code yX1_forget cX1_forget 1 none :: gw)) B.pre
  have hown : s.vm.findClass RX1 = some m.cls := findClass_of_methodNamed B.named
  have hlocks := B.notSynchronized
  subst hsz
  have hD := hD0.self (sz := s.heap.size)
  generalize hAe : va_A [(h0, .inr (0, [.int fn, .ref hu, .int fo, .ref hm, .int fa, .int fx, .int fy, .int fs, .int fp, .int fc, .int fd, .int fb, .long fz])), (hm, .inl (cyI, 4096, .inl mem))] s.heap.size = A at hD ⊢
  have hA : ∀ q : Nat, s.heap.size ≤ q → A q := fun q h => by rw [← hAe]; exact Or.inr h
  have hS : va_S A s.heap s.heap [] := va_S.rf
  have hl := lv_entry ([.ref h0]) (n := 1) (Nat.le_of_ble_eq_true rfl)
  rw [lg_entry_eq]
  generalize (lg_sl ([.ref h0]) ++ List.replicate (1 - (lg_sl ([.ref h0])).length) Slot.unset).toArray = ls at hl ⊢
  have hl : lv_has ls 1 [(0, .ref h0)] := hl
  refine lv_aload_n hx hb dX1_forget_0 rfl (lv_at hl 0 rfl) ?_
  refine va_get (D := (dC, dI)) (ci := 0) (v := .ref hm) (C := RX1) (T := TX1) (N := 13) hx hb hts (fun w h => gw_b w (iX1 w h)) hown hK hP 0 rfl rfl 3 (by decide) (hts _ (gw_b _ gm_143)) (fun _ h9 => h9) rfl dX1_forget_1 ?_
  refine lv_iconst (v := 0) hx hb dX1_forget_4 (by decide) ?_
  refine gc_v (wr := [(h0, .inr (0, [.int fn, .ref hu, .int fo, .ref hm, .int fa, .int fx, .int fy, .int fs, .int fp, .int fc, .int fd, .int fb, .long fz]))]) (w1 := [(hm, .inl (cyI, 4096, .inl (f_J7_fill_53178_mem 0)))]) (gcS (As := [.ref hm, .int 0]) (rest := []) ⟨hx, hb, hml, hown, hts⟩ (c_J7_fill_53178 l dC dI s.heap.size hm cyI mem 0) (va_cwS 2 hts (gw_S gw_b gm_218 gm_219 gm_79 gm_220) rfl rfl rfl (by decide +kernel) ⟨Nat.le_of_ble_eq_true rfl, Nat.le_of_ble_eq_true rfl⟩) hK [0] rfl hP hD [1] rfl rfl wX0_k (fun _ _ _ => trivial) rfl rfl hl.1 rfl (lv_room (Nat.le_of_ble_eq_true rfl)) dX1_forget_5 ⟨Nat.le_of_ble_eq_true rfl, Nat.le_of_ble_eq_true rfl⟩) hP hD hS hA [1] [0] rfl rfl rfl (by decide) (fun H locs hP hD hS => ?_)
  have hP : va_P (dC, dI) vwCl [(h0, .inr (0, [.int fn, .ref hu, .int fo, .ref hm, .int fa, .int fx, .int fy, .int fs, .int fp, .int fc, .int fd, .int fb, .long fz])), (hm, .inl (cyI, 4096, .inl (f_J7_fill_53178_mem 0)))] H := hP
  have hD : va_D A [(h0, .inr (0, [.int fn, .ref hu, .int fo, .ref hm, .int fa, .int fx, .int fy, .int fs, .int fp, .int fc, .int fd, .int fb, .long fz])), (hm, .inl (cyI, 4096, .inl (f_J7_fill_53178_mem 0)))] := hD
  refine lv_aload_n hx hb dX1_forget_8 rfl (lv_at hl 0 rfl) ?_
  refine lv_iconst (v := 0) hx hb dX1_forget_9 (by decide) ?_
  refine va_put (D := (dC, dI)) (ci := 0) (v := .int 0) (ty := tyX1 4) (C := RX1) (T := TX1) (N := 13) hx hb hts (fun w h => gw_b w (iX1 w h)) tyX1 tyX1_ok nmX1 hown hK hP hD hS 0 rfl rfl 4 (by decide) (hts _ (gw_b _ gm_144)) (fun _ h9 => h9) rfl (tyX1_ok 4 (by decide)) rfl rfl (Nat.le_of_ble_eq_true rfl) dX1_forget_10 (fun H locs hP hD hS => ?_)
  have hP : va_P (dC, dI) vwCl [(h0, .inr (0, [.int fn, .ref hu, .int fo, .ref hm, .int 0, .int fx, .int fy, .int fs, .int fp, .int fc, .int fd, .int fb, .long fz])), (hm, .inl (cyI, 4096, .inl (f_J7_fill_53178_mem 0)))] H := hP
  have hD : va_D A [(h0, .inr (0, [.int fn, .ref hu, .int fo, .ref hm, .int 0, .int fx, .int fy, .int fs, .int fp, .int fc, .int fd, .int fb, .long fz])), (hm, .inl (cyI, 4096, .inl (f_J7_fill_53178_mem 0)))] := hD
  refine lv_aload_n hx hb dX1_forget_13 rfl (lv_at hl 0 rfl) ?_
  refine lv_iconst (v := 0) hx hb dX1_forget_14 (by decide) ?_
  refine va_put (D := (dC, dI)) (ci := 0) (v := .int 0) (ty := tyX1 5) (C := RX1) (T := TX1) (N := 13) hx hb hts (fun w h => gw_b w (iX1 w h)) tyX1 tyX1_ok nmX1 hown hK hP hD hS 0 rfl rfl 5 (by decide) (hts _ (gw_b _ gm_145)) (fun _ h9 => h9) rfl (tyX1_ok 5 (by decide)) rfl rfl (Nat.le_of_ble_eq_true rfl) dX1_forget_15 (fun H locs hP hD hS => ?_)
  have hP : va_P (dC, dI) vwCl [(h0, .inr (0, [.int fn, .ref hu, .int fo, .ref hm, .int 0, .int 0, .int fy, .int fs, .int fp, .int fc, .int fd, .int fb, .long fz])), (hm, .inl (cyI, 4096, .inl (f_J7_fill_53178_mem 0)))] H := hP
  have hD : va_D A [(h0, .inr (0, [.int fn, .ref hu, .int fo, .ref hm, .int 0, .int 0, .int fy, .int fs, .int fp, .int fc, .int fd, .int fb, .long fz])), (hm, .inl (cyI, 4096, .inl (f_J7_fill_53178_mem 0)))] := hD
  refine lv_aload_n hx hb dX1_forget_18 rfl (lv_at hl 0 rfl) ?_
  refine lv_iconst (v := 0) hx hb dX1_forget_19 (by decide) ?_
  refine va_put (D := (dC, dI)) (ci := 0) (v := .int 0) (ty := tyX1 6) (C := RX1) (T := TX1) (N := 13) hx hb hts (fun w h => gw_b w (iX1 w h)) tyX1 tyX1_ok nmX1 hown hK hP hD hS 0 rfl rfl 6 (by decide) (hts _ (gw_b _ gm_146)) (fun _ h9 => h9) rfl (tyX1_ok 6 (by decide)) rfl rfl (Nat.le_of_ble_eq_true rfl) dX1_forget_20 (fun H locs hP hD hS => ?_)
  have hP : va_P (dC, dI) vwCl [(h0, .inr (0, [.int fn, .ref hu, .int fo, .ref hm, .int 0, .int 0, .int 0, .int fs, .int fp, .int fc, .int fd, .int fb, .long fz])), (hm, .inl (cyI, 4096, .inl (f_J7_fill_53178_mem 0)))] H := hP
  have hD : va_D A [(h0, .inr (0, [.int fn, .ref hu, .int fo, .ref hm, .int 0, .int 0, .int 0, .int fs, .int fp, .int fc, .int fd, .int fb, .long fz])), (hm, .inl (cyI, 4096, .inl (f_J7_fill_53178_mem 0)))] := hD
  refine lv_aload_n hx hb dX1_forget_23 rfl (lv_at hl 0 rfl) ?_
  refine lv_iconst (v := 0) hx hb dX1_forget_24 (by decide) ?_
  refine va_put (D := (dC, dI)) (ci := 0) (v := .int 0) (ty := tyX1 7) (C := RX1) (T := TX1) (N := 13) hx hb hts (fun w h => gw_b w (iX1 w h)) tyX1 tyX1_ok nmX1 hown hK hP hD hS 0 rfl rfl 7 (by decide) (hts _ (gw_b _ gm_147)) (fun _ h9 => h9) rfl (tyX1_ok 7 (by decide)) rfl rfl (Nat.le_of_ble_eq_true rfl) dX1_forget_25 (fun H locs hP hD hS => ?_)
  have hP : va_P (dC, dI) vwCl [(h0, .inr (0, [.int fn, .ref hu, .int fo, .ref hm, .int 0, .int 0, .int 0, .int 0, .int fp, .int fc, .int fd, .int fb, .long fz])), (hm, .inl (cyI, 4096, .inl (f_J7_fill_53178_mem 0)))] H := hP
  have hD : va_D A [(h0, .inr (0, [.int fn, .ref hu, .int fo, .ref hm, .int 0, .int 0, .int 0, .int 0, .int fp, .int fc, .int fd, .int fb, .long fz])), (hm, .inl (cyI, 4096, .inl (f_J7_fill_53178_mem 0)))] := hD
  refine lv_aload_n hx hb dX1_forget_28 rfl (lv_at hl 0 rfl) ?_
  refine lv_bipush (v := 32) hx hb dX1_forget_29 (by decide) ?_
  refine va_put (D := (dC, dI)) (ci := 0) (v := .int 32) (ty := tyX1 8) (C := RX1) (T := TX1) (N := 13) hx hb hts (fun w h => gw_b w (iX1 w h)) tyX1 tyX1_ok nmX1 hown hK hP hD hS 0 rfl rfl 8 (by decide) (hts _ (gw_b _ gm_148)) (fun _ h9 => h9) rfl (tyX1_ok 8 (by decide)) rfl rfl (Nat.le_of_ble_eq_true rfl) dX1_forget_31 (fun H locs hP hD hS => ?_)
  have hP : va_P (dC, dI) vwCl [(h0, .inr (0, [.int fn, .ref hu, .int fo, .ref hm, .int 0, .int 0, .int 0, .int 0, .int 32, .int fc, .int fd, .int fb, .long fz])), (hm, .inl (cyI, 4096, .inl (f_J7_fill_53178_mem 0)))] H := hP
  have hD : va_D A [(h0, .inr (0, [.int fn, .ref hu, .int fo, .ref hm, .int 0, .int 0, .int 0, .int 0, .int 32, .int fc, .int fd, .int fb, .long fz])), (hm, .inl (cyI, 4096, .inl (f_J7_fill_53178_mem 0)))] := hD
  refine lv_aload_n hx hb dX1_forget_34 rfl (lv_at hl 0 rfl) ?_
  refine lv_iconst (v := 0) hx hb dX1_forget_35 (by decide) ?_
  refine va_put (D := (dC, dI)) (ci := 0) (v := .int 0) (ty := tyX1 9) (C := RX1) (T := TX1) (N := 13) hx hb hts (fun w h => gw_b w (iX1 w h)) tyX1 tyX1_ok nmX1 hown hK hP hD hS 0 rfl rfl 9 (by decide) (hts _ (gw_b _ gm_149)) (fun _ h9 => h9) rfl (tyX1_ok 9 (by decide)) rfl rfl (Nat.le_of_ble_eq_true rfl) dX1_forget_36 (fun H locs hP hD hS => ?_)
  have hP : va_P (dC, dI) vwCl [(h0, .inr (0, [.int fn, .ref hu, .int fo, .ref hm, .int 0, .int 0, .int 0, .int 0, .int 32, .int 0, .int fd, .int fb, .long fz])), (hm, .inl (cyI, 4096, .inl (f_J7_fill_53178_mem 0)))] H := hP
  have hD : va_D A [(h0, .inr (0, [.int fn, .ref hu, .int fo, .ref hm, .int 0, .int 0, .int 0, .int 0, .int 32, .int 0, .int fd, .int fb, .long fz])), (hm, .inl (cyI, 4096, .inl (f_J7_fill_53178_mem 0)))] := hD
  refine lv_aload_n hx hb dX1_forget_39 rfl (lv_at hl 0 rfl) ?_
  refine lv_iconst (v := 1) hx hb dX1_forget_40 (by decide) ?_
  refine va_put (D := (dC, dI)) (ci := 0) (v := .int 1) (ty := tyX1 10) (C := RX1) (T := TX1) (N := 13) hx hb hts (fun w h => gw_b w (iX1 w h)) tyX1 tyX1_ok nmX1 hown hK hP hD hS 0 rfl rfl 10 (by decide) (hts _ (gw_b _ gm_150)) (fun _ h9 => h9) rfl (tyX1_ok 10 (by decide)) rfl rfl (Nat.le_of_ble_eq_true rfl) dX1_forget_41 (fun H locs hP hD hS => ?_)
  have hP : va_P (dC, dI) vwCl [(h0, .inr (0, [.int fn, .ref hu, .int fo, .ref hm, .int 0, .int 0, .int 0, .int 0, .int 32, .int 0, .int 1, .int fb, .long fz])), (hm, .inl (cyI, 4096, .inl (f_J7_fill_53178_mem 0)))] H := hP
  have hD : va_D A [(h0, .inr (0, [.int fn, .ref hu, .int fo, .ref hm, .int 0, .int 0, .int 0, .int 0, .int 32, .int 0, .int 1, .int fb, .long fz])), (hm, .inl (cyI, 4096, .inl (f_J7_fill_53178_mem 0)))] := hD
  refine lv_aload_n hx hb dX1_forget_44 rfl (lv_at hl 0 rfl) ?_
  refine lv_iconst (v := 0) hx hb dX1_forget_45 (by decide) ?_
  refine va_put (D := (dC, dI)) (ci := 0) (v := .int 0) (ty := tyX1 11) (C := RX1) (T := TX1) (N := 13) hx hb hts (fun w h => gw_b w (iX1 w h)) tyX1 tyX1_ok nmX1 hown hK hP hD hS 0 rfl rfl 11 (by decide) (hts _ (gw_b _ gm_151)) (fun _ h9 => h9) rfl (tyX1_ok 11 (by decide)) rfl rfl (Nat.le_of_ble_eq_true rfl) dX1_forget_46 (fun H locs hP hD hS => ?_)
  have hP : va_P (dC, dI) vwCl [(h0, .inr (0, [.int fn, .ref hu, .int fo, .ref hm, .int 0, .int 0, .int 0, .int 0, .int 32, .int 0, .int 1, .int 0, .long fz])), (hm, .inl (cyI, 4096, .inl (f_J7_fill_53178_mem 0)))] H := hP
  have hD : va_D A [(h0, .inr (0, [.int fn, .ref hu, .int fo, .ref hm, .int 0, .int 0, .int 0, .int 0, .int 32, .int 0, .int 1, .int 0, .long fz])), (hm, .inl (cyI, 4096, .inl (f_J7_fill_53178_mem 0)))] := hD
  refine lv_aload_n hx hb dX1_forget_49 rfl (lv_at hl 0 rfl) ?_
  refine lv_lconst (v := 0) hx hb dX1_forget_50 (by decide) ?_
  refine va_put (D := (dC, dI)) (ci := 0) (v := .long 0) (ty := tyX1 12) (C := RX1) (T := TX1) (N := 13) hx hb hts (fun w h => gw_b w (iX1 w h)) tyX1 tyX1_ok nmX1 hown hK hP hD hS 0 rfl rfl 12 (by decide) (hts _ (gw_b _ gm_152)) (fun _ h9 => h9) rfl (tyX1_ok 12 (by decide)) rfl rfl (Nat.le_of_ble_eq_true rfl) dX1_forget_51 (fun H locs hP hD hS => ?_)
  have hP : va_P (dC, dI) vwCl [(h0, .inr (0, [.int fn, .ref hu, .int fo, .ref hm, .int 0, .int 0, .int 0, .int 0, .int 32, .int 0, .int 1, .int 0, .long 0])), (hm, .inl (cyI, 4096, .inl (f_J7_fill_53178_mem 0)))] H := hP
  have hD : va_D A [(h0, .inr (0, [.int fn, .ref hu, .int fo, .ref hm, .int 0, .int 0, .int 0, .int 0, .int 32, .int 0, .int 1, .int 0, .long 0])), (hm, .inl (cyI, 4096, .inl (f_J7_fill_53178_mem 0)))] := hD
  have e_fa : f_X1_forget_fa = 0 := rfl
  have e_fx : f_X1_forget_fx = 0 := rfl
  have e_fy : f_X1_forget_fy = 0 := rfl
  have e_fs : f_X1_forget_fs = 0 := rfl
  have e_fp : f_X1_forget_fp = 32 := rfl
  have e_fc : f_X1_forget_fc = 0 := rfl
  have e_fd : f_X1_forget_fd = 1 := rfl
  have e_fb : f_X1_forget_fb = 0 := rfl
  have e_fz : f_X1_forget_fz = 0 := rfl
  have e_mem : f_X1_forget_mem = (f_J7_fill_53178_mem 0) := rfl
  have hP9 : va_P (dC, dI) vwCl [(h0, .inr (0, [.int fn, .ref hu, .int fo, .ref hm, .int f_X1_forget_fa, .int f_X1_forget_fx, .int f_X1_forget_fy, .int f_X1_forget_fs, .int f_X1_forget_fp, .int f_X1_forget_fc, .int f_X1_forget_fd, .int f_X1_forget_fb, .long f_X1_forget_fz])), (hm, .inl (cyI, 4096, .inl f_X1_forget_mem))] H := by rw [e_fa, e_fx, e_fy, e_fs, e_fp, e_fc, e_fd, e_fb, e_fz, e_mem]; exact hP.sub (ws' := [(h0, .inr (0, [.int fn, .ref hu, .int fo, .ref hm, .int 0, .int 0, .int 0, .int 0, .int 32, .int 0, .int 1, .int 0, .long 0])), (hm, .inl (cyI, 4096, .inl (f_J7_fill_53178_mem 0)))]) [0, 1] rfl
  have hD9 : va_D A [(h0, .inr (0, [.int fn, .ref hu, .int fo, .ref hm, .int f_X1_forget_fa, .int f_X1_forget_fx, .int f_X1_forget_fy, .int f_X1_forget_fs, .int f_X1_forget_fp, .int f_X1_forget_fc, .int f_X1_forget_fd, .int f_X1_forget_fb, .long f_X1_forget_fz])), (hm, .inl (cyI, 4096, .inl f_X1_forget_mem))] := by rw [e_fa, e_fx, e_fy, e_fs, e_fp, e_fc, e_fd, e_fb, e_fz, e_mem]; exact hD.sub (ws' := [(h0, .inr (0, [.int fn, .ref hu, .int fo, .ref hm, .int 0, .int 0, .int 0, .int 0, .int 32, .int 0, .int 1, .int 0, .long 0])), (hm, .inl (cyI, 4096, .inl (f_J7_fill_53178_mem 0)))]) [0, 1] (by decide) rfl
  exact W.vret hx hb hr (fun t ht hW => ⟨⟨(), rfl, trivial, by rw [ht]; exact hP9, hD9⟩, hS.F ht⟩) hS.2.2 dX1_forget_54
