def f_X1_setFlag_fp (fp : Int32) (p1 : Int32) (p2 : Int32) : Int32 := (if p2 = 0 then (fp &&& (p1 ^^^ (-1))) else (fp ||| p1))
set_option maxHeartbeats 4000000 in
set_option maxRecDepth 100000 in
/-- X1_setFlag -/
theorem c_X1_setFlag (l : Launch) (dC : Nat → ClassId) (dI : Nat → Nat → Nat) (sz : Nat) (h0 : Nat) (hu : Nat) (hm : Nat) (fn : Int32) (fo : Int32) (fa : Int32) (fx : Int32) (fy : Int32) (fs : Int32) (fp : Int32) (fc : Int32) (fd : Int32) (fb : Int32) (fz : Int64) (p1 : Int32) (p2 : Int32)  : Met l yX1_setFlag (Cond.code yX1_setFlag cX1_setFlag 3 none :: gw) { frames := 0, cells := 0, slots := 0, locals := 0 } (va_Pc [.ref h0, .int p1, .int p2] (wPre (dC, dI) [] [(h0, .inr (0, [.int fn, .ref hu, .int fo, .ref hm, .int fa, .int fx, .int fy, .int fs, .int fp, .int fc, .int fd, .int fb, .long fz]))] sz wX0)) (va_Qv (fun _ : Unit => True) (fun _ t => wPost (dC, dI) (va_A [(h0, .inr (0, [.int fn, .ref hu, .int fo, .ref hm, .int fa, .int fx, .int fy, .int fs, .int fp, .int fc, .int fd, .int fb, .long fz]))] sz) [(h0, .inr (0, [.int fn, .ref hu, .int fo, .ref hm, .int fa, .int fx, .int fy, .int fs, .int (f_X1_setFlag_fp fp p1 p2), .int fc, .int fd, .int fb, .long fz]))] t) (va_A [(h0, .inr (0, [.int fn, .ref hu, .int fo, .ref hm, .int fa, .int fx, .int fy, .int fs, .int fp, .int fc, .int fd, .int fb, .long fz]))] sz)) 0 0 (va_A [(h0, .inr (0, [.int fn, .ref hu, .int fo, .ref hm, .int fa, .int fx, .int fy, .int fs, .int fp, .int fc, .int fd, .int fb, .long fz]))] sz) := by
  refine Met.ofW (cc := cX1_setFlag) (maxL := 3) (ret := none) (by decide) rfl ?_
  intro p e s m args below meth c s₁ B hml hv
  obtain ⟨rfl, hsz, hP, hK, hD0, hXX⟩ := hv
  have hx := B.exec
  have hb := B.bytes
  have hr := B.returns
  have hts := atoms_spec (ws := (Cond.code yX1_setFlag cX1_setFlag 3 none :: gw)) B.pre
  have hown : s.vm.findClass RX1 = some m.cls := findClass_of_methodNamed B.named
  have hlocks := B.notSynchronized
  subst hsz
  have hD := hD0.self (sz := s.heap.size)
  generalize hAe : va_A [(h0, .inr (0, [.int fn, .ref hu, .int fo, .ref hm, .int fa, .int fx, .int fy, .int fs, .int fp, .int fc, .int fd, .int fb, .long fz]))] s.heap.size = A at hD ⊢
  have hA : ∀ q : Nat, s.heap.size ≤ q → A q := fun q h => by rw [← hAe]; exact Or.inr h
  have hS : va_S A s.heap s.heap [] := va_S.rf
  have hl := lv_entry ([.ref h0, .int p1, .int p2]) (n := 3) (Nat.le_of_ble_eq_true rfl)
  rw [lg_entry_eq]
  generalize (lg_sl ([.ref h0, .int p1, .int p2]) ++ List.replicate (3 - (lg_sl ([.ref h0, .int p1, .int p2])).length) Slot.unset).toArray = ls at hl ⊢
  have hl : lv_has ls 3 [(0, .ref h0), (1, .int p1), (2, .int p2)] := hl
  refine lv_aload_n hx hb dX1_setFlag_0 rfl (lv_at hl 0 rfl) ?_
  refine lv_iload_n hx hb dX1_setFlag_1 rfl (lv_at hl 2 rfl) ?_
  refine lv_if_eq (tgt := 14) hx hb dX1_setFlag_2 (by decide) (fun c_1 => ?_) (fun c_1 => ?_)
  · skip
    refine lv_aload_n hx hb dX1_setFlag_14 rfl (lv_at hl 0 rfl) ?_
    refine va_get (D := (dC, dI)) (ci := 0) (v := .int fp) (C := RX1) (T := TX1) (N := 13) hx hb hts (fun w h => gw_b w (iX1 w h)) hown hK hP 0 rfl rfl 8 (by decide) (hts _ (gw_b _ gm_148)) (fun _ h9 => h9) rfl dX1_setFlag_15 ?_
    refine lv_iload_n hx hb dX1_setFlag_18 rfl (lv_at hl 1 rfl) ?_
    refine lv_iconst (v := (-1)) hx hb dX1_setFlag_19 (by decide) ?_
    refine lv_ixor hx hb dX1_setFlag_20 ?_
    refine lv_iand hx hb dX1_setFlag_21 ?_
    refine va_put (D := (dC, dI)) (ci := 0) (v := .int (fp &&& (p1 ^^^ (-1)))) (ty := tyX1 8) (C := RX1) (T := TX1) (N := 13) hx hb hts (fun w h => gw_b w (iX1 w h)) tyX1 tyX1_ok nmX1 hown hK hP hD hS 0 rfl rfl 8 (by decide) (hts _ (gw_b _ gm_148)) (fun _ h9 => h9) rfl (tyX1_ok 8 (by decide)) rfl rfl (Nat.le_of_ble_eq_true rfl) dX1_setFlag_22 (fun H locs hP hD hS => ?_)
    have hP : va_P (dC, dI) vwCl [(h0, .inr (0, [.int fn, .ref hu, .int fo, .ref hm, .int fa, .int fx, .int fy, .int fs, .int (fp &&& (p1 ^^^ (-1))), .int fc, .int fd, .int fb, .long fz]))] H := hP
    have hD : va_D A [(h0, .inr (0, [.int fn, .ref hu, .int fo, .ref hm, .int fa, .int fx, .int fy, .int fs, .int (fp &&& (p1 ^^^ (-1))), .int fc, .int fd, .int fb, .long fz]))] := hD
    have e_fp : (f_X1_setFlag_fp fp p1 p2) = (fp &&& (p1 ^^^ (-1))) := (if_pos c_1)
    have hP9 : va_P (dC, dI) vwCl [(h0, .inr (0, [.int fn, .ref hu, .int fo, .ref hm, .int fa, .int fx, .int fy, .int fs, .int (f_X1_setFlag_fp fp p1 p2), .int fc, .int fd, .int fb, .long fz]))] H := by rw [e_fp]; exact hP.sub (ws' := [(h0, .inr (0, [.int fn, .ref hu, .int fo, .ref hm, .int fa, .int fx, .int fy, .int fs, .int (fp &&& (p1 ^^^ (-1))), .int fc, .int fd, .int fb, .long fz]))]) [0] rfl
    have hD9 : va_D A [(h0, .inr (0, [.int fn, .ref hu, .int fo, .ref hm, .int fa, .int fx, .int fy, .int fs, .int (f_X1_setFlag_fp fp p1 p2), .int fc, .int fd, .int fb, .long fz]))] := by rw [e_fp]; exact hD.sub (ws' := [(h0, .inr (0, [.int fn, .ref hu, .int fo, .ref hm, .int fa, .int fx, .int fy, .int fs, .int (fp &&& (p1 ^^^ (-1))), .int fc, .int fd, .int fb, .long fz]))]) [0] (by decide) rfl
    exact W.vret hx hb hr (fun t ht hW => ⟨⟨(), rfl, trivial, by rw [ht]; exact hP9, hD9⟩, hS.F ht⟩) hS.2.2 dX1_setFlag_25
  · skip
    refine lv_aload_n hx hb dX1_setFlag_5 rfl (lv_at hl 0 rfl) ?_
    refine va_get (D := (dC, dI)) (ci := 0) (v := .int fp) (C := RX1) (T := TX1) (N := 13) hx hb hts (fun w h => gw_b w (iX1 w h)) hown hK hP 0 rfl rfl 8 (by decide) (hts _ (gw_b _ gm_148)) (fun _ h9 => h9) rfl dX1_setFlag_6 ?_
    refine lv_iload_n hx hb dX1_setFlag_9 rfl (lv_at hl 1 rfl) ?_
    refine lv_ior hx hb dX1_setFlag_10 ?_
    refine lv_goto (tgt := 22) hx hb dX1_setFlag_11 (by decide) ?_
    refine va_put (D := (dC, dI)) (ci := 0) (v := .int (fp ||| p1)) (ty := tyX1 8) (C := RX1) (T := TX1) (N := 13) hx hb hts (fun w h => gw_b w (iX1 w h)) tyX1 tyX1_ok nmX1 hown hK hP hD hS 0 rfl rfl 8 (by decide) (hts _ (gw_b _ gm_148)) (fun _ h9 => h9) rfl (tyX1_ok 8 (by decide)) rfl rfl (Nat.le_of_ble_eq_true rfl) dX1_setFlag_22 (fun H locs hP hD hS => ?_)
    have hP : va_P (dC, dI) vwCl [(h0, .inr (0, [.int fn, .ref hu, .int fo, .ref hm, .int fa, .int fx, .int fy, .int fs, .int (fp ||| p1), .int fc, .int fd, .int fb, .long fz]))] H := hP
    have hD : va_D A [(h0, .inr (0, [.int fn, .ref hu, .int fo, .ref hm, .int fa, .int fx, .int fy, .int fs, .int (fp ||| p1), .int fc, .int fd, .int fb, .long fz]))] := hD
    have e_fp : (f_X1_setFlag_fp fp p1 p2) = (fp ||| p1) := (if_neg c_1)
    have hP9 : va_P (dC, dI) vwCl [(h0, .inr (0, [.int fn, .ref hu, .int fo, .ref hm, .int fa, .int fx, .int fy, .int fs, .int (f_X1_setFlag_fp fp p1 p2), .int fc, .int fd, .int fb, .long fz]))] H := by rw [e_fp]; exact hP.sub (ws' := [(h0, .inr (0, [.int fn, .ref hu, .int fo, .ref hm, .int fa, .int fx, .int fy, .int fs, .int (fp ||| p1), .int fc, .int fd, .int fb, .long fz]))]) [0] rfl
    have hD9 : va_D A [(h0, .inr (0, [.int fn, .ref hu, .int fo, .ref hm, .int fa, .int fx, .int fy, .int fs, .int (f_X1_setFlag_fp fp p1 p2), .int fc, .int fd, .int fb, .long fz]))] := by rw [e_fp]; exact hD.sub (ws' := [(h0, .inr (0, [.int fn, .ref hu, .int fo, .ref hm, .int fa, .int fx, .int fy, .int fs, .int (fp ||| p1), .int fc, .int fd, .int fb, .long fz]))]) [0] (by decide) rfl
    exact W.vret hx hb hr (fun t ht hW => ⟨⟨(), rfl, trivial, by rw [ht]; exact hP9, hD9⟩, hS.F ht⟩) hS.2.2 dX1_setFlag_25

def f_X1_shown_fp (fp : Int32) (p1 : Int32) : Int32 := (if p1 = 0 then (((fp &&& (-131)) ||| (p1 &&& 128)) ||| 2) else (((fp &&& (-131)) ||| (p1 &&& 128)) ||| 0))
def f_X1_shown_r (p1 : Int32) : Int32 := p1
set_option maxHeartbeats 4000000 in
set_option maxRecDepth 100000 in
/-- X1_shown -/
theorem c_X1_shown (l : Launch) (dC : Nat → ClassId) (dI : Nat → Nat → Nat) (sz : Nat) (h0 : Nat) (hu : Nat) (hm : Nat) (fn : Int32) (fo : Int32) (fa : Int32) (fx : Int32) (fy : Int32) (fs : Int32) (fp : Int32) (fc : Int32) (fd : Int32) (fb : Int32) (fz : Int64) (p1 : Int32)  : Met l yX1_shown (Cond.code yX1_shown cX1_shown 3 (some .int) :: gw) { frames := 0, cells := 0, slots := 0, locals := 0 } (va_Pc [.ref h0, .int p1] (wPre (dC, dI) [] [(h0, .inr (0, [.int fn, .ref hu, .int fo, .ref hm, .int fa, .int fx, .int fy, .int fs, .int fp, .int fc, .int fd, .int fb, .long fz]))] sz wX0)) (va_Qi (fun (r : Int32) (_ : Unit) => r = (f_X1_shown_r p1)) (fun _ t => wPost (dC, dI) (va_A [(h0, .inr (0, [.int fn, .ref hu, .int fo, .ref hm, .int fa, .int fx, .int fy, .int fs, .int fp, .int fc, .int fd, .int fb, .long fz]))] sz) [(h0, .inr (0, [.int fn, .ref hu, .int fo, .ref hm, .int fa, .int fx, .int fy, .int fs, .int (f_X1_shown_fp fp p1), .int fc, .int fd, .int fb, .long fz]))] t) (va_A [(h0, .inr (0, [.int fn, .ref hu, .int fo, .ref hm, .int fa, .int fx, .int fy, .int fs, .int fp, .int fc, .int fd, .int fb, .long fz]))] sz)) 0 0 (va_A [(h0, .inr (0, [.int fn, .ref hu, .int fo, .ref hm, .int fa, .int fx, .int fy, .int fs, .int fp, .int fc, .int fd, .int fb, .long fz]))] sz) := by
  refine Met.ofW (cc := cX1_shown) (maxL := 3) (ret := (some .int)) (by decide) rfl ?_
  intro p e s m args below meth c s₁ B hml hv
  obtain ⟨rfl, hsz, hP, hK, hD0, hXX⟩ := hv
  have hx := B.exec
  have hb := B.bytes
  have hr := B.returns
  have hts := atoms_spec (ws := (Cond.code yX1_shown cX1_shown 3 (some .int) :: gw)) B.pre
  have hown : s.vm.findClass RX1 = some m.cls := findClass_of_methodNamed B.named
  have hlocks := B.notSynchronized
  subst hsz
  have hD := hD0.self (sz := s.heap.size)
  generalize hAe : va_A [(h0, .inr (0, [.int fn, .ref hu, .int fo, .ref hm, .int fa, .int fx, .int fy, .int fs, .int fp, .int fc, .int fd, .int fb, .long fz]))] s.heap.size = A at hD ⊢
  have hA : ∀ q : Nat, s.heap.size ≤ q → A q := fun q h => by rw [← hAe]; exact Or.inr h
  have hS : va_S A s.heap s.heap [] := va_S.rf
  have hl := lv_entry ([.ref h0, .int p1]) (n := 3) (Nat.le_of_ble_eq_true rfl)
  rw [lg_entry_eq]
  generalize (lg_sl ([.ref h0, .int p1]) ++ List.replicate (3 - (lg_sl ([.ref h0, .int p1])).length) Slot.unset).toArray = ls at hl ⊢
  have hl : lv_has ls 3 [(0, .ref h0), (1, .int p1)] := hl
  refine lv_aload_n hx hb dX1_shown_0 rfl (lv_at hl 0 rfl) ?_
  refine va_get (D := (dC, dI)) (ci := 0) (v := .int fp) (C := RX1) (T := TX1) (N := 13) hx hb hts (fun w h => gw_b w (iX1 w h)) hown hK hP 0 rfl rfl 8 (by decide) (hts _ (gw_b _ gm_148)) (fun _ h9 => h9) rfl dX1_shown_1 ?_
  refine lv_sipush (v := (-131)) hx hb dX1_shown_4 (by decide) ?_
  refine lv_iand hx hb dX1_shown_7 ?_
  refine lv_istore_n (lv' := [(2, .int (fp &&& (-131))), (0, .ref h0), (1, .int p1)]) hx hb dX1_shown_8 rfl hl (by decide) rfl (fun ls hl => ?_)
  refine lv_aload_n hx hb dX1_shown_9 rfl (lv_at hl 1 rfl) ?_
  refine lv_iload_n hx hb dX1_shown_10 rfl (lv_at hl 0 rfl) ?_
  refine lv_iload_n hx hb dX1_shown_11 rfl (lv_at hl 2 rfl) ?_
  refine lv_sipush (v := 128) hx hb dX1_shown_12 (by decide) ?_
  refine lv_iand hx hb dX1_shown_15 ?_
  refine lv_ior hx hb dX1_shown_16 ?_
  refine lv_iload_n hx hb dX1_shown_17 rfl (lv_at hl 2 rfl) ?_
  refine lv_if_ne (tgt := 25) hx hb dX1_shown_18 (by decide) (fun c_1 => ?_) (fun c_1 => ?_)
  · skip
    refine lv_iconst (v := 0) hx hb dX1_shown_25 (by decide) ?_
    refine lv_ior hx hb dX1_shown_26 ?_
    refine va_put (D := (dC, dI)) (ci := 0) (v := .int (((fp &&& (-131)) ||| (p1 &&& 128)) ||| 0)) (ty := tyX1 8) (C := RX1) (T := TX1) (N := 13) hx hb hts (fun w h => gw_b w (iX1 w h)) tyX1 tyX1_ok nmX1 hown hK hP hD hS 0 rfl rfl 8 (by decide) (hts _ (gw_b _ gm_148)) (fun _ h9 => h9) rfl (tyX1_ok 8 (by decide)) rfl rfl (Nat.le_of_ble_eq_true rfl) dX1_shown_27 (fun H locs hP hD hS => ?_)
    have hP : va_P (dC, dI) vwCl [(h0, .inr (0, [.int fn, .ref hu, .int fo, .ref hm, .int fa, .int fx, .int fy, .int fs, .int (((fp &&& (-131)) ||| (p1 &&& 128)) ||| 0), .int fc, .int fd, .int fb, .long fz]))] H := hP
    have hD : va_D A [(h0, .inr (0, [.int fn, .ref hu, .int fo, .ref hm, .int fa, .int fx, .int fy, .int fs, .int (((fp &&& (-131)) ||| (p1 &&& 128)) ||| 0), .int fc, .int fd, .int fb, .long fz]))] := hD
    refine lv_iload_n hx hb dX1_shown_30 rfl (lv_at hl 2 rfl) ?_
    have e_fp : (f_X1_shown_fp fp p1) = (((fp &&& (-131)) ||| (p1 &&& 128)) ||| 0) := (if_neg c_1)
    have hP9 : va_P (dC, dI) vwCl [(h0, .inr (0, [.int fn, .ref hu, .int fo, .ref hm, .int fa, .int fx, .int fy, .int fs, .int (f_X1_shown_fp fp p1), .int fc, .int fd, .int fb, .long fz]))] H := by rw [e_fp]; exact hP.sub (ws' := [(h0, .inr (0, [.int fn, .ref hu, .int fo, .ref hm, .int fa, .int fx, .int fy, .int fs, .int (((fp &&& (-131)) ||| (p1 &&& 128)) ||| 0), .int fc, .int fd, .int fb, .long fz]))]) [0] rfl
    have hD9 : va_D A [(h0, .inr (0, [.int fn, .ref hu, .int fo, .ref hm, .int fa, .int fx, .int fy, .int fs, .int (f_X1_shown_fp fp p1), .int fc, .int fd, .int fb, .long fz]))] := by rw [e_fp]; exact hD.sub (ws' := [(h0, .inr (0, [.int fn, .ref hu, .int fo, .ref hm, .int fa, .int fx, .int fy, .int fs, .int (((fp &&& (-131)) ||| (p1 &&& 128)) ||| 0), .int fc, .int fd, .int fb, .long fz]))]) [0] (by decide) rfl
    exact W.iret (v := p1) hx hb hr (fun t ht hW => ⟨⟨p1, (), rfl, Eq.symm (rfl : (f_X1_shown_r p1) = p1), by rw [ht]; exact hP9, hD9⟩, hS.F ht⟩) hS.2.2 dX1_shown_31
  · skip
    refine lv_iconst (v := 2) hx hb dX1_shown_21 (by decide) ?_
    refine lv_goto (tgt := 26) hx hb dX1_shown_22 (by decide) ?_
    refine lv_ior hx hb dX1_shown_26 ?_
    refine va_put (D := (dC, dI)) (ci := 0) (v := .int (((fp &&& (-131)) ||| (p1 &&& 128)) ||| 2)) (ty := tyX1 8) (C := RX1) (T := TX1) (N := 13) hx hb hts (fun w h => gw_b w (iX1 w h)) tyX1 tyX1_ok nmX1 hown hK hP hD hS 0 rfl rfl 8 (by decide) (hts _ (gw_b _ gm_148)) (fun _ h9 => h9) rfl (tyX1_ok 8 (by decide)) rfl rfl (Nat.le_of_ble_eq_true rfl) dX1_shown_27 (fun H locs hP hD hS => ?_)
    have hP : va_P (dC, dI) vwCl [(h0, .inr (0, [.int fn, .ref hu, .int fo, .ref hm, .int fa, .int fx, .int fy, .int fs, .int (((fp &&& (-131)) ||| (p1 &&& 128)) ||| 2), .int fc, .int fd, .int fb, .long fz]))] H := hP
    have hD : va_D A [(h0, .inr (0, [.int fn, .ref hu, .int fo, .ref hm, .int fa, .int fx, .int fy, .int fs, .int (((fp &&& (-131)) ||| (p1 &&& 128)) ||| 2), .int fc, .int fd, .int fb, .long fz]))] := hD
    refine lv_iload_n hx hb dX1_shown_30 rfl (lv_at hl 2 rfl) ?_
    have e_fp : (f_X1_shown_fp fp p1) = (((fp &&& (-131)) ||| (p1 &&& 128)) ||| 2) := (if_pos c_1)
    have hP9 : va_P (dC, dI) vwCl [(h0, .inr (0, [.int fn, .ref hu, .int fo, .ref hm, .int fa, .int fx, .int fy, .int fs, .int (f_X1_shown_fp fp p1), .int fc, .int fd, .int fb, .long fz]))] H := by rw [e_fp]; exact hP.sub (ws' := [(h0, .inr (0, [.int fn, .ref hu, .int fo, .ref hm, .int fa, .int fx, .int fy, .int fs, .int (((fp &&& (-131)) ||| (p1 &&& 128)) ||| 2), .int fc, .int fd, .int fb, .long fz]))]) [0] rfl
    have hD9 : va_D A [(h0, .inr (0, [.int fn, .ref hu, .int fo, .ref hm, .int fa, .int fx, .int fy, .int fs, .int (f_X1_shown_fp fp p1), .int fc, .int fd, .int fb, .long fz]))] := by rw [e_fp]; exact hD.sub (ws' := [(h0, .inr (0, [.int fn, .ref hu, .int fo, .ref hm, .int fa, .int fx, .int fy, .int fs, .int (((fp &&& (-131)) ||| (p1 &&& 128)) ||| 2), .int fc, .int fd, .int fb, .long fz]))]) [0] (by decide) rfl
    exact W.iret (v := p1) hx hb hr (fun t ht hW => ⟨⟨p1, (), rfl, Eq.symm (rfl : (f_X1_shown_r p1) = p1), by rw [ht]; exact hP9, hD9⟩, hS.F ht⟩) hS.2.2 dX1_shown_31

def f_X1_placeBehind_fc (fc : Int32) : Int32 := ((fc + 1) &&& 65535)
def f_X1_placeBehind_r (fc : Int32) : Int32 := fc
set_option maxHeartbeats 4000000 in
set_option maxRecDepth 100000 in
/-- X1_placeBehind -/
theorem c_X1_placeBehind (l : Launch) (dC : Nat → ClassId) (dI : Nat → Nat → Nat) (sz : Nat) (h0 : Nat) (hu : Nat) (hm : Nat) (fn : Int32) (fo : Int32) (fa : Int32) (fx : Int32) (fy : Int32) (fs : Int32) (fp : Int32) (fc : Int32) (fd : Int32) (fb : Int32) (fz : Int64)  : Met l yX1_placeBehind (Cond.code yX1_placeBehind cX1_placeBehind 2 (some .int) :: gw) { frames := 0, cells := 0, slots := 0, locals := 0 } (va_Pc [.ref h0] (wPre (dC, dI) [] [(h0, .inr (0, [.int fn, .ref hu, .int fo, .ref hm, .int fa, .int fx, .int fy, .int fs, .int fp, .int fc, .int fd, .int fb, .long fz]))] sz wX0)) (va_Qi (fun (r : Int32) (_ : Unit) => r = (f_X1_placeBehind_r fc)) (fun _ t => wPost (dC, dI) (va_A [(h0, .inr (0, [.int fn, .ref hu, .int fo, .ref hm, .int fa, .int fx, .int fy, .int fs, .int fp, .int fc, .int fd, .int fb, .long fz]))] sz) [(h0, .inr (0, [.int fn, .ref hu, .int fo, .ref hm, .int fa, .int fx, .int fy, .int fs, .int fp, .int (f_X1_placeBehind_fc fc), .int fd, .int fb, .long fz]))] t) (va_A [(h0, .inr (0, [.int fn, .ref hu, .int fo, .ref hm, .int fa, .int fx, .int fy, .int fs, .int fp, .int fc, .int fd, .int fb, .long fz]))] sz)) 0 0 (va_A [(h0, .inr (0, [.int fn, .ref hu, .int fo, .ref hm, .int fa, .int fx, .int fy, .int fs, .int fp, .int fc, .int fd, .int fb, .long fz]))] sz) := by
  refine Met.ofW (cc := cX1_placeBehind) (maxL := 2) (ret := (some .int)) (by decide) rfl ?_
  intro p e s m args below meth c s₁ B hml hv
  obtain ⟨rfl, hsz, hP, hK, hD0, hXX⟩ := hv
  have hx := B.exec
  have hb := B.bytes
  have hr := B.returns
  have hts := atoms_spec (ws := (Cond.code yX1_placeBehind cX1_placeBehind 2 (some .int) :: gw)) B.pre
  have hown : s.vm.findClass RX1 = some m.cls := findClass_of_methodNamed B.named
  have hlocks := B.notSynchronized
  subst hsz
  have hD := hD0.self (sz := s.heap.size)
  generalize hAe : va_A [(h0, .inr (0, [.int fn, .ref hu, .int fo, .ref hm, .int fa, .int fx, .int fy, .int fs, .int fp, .int fc, .int fd, .int fb, .long fz]))] s.heap.size = A at hD ⊢
  have hA : ∀ q : Nat, s.heap.size ≤ q → A q := fun q h => by rw [← hAe]; exact Or.inr h
  have hS : va_S A s.heap s.heap [] := va_S.rf
  have hl := lv_entry ([.ref h0]) (n := 2) (Nat.le_of_ble_eq_true rfl)
  rw [lg_entry_eq]
  generalize (lg_sl ([.ref h0]) ++ List.replicate (2 - (lg_sl ([.ref h0])).length) Slot.unset).toArray = ls at hl ⊢
  have hl : lv_has ls 2 [(0, .ref h0)] := hl
  refine lv_aload_n hx hb dX1_placeBehind_0 rfl (lv_at hl 0 rfl) ?_
  refine va_get (D := (dC, dI)) (ci := 0) (v := .int fc) (C := RX1) (T := TX1) (N := 13) hx hb hts (fun w h => gw_b w (iX1 w h)) hown hK hP 0 rfl rfl 9 (by decide) (hts _ (gw_b _ gm_149)) (fun _ h9 => h9) rfl dX1_placeBehind_1 ?_
  refine lv_istore_n (lv' := [(1, .int fc), (0, .ref h0)]) hx hb dX1_placeBehind_4 rfl hl (by decide) rfl (fun ls hl => ?_)
  refine lv_aload_n hx hb dX1_placeBehind_5 rfl (lv_at hl 1 rfl) ?_
  refine lv_aload_n hx hb dX1_placeBehind_6 rfl (lv_at hl 1 rfl) ?_
  refine va_get (D := (dC, dI)) (ci := 0) (v := .int fc) (C := RX1) (T := TX1) (N := 13) hx hb hts (fun w h => gw_b w (iX1 w h)) hown hK hP 0 rfl rfl 9 (by decide) (hts _ (gw_b _ gm_149)) (fun _ h9 => h9) rfl dX1_placeBehind_7 ?_
  refine lv_iconst (v := 1) hx hb dX1_placeBehind_10 (by decide) ?_
  refine lv_iadd hx hb dX1_placeBehind_11 ?_
  refine lv_ldc (v := 65535) hx hb hown (hts _ (gw_b _ gm_431)) dX1_placeBehind_12 ?_
  refine lv_iand hx hb dX1_placeBehind_14 ?_
  refine va_put (D := (dC, dI)) (ci := 0) (v := .int ((fc + 1) &&& 65535)) (ty := tyX1 9) (C := RX1) (T := TX1) (N := 13) hx hb hts (fun w h => gw_b w (iX1 w h)) tyX1 tyX1_ok nmX1 hown hK hP hD hS 0 rfl rfl 9 (by decide) (hts _ (gw_b _ gm_149)) (fun _ h9 => h9) rfl (tyX1_ok 9 (by decide)) rfl rfl (Nat.le_of_ble_eq_true rfl) dX1_placeBehind_15 (fun H locs hP hD hS => ?_)
  have hP : va_P (dC, dI) vwCl [(h0, .inr (0, [.int fn, .ref hu, .int fo, .ref hm, .int fa, .int fx, .int fy, .int fs, .int fp, .int ((fc + 1) &&& 65535), .int fd, .int fb, .long fz]))] H := hP
  have hD : va_D A [(h0, .inr (0, [.int fn, .ref hu, .int fo, .ref hm, .int fa, .int fx, .int fy, .int fs, .int fp, .int ((fc + 1) &&& 65535), .int fd, .int fb, .long fz]))] := hD
  refine lv_iload_n hx hb dX1_placeBehind_18 rfl (lv_at hl 0 rfl) ?_
  have e_fc : (f_X1_placeBehind_fc fc) = ((fc + 1) &&& 65535) := rfl
  have hP9 : va_P (dC, dI) vwCl [(h0, .inr (0, [.int fn, .ref hu, .int fo, .ref hm, .int fa, .int fx, .int fy, .int fs, .int fp, .int (f_X1_placeBehind_fc fc), .int fd, .int fb, .long fz]))] H := by rw [e_fc]; exact hP.sub (ws' := [(h0, .inr (0, [.int fn, .ref hu, .int fo, .ref hm, .int fa, .int fx, .int fy, .int fs, .int fp, .int ((fc + 1) &&& 65535), .int fd, .int fb, .long fz]))]) [0] rfl
  have hD9 : va_D A [(h0, .inr (0, [.int fn, .ref hu, .int fo, .ref hm, .int fa, .int fx, .int fy, .int fs, .int fp, .int (f_X1_placeBehind_fc fc), .int fd, .int fb, .long fz]))] := by rw [e_fc]; exact hD.sub (ws' := [(h0, .inr (0, [.int fn, .ref hu, .int fo, .ref hm, .int fa, .int fx, .int fy, .int fs, .int fp, .int ((fc + 1) &&& 65535), .int fd, .int fb, .long fz]))]) [0] (by decide) rfl
  exact W.iret (v := fc) hx hb hr (fun t ht hW => ⟨⟨fc, (), rfl, Eq.symm (rfl : (f_X1_placeBehind_r fc) = fc), by rw [ht]; exact hP9, hD9⟩, hS.F ht⟩) hS.2.2 dX1_placeBehind_19

def f_X1_testBits_fp (fa : Int32) (fp : Int32) (p1 : Int32) : Int32 := (if (fa &&& p1) = 0 then (if (p1 &&& 128) = 0 then (if (p1 &&& 64) = 0 then (f_X1_setFlag_fp (f_X1_setFlag_fp (f_X1_setFlag_fp fp 2 1) 128 0) 64 0) else (f_X1_setFlag_fp (f_X1_setFlag_fp (f_X1_setFlag_fp fp 2 1) 128 0) 64 1)) else (if (p1 &&& 64) = 0 then (f_X1_setFlag_fp (f_X1_setFlag_fp (f_X1_setFlag_fp fp 2 1) 128 1) 64 0) else (f_X1_setFlag_fp (f_X1_setFlag_fp (f_X1_setFlag_fp fp 2 1) 128 1) 64 1))) else (if (p1 &&& 128) = 0 then (if (p1 &&& 64) = 0 then (f_X1_setFlag_fp (f_X1_setFlag_fp (f_X1_setFlag_fp fp 2 0) 128 0) 64 0) else (f_X1_setFlag_fp (f_X1_setFlag_fp (f_X1_setFlag_fp fp 2 0) 128 0) 64 1)) else (if (p1 &&& 64) = 0 then (f_X1_setFlag_fp (f_X1_setFlag_fp (f_X1_setFlag_fp fp 2 0) 128 1) 64 0) else (f_X1_setFlag_fp (f_X1_setFlag_fp (f_X1_setFlag_fp fp 2 0) 128 1) 64 1))))
set_option maxHeartbeats 4000000 in
set_option maxRecDepth 100000 in
/-- X1_testBits -/
theorem c_X1_testBits (l : Launch) (dC : Nat → ClassId) (dI : Nat → Nat → Nat) (sz : Nat) (h0 : Nat) (hu : Nat) (hm : Nat) (fn : Int32) (fo : Int32) (fa : Int32) (fx : Int32) (fy : Int32) (fs : Int32) (fp : Int32) (fc : Int32) (fd : Int32) (fb : Int32) (fz : Int64) (p1 : Int32)  : Met l yX1_testBits (Cond.code yX1_testBits cX1_testBits 2 none :: gw) { frames := 1, cells := 0, slots := 0, locals := 22 } (va_Pc [.ref h0, .int p1] (wPre (dC, dI) [] [(h0, .inr (0, [.int fn, .ref hu, .int fo, .ref hm, .int fa, .int fx, .int fy, .int fs, .int fp, .int fc, .int fd, .int fb, .long fz]))] sz wX0)) (va_Qv (fun _ : Unit => True) (fun _ t => wPost (dC, dI) (va_A [(h0, .inr (0, [.int fn, .ref hu, .int fo, .ref hm, .int fa, .int fx, .int fy, .int fs, .int fp, .int fc, .int fd, .int fb, .long fz]))] sz) [(h0, .inr (0, [.int fn, .ref hu, .int fo, .ref hm, .int fa, .int fx, .int fy, .int fs, .int (f_X1_testBits_fp fa fp p1), .int fc, .int fd, .int fb, .long fz]))] t) (va_A [(h0, .inr (0, [.int fn, .ref hu, .int fo, .ref hm, .int fa, .int fx, .int fy, .int fs, .int fp, .int fc, .int fd, .int fb, .long fz]))] sz)) 0 0 (va_A [(h0, .inr (0, [.int fn, .ref hu, .int fo, .ref hm, .int fa, .int fx, .int fy, .int fs, .int fp, .int fc, .int fd, .int fb, .long fz]))] sz) := by
  refine Met.ofW (cc := cX1_testBits) (maxL := 2) (ret := none) (by decide) rfl ?_
  intro p e s m args below meth c s₁ B hml hv
  obtain ⟨rfl, hsz, hP, hK, hD0, hXX⟩ := hv
  have hx := B.exec
  have hb := B.bytes
  have hr := B.returns
  have hts := atoms_spec (ws := (Cond.code yX1_testBits cX1_testBits 2 none :: gw)) B.pre
  have hown : s.vm.findClass RX1 = some m.cls := findClass_of_methodNamed B.named
  have hlocks := B.notSynchronized
  subst hsz
  have hD := hD0.self (sz := s.heap.size)
  generalize hAe : va_A [(h0, .inr (0, [.int fn, .ref hu, .int fo, .ref hm, .int fa, .int fx, .int fy, .int fs, .int fp, .int fc, .int fd, .int fb, .long fz]))] s.heap.size = A at hD ⊢
  have hA : ∀ q : Nat, s.heap.size ≤ q → A q := fun q h => by rw [← hAe]; exact Or.inr h
  have hS : va_S A s.heap s.heap [] := va_S.rf
  have hl := lv_entry ([.ref h0, .int p1]) (n := 2) (Nat.le_of_ble_eq_true rfl)
  rw [lg_entry_eq]
  generalize (lg_sl ([.ref h0, .int p1]) ++ List.replicate (2 - (lg_sl ([.ref h0, .int p1])).length) Slot.unset).toArray = ls at hl ⊢
  have hl : lv_has ls 2 [(0, .ref h0), (1, .int p1)] := hl
  refine lv_aload_n hx hb dX1_testBits_0 rfl (lv_at hl 0 rfl) ?_
  refine lv_iconst (v := 2) hx hb dX1_testBits_1 (by decide) ?_
  refine lv_aload_n hx hb dX1_testBits_2 rfl (lv_at hl 0 rfl) ?_
  refine va_get (D := (dC, dI)) (ci := 0) (v := .int fa) (C := RX1) (T := TX1) (N := 13) hx hb hts (fun w h => gw_b w (iX1 w h)) hown hK hP 0 rfl rfl 4 (by decide) (hts _ (gw_b _ gm_144)) (fun _ h9 => h9) rfl dX1_testBits_3 ?_
  refine lv_iload_n hx hb dX1_testBits_6 rfl (lv_at hl 1 rfl) ?_
  refine lv_iand hx hb dX1_testBits_7 ?_
  refine lv_if_ne (tgt := 15) hx hb dX1_testBits_8 (by decide) (fun c_1 => ?_) (fun c_1 => ?_)
  · skip
    refine lv_iconst (v := 0) hx hb dX1_testBits_15 (by decide) ?_
    refine gc_v (wr := []) (w1 := [(h0, .inr (0, [.int fn, .ref hu, .int fo, .ref hm, .int fa, .int fx, .int fy, .int fs, .int (f_X1_setFlag_fp fp 2 0), .int fc, .int fd, .int fb, .long fz]))]) (gcV (As := [.int 2, .int 0]) (rest := []) ⟨hx, hb, hml, hown, hts⟩ (c_X1_setFlag l dC dI s.heap.size h0 hu hm fn fo fa fx fy fs fp fc fd fb fz 2 0) (cwV 2 hts (gw_V gw_b gm_467 gm_469 gm_18 gm_71 gm_470) rfl rfl rfl (by decide +kernel) ⟨Nat.le_of_ble_eq_true rfl, Nat.le_of_ble_eq_true rfl⟩) hK [] rfl hP hD [0] rfl rfl rfl rfl wX0_k (fun _ _ _ => trivial) rfl rfl hl.1 rfl (lv_room (Nat.le_of_ble_eq_true rfl)) dX1_testBits_16 ⟨Nat.le_of_ble_eq_true rfl, Nat.le_of_ble_eq_true rfl⟩) hP hD hS hA [0] [] rfl rfl rfl (by decide) (fun H locs hP hD hS => ?_)
    have hP : va_P (dC, dI) vwCl [(h0, .inr (0, [.int fn, .ref hu, .int fo, .ref hm, .int fa, .int fx, .int fy, .int fs, .int (f_X1_setFlag_fp fp 2 0), .int fc, .int fd, .int fb, .long fz]))] H := hP
    have hD : va_D A [(h0, .inr (0, [.int fn, .ref hu, .int fo, .ref hm, .int fa, .int fx, .int fy, .int fs, .int (f_X1_setFlag_fp fp 2 0), .int fc, .int fd, .int fb, .long fz]))] := hD
    refine lv_aload_n hx hb dX1_testBits_19 rfl (lv_at hl 0 rfl) ?_
    refine lv_sipush (v := 128) hx hb dX1_testBits_20 (by decide) ?_
    refine lv_iload_n hx hb dX1_testBits_23 rfl (lv_at hl 1 rfl) ?_
    refine lv_sipush (v := 128) hx hb dX1_testBits_24 (by decide) ?_
    refine lv_iand hx hb dX1_testBits_27 ?_
    refine lv_if_eq (tgt := 35) hx hb dX1_testBits_28 (by decide) (fun c_2 => ?_) (fun c_2 => ?_)
    · skip
      refine lv_iconst (v := 0) hx hb dX1_testBits_35 (by decide) ?_
      refine gc_v (wr := []) (w1 := [(h0, .inr (0, [.int fn, .ref hu, .int fo, .ref hm, .int fa, .int fx, .int fy, .int fs, .int (f_X1_setFlag_fp (f_X1_setFlag_fp fp 2 0) 128 0), .int fc, .int fd, .int fb, .long fz]))]) (gcV (As := [.int 128, .int 0]) (rest := []) ⟨hx, hb, hml, hown, hts⟩ (c_X1_setFlag l dC dI H.size h0 hu hm fn fo fa fx fy fs (f_X1_setFlag_fp fp 2 0) fc fd fb fz 128 0) (cwV 2 hts (gw_V gw_b gm_467 gm_469 gm_18 gm_71 gm_470) rfl rfl rfl (by decide +kernel) ⟨Nat.le_of_ble_eq_true rfl, Nat.le_of_ble_eq_true rfl⟩) hK [] rfl hP hD [0] rfl rfl rfl rfl wX0_k (fun _ _ _ => trivial) rfl rfl hl.1 rfl (lv_room (Nat.le_of_ble_eq_true rfl)) dX1_testBits_36 ⟨Nat.le_of_ble_eq_true rfl, Nat.le_of_ble_eq_true rfl⟩) hP hD hS hA [0] [] rfl rfl rfl (by decide) (fun H locs hP hD hS => ?_)
      have hP : va_P (dC, dI) vwCl [(h0, .inr (0, [.int fn, .ref hu, .int fo, .ref hm, .int fa, .int fx, .int fy, .int fs, .int (f_X1_setFlag_fp (f_X1_setFlag_fp fp 2 0) 128 0), .int fc, .int fd, .int fb, .long fz]))] H := hP
      have hD : va_D A [(h0, .inr (0, [.int fn, .ref hu, .int fo, .ref hm, .int fa, .int fx, .int fy, .int fs, .int (f_X1_setFlag_fp (f_X1_setFlag_fp fp 2 0) 128 0), .int fc, .int fd, .int fb, .long fz]))] := hD
      refine lv_aload_n hx hb dX1_testBits_39 rfl (lv_at hl 0 rfl) ?_
      refine lv_bipush (v := 64) hx hb dX1_testBits_40 (by decide) ?_
      refine lv_iload_n hx hb dX1_testBits_42 rfl (lv_at hl 1 rfl) ?_
      refine lv_bipush (v := 64) hx hb dX1_testBits_43 (by decide) ?_
      refine lv_iand hx hb dX1_testBits_45 ?_
      refine lv_if_eq (tgt := 53) hx hb dX1_testBits_46 (by decide) (fun c_3 => ?_) (fun c_3 => ?_)
      · skip
        refine lv_iconst (v := 0) hx hb dX1_testBits_53 (by decide) ?_
        refine gc_v (wr := []) (w1 := [(h0, .inr (0, [.int fn, .ref hu, .int fo, .ref hm, .int fa, .int fx, .int fy, .int fs, .int (f_X1_setFlag_fp (f_X1_setFlag_fp (f_X1_setFlag_fp fp 2 0) 128 0) 64 0), .int fc, .int fd, .int fb, .long fz]))]) (gcV (As := [.int 64, .int 0]) (rest := []) ⟨hx, hb, hml, hown, hts⟩ (c_X1_setFlag l dC dI H.size h0 hu hm fn fo fa fx fy fs (f_X1_setFlag_fp (f_X1_setFlag_fp fp 2 0) 128 0) fc fd fb fz 64 0) (cwV 2 hts (gw_V gw_b gm_467 gm_469 gm_18 gm_71 gm_470) rfl rfl rfl (by decide +kernel) ⟨Nat.le_of_ble_eq_true rfl, Nat.le_of_ble_eq_true rfl⟩) hK [] rfl hP hD [0] rfl rfl rfl rfl wX0_k (fun _ _ _ => trivial) rfl rfl hl.1 rfl (lv_room (Nat.le_of_ble_eq_true rfl)) dX1_testBits_54 ⟨Nat.le_of_ble_eq_true rfl, Nat.le_of_ble_eq_true rfl⟩) hP hD hS hA [0] [] rfl rfl rfl (by decide) (fun H locs hP hD hS => ?_)
        have hP : va_P (dC, dI) vwCl [(h0, .inr (0, [.int fn, .ref hu, .int fo, .ref hm, .int fa, .int fx, .int fy, .int fs, .int (f_X1_setFlag_fp (f_X1_setFlag_fp (f_X1_setFlag_fp fp 2 0) 128 0) 64 0), .int fc, .int fd, .int fb, .long fz]))] H := hP
        have hD : va_D A [(h0, .inr (0, [.int fn, .ref hu, .int fo, .ref hm, .int fa, .int fx, .int fy, .int fs, .int (f_X1_setFlag_fp (f_X1_setFlag_fp (f_X1_setFlag_fp fp 2 0) 128 0) 64 0), .int fc, .int fd, .int fb, .long fz]))] := hD
        have e_fp : (f_X1_testBits_fp fa fp p1) = (f_X1_setFlag_fp (f_X1_setFlag_fp (f_X1_setFlag_fp fp 2 0) 128 0) 64 0) := (((if_neg c_1)).trans (if_pos c_2)).trans (if_pos c_3)
        have hP9 : va_P (dC, dI) vwCl [(h0, .inr (0, [.int fn, .ref hu, .int fo, .ref hm, .int fa, .int fx, .int fy, .int fs, .int (f_X1_testBits_fp fa fp p1), .int fc, .int fd, .int fb, .long fz]))] H := by rw [e_fp]; exact hP.sub (ws' := [(h0, .inr (0, [.int fn, .ref hu, .int fo, .ref hm, .int fa, .int fx, .int fy, .int fs, .int (f_X1_setFlag_fp (f_X1_setFlag_fp (f_X1_setFlag_fp fp 2 0) 128 0) 64 0), .int fc, .int fd, .int fb, .long fz]))]) [0] rfl
        have hD9 : va_D A [(h0, .inr (0, [.int fn, .ref hu, .int fo, .ref hm, .int fa, .int fx, .int fy, .int fs, .int (f_X1_testBits_fp fa fp p1), .int fc, .int fd, .int fb, .long fz]))] := by rw [e_fp]; exact hD.sub (ws' := [(h0, .inr (0, [.int fn, .ref hu, .int fo, .ref hm, .int fa, .int fx, .int fy, .int fs, .int (f_X1_setFlag_fp (f_X1_setFlag_fp (f_X1_setFlag_fp fp 2 0) 128 0) 64 0), .int fc, .int fd, .int fb, .long fz]))]) [0] (by decide) rfl
        exact W.vret hx hb hr (fun t ht hW => ⟨⟨(), rfl, trivial, by rw [ht]; exact hP9, hD9⟩, hS.F ht⟩) hS.2.2 dX1_testBits_57
      · skip
        refine lv_iconst (v := 1) hx hb dX1_testBits_49 (by decide) ?_
        refine lv_goto (tgt := 54) hx hb dX1_testBits_50 (by decide) ?_
        refine gc_v (wr := []) (w1 := [(h0, .inr (0, [.int fn, .ref hu, .int fo, .ref hm, .int fa, .int fx, .int fy, .int fs, .int (f_X1_setFlag_fp (f_X1_setFlag_fp (f_X1_setFlag_fp fp 2 0) 128 0) 64 1), .int fc, .int fd, .int fb, .long fz]))]) (gcV (As := [.int 64, .int 1]) (rest := []) ⟨hx, hb, hml, hown, hts⟩ (c_X1_setFlag l dC dI H.size h0 hu hm fn fo fa fx fy fs (f_X1_setFlag_fp (f_X1_setFlag_fp fp 2 0) 128 0) fc fd fb fz 64 1) (cwV 2 hts (gw_V gw_b gm_467 gm_469 gm_18 gm_71 gm_470) rfl rfl rfl (by decide +kernel) ⟨Nat.le_of_ble_eq_true rfl, Nat.le_of_ble_eq_true rfl⟩) hK [] rfl hP hD [0] rfl rfl rfl rfl wX0_k (fun _ _ _ => trivial) rfl rfl hl.1 rfl (lv_room (Nat.le_of_ble_eq_true rfl)) dX1_testBits_54 ⟨Nat.le_of_ble_eq_true rfl, Nat.le_of_ble_eq_true rfl⟩) hP hD hS hA [0] [] rfl rfl rfl (by decide) (fun H locs hP hD hS => ?_)
        have hP : va_P (dC, dI) vwCl [(h0, .inr (0, [.int fn, .ref hu, .int fo, .ref hm, .int fa, .int fx, .int fy, .int fs, .int (f_X1_setFlag_fp (f_X1_setFlag_fp (f_X1_setFlag_fp fp 2 0) 128 0) 64 1), .int fc, .int fd, .int fb, .long fz]))] H := hP
        have hD : va_D A [(h0, .inr (0, [.int fn, .ref hu, .int fo, .ref hm, .int fa, .int fx, .int fy, .int fs, .int (f_X1_setFlag_fp (f_X1_setFlag_fp (f_X1_setFlag_fp fp 2 0) 128 0) 64 1), .int fc, .int fd, .int fb, .long fz]))] := hD
        have e_fp : (f_X1_testBits_fp fa fp p1) = (f_X1_setFlag_fp (f_X1_setFlag_fp (f_X1_setFlag_fp fp 2 0) 128 0) 64 1) := (((if_neg c_1)).trans (if_pos c_2)).trans (if_neg c_3)
        have hP9 : va_P (dC, dI) vwCl [(h0, .inr (0, [.int fn, .ref hu, .int fo, .ref hm, .int fa, .int fx, .int fy, .int fs, .int (f_X1_testBits_fp fa fp p1), .int fc, .int fd, .int fb, .long fz]))] H := by rw [e_fp]; exact hP.sub (ws' := [(h0, .inr (0, [.int fn, .ref hu, .int fo, .ref hm, .int fa, .int fx, .int fy, .int fs, .int (f_X1_setFlag_fp (f_X1_setFlag_fp (f_X1_setFlag_fp fp 2 0) 128 0) 64 1), .int fc, .int fd, .int fb, .long fz]))]) [0] rfl
        have hD9 : va_D A [(h0, .inr (0, [.int fn, .ref hu, .int fo, .ref hm, .int fa, .int fx, .int fy, .int fs, .int (f_X1_testBits_fp fa fp p1), .int fc, .int fd, .int fb, .long fz]))] := by rw [e_fp]; exact hD.sub (ws' := [(h0, .inr (0, [.int fn, .ref hu, .int fo, .ref hm, .int fa, .int fx, .int fy, .int fs, .int (f_X1_setFlag_fp (f_X1_setFlag_fp (f_X1_setFlag_fp fp 2 0) 128 0) 64 1), .int fc, .int fd, .int fb, .long fz]))]) [0] (by decide) rfl
        exact W.vret hx hb hr (fun t ht hW => ⟨⟨(), rfl, trivial, by rw [ht]; exact hP9, hD9⟩, hS.F ht⟩) hS.2.2 dX1_testBits_57
    · skip
      refine lv_iconst (v := 1) hx hb dX1_testBits_31 (by decide) ?_
      refine lv_goto (tgt := 36) hx hb dX1_testBits_32 (by decide) ?_
      refine gc_v (wr := []) (w1 := [(h0, .inr (0, [.int fn, .ref hu, .int fo, .ref hm, .int fa, .int fx, .int fy, .int fs, .int (f_X1_setFlag_fp (f_X1_setFlag_fp fp 2 0) 128 1), .int fc, .int fd, .int fb, .long fz]))]) (gcV (As := [.int 128, .int 1]) (rest := []) ⟨hx, hb, hml, hown, hts⟩ (c_X1_setFlag l dC dI H.size h0 hu hm fn fo fa fx fy fs (f_X1_setFlag_fp fp 2 0) fc fd fb fz 128 1) (cwV 2 hts (gw_V gw_b gm_467 gm_469 gm_18 gm_71 gm_470) rfl rfl rfl (by decide +kernel) ⟨Nat.le_of_ble_eq_true rfl, Nat.le_of_ble_eq_true rfl⟩) hK [] rfl hP hD [0] rfl rfl rfl rfl wX0_k (fun _ _ _ => trivial) rfl rfl hl.1 rfl (lv_room (Nat.le_of_ble_eq_true rfl)) dX1_testBits_36 ⟨Nat.le_of_ble_eq_true rfl, Nat.le_of_ble_eq_true rfl⟩) hP hD hS hA [0] [] rfl rfl rfl (by decide) (fun H locs hP hD hS => ?_)
      have hP : va_P (dC, dI) vwCl [(h0, .inr (0, [.int fn, .ref hu, .int fo, .ref hm, .int fa, .int fx, .int fy, .int fs, .int (f_X1_setFlag_fp (f_X1_setFlag_fp fp 2 0) 128 1), .int fc, .int fd, .int fb, .long fz]))] H := hP
      have hD : va_D A [(h0, .inr (0, [.int fn, .ref hu, .int fo, .ref hm, .int fa, .int fx, .int fy, .int fs, .int (f_X1_setFlag_fp (f_X1_setFlag_fp fp 2 0) 128 1), .int fc, .int fd, .int fb, .long fz]))] := hD
      refine lv_aload_n hx hb dX1_testBits_39 rfl (lv_at hl 0 rfl) ?_
      refine lv_bipush (v := 64) hx hb dX1_testBits_40 (by decide) ?_
      refine lv_iload_n hx hb dX1_testBits_42 rfl (lv_at hl 1 rfl) ?_
      refine lv_bipush (v := 64) hx hb dX1_testBits_43 (by decide) ?_
      refine lv_iand hx hb dX1_testBits_45 ?_
      refine lv_if_eq (tgt := 53) hx hb dX1_testBits_46 (by decide) (fun c_4 => ?_) (fun c_4 => ?_)
      · skip
        refine lv_iconst (v := 0) hx hb dX1_testBits_53 (by decide) ?_
        refine gc_v (wr := []) (w1 := [(h0, .inr (0, [.int fn, .ref hu, .int fo, .ref hm, .int fa, .int fx, .int fy, .int fs, .int (f_X1_setFlag_fp (f_X1_setFlag_fp (f_X1_setFlag_fp fp 2 0) 128 1) 64 0), .int fc, .int fd, .int fb, .long fz]))]) (gcV (As := [.int 64, .int 0]) (rest := []) ⟨hx, hb, hml, hown, hts⟩ (c_X1_setFlag l dC dI H.size h0 hu hm fn fo fa fx fy fs (f_X1_setFlag_fp (f_X1_setFlag_fp fp 2 0) 128 1) fc fd fb fz 64 0) (cwV 2 hts (gw_V gw_b gm_467 gm_469 gm_18 gm_71 gm_470) rfl rfl rfl (by decide +kernel) ⟨Nat.le_of_ble_eq_true rfl, Nat.le_of_ble_eq_true rfl⟩) hK [] rfl hP hD [0] rfl rfl rfl rfl wX0_k (fun _ _ _ => trivial) rfl rfl hl.1 rfl (lv_room (Nat.le_of_ble_eq_true rfl)) dX1_testBits_54 ⟨Nat.le_of_ble_eq_true rfl, Nat.le_of_ble_eq_true rfl⟩) hP hD hS hA [0] [] rfl rfl rfl (by decide) (fun H locs hP hD hS => ?_)
        have hP : va_P (dC, dI) vwCl [(h0, .inr (0, [.int fn, .ref hu, .int fo, .ref hm, .int fa, .int fx, .int fy, .int fs, .int (f_X1_setFlag_fp (f_X1_setFlag_fp (f_X1_setFlag_fp fp 2 0) 128 1) 64 0), .int fc, .int fd, .int fb, .long fz]))] H := hP
        have hD : va_D A [(h0, .inr (0, [.int fn, .ref hu, .int fo, .ref hm, .int fa, .int fx, .int fy, .int fs, .int (f_X1_setFlag_fp (f_X1_setFlag_fp (f_X1_setFlag_fp fp 2 0) 128 1) 64 0), .int fc, .int fd, .int fb, .long fz]))] := hD
        have e_fp : (f_X1_testBits_fp fa fp p1) = (f_X1_setFlag_fp (f_X1_setFlag_fp (f_X1_setFlag_fp fp 2 0) 128 1) 64 0) := (((if_neg c_1)).trans (if_neg c_2)).trans (if_pos c_4)
        have hP9 : va_P (dC, dI) vwCl [(h0, .inr (0, [.int fn, .ref hu, .int fo, .ref hm, .int fa, .int fx, .int fy, .int fs, .int (f_X1_testBits_fp fa fp p1), .int fc, .int fd, .int fb, .long fz]))] H := by rw [e_fp]; exact hP.sub (ws' := [(h0, .inr (0, [.int fn, .ref hu, .int fo, .ref hm, .int fa, .int fx, .int fy, .int fs, .int (f_X1_setFlag_fp (f_X1_setFlag_fp (f_X1_setFlag_fp fp 2 0) 128 1) 64 0), .int fc, .int fd, .int fb, .long fz]))]) [0] rfl
        have hD9 : va_D A [(h0, .inr (0, [.int fn, .ref hu, .int fo, .ref hm, .int fa, .int fx, .int fy, .int fs, .int (f_X1_testBits_fp fa fp p1), .int fc, .int fd, .int fb, .long fz]))] := by rw [e_fp]; exact hD.sub (ws' := [(h0, .inr (0, [.int fn, .ref hu, .int fo, .ref hm, .int fa, .int fx, .int fy, .int fs, .int (f_X1_setFlag_fp (f_X1_setFlag_fp (f_X1_setFlag_fp fp 2 0) 128 1) 64 0), .int fc, .int fd, .int fb, .long fz]))]) [0] (by decide) rfl
        exact W.vret hx hb hr (fun t ht hW => ⟨⟨(), rfl, trivial, by rw [ht]; exact hP9, hD9⟩, hS.F ht⟩) hS.2.2 dX1_testBits_57
      · skip
        refine lv_iconst (v := 1) hx hb dX1_testBits_49 (by decide) ?_
        refine lv_goto (tgt := 54) hx hb dX1_testBits_50 (by decide) ?_
        refine gc_v (wr := []) (w1 := [(h0, .inr (0, [.int fn, .ref hu, .int fo, .ref hm, .int fa, .int fx, .int fy, .int fs, .int (f_X1_setFlag_fp (f_X1_setFlag_fp (f_X1_setFlag_fp fp 2 0) 128 1) 64 1), .int fc, .int fd, .int fb, .long fz]))]) (gcV (As := [.int 64, .int 1]) (rest := []) ⟨hx, hb, hml, hown, hts⟩ (c_X1_setFlag l dC dI H.size h0 hu hm fn fo fa fx fy fs (f_X1_setFlag_fp (f_X1_setFlag_fp fp 2 0) 128 1) fc fd fb fz 64 1) (cwV 2 hts (gw_V gw_b gm_467 gm_469 gm_18 gm_71 gm_470) rfl rfl rfl (by decide +kernel) ⟨Nat.le_of_ble_eq_true rfl, Nat.le_of_ble_eq_true rfl⟩) hK [] rfl hP hD [0] rfl rfl rfl rfl wX0_k (fun _ _ _ => trivial) rfl rfl hl.1 rfl (lv_room (Nat.le_of_ble_eq_true rfl)) dX1_testBits_54 ⟨Nat.le_of_ble_eq_true rfl, Nat.le_of_ble_eq_true rfl⟩) hP hD hS hA [0] [] rfl rfl rfl (by decide) (fun H locs hP hD hS => ?_)
        have hP : va_P (dC, dI) vwCl [(h0, .inr (0, [.int fn, .ref hu, .int fo, .ref hm, .int fa, .int fx, .int fy, .int fs, .int (f_X1_setFlag_fp (f_X1_setFlag_fp (f_X1_setFlag_fp fp 2 0) 128 1) 64 1), .int fc, .int fd, .int fb, .long fz]))] H := hP
        have hD : va_D A [(h0, .inr (0, [.int fn, .ref hu, .int fo, .ref hm, .int fa, .int fx, .int fy, .int fs, .int (f_X1_setFlag_fp (f_X1_setFlag_fp (f_X1_setFlag_fp fp 2 0) 128 1) 64 1), .int fc, .int fd, .int fb, .long fz]))] := hD
        have e_fp : (f_X1_testBits_fp fa fp p1) = (f_X1_setFlag_fp (f_X1_setFlag_fp (f_X1_setFlag_fp fp 2 0) 128 1) 64 1) := (((if_neg c_1)).trans (if_neg c_2)).trans (if_neg c_4)
        have hP9 : va_P (dC, dI) vwCl [(h0, .inr (0, [.int fn, .ref hu, .int fo, .ref hm, .int fa, .int fx, .int fy, .int fs, .int (f_X1_testBits_fp fa fp p1), .int fc, .int fd, .int fb, .long fz]))] H := by rw [e_fp]; exact hP.sub (ws' := [(h0, .inr (0, [.int fn, .ref hu, .int fo, .ref hm, .int fa, .int fx, .int fy, .int fs, .int (f_X1_setFlag_fp (f_X1_setFlag_fp (f_X1_setFlag_fp fp 2 0) 128 1) 64 1), .int fc, .int fd, .int fb, .long fz]))]) [0] rfl
        have hD9 : va_D A [(h0, .inr (0, [.int fn, .ref hu, .int fo, .ref hm, .int fa, .int fx, .int fy, .int fs, .int (f_X1_testBits_fp fa fp p1), .int fc, .int fd, .int fb, .long fz]))] := by rw [e_fp]; exact hD.sub (ws' := [(h0, .inr (0, [.int fn, .ref hu, .int fo, .ref hm, .int fa, .int fx, .int fy, .int fs, .int (f_X1_setFlag_fp (f_X1_setFlag_fp (f_X1_setFlag_fp fp 2 0) 128 1) 64 1), .int fc, .int fd, .int fb, .long fz]))]) [0] (by decide) rfl
        exact W.vret hx hb hr (fun t ht hW => ⟨⟨(), rfl, trivial, by rw [ht]; exact hP9, hD9⟩, hS.F ht⟩) hS.2.2 dX1_testBits_57
  · skip
    refine lv_iconst (v := 1) hx hb dX1_testBits_11 (by decide) ?_
    refine lv_goto (tgt := 16) hx hb dX1_testBits_12 (by decide) ?_
    refine gc_v (wr := []) (w1 := [(h0, .inr (0, [.int fn, .ref hu, .int fo, .ref hm, .int fa, .int fx, .int fy, .int fs, .int (f_X1_setFlag_fp fp 2 1), .int fc, .int fd, .int fb, .long fz]))]) (gcV (As := [.int 2, .int 1]) (rest := []) ⟨hx, hb, hml, hown, hts⟩ (c_X1_setFlag l dC dI s.heap.size h0 hu hm fn fo fa fx fy fs fp fc fd fb fz 2 1) (cwV 2 hts (gw_V gw_b gm_467 gm_469 gm_18 gm_71 gm_470) rfl rfl rfl (by decide +kernel) ⟨Nat.le_of_ble_eq_true rfl, Nat.le_of_ble_eq_true rfl⟩) hK [] rfl hP hD [0] rfl rfl rfl rfl wX0_k (fun _ _ _ => trivial) rfl rfl hl.1 rfl (lv_room (Nat.le_of_ble_eq_true rfl)) dX1_testBits_16 ⟨Nat.le_of_ble_eq_true rfl, Nat.le_of_ble_eq_true rfl⟩) hP hD hS hA [0] [] rfl rfl rfl (by decide) (fun H locs hP hD hS => ?_)
    have hP : va_P (dC, dI) vwCl [(h0, .inr (0, [.int fn, .ref hu, .int fo, .ref hm, .int fa, .int fx, .int fy, .int fs, .int (f_X1_setFlag_fp fp 2 1), .int fc, .int fd, .int fb, .long fz]))] H := hP
    have hD : va_D A [(h0, .inr (0, [.int fn, .ref hu, .int fo, .ref hm, .int fa, .int fx, .int fy, .int fs, .int (f_X1_setFlag_fp fp 2 1), .int fc, .int fd, .int fb, .long fz]))] := hD
    refine lv_aload_n hx hb dX1_testBits_19 rfl (lv_at hl 0 rfl) ?_
    refine lv_sipush (v := 128) hx hb dX1_testBits_20 (by decide) ?_
    refine lv_iload_n hx hb dX1_testBits_23 rfl (lv_at hl 1 rfl) ?_
    refine lv_sipush (v := 128) hx hb dX1_testBits_24 (by decide) ?_
    refine lv_iand hx hb dX1_testBits_27 ?_
    refine lv_if_eq (tgt := 35) hx hb dX1_testBits_28 (by decide) (fun c_5 => ?_) (fun c_5 => ?_)
    · skip
      refine lv_iconst (v := 0) hx hb dX1_testBits_35 (by decide) ?_
      refine gc_v (wr := []) (w1 := [(h0, .inr (0, [.int fn, .ref hu, .int fo, .ref hm, .int fa, .int fx, .int fy, .int fs, .int (f_X1_setFlag_fp (f_X1_setFlag_fp fp 2 1) 128 0), .int fc, .int fd, .int fb, .long fz]))]) (gcV (As := [.int 128, .int 0]) (rest := []) ⟨hx, hb, hml, hown, hts⟩ (c_X1_setFlag l dC dI H.size h0 hu hm fn fo fa fx fy fs (f_X1_setFlag_fp fp 2 1) fc fd fb fz 128 0) (cwV 2 hts (gw_V gw_b gm_467 gm_469 gm_18 gm_71 gm_470) rfl rfl rfl (by decide +kernel) ⟨Nat.le_of_ble_eq_true rfl, Nat.le_of_ble_eq_true rfl⟩) hK [] rfl hP hD [0] rfl rfl rfl rfl wX0_k (fun _ _ _ => trivial) rfl rfl hl.1 rfl (lv_room (Nat.le_of_ble_eq_true rfl)) dX1_testBits_36 ⟨Nat.le_of_ble_eq_true rfl, Nat.le_of_ble_eq_true rfl⟩) hP hD hS hA [0] [] rfl rfl rfl (by decide) (fun H locs hP hD hS => ?_)
      have hP : va_P (dC, dI) vwCl [(h0, .inr (0, [.int fn, .ref hu, .int fo, .ref hm, .int fa, .int fx, .int fy, .int fs, .int (f_X1_setFlag_fp (f_X1_setFlag_fp fp 2 1) 128 0), .int fc, .int fd, .int fb, .long fz]))] H := hP
      have hD : va_D A [(h0, .inr (0, [.int fn, .ref hu, .int fo, .ref hm, .int fa, .int fx, .int fy, .int fs, .int (f_X1_setFlag_fp (f_X1_setFlag_fp fp 2 1) 128 0), .int fc, .int fd, .int fb, .long fz]))] := hD
      refine lv_aload_n hx hb dX1_testBits_39 rfl (lv_at hl 0 rfl) ?_
      refine lv_bipush (v := 64) hx hb dX1_testBits_40 (by decide) ?_
      refine lv_iload_n hx hb dX1_testBits_42 rfl (lv_at hl 1 rfl) ?_
      refine lv_bipush (v := 64) hx hb dX1_testBits_43 (by decide) ?_
      refine lv_iand hx hb dX1_testBits_45 ?_
      refine lv_if_eq (tgt := 53) hx hb dX1_testBits_46 (by decide) (fun c_6 => ?_) (fun c_6 => ?_)
      · skip
        refine lv_iconst (v := 0) hx hb dX1_testBits_53 (by decide) ?_
        refine gc_v (wr := []) (w1 := [(h0, .inr (0, [.int fn, .ref hu, .int fo, .ref hm, .int fa, .int fx, .int fy, .int fs, .int (f_X1_setFlag_fp (f_X1_setFlag_fp (f_X1_setFlag_fp fp 2 1) 128 0) 64 0), .int fc, .int fd, .int fb, .long fz]))]) (gcV (As := [.int 64, .int 0]) (rest := []) ⟨hx, hb, hml, hown, hts⟩ (c_X1_setFlag l dC dI H.size h0 hu hm fn fo fa fx fy fs (f_X1_setFlag_fp (f_X1_setFlag_fp fp 2 1) 128 0) fc fd fb fz 64 0) (cwV 2 hts (gw_V gw_b gm_467 gm_469 gm_18 gm_71 gm_470) rfl rfl rfl (by decide +kernel) ⟨Nat.le_of_ble_eq_true rfl, Nat.le_of_ble_eq_true rfl⟩) hK [] rfl hP hD [0] rfl rfl rfl rfl wX0_k (fun _ _ _ => trivial) rfl rfl hl.1 rfl (lv_room (Nat.le_of_ble_eq_true rfl)) dX1_testBits_54 ⟨Nat.le_of_ble_eq_true rfl, Nat.le_of_ble_eq_true rfl⟩) hP hD hS hA [0] [] rfl rfl rfl (by decide) (fun H locs hP hD hS => ?_)
        have hP : va_P (dC, dI) vwCl [(h0, .inr (0, [.int fn, .ref hu, .int fo, .ref hm, .int fa, .int fx, .int fy, .int fs, .int (f_X1_setFlag_fp (f_X1_setFlag_fp (f_X1_setFlag_fp fp 2 1) 128 0) 64 0), .int fc, .int fd, .int fb, .long fz]))] H := hP
        have hD : va_D A [(h0, .inr (0, [.int fn, .ref hu, .int fo, .ref hm, .int fa, .int fx, .int fy, .int fs, .int (f_X1_setFlag_fp (f_X1_setFlag_fp (f_X1_setFlag_fp fp 2 1) 128 0) 64 0), .int fc, .int fd, .int fb, .long fz]))] := hD
        have e_fp : (f_X1_testBits_fp fa fp p1) = (f_X1_setFlag_fp (f_X1_setFlag_fp (f_X1_setFlag_fp fp 2 1) 128 0) 64 0) := (((if_pos c_1)).trans (if_pos c_5)).trans (if_pos c_6)
        have hP9 : va_P (dC, dI) vwCl [(h0, .inr (0, [.int fn, .ref hu, .int fo, .ref hm, .int fa, .int fx, .int fy, .int fs, .int (f_X1_testBits_fp fa fp p1), .int fc, .int fd, .int fb, .long fz]))] H := by rw [e_fp]; exact hP.sub (ws' := [(h0, .inr (0, [.int fn, .ref hu, .int fo, .ref hm, .int fa, .int fx, .int fy, .int fs, .int (f_X1_setFlag_fp (f_X1_setFlag_fp (f_X1_setFlag_fp fp 2 1) 128 0) 64 0), .int fc, .int fd, .int fb, .long fz]))]) [0] rfl
        have hD9 : va_D A [(h0, .inr (0, [.int fn, .ref hu, .int fo, .ref hm, .int fa, .int fx, .int fy, .int fs, .int (f_X1_testBits_fp fa fp p1), .int fc, .int fd, .int fb, .long fz]))] := by rw [e_fp]; exact hD.sub (ws' := [(h0, .inr (0, [.int fn, .ref hu, .int fo, .ref hm, .int fa, .int fx, .int fy, .int fs, .int (f_X1_setFlag_fp (f_X1_setFlag_fp (f_X1_setFlag_fp fp 2 1) 128 0) 64 0), .int fc, .int fd, .int fb, .long fz]))]) [0] (by decide) rfl
        exact W.vret hx hb hr (fun t ht hW => ⟨⟨(), rfl, trivial, by rw [ht]; exact hP9, hD9⟩, hS.F ht⟩) hS.2.2 dX1_testBits_57
      · skip
        refine lv_iconst (v := 1) hx hb dX1_testBits_49 (by decide) ?_
        refine lv_goto (tgt := 54) hx hb dX1_testBits_50 (by decide) ?_
        refine gc_v (wr := []) (w1 := [(h0, .inr (0, [.int fn, .ref hu, .int fo, .ref hm, .int fa, .int fx, .int fy, .int fs, .int (f_X1_setFlag_fp (f_X1_setFlag_fp (f_X1_setFlag_fp fp 2 1) 128 0) 64 1), .int fc, .int fd, .int fb, .long fz]))]) (gcV (As := [.int 64, .int 1]) (rest := []) ⟨hx, hb, hml, hown, hts⟩ (c_X1_setFlag l dC dI H.size h0 hu hm fn fo fa fx fy fs (f_X1_setFlag_fp (f_X1_setFlag_fp fp 2 1) 128 0) fc fd fb fz 64 1) (cwV 2 hts (gw_V gw_b gm_467 gm_469 gm_18 gm_71 gm_470) rfl rfl rfl (by decide +kernel) ⟨Nat.le_of_ble_eq_true rfl, Nat.le_of_ble_eq_true rfl⟩) hK [] rfl hP hD [0] rfl rfl rfl rfl wX0_k (fun _ _ _ => trivial) rfl rfl hl.1 rfl (lv_room (Nat.le_of_ble_eq_true rfl)) dX1_testBits_54 ⟨Nat.le_of_ble_eq_true rfl, Nat.le_of_ble_eq_true rfl⟩) hP hD hS hA [0] [] rfl rfl rfl (by decide) (fun H locs hP hD hS => ?_)
        have hP : va_P (dC, dI) vwCl [(h0, .inr (0, [.int fn, .ref hu, .int fo, .ref hm, .int fa, .int fx, .int fy, .int fs, .int (f_X1_setFlag_fp (f_X1_setFlag_fp (f_X1_setFlag_fp fp 2 1) 128 0) 64 1), .int fc, .int fd, .int fb, .long fz]))] H := hP
        have hD : va_D A [(h0, .inr (0, [.int fn, .ref hu, .int fo, .ref hm, .int fa, .int fx, .int fy, .int fs, .int (f_X1_setFlag_fp (f_X1_setFlag_fp (f_X1_setFlag_fp fp 2 1) 128 0) 64 1), .int fc, .int fd, .int fb, .long fz]))] := hD
        have e_fp : (f_X1_testBits_fp fa fp p1) = (f_X1_setFlag_fp (f_X1_setFlag_fp (f_X1_setFlag_fp fp 2 1) 128 0) 64 1) := (((if_pos c_1)).trans (if_pos c_5)).trans (if_neg c_6)
        have hP9 : va_P (dC, dI) vwCl [(h0, .inr (0, [.int fn, .ref hu, .int fo, .ref hm, .int fa, .int fx, .int fy, .int fs, .int (f_X1_testBits_fp fa fp p1), .int fc, .int fd, .int fb, .long fz]))] H := by rw [e_fp]; exact hP.sub (ws' := [(h0, .inr (0, [.int fn, .ref hu, .int fo, .ref hm, .int fa, .int fx, .int fy, .int fs, .int (f_X1_setFlag_fp (f_X1_setFlag_fp (f_X1_setFlag_fp fp 2 1) 128 0) 64 1), .int fc, .int fd, .int fb, .long fz]))]) [0] rfl
        have hD9 : va_D A [(h0, .inr (0, [.int fn, .ref hu, .int fo, .ref hm, .int fa, .int fx, .int fy, .int fs, .int (f_X1_testBits_fp fa fp p1), .int fc, .int fd, .int fb, .long fz]))] := by rw [e_fp]; exact hD.sub (ws' := [(h0, .inr (0, [.int fn, .ref hu, .int fo, .ref hm, .int fa, .int fx, .int fy, .int fs, .int (f_X1_setFlag_fp (f_X1_setFlag_fp (f_X1_setFlag_fp fp 2 1) 128 0) 64 1), .int fc, .int fd, .int fb, .long fz]))]) [0] (by decide) rfl
        exact W.vret hx hb hr (fun t ht hW => ⟨⟨(), rfl, trivial, by rw [ht]; exact hP9, hD9⟩, hS.F ht⟩) hS.2.2 dX1_testBits_57
    · skip
      refine lv_iconst (v := 1) hx hb dX1_testBits_31 (by decide) ?_
      refine lv_goto (tgt := 36) hx hb dX1_testBits_32 (by decide) ?_
      refine gc_v (wr := []) (w1 := [(h0, .inr (0, [.int fn, .ref hu, .int fo, .ref hm, .int fa, .int fx, .int fy, .int fs, .int (f_X1_setFlag_fp (f_X1_setFlag_fp fp 2 1) 128 1), .int fc, .int fd, .int fb, .long fz]))]) (gcV (As := [.int 128, .int 1]) (rest := []) ⟨hx, hb, hml, hown, hts⟩ (c_X1_setFlag l dC dI H.size h0 hu hm fn fo fa fx fy fs (f_X1_setFlag_fp fp 2 1) fc fd fb fz 128 1) (cwV 2 hts (gw_V gw_b gm_467 gm_469 gm_18 gm_71 gm_470) rfl rfl rfl (by decide +kernel) ⟨Nat.le_of_ble_eq_true rfl, Nat.le_of_ble_eq_true rfl⟩) hK [] rfl hP hD [0] rfl rfl rfl rfl wX0_k (fun _ _ _ => trivial) rfl rfl hl.1 rfl (lv_room (Nat.le_of_ble_eq_true rfl)) dX1_testBits_36 ⟨Nat.le_of_ble_eq_true rfl, Nat.le_of_ble_eq_true rfl⟩) hP hD hS hA [0] [] rfl rfl rfl (by decide) (fun H locs hP hD hS => ?_)
      have hP : va_P (dC, dI) vwCl [(h0, .inr (0, [.int fn, .ref hu, .int fo, .ref hm, .int fa, .int fx, .int fy, .int fs, .int (f_X1_setFlag_fp (f_X1_setFlag_fp fp 2 1) 128 1), .int fc, .int fd, .int fb, .long fz]))] H := hP
      have hD : va_D A [(h0, .inr (0, [.int fn, .ref hu, .int fo, .ref hm, .int fa, .int fx, .int fy, .int fs, .int (f_X1_setFlag_fp (f_X1_setFlag_fp fp 2 1) 128 1), .int fc, .int fd, .int fb, .long fz]))] := hD
      refine lv_aload_n hx hb dX1_testBits_39 rfl (lv_at hl 0 rfl) ?_
      refine lv_bipush (v := 64) hx hb dX1_testBits_40 (by decide) ?_
      refine lv_iload_n hx hb dX1_testBits_42 rfl (lv_at hl 1 rfl) ?_
      refine lv_bipush (v := 64) hx hb dX1_testBits_43 (by decide) ?_
      refine lv_iand hx hb dX1_testBits_45 ?_
      refine lv_if_eq (tgt := 53) hx hb dX1_testBits_46 (by decide) (fun c_7 => ?_) (fun c_7 => ?_)
      · skip
        refine lv_iconst (v := 0) hx hb dX1_testBits_53 (by decide) ?_
        refine gc_v (wr := []) (w1 := [(h0, .inr (0, [.int fn, .ref hu, .int fo, .ref hm, .int fa, .int fx, .int fy, .int fs, .int (f_X1_setFlag_fp (f_X1_setFlag_fp (f_X1_setFlag_fp fp 2 1) 128 1) 64 0), .int fc, .int fd, .int fb, .long fz]))]) (gcV (As := [.int 64, .int 0]) (rest := []) ⟨hx, hb, hml, hown, hts⟩ (c_X1_setFlag l dC dI H.size h0 hu hm fn fo fa fx fy fs (f_X1_setFlag_fp (f_X1_setFlag_fp fp 2 1) 128 1) fc fd fb fz 64 0) (cwV 2 hts (gw_V gw_b gm_467 gm_469 gm_18 gm_71 gm_470) rfl rfl rfl (by decide +kernel) ⟨Nat.le_of_ble_eq_true rfl, Nat.le_of_ble_eq_true rfl⟩) hK [] rfl hP hD [0] rfl rfl rfl rfl wX0_k (fun _ _ _ => trivial) rfl rfl hl.1 rfl (lv_room (Nat.le_of_ble_eq_true rfl)) dX1_testBits_54 ⟨Nat.le_of_ble_eq_true rfl, Nat.le_of_ble_eq_true rfl⟩) hP hD hS hA [0] [] rfl rfl rfl (by decide) (fun H locs hP hD hS => ?_)
        have hP : va_P (dC, dI) vwCl [(h0, .inr (0, [.int fn, .ref hu, .int fo, .ref hm, .int fa, .int fx, .int fy, .int fs, .int (f_X1_setFlag_fp (f_X1_setFlag_fp (f_X1_setFlag_fp fp 2 1) 128 1) 64 0), .int fc, .int fd, .int fb, .long fz]))] H := hP
        have hD : va_D A [(h0, .inr (0, [.int fn, .ref hu, .int fo, .ref hm, .int fa, .int fx, .int fy, .int fs, .int (f_X1_setFlag_fp (f_X1_setFlag_fp (f_X1_setFlag_fp fp 2 1) 128 1) 64 0), .int fc, .int fd, .int fb, .long fz]))] := hD
        have e_fp : (f_X1_testBits_fp fa fp p1) = (f_X1_setFlag_fp (f_X1_setFlag_fp (f_X1_setFlag_fp fp 2 1) 128 1) 64 0) := (((if_pos c_1)).trans (if_neg c_5)).trans (if_pos c_7)
        have hP9 : va_P (dC, dI) vwCl [(h0, .inr (0, [.int fn, .ref hu, .int fo, .ref hm, .int fa, .int fx, .int fy, .int fs, .int (f_X1_testBits_fp fa fp p1), .int fc, .int fd, .int fb, .long fz]))] H := by rw [e_fp]; exact hP.sub (ws' := [(h0, .inr (0, [.int fn, .ref hu, .int fo, .ref hm, .int fa, .int fx, .int fy, .int fs, .int (f_X1_setFlag_fp (f_X1_setFlag_fp (f_X1_setFlag_fp fp 2 1) 128 1) 64 0), .int fc, .int fd, .int fb, .long fz]))]) [0] rfl
        have hD9 : va_D A [(h0, .inr (0, [.int fn, .ref hu, .int fo, .ref hm, .int fa, .int fx, .int fy, .int fs, .int (f_X1_testBits_fp fa fp p1), .int fc, .int fd, .int fb, .long fz]))] := by rw [e_fp]; exact hD.sub (ws' := [(h0, .inr (0, [.int fn, .ref hu, .int fo, .ref hm, .int fa, .int fx, .int fy, .int fs, .int (f_X1_setFlag_fp (f_X1_setFlag_fp (f_X1_setFlag_fp fp 2 1) 128 1) 64 0), .int fc, .int fd, .int fb, .long fz]))]) [0] (by decide) rfl
        exact W.vret hx hb hr (fun t ht hW => ⟨⟨(), rfl, trivial, by rw [ht]; exact hP9, hD9⟩, hS.F ht⟩) hS.2.2 dX1_testBits_57
      · skip
        refine lv_iconst (v := 1) hx hb dX1_testBits_49 (by decide) ?_
        refine lv_goto (tgt := 54) hx hb dX1_testBits_50 (by decide) ?_
        refine gc_v (wr := []) (w1 := [(h0, .inr (0, [.int fn, .ref hu, .int fo, .ref hm, .int fa, .int fx, .int fy, .int fs, .int (f_X1_setFlag_fp (f_X1_setFlag_fp (f_X1_setFlag_fp fp 2 1) 128 1) 64 1), .int fc, .int fd, .int fb, .long fz]))]) (gcV (As := [.int 64, .int 1]) (rest := []) ⟨hx, hb, hml, hown, hts⟩ (c_X1_setFlag l dC dI H.size h0 hu hm fn fo fa fx fy fs (f_X1_setFlag_fp (f_X1_setFlag_fp fp 2 1) 128 1) fc fd fb fz 64 1) (cwV 2 hts (gw_V gw_b gm_467 gm_469 gm_18 gm_71 gm_470) rfl rfl rfl (by decide +kernel) ⟨Nat.le_of_ble_eq_true rfl, Nat.le_of_ble_eq_true rfl⟩) hK [] rfl hP hD [0] rfl rfl rfl rfl wX0_k (fun _ _ _ => trivial) rfl rfl hl.1 rfl (lv_room (Nat.le_of_ble_eq_true rfl)) dX1_testBits_54 ⟨Nat.le_of_ble_eq_true rfl, Nat.le_of_ble_eq_true rfl⟩) hP hD hS hA [0] [] rfl rfl rfl (by decide) (fun H locs hP hD hS => ?_)
        have hP : va_P (dC, dI) vwCl [(h0, .inr (0, [.int fn, .ref hu, .int fo, .ref hm, .int fa, .int fx, .int fy, .int fs, .int (f_X1_setFlag_fp (f_X1_setFlag_fp (f_X1_setFlag_fp fp 2 1) 128 1) 64 1), .int fc, .int fd, .int fb, .long fz]))] H := hP
        have hD : va_D A [(h0, .inr (0, [.int fn, .ref hu, .int fo, .ref hm, .int fa, .int fx, .int fy, .int fs, .int (f_X1_setFlag_fp (f_X1_setFlag_fp (f_X1_setFlag_fp fp 2 1) 128 1) 64 1), .int fc, .int fd, .int fb, .long fz]))] := hD
        have e_fp : (f_X1_testBits_fp fa fp p1) = (f_X1_setFlag_fp (f_X1_setFlag_fp (f_X1_setFlag_fp fp 2 1) 128 1) 64 1) := (((if_pos c_1)).trans (if_neg c_5)).trans (if_neg c_7)
        have hP9 : va_P (dC, dI) vwCl [(h0, .inr (0, [.int fn, .ref hu, .int fo, .ref hm, .int fa, .int fx, .int fy, .int fs, .int (f_X1_testBits_fp fa fp p1), .int fc, .int fd, .int fb, .long fz]))] H := by rw [e_fp]; exact hP.sub (ws' := [(h0, .inr (0, [.int fn, .ref hu, .int fo, .ref hm, .int fa, .int fx, .int fy, .int fs, .int (f_X1_setFlag_fp (f_X1_setFlag_fp (f_X1_setFlag_fp fp 2 1) 128 1) 64 1), .int fc, .int fd, .int fb, .long fz]))]) [0] rfl
        have hD9 : va_D A [(h0, .inr (0, [.int fn, .ref hu, .int fo, .ref hm, .int fa, .int fx, .int fy, .int fs, .int (f_X1_testBits_fp fa fp p1), .int fc, .int fd, .int fb, .long fz]))] := by rw [e_fp]; exact hD.sub (ws' := [(h0, .inr (0, [.int fn, .ref hu, .int fo, .ref hm, .int fa, .int fx, .int fy, .int fs, .int (f_X1_setFlag_fp (f_X1_setFlag_fp (f_X1_setFlag_fp fp 2 1) 128 1) 64 1), .int fc, .int fd, .int fb, .long fz]))]) [0] (by decide) rfl
        exact W.vret hx hb hr (fun t ht hW => ⟨⟨(), rfl, trivial, by rw [ht]; exact hP9, hD9⟩, hS.F ht⟩) hS.2.2 dX1_testBits_57

def f_X1_compare_fp (fp : Int32) (p1 : Int32) (p2 : Int32) : Int32 := (if p1 < p2 then (f_X1_shown_fp (f_X1_setFlag_fp fp 1 0) ((p1 - p2) &&& 255)) else (f_X1_shown_fp (f_X1_setFlag_fp fp 1 1) ((p1 - p2) &&& 255)))
set_option maxHeartbeats 4000000 in
set_option maxRecDepth 100000 in
/-- X1_compare -/
theorem c_X1_compare (l : Launch) (dC : Nat → ClassId) (dI : Nat → Nat → Nat) (sz : Nat) (h0 : Nat) (hu : Nat) (hm : Nat) (fn : Int32) (fo : Int32) (fa : Int32) (fx : Int32) (fy : Int32) (fs : Int32) (fp : Int32) (fc : Int32) (fd : Int32) (fb : Int32) (fz : Int64) (p1 : Int32) (p2 : Int32)  : Met l yX1_compare (Cond.code yX1_compare cX1_compare 3 none :: gw) { frames := 1, cells := 0, slots := 0, locals := 22 } (va_Pc [.ref h0, .int p1, .int p2] (wPre (dC, dI) [] [(h0, .inr (0, [.int fn, .ref hu, .int fo, .ref hm, .int fa, .int fx, .int fy, .int fs, .int fp, .int fc, .int fd, .int fb, .long fz]))] sz wX0)) (va_Qv (fun _ : Unit => True) (fun _ t => wPost (dC, dI) (va_A [(h0, .inr (0, [.int fn, .ref hu, .int fo, .ref hm, .int fa, .int fx, .int fy, .int fs, .int fp, .int fc, .int fd, .int fb, .long fz]))] sz) [(h0, .inr (0, [.int fn, .ref hu, .int fo, .ref hm, .int fa, .int fx, .int fy, .int fs, .int (f_X1_compare_fp fp p1 p2), .int fc, .int fd, .int fb, .long fz]))] t) (va_A [(h0, .inr (0, [.int fn, .ref hu, .int fo, .ref hm, .int fa, .int fx, .int fy, .int fs, .int fp, .int fc, .int fd, .int fb, .long fz]))] sz)) 0 0 (va_A [(h0, .inr (0, [.int fn, .ref hu, .int fo, .ref hm, .int fa, .int fx, .int fy, .int fs, .int fp, .int fc, .int fd, .int fb, .long fz]))] sz) := by
  refine Met.ofW (cc := cX1_compare) (maxL := 3) (ret := none) (by decide) rfl ?_
  intro p e s m args below meth c s₁ B hml hv
  obtain ⟨rfl, hsz, hP, hK, hD0, hXX⟩ := hv
  have hx := B.exec
  have hb := B.bytes
  have hr := B.returns
  have hts := atoms_spec (ws := (Cond.code yX1_compare cX1_compare 3 none :: gw)) B.pre
  have hown : s.vm.findClass RX1 = some m.cls := findClass_of_methodNamed B.named
  have hlocks := B.notSynchronized
  subst hsz
  have hD := hD0.self (sz := s.heap.size)
  generalize hAe : va_A [(h0, .inr (0, [.int fn, .ref hu, .int fo, .ref hm, .int fa, .int fx, .int fy, .int fs, .int fp, .int fc, .int fd, .int fb, .long fz]))] s.heap.size = A at hD ⊢
  have hA : ∀ q : Nat, s.heap.size ≤ q → A q := fun q h => by rw [← hAe]; exact Or.inr h
  have hS : va_S A s.heap s.heap [] := va_S.rf
  have hl := lv_entry ([.ref h0, .int p1, .int p2]) (n := 3) (Nat.le_of_ble_eq_true rfl)
  rw [lg_entry_eq]
  generalize (lg_sl ([.ref h0, .int p1, .int p2]) ++ List.replicate (3 - (lg_sl ([.ref h0, .int p1, .int p2])).length) Slot.unset).toArray = ls at hl ⊢
  have hl : lv_has ls 3 [(0, .ref h0), (1, .int p1), (2, .int p2)] := hl
  refine lv_aload_n hx hb dX1_compare_0 rfl (lv_at hl 0 rfl) ?_
  refine lv_iconst (v := 1) hx hb dX1_compare_1 (by decide) ?_
  refine lv_iload_n hx hb dX1_compare_2 rfl (lv_at hl 1 rfl) ?_
  refine lv_iload_n hx hb dX1_compare_3 rfl (lv_at hl 2 rfl) ?_
  refine lv_icmp_lt (tgt := 11) hx hb dX1_compare_4 (by decide) (fun c_1 => ?_) (fun c_1 => ?_)
  · skip
    refine lv_iconst (v := 0) hx hb dX1_compare_11 (by decide) ?_
    refine gc_v (wr := []) (w1 := [(h0, .inr (0, [.int fn, .ref hu, .int fo, .ref hm, .int fa, .int fx, .int fy, .int fs, .int (f_X1_setFlag_fp fp 1 0), .int fc, .int fd, .int fb, .long fz]))]) (gcV (As := [.int 1, .int 0]) (rest := []) ⟨hx, hb, hml, hown, hts⟩ (c_X1_setFlag l dC dI s.heap.size h0 hu hm fn fo fa fx fy fs fp fc fd fb fz 1 0) (cwV 2 hts (gw_V gw_b gm_467 gm_469 gm_18 gm_71 gm_470) rfl rfl rfl (by decide +kernel) ⟨Nat.le_of_ble_eq_true rfl, Nat.le_of_ble_eq_true rfl⟩) hK [] rfl hP hD [0] rfl rfl rfl rfl wX0_k (fun _ _ _ => trivial) rfl rfl hl.1 rfl (lv_room (Nat.le_of_ble_eq_true rfl)) dX1_compare_12 ⟨Nat.le_of_ble_eq_true rfl, Nat.le_of_ble_eq_true rfl⟩) hP hD hS hA [0] [] rfl rfl rfl (by decide) (fun H locs hP hD hS => ?_)
    have hP : va_P (dC, dI) vwCl [(h0, .inr (0, [.int fn, .ref hu, .int fo, .ref hm, .int fa, .int fx, .int fy, .int fs, .int (f_X1_setFlag_fp fp 1 0), .int fc, .int fd, .int fb, .long fz]))] H := hP
    have hD : va_D A [(h0, .inr (0, [.int fn, .ref hu, .int fo, .ref hm, .int fa, .int fx, .int fy, .int fs, .int (f_X1_setFlag_fp fp 1 0), .int fc, .int fd, .int fb, .long fz]))] := hD
    refine lv_aload_n hx hb dX1_compare_15 rfl (lv_at hl 0 rfl) ?_
    refine lv_iload_n hx hb dX1_compare_16 rfl (lv_at hl 1 rfl) ?_
    refine lv_iload_n hx hb dX1_compare_17 rfl (lv_at hl 2 rfl) ?_
    refine lv_isub hx hb dX1_compare_18 ?_
    refine lv_sipush (v := 255) hx hb dX1_compare_19 (by decide) ?_
    refine lv_iand hx hb dX1_compare_22 ?_
    refine gc_i (wr := []) (w1 := [(h0, .inr (0, [.int fn, .ref hu, .int fo, .ref hm, .int fa, .int fx, .int fy, .int fs, .int (f_X1_shown_fp (f_X1_setFlag_fp fp 1 0) ((p1 - p2) &&& 255)), .int fc, .int fd, .int fb, .long fz]))]) (gcV (As := [.int ((p1 - p2) &&& 255)]) (rest := []) ⟨hx, hb, hml, hown, hts⟩ (c_X1_shown l dC dI H.size h0 hu hm fn fo fa fx fy fs (f_X1_setFlag_fp fp 1 0) fc fd fb fz ((p1 - p2) &&& 255)) (cwV 1 hts (gw_V gw_b gm_459 gm_461 gm_16 gm_71 gm_462) rfl rfl rfl (by decide +kernel) ⟨Nat.le_of_ble_eq_true rfl, Nat.le_of_ble_eq_true rfl⟩) hK [] rfl hP hD [0] rfl rfl rfl rfl wX0_k (fun _ _ _ => trivial) rfl rfl hl.1 rfl (lv_room (Nat.le_of_ble_eq_true rfl)) dX1_compare_23 ⟨Nat.le_of_ble_eq_true rfl, Nat.le_of_ble_eq_true rfl⟩) hP hD hS hA [0] [] rfl rfl rfl (by decide) (fun H locs hP hD hS => ?_)
    have hP : va_P (dC, dI) vwCl [(h0, .inr (0, [.int fn, .ref hu, .int fo, .ref hm, .int fa, .int fx, .int fy, .int fs, .int (f_X1_shown_fp (f_X1_setFlag_fp fp 1 0) ((p1 - p2) &&& 255)), .int fc, .int fd, .int fb, .long fz]))] H := hP
    have hD : va_D A [(h0, .inr (0, [.int fn, .ref hu, .int fo, .ref hm, .int fa, .int fx, .int fy, .int fs, .int (f_X1_shown_fp (f_X1_setFlag_fp fp 1 0) ((p1 - p2) &&& 255)), .int fc, .int fd, .int fb, .long fz]))] := hD
    refine lv_pop hx hb dX1_compare_26 rfl ?_
    have e_fp : (f_X1_compare_fp fp p1 p2) = (f_X1_shown_fp (f_X1_setFlag_fp fp 1 0) ((p1 - p2) &&& 255)) := (if_pos c_1)
    have hP9 : va_P (dC, dI) vwCl [(h0, .inr (0, [.int fn, .ref hu, .int fo, .ref hm, .int fa, .int fx, .int fy, .int fs, .int (f_X1_compare_fp fp p1 p2), .int fc, .int fd, .int fb, .long fz]))] H := by rw [e_fp]; exact hP.sub (ws' := [(h0, .inr (0, [.int fn, .ref hu, .int fo, .ref hm, .int fa, .int fx, .int fy, .int fs, .int (f_X1_shown_fp (f_X1_setFlag_fp fp 1 0) ((p1 - p2) &&& 255)), .int fc, .int fd, .int fb, .long fz]))]) [0] rfl
    have hD9 : va_D A [(h0, .inr (0, [.int fn, .ref hu, .int fo, .ref hm, .int fa, .int fx, .int fy, .int fs, .int (f_X1_compare_fp fp p1 p2), .int fc, .int fd, .int fb, .long fz]))] := by rw [e_fp]; exact hD.sub (ws' := [(h0, .inr (0, [.int fn, .ref hu, .int fo, .ref hm, .int fa, .int fx, .int fy, .int fs, .int (f_X1_shown_fp (f_X1_setFlag_fp fp 1 0) ((p1 - p2) &&& 255)), .int fc, .int fd, .int fb, .long fz]))]) [0] (by decide) rfl
    exact W.vret hx hb hr (fun t ht hW => ⟨⟨(), rfl, trivial, by rw [ht]; exact hP9, hD9⟩, hS.F ht⟩) hS.2.2 dX1_compare_27
  · skip
    refine lv_iconst (v := 1) hx hb dX1_compare_7 (by decide) ?_
    refine lv_goto (tgt := 12) hx hb dX1_compare_8 (by decide) ?_
    refine gc_v (wr := []) (w1 := [(h0, .inr (0, [.int fn, .ref hu, .int fo, .ref hm, .int fa, .int fx, .int fy, .int fs, .int (f_X1_setFlag_fp fp 1 1), .int fc, .int fd, .int fb, .long fz]))]) (gcV (As := [.int 1, .int 1]) (rest := []) ⟨hx, hb, hml, hown, hts⟩ (c_X1_setFlag l dC dI s.heap.size h0 hu hm fn fo fa fx fy fs fp fc fd fb fz 1 1) (cwV 2 hts (gw_V gw_b gm_467 gm_469 gm_18 gm_71 gm_470) rfl rfl rfl (by decide +kernel) ⟨Nat.le_of_ble_eq_true rfl, Nat.le_of_ble_eq_true rfl⟩) hK [] rfl hP hD [0] rfl rfl rfl rfl wX0_k (fun _ _ _ => trivial) rfl rfl hl.1 rfl (lv_room (Nat.le_of_ble_eq_true rfl)) dX1_compare_12 ⟨Nat.le_of_ble_eq_true rfl, Nat.le_of_ble_eq_true rfl⟩) hP hD hS hA [0] [] rfl rfl rfl (by decide) (fun H locs hP hD hS => ?_)
    have hP : va_P (dC, dI) vwCl [(h0, .inr (0, [.int fn, .ref hu, .int fo, .ref hm, .int fa, .int fx, .int fy, .int fs, .int (f_X1_setFlag_fp fp 1 1), .int fc, .int fd, .int fb, .long fz]))] H := hP
    have hD : va_D A [(h0, .inr (0, [.int fn, .ref hu, .int fo, .ref hm, .int fa, .int fx, .int fy, .int fs, .int (f_X1_setFlag_fp fp 1 1), .int fc, .int fd, .int fb, .long fz]))] := hD
    refine lv_aload_n hx hb dX1_compare_15 rfl (lv_at hl 0 rfl) ?_
    refine lv_iload_n hx hb dX1_compare_16 rfl (lv_at hl 1 rfl) ?_
    refine lv_iload_n hx hb dX1_compare_17 rfl (lv_at hl 2 rfl) ?_
    refine lv_isub hx hb dX1_compare_18 ?_
    refine lv_sipush (v := 255) hx hb dX1_compare_19 (by decide) ?_
    refine lv_iand hx hb dX1_compare_22 ?_
    refine gc_i (wr := []) (w1 := [(h0, .inr (0, [.int fn, .ref hu, .int fo, .ref hm, .int fa, .int fx, .int fy, .int fs, .int (f_X1_shown_fp (f_X1_setFlag_fp fp 1 1) ((p1 - p2) &&& 255)), .int fc, .int fd, .int fb, .long fz]))]) (gcV (As := [.int ((p1 - p2) &&& 255)]) (rest := []) ⟨hx, hb, hml, hown, hts⟩ (c_X1_shown l dC dI H.size h0 hu hm fn fo fa fx fy fs (f_X1_setFlag_fp fp 1 1) fc fd fb fz ((p1 - p2) &&& 255)) (cwV 1 hts (gw_V gw_b gm_459 gm_461 gm_16 gm_71 gm_462) rfl rfl rfl (by decide +kernel) ⟨Nat.le_of_ble_eq_true rfl, Nat.le_of_ble_eq_true rfl⟩) hK [] rfl hP hD [0] rfl rfl rfl rfl wX0_k (fun _ _ _ => trivial) rfl rfl hl.1 rfl (lv_room (Nat.le_of_ble_eq_true rfl)) dX1_compare_23 ⟨Nat.le_of_ble_eq_true rfl, Nat.le_of_ble_eq_true rfl⟩) hP hD hS hA [0] [] rfl rfl rfl (by decide) (fun H locs hP hD hS => ?_)
    have hP : va_P (dC, dI) vwCl [(h0, .inr (0, [.int fn, .ref hu, .int fo, .ref hm, .int fa, .int fx, .int fy, .int fs, .int (f_X1_shown_fp (f_X1_setFlag_fp fp 1 1) ((p1 - p2) &&& 255)), .int fc, .int fd, .int fb, .long fz]))] H := hP
    have hD : va_D A [(h0, .inr (0, [.int fn, .ref hu, .int fo, .ref hm, .int fa, .int fx, .int fy, .int fs, .int (f_X1_shown_fp (f_X1_setFlag_fp fp 1 1) ((p1 - p2) &&& 255)), .int fc, .int fd, .int fb, .long fz]))] := hD
    refine lv_pop hx hb dX1_compare_26 rfl ?_
    have e_fp : (f_X1_compare_fp fp p1 p2) = (f_X1_shown_fp (f_X1_setFlag_fp fp 1 1) ((p1 - p2) &&& 255)) := (if_neg c_1)
    have hP9 : va_P (dC, dI) vwCl [(h0, .inr (0, [.int fn, .ref hu, .int fo, .ref hm, .int fa, .int fx, .int fy, .int fs, .int (f_X1_compare_fp fp p1 p2), .int fc, .int fd, .int fb, .long fz]))] H := by rw [e_fp]; exact hP.sub (ws' := [(h0, .inr (0, [.int fn, .ref hu, .int fo, .ref hm, .int fa, .int fx, .int fy, .int fs, .int (f_X1_shown_fp (f_X1_setFlag_fp fp 1 1) ((p1 - p2) &&& 255)), .int fc, .int fd, .int fb, .long fz]))]) [0] rfl
    have hD9 : va_D A [(h0, .inr (0, [.int fn, .ref hu, .int fo, .ref hm, .int fa, .int fx, .int fy, .int fs, .int (f_X1_compare_fp fp p1 p2), .int fc, .int fd, .int fb, .long fz]))] := by rw [e_fp]; exact hD.sub (ws' := [(h0, .inr (0, [.int fn, .ref hu, .int fo, .ref hm, .int fa, .int fx, .int fy, .int fs, .int (f_X1_shown_fp (f_X1_setFlag_fp fp 1 1) ((p1 - p2) &&& 255)), .int fc, .int fd, .int fb, .long fz]))]) [0] (by decide) rfl
    exact W.vret hx hb hr (fun t ht hW => ⟨⟨(), rfl, trivial, by rw [ht]; exact hP9, hD9⟩, hS.F ht⟩) hS.2.2 dX1_compare_27

def f_X1_add_fa (fa : Int32) (fp : Int32) (p1 : Int32) : Int32 := (f_X1_shown_r (((fa + p1) + (fp &&& 1)) &&& 255))
def f_X1_add_fp (fa : Int32) (fp : Int32) (p1 : Int32) : Int32 := (if ((fa + p1) + (fp &&& 1)) ≤ 255 then (if (((fa ^^^ ((fa + p1) + (fp &&& 1))) &&& (p1 ^^^ ((fa + p1) + (fp &&& 1)))) &&& 128) = 0 then (f_X1_shown_fp (f_X1_setFlag_fp (f_X1_setFlag_fp fp 1 0) 64 0) (((fa + p1) + (fp &&& 1)) &&& 255)) else (f_X1_shown_fp (f_X1_setFlag_fp (f_X1_setFlag_fp fp 1 0) 64 1) (((fa + p1) + (fp &&& 1)) &&& 255))) else (if (((fa ^^^ ((fa + p1) + (fp &&& 1))) &&& (p1 ^^^ ((fa + p1) + (fp &&& 1)))) &&& 128) = 0 then (f_X1_shown_fp (f_X1_setFlag_fp (f_X1_setFlag_fp fp 1 1) 64 0) (((fa + p1) + (fp &&& 1)) &&& 255)) else (f_X1_shown_fp (f_X1_setFlag_fp (f_X1_setFlag_fp fp 1 1) 64 1) (((fa + p1) + (fp &&& 1)) &&& 255))))
set_option maxHeartbeats 4000000 in
set_option maxRecDepth 100000 in
/-- X1_add -/
theorem c_X1_add (l : Launch) (dC : Nat → ClassId) (dI : Nat → Nat → Nat) (sz : Nat) (h0 : Nat) (hu : Nat) (hm : Nat) (fn : Int32) (fo : Int32) (fa : Int32) (fx : Int32) (fy : Int32) (fs : Int32) (fp : Int32) (fc : Int32) (fd : Int32) (fb : Int32) (fz : Int64) (p1 : Int32)  : Met l yX1_add (Cond.code yX1_add cX1_add 3 none :: gw) { frames := 1, cells := 0, slots := 0, locals := 22 } (va_Pc [.ref h0, .int p1] (wPre (dC, dI) [] [(h0, .inr (0, [.int fn, .ref hu, .int fo, .ref hm, .int fa, .int fx, .int fy, .int fs, .int fp, .int fc, .int fd, .int fb, .long fz]))] sz wX0)) (va_Qv (fun _ : Unit => True) (fun _ t => wPost (dC, dI) (va_A [(h0, .inr (0, [.int fn, .ref hu, .int fo, .ref hm, .int fa, .int fx, .int fy, .int fs, .int fp, .int fc, .int fd, .int fb, .long fz]))] sz) [(h0, .inr (0, [.int fn, .ref hu, .int fo, .ref hm, .int (f_X1_add_fa fa fp p1), .int fx, .int fy, .int fs, .int (f_X1_add_fp fa fp p1), .int fc, .int fd, .int fb, .long fz]))] t) (va_A [(h0, .inr (0, [.int fn, .ref hu, .int fo, .ref hm, .int fa, .int fx, .int fy, .int fs, .int fp, .int fc, .int fd, .int fb, .long fz]))] sz)) 0 0 (va_A [(h0, .inr (0, [.int fn, .ref hu, .int fo, .ref hm, .int fa, .int fx, .int fy, .int fs, .int fp, .int fc, .int fd, .int fb, .long fz]))] sz) := by
  refine Met.ofW (cc := cX1_add) (maxL := 3) (ret := none) (by decide) rfl ?_
  intro p e s m args below meth c s₁ B hml hv
  obtain ⟨rfl, hsz, hP, hK, hD0, hXX⟩ := hv
  have hx := B.exec
  have hb := B.bytes
  have hr := B.returns
  have hts := atoms_spec (ws := (Cond.code yX1_add cX1_add 3 none :: gw)) B.pre
  have hown : s.vm.findClass RX1 = some m.cls := findClass_of_methodNamed B.named
  have hlocks := B.notSynchronized
  subst hsz
  have hD := hD0.self (sz := s.heap.size)
  generalize hAe : va_A [(h0, .inr (0, [.int fn, .ref hu, .int fo, .ref hm, .int fa, .int fx, .int fy, .int fs, .int fp, .int fc, .int fd, .int fb, .long fz]))] s.heap.size = A at hD ⊢
  have hA : ∀ q : Nat, s.heap.size ≤ q → A q := fun q h => by rw [← hAe]; exact Or.inr h
  have hS : va_S A s.heap s.heap [] := va_S.rf
  have hl := lv_entry ([.ref h0, .int p1]) (n := 3) (Nat.le_of_ble_eq_true rfl)
  rw [lg_entry_eq]
  generalize (lg_sl ([.ref h0, .int p1]) ++ List.replicate (3 - (lg_sl ([.ref h0, .int p1])).length) Slot.unset).toArray = ls at hl ⊢
  have hl : lv_has ls 3 [(0, .ref h0), (1, .int p1)] := hl
  refine lv_aload_n hx hb dX1_add_0 rfl (lv_at hl 0 rfl) ?_
  refine va_get (D := (dC, dI)) (ci := 0) (v := .int fa) (C := RX1) (T := TX1) (N := 13) hx hb hts (fun w h => gw_b w (iX1 w h)) hown hK hP 0 rfl rfl 4 (by decide) (hts _ (gw_b _ gm_144)) (fun _ h9 => h9) rfl dX1_add_1 ?_
  refine lv_iload_n hx hb dX1_add_4 rfl (lv_at hl 1 rfl) ?_
  refine lv_iadd hx hb dX1_add_5 ?_
  refine lv_aload_n hx hb dX1_add_6 rfl (lv_at hl 0 rfl) ?_
  refine va_get (D := (dC, dI)) (ci := 0) (v := .int fp) (C := RX1) (T := TX1) (N := 13) hx hb hts (fun w h => gw_b w (iX1 w h)) hown hK hP 0 rfl rfl 8 (by decide) (hts _ (gw_b _ gm_148)) (fun _ h9 => h9) rfl dX1_add_7 ?_
  refine lv_iconst (v := 1) hx hb dX1_add_10 (by decide) ?_
  refine lv_iand hx hb dX1_add_11 ?_
  refine lv_iadd hx hb dX1_add_12 ?_
  refine lv_istore_n (lv' := [(2, .int ((fa + p1) + (fp &&& 1))), (0, .ref h0), (1, .int p1)]) hx hb dX1_add_13 rfl hl (by decide) rfl (fun ls hl => ?_)
  refine lv_aload_n hx hb dX1_add_14 rfl (lv_at hl 1 rfl) ?_
  refine lv_iconst (v := 1) hx hb dX1_add_15 (by decide) ?_
  refine lv_iload_n hx hb dX1_add_16 rfl (lv_at hl 0 rfl) ?_
  refine lv_sipush (v := 255) hx hb dX1_add_17 (by decide) ?_
  refine lv_icmp_le (tgt := 27) hx hb dX1_add_20 (by decide) (fun c_1 => ?_) (fun c_1 => ?_)
  · skip
    refine lv_iconst (v := 0) hx hb dX1_add_27 (by decide) ?_
    refine gc_v (wr := []) (w1 := [(h0, .inr (0, [.int fn, .ref hu, .int fo, .ref hm, .int fa, .int fx, .int fy, .int fs, .int (f_X1_setFlag_fp fp 1 0), .int fc, .int fd, .int fb, .long fz]))]) (gcV (As := [.int 1, .int 0]) (rest := []) ⟨hx, hb, hml, hown, hts⟩ (c_X1_setFlag l dC dI s.heap.size h0 hu hm fn fo fa fx fy fs fp fc fd fb fz 1 0) (cwV 2 hts (gw_V gw_b gm_467 gm_469 gm_18 gm_71 gm_470) rfl rfl rfl (by decide +kernel) ⟨Nat.le_of_ble_eq_true rfl, Nat.le_of_ble_eq_true rfl⟩) hK [] rfl hP hD [0] rfl rfl rfl rfl wX0_k (fun _ _ _ => trivial) rfl rfl hl.1 rfl (lv_room (Nat.le_of_ble_eq_true rfl)) dX1_add_28 ⟨Nat.le_of_ble_eq_true rfl, Nat.le_of_ble_eq_true rfl⟩) hP hD hS hA [0] [] rfl rfl rfl (by decide) (fun H locs hP hD hS => ?_)
    have hP : va_P (dC, dI) vwCl [(h0, .inr (0, [.int fn, .ref hu, .int fo, .ref hm, .int fa, .int fx, .int fy, .int fs, .int (f_X1_setFlag_fp fp 1 0), .int fc, .int fd, .int fb, .long fz]))] H := hP
    have hD : va_D A [(h0, .inr (0, [.int fn, .ref hu, .int fo, .ref hm, .int fa, .int fx, .int fy, .int fs, .int (f_X1_setFlag_fp fp 1 0), .int fc, .int fd, .int fb, .long fz]))] := hD
    refine lv_aload_n hx hb dX1_add_31 rfl (lv_at hl 1 rfl) ?_
    refine lv_bipush (v := 64) hx hb dX1_add_32 (by decide) ?_
    refine lv_aload_n hx hb dX1_add_34 rfl (lv_at hl 1 rfl) ?_
    refine va_get (D := (dC, dI)) (ci := 0) (v := .int fa) (C := RX1) (T := TX1) (N := 13) hx hb hts (fun w h => gw_b w (iX1 w h)) hown hK hP 0 rfl rfl 4 (by decide) (hts _ (gw_b _ gm_144)) (fun _ h9 => h9) rfl dX1_add_35 ?_
    refine lv_iload_n hx hb dX1_add_38 rfl (lv_at hl 0 rfl) ?_
    refine lv_ixor hx hb dX1_add_39 ?_
    refine lv_iload_n hx hb dX1_add_40 rfl (lv_at hl 2 rfl) ?_
    refine lv_iload_n hx hb dX1_add_41 rfl (lv_at hl 0 rfl) ?_
    refine lv_ixor hx hb dX1_add_42 ?_
    refine lv_iand hx hb dX1_add_43 ?_
    refine lv_sipush (v := 128) hx hb dX1_add_44 (by decide) ?_
    refine lv_iand hx hb dX1_add_47 ?_
    refine lv_if_eq (tgt := 55) hx hb dX1_add_48 (by decide) (fun c_2 => ?_) (fun c_2 => ?_)
    · skip
      refine lv_iconst (v := 0) hx hb dX1_add_55 (by decide) ?_
      refine gc_v (wr := []) (w1 := [(h0, .inr (0, [.int fn, .ref hu, .int fo, .ref hm, .int fa, .int fx, .int fy, .int fs, .int (f_X1_setFlag_fp (f_X1_setFlag_fp fp 1 0) 64 0), .int fc, .int fd, .int fb, .long fz]))]) (gcV (As := [.int 64, .int 0]) (rest := []) ⟨hx, hb, hml, hown, hts⟩ (c_X1_setFlag l dC dI H.size h0 hu hm fn fo fa fx fy fs (f_X1_setFlag_fp fp 1 0) fc fd fb fz 64 0) (cwV 2 hts (gw_V gw_b gm_467 gm_469 gm_18 gm_71 gm_470) rfl rfl rfl (by decide +kernel) ⟨Nat.le_of_ble_eq_true rfl, Nat.le_of_ble_eq_true rfl⟩) hK [] rfl hP hD [0] rfl rfl rfl rfl wX0_k (fun _ _ _ => trivial) rfl rfl hl.1 rfl (lv_room (Nat.le_of_ble_eq_true rfl)) dX1_add_56 ⟨Nat.le_of_ble_eq_true rfl, Nat.le_of_ble_eq_true rfl⟩) hP hD hS hA [0] [] rfl rfl rfl (by decide) (fun H locs hP hD hS => ?_)
      have hP : va_P (dC, dI) vwCl [(h0, .inr (0, [.int fn, .ref hu, .int fo, .ref hm, .int fa, .int fx, .int fy, .int fs, .int (f_X1_setFlag_fp (f_X1_setFlag_fp fp 1 0) 64 0), .int fc, .int fd, .int fb, .long fz]))] H := hP
      have hD : va_D A [(h0, .inr (0, [.int fn, .ref hu, .int fo, .ref hm, .int fa, .int fx, .int fy, .int fs, .int (f_X1_setFlag_fp (f_X1_setFlag_fp fp 1 0) 64 0), .int fc, .int fd, .int fb, .long fz]))] := hD
      refine lv_aload_n hx hb dX1_add_59 rfl (lv_at hl 1 rfl) ?_
      refine lv_aload_n hx hb dX1_add_60 rfl (lv_at hl 1 rfl) ?_
      refine lv_iload_n hx hb dX1_add_61 rfl (lv_at hl 0 rfl) ?_
      refine lv_sipush (v := 255) hx hb dX1_add_62 (by decide) ?_
      refine lv_iand hx hb dX1_add_65 ?_
      refine gc_i (wr := []) (w1 := [(h0, .inr (0, [.int fn, .ref hu, .int fo, .ref hm, .int fa, .int fx, .int fy, .int fs, .int (f_X1_shown_fp (f_X1_setFlag_fp (f_X1_setFlag_fp fp 1 0) 64 0) (((fa + p1) + (fp &&& 1)) &&& 255)), .int fc, .int fd, .int fb, .long fz]))]) (gcV (As := [.int (((fa + p1) + (fp &&& 1)) &&& 255)]) (rest := [.ref h0]) ⟨hx, hb, hml, hown, hts⟩ (c_X1_shown l dC dI H.size h0 hu hm fn fo fa fx fy fs (f_X1_setFlag_fp (f_X1_setFlag_fp fp 1 0) 64 0) fc fd fb fz (((fa + p1) + (fp &&& 1)) &&& 255)) (cwV 1 hts (gw_V gw_b gm_459 gm_461 gm_16 gm_71 gm_462) rfl rfl rfl (by decide +kernel) ⟨Nat.le_of_ble_eq_true rfl, Nat.le_of_ble_eq_true rfl⟩) hK [] rfl hP hD [0] rfl rfl rfl rfl wX0_k (fun _ _ _ => trivial) rfl rfl hl.1 rfl (lv_room (Nat.le_of_ble_eq_true rfl)) dX1_add_66 ⟨Nat.le_of_ble_eq_true rfl, Nat.le_of_ble_eq_true rfl⟩) hP hD hS hA [0] [] rfl rfl rfl (by decide) (fun H locs hP hD hS => ?_)
      have hP : va_P (dC, dI) vwCl [(h0, .inr (0, [.int fn, .ref hu, .int fo, .ref hm, .int fa, .int fx, .int fy, .int fs, .int (f_X1_shown_fp (f_X1_setFlag_fp (f_X1_setFlag_fp fp 1 0) 64 0) (((fa + p1) + (fp &&& 1)) &&& 255)), .int fc, .int fd, .int fb, .long fz]))] H := hP
      have hD : va_D A [(h0, .inr (0, [.int fn, .ref hu, .int fo, .ref hm, .int fa, .int fx, .int fy, .int fs, .int (f_X1_shown_fp (f_X1_setFlag_fp (f_X1_setFlag_fp fp 1 0) 64 0) (((fa + p1) + (fp &&& 1)) &&& 255)), .int fc, .int fd, .int fb, .long fz]))] := hD
      refine va_put (D := (dC, dI)) (ci := 0) (v := .int (f_X1_shown_r (((fa + p1) + (fp &&& 1)) &&& 255))) (ty := tyX1 4) (C := RX1) (T := TX1) (N := 13) hx hb hts (fun w h => gw_b w (iX1 w h)) tyX1 tyX1_ok nmX1 hown hK hP hD hS 0 rfl rfl 4 (by decide) (hts _ (gw_b _ gm_144)) (fun _ h9 => h9) rfl (tyX1_ok 4 (by decide)) rfl rfl (Nat.le_of_ble_eq_true rfl) dX1_add_69 (fun H locs hP hD hS => ?_)
      have hP : va_P (dC, dI) vwCl [(h0, .inr (0, [.int fn, .ref hu, .int fo, .ref hm, .int (f_X1_shown_r (((fa + p1) + (fp &&& 1)) &&& 255)), .int fx, .int fy, .int fs, .int (f_X1_shown_fp (f_X1_setFlag_fp (f_X1_setFlag_fp fp 1 0) 64 0) (((fa + p1) + (fp &&& 1)) &&& 255)), .int fc, .int fd, .int fb, .long fz]))] H := hP
      have hD : va_D A [(h0, .inr (0, [.int fn, .ref hu, .int fo, .ref hm, .int (f_X1_shown_r (((fa + p1) + (fp &&& 1)) &&& 255)), .int fx, .int fy, .int fs, .int (f_X1_shown_fp (f_X1_setFlag_fp (f_X1_setFlag_fp fp 1 0) 64 0) (((fa + p1) + (fp &&& 1)) &&& 255)), .int fc, .int fd, .int fb, .long fz]))] := hD
      have e_fa : (f_X1_add_fa fa fp p1) = (f_X1_shown_r (((fa + p1) + (fp &&& 1)) &&& 255)) := rfl
      have e_fp : (f_X1_add_fp fa fp p1) = (f_X1_shown_fp (f_X1_setFlag_fp (f_X1_setFlag_fp fp 1 0) 64 0) (((fa + p1) + (fp &&& 1)) &&& 255)) := ((if_pos c_1)).trans (if_pos c_2)
      have hP9 : va_P (dC, dI) vwCl [(h0, .inr (0, [.int fn, .ref hu, .int fo, .ref hm, .int (f_X1_add_fa fa fp p1), .int fx, .int fy, .int fs, .int (f_X1_add_fp fa fp p1), .int fc, .int fd, .int fb, .long fz]))] H := by rw [e_fa, e_fp]; exact hP.sub (ws' := [(h0, .inr (0, [.int fn, .ref hu, .int fo, .ref hm, .int (f_X1_shown_r (((fa + p1) + (fp &&& 1)) &&& 255)), .int fx, .int fy, .int fs, .int (f_X1_shown_fp (f_X1_setFlag_fp (f_X1_setFlag_fp fp 1 0) 64 0) (((fa + p1) + (fp &&& 1)) &&& 255)), .int fc, .int fd, .int fb, .long fz]))]) [0] rfl
      have hD9 : va_D A [(h0, .inr (0, [.int fn, .ref hu, .int fo, .ref hm, .int (f_X1_add_fa fa fp p1), .int fx, .int fy, .int fs, .int (f_X1_add_fp fa fp p1), .int fc, .int fd, .int fb, .long fz]))] := by rw [e_fa, e_fp]; exact hD.sub (ws' := [(h0, .inr (0, [.int fn, .ref hu, .int fo, .ref hm, .int (f_X1_shown_r (((fa + p1) + (fp &&& 1)) &&& 255)), .int fx, .int fy, .int fs, .int (f_X1_shown_fp (f_X1_setFlag_fp (f_X1_setFlag_fp fp 1 0) 64 0) (((fa + p1) + (fp &&& 1)) &&& 255)), .int fc, .int fd, .int fb, .long fz]))]) [0] (by decide) rfl
      exact W.vret hx hb hr (fun t ht hW => ⟨⟨(), rfl, trivial, by rw [ht]; exact hP9, hD9⟩, hS.F ht⟩) hS.2.2 dX1_add_72
    · skip
      refine lv_iconst (v := 1) hx hb dX1_add_51 (by decide) ?_
      refine lv_goto (tgt := 56) hx hb dX1_add_52 (by decide) ?_
      refine gc_v (wr := []) (w1 := [(h0, .inr (0, [.int fn, .ref hu, .int fo, .ref hm, .int fa, .int fx, .int fy, .int fs, .int (f_X1_setFlag_fp (f_X1_setFlag_fp fp 1 0) 64 1), .int fc, .int fd, .int fb, .long fz]))]) (gcV (As := [.int 64, .int 1]) (rest := []) ⟨hx, hb, hml, hown, hts⟩ (c_X1_setFlag l dC dI H.size h0 hu hm fn fo fa fx fy fs (f_X1_setFlag_fp fp 1 0) fc fd fb fz 64 1) (cwV 2 hts (gw_V gw_b gm_467 gm_469 gm_18 gm_71 gm_470) rfl rfl rfl (by decide +kernel) ⟨Nat.le_of_ble_eq_true rfl, Nat.le_of_ble_eq_true rfl⟩) hK [] rfl hP hD [0] rfl rfl rfl rfl wX0_k (fun _ _ _ => trivial) rfl rfl hl.1 rfl (lv_room (Nat.le_of_ble_eq_true rfl)) dX1_add_56 ⟨Nat.le_of_ble_eq_true rfl, Nat.le_of_ble_eq_true rfl⟩) hP hD hS hA [0] [] rfl rfl rfl (by decide) (fun H locs hP hD hS => ?_)
      have hP : va_P (dC, dI) vwCl [(h0, .inr (0, [.int fn, .ref hu, .int fo, .ref hm, .int fa, .int fx, .int fy, .int fs, .int (f_X1_setFlag_fp (f_X1_setFlag_fp fp 1 0) 64 1), .int fc, .int fd, .int fb, .long fz]))] H := hP
      have hD : va_D A [(h0, .inr (0, [.int fn, .ref hu, .int fo, .ref hm, .int fa, .int fx, .int fy, .int fs, .int (f_X1_setFlag_fp (f_X1_setFlag_fp fp 1 0) 64 1), .int fc, .int fd, .int fb, .long fz]))] := hD
      refine lv_aload_n hx hb dX1_add_59 rfl (lv_at hl 1 rfl) ?_
      refine lv_aload_n hx hb dX1_add_60 rfl (lv_at hl 1 rfl) ?_
      refine lv_iload_n hx hb dX1_add_61 rfl (lv_at hl 0 rfl) ?_
      refine lv_sipush (v := 255) hx hb dX1_add_62 (by decide) ?_
      refine lv_iand hx hb dX1_add_65 ?_
      refine gc_i (wr := []) (w1 := [(h0, .inr (0, [.int fn, .ref hu, .int fo, .ref hm, .int fa, .int fx, .int fy, .int fs, .int (f_X1_shown_fp (f_X1_setFlag_fp (f_X1_setFlag_fp fp 1 0) 64 1) (((fa + p1) + (fp &&& 1)) &&& 255)), .int fc, .int fd, .int fb, .long fz]))]) (gcV (As := [.int (((fa + p1) + (fp &&& 1)) &&& 255)]) (rest := [.ref h0]) ⟨hx, hb, hml, hown, hts⟩ (c_X1_shown l dC dI H.size h0 hu hm fn fo fa fx fy fs (f_X1_setFlag_fp (f_X1_setFlag_fp fp 1 0) 64 1) fc fd fb fz (((fa + p1) + (fp &&& 1)) &&& 255)) (cwV 1 hts (gw_V gw_b gm_459 gm_461 gm_16 gm_71 gm_462) rfl rfl rfl (by decide +kernel) ⟨Nat.le_of_ble_eq_true rfl, Nat.le_of_ble_eq_true rfl⟩) hK [] rfl hP hD [0] rfl rfl rfl rfl wX0_k (fun _ _ _ => trivial) rfl rfl hl.1 rfl (lv_room (Nat.le_of_ble_eq_true rfl)) dX1_add_66 ⟨Nat.le_of_ble_eq_true rfl, Nat.le_of_ble_eq_true rfl⟩) hP hD hS hA [0] [] rfl rfl rfl (by decide) (fun H locs hP hD hS => ?_)
      have hP : va_P (dC, dI) vwCl [(h0, .inr (0, [.int fn, .ref hu, .int fo, .ref hm, .int fa, .int fx, .int fy, .int fs, .int (f_X1_shown_fp (f_X1_setFlag_fp (f_X1_setFlag_fp fp 1 0) 64 1) (((fa + p1) + (fp &&& 1)) &&& 255)), .int fc, .int fd, .int fb, .long fz]))] H := hP
      have hD : va_D A [(h0, .inr (0, [.int fn, .ref hu, .int fo, .ref hm, .int fa, .int fx, .int fy, .int fs, .int (f_X1_shown_fp (f_X1_setFlag_fp (f_X1_setFlag_fp fp 1 0) 64 1) (((fa + p1) + (fp &&& 1)) &&& 255)), .int fc, .int fd, .int fb, .long fz]))] := hD
      refine va_put (D := (dC, dI)) (ci := 0) (v := .int (f_X1_shown_r (((fa + p1) + (fp &&& 1)) &&& 255))) (ty := tyX1 4) (C := RX1) (T := TX1) (N := 13) hx hb hts (fun w h => gw_b w (iX1 w h)) tyX1 tyX1_ok nmX1 hown hK hP hD hS 0 rfl rfl 4 (by decide) (hts _ (gw_b _ gm_144)) (fun _ h9 => h9) rfl (tyX1_ok 4 (by decide)) rfl rfl (Nat.le_of_ble_eq_true rfl) dX1_add_69 (fun H locs hP hD hS => ?_)
      have hP : va_P (dC, dI) vwCl [(h0, .inr (0, [.int fn, .ref hu, .int fo, .ref hm, .int (f_X1_shown_r (((fa + p1) + (fp &&& 1)) &&& 255)), .int fx, .int fy, .int fs, .int (f_X1_shown_fp (f_X1_setFlag_fp (f_X1_setFlag_fp fp 1 0) 64 1) (((fa + p1) + (fp &&& 1)) &&& 255)), .int fc, .int fd, .int fb, .long fz]))] H := hP
      have hD : va_D A [(h0, .inr (0, [.int fn, .ref hu, .int fo, .ref hm, .int (f_X1_shown_r (((fa + p1) + (fp &&& 1)) &&& 255)), .int fx, .int fy, .int fs, .int (f_X1_shown_fp (f_X1_setFlag_fp (f_X1_setFlag_fp fp 1 0) 64 1) (((fa + p1) + (fp &&& 1)) &&& 255)), .int fc, .int fd, .int fb, .long fz]))] := hD
      have e_fa : (f_X1_add_fa fa fp p1) = (f_X1_shown_r (((fa + p1) + (fp &&& 1)) &&& 255)) := rfl
      have e_fp : (f_X1_add_fp fa fp p1) = (f_X1_shown_fp (f_X1_setFlag_fp (f_X1_setFlag_fp fp 1 0) 64 1) (((fa + p1) + (fp &&& 1)) &&& 255)) := ((if_pos c_1)).trans (if_neg c_2)
      have hP9 : va_P (dC, dI) vwCl [(h0, .inr (0, [.int fn, .ref hu, .int fo, .ref hm, .int (f_X1_add_fa fa fp p1), .int fx, .int fy, .int fs, .int (f_X1_add_fp fa fp p1), .int fc, .int fd, .int fb, .long fz]))] H := by rw [e_fa, e_fp]; exact hP.sub (ws' := [(h0, .inr (0, [.int fn, .ref hu, .int fo, .ref hm, .int (f_X1_shown_r (((fa + p1) + (fp &&& 1)) &&& 255)), .int fx, .int fy, .int fs, .int (f_X1_shown_fp (f_X1_setFlag_fp (f_X1_setFlag_fp fp 1 0) 64 1) (((fa + p1) + (fp &&& 1)) &&& 255)), .int fc, .int fd, .int fb, .long fz]))]) [0] rfl
      have hD9 : va_D A [(h0, .inr (0, [.int fn, .ref hu, .int fo, .ref hm, .int (f_X1_add_fa fa fp p1), .int fx, .int fy, .int fs, .int (f_X1_add_fp fa fp p1), .int fc, .int fd, .int fb, .long fz]))] := by rw [e_fa, e_fp]; exact hD.sub (ws' := [(h0, .inr (0, [.int fn, .ref hu, .int fo, .ref hm, .int (f_X1_shown_r (((fa + p1) + (fp &&& 1)) &&& 255)), .int fx, .int fy, .int fs, .int (f_X1_shown_fp (f_X1_setFlag_fp (f_X1_setFlag_fp fp 1 0) 64 1) (((fa + p1) + (fp &&& 1)) &&& 255)), .int fc, .int fd, .int fb, .long fz]))]) [0] (by decide) rfl
      exact W.vret hx hb hr (fun t ht hW => ⟨⟨(), rfl, trivial, by rw [ht]; exact hP9, hD9⟩, hS.F ht⟩) hS.2.2 dX1_add_72
  · skip
    refine lv_iconst (v := 1) hx hb dX1_add_23 (by decide) ?_
    refine lv_goto (tgt := 28) hx hb dX1_add_24 (by decide) ?_
    refine gc_v (wr := []) (w1 := [(h0, .inr (0, [.int fn, .ref hu, .int fo, .ref hm, .int fa, .int fx, .int fy, .int fs, .int (f_X1_setFlag_fp fp 1 1), .int fc, .int fd, .int fb, .long fz]))]) (gcV (As := [.int 1, .int 1]) (rest := []) ⟨hx, hb, hml, hown, hts⟩ (c_X1_setFlag l dC dI s.heap.size h0 hu hm fn fo fa fx fy fs fp fc fd fb fz 1 1) (cwV 2 hts (gw_V gw_b gm_467 gm_469 gm_18 gm_71 gm_470) rfl rfl rfl (by decide +kernel) ⟨Nat.le_of_ble_eq_true rfl, Nat.le_of_ble_eq_true rfl⟩) hK [] rfl hP hD [0] rfl rfl rfl rfl wX0_k (fun _ _ _ => trivial) rfl rfl hl.1 rfl (lv_room (Nat.le_of_ble_eq_true rfl)) dX1_add_28 ⟨Nat.le_of_ble_eq_true rfl, Nat.le_of_ble_eq_true rfl⟩) hP hD hS hA [0] [] rfl rfl rfl (by decide) (fun H locs hP hD hS => ?_)
    have hP : va_P (dC, dI) vwCl [(h0, .inr (0, [.int fn, .ref hu, .int fo, .ref hm, .int fa, .int fx, .int fy, .int fs, .int (f_X1_setFlag_fp fp 1 1), .int fc, .int fd, .int fb, .long fz]))] H := hP
    have hD : va_D A [(h0, .inr (0, [.int fn, .ref hu, .int fo, .ref hm, .int fa, .int fx, .int fy, .int fs, .int (f_X1_setFlag_fp fp 1 1), .int fc, .int fd, .int fb, .long fz]))] := hD
    refine lv_aload_n hx hb dX1_add_31 rfl (lv_at hl 1 rfl) ?_
    refine lv_bipush (v := 64) hx hb dX1_add_32 (by decide) ?_
    refine lv_aload_n hx hb dX1_add_34 rfl (lv_at hl 1 rfl) ?_
    refine va_get (D := (dC, dI)) (ci := 0) (v := .int fa) (C := RX1) (T := TX1) (N := 13) hx hb hts (fun w h => gw_b w (iX1 w h)) hown hK hP 0 rfl rfl 4 (by decide) (hts _ (gw_b _ gm_144)) (fun _ h9 => h9) rfl dX1_add_35 ?_
    refine lv_iload_n hx hb dX1_add_38 rfl (lv_at hl 0 rfl) ?_
    refine lv_ixor hx hb dX1_add_39 ?_
    refine lv_iload_n hx hb dX1_add_40 rfl (lv_at hl 2 rfl) ?_
    refine lv_iload_n hx hb dX1_add_41 rfl (lv_at hl 0 rfl) ?_
    refine lv_ixor hx hb dX1_add_42 ?_
    refine lv_iand hx hb dX1_add_43 ?_
    refine lv_sipush (v := 128) hx hb dX1_add_44 (by decide) ?_
    refine lv_iand hx hb dX1_add_47 ?_
    refine lv_if_eq (tgt := 55) hx hb dX1_add_48 (by decide) (fun c_3 => ?_) (fun c_3 => ?_)
    · skip
      refine lv_iconst (v := 0) hx hb dX1_add_55 (by decide) ?_
      refine gc_v (wr := []) (w1 := [(h0, .inr (0, [.int fn, .ref hu, .int fo, .ref hm, .int fa, .int fx, .int fy, .int fs, .int (f_X1_setFlag_fp (f_X1_setFlag_fp fp 1 1) 64 0), .int fc, .int fd, .int fb, .long fz]))]) (gcV (As := [.int 64, .int 0]) (rest := []) ⟨hx, hb, hml, hown, hts⟩ (c_X1_setFlag l dC dI H.size h0 hu hm fn fo fa fx fy fs (f_X1_setFlag_fp fp 1 1) fc fd fb fz 64 0) (cwV 2 hts (gw_V gw_b gm_467 gm_469 gm_18 gm_71 gm_470) rfl rfl rfl (by decide +kernel) ⟨Nat.le_of_ble_eq_true rfl, Nat.le_of_ble_eq_true rfl⟩) hK [] rfl hP hD [0] rfl rfl rfl rfl wX0_k (fun _ _ _ => trivial) rfl rfl hl.1 rfl (lv_room (Nat.le_of_ble_eq_true rfl)) dX1_add_56 ⟨Nat.le_of_ble_eq_true rfl, Nat.le_of_ble_eq_true rfl⟩) hP hD hS hA [0] [] rfl rfl rfl (by decide) (fun H locs hP hD hS => ?_)
      have hP : va_P (dC, dI) vwCl [(h0, .inr (0, [.int fn, .ref hu, .int fo, .ref hm, .int fa, .int fx, .int fy, .int fs, .int (f_X1_setFlag_fp (f_X1_setFlag_fp fp 1 1) 64 0), .int fc, .int fd, .int fb, .long fz]))] H := hP
      have hD : va_D A [(h0, .inr (0, [.int fn, .ref hu, .int fo, .ref hm, .int fa, .int fx, .int fy, .int fs, .int (f_X1_setFlag_fp (f_X1_setFlag_fp fp 1 1) 64 0), .int fc, .int fd, .int fb, .long fz]))] := hD
      refine lv_aload_n hx hb dX1_add_59 rfl (lv_at hl 1 rfl) ?_
      refine lv_aload_n hx hb dX1_add_60 rfl (lv_at hl 1 rfl) ?_
      refine lv_iload_n hx hb dX1_add_61 rfl (lv_at hl 0 rfl) ?_
      refine lv_sipush (v := 255) hx hb dX1_add_62 (by decide) ?_
      refine lv_iand hx hb dX1_add_65 ?_
      refine gc_i (wr := []) (w1 := [(h0, .inr (0, [.int fn, .ref hu, .int fo, .ref hm, .int fa, .int fx, .int fy, .int fs, .int (f_X1_shown_fp (f_X1_setFlag_fp (f_X1_setFlag_fp fp 1 1) 64 0) (((fa + p1) + (fp &&& 1)) &&& 255)), .int fc, .int fd, .int fb, .long fz]))]) (gcV (As := [.int (((fa + p1) + (fp &&& 1)) &&& 255)]) (rest := [.ref h0]) ⟨hx, hb, hml, hown, hts⟩ (c_X1_shown l dC dI H.size h0 hu hm fn fo fa fx fy fs (f_X1_setFlag_fp (f_X1_setFlag_fp fp 1 1) 64 0) fc fd fb fz (((fa + p1) + (fp &&& 1)) &&& 255)) (cwV 1 hts (gw_V gw_b gm_459 gm_461 gm_16 gm_71 gm_462) rfl rfl rfl (by decide +kernel) ⟨Nat.le_of_ble_eq_true rfl, Nat.le_of_ble_eq_true rfl⟩) hK [] rfl hP hD [0] rfl rfl rfl rfl wX0_k (fun _ _ _ => trivial) rfl rfl hl.1 rfl (lv_room (Nat.le_of_ble_eq_true rfl)) dX1_add_66 ⟨Nat.le_of_ble_eq_true rfl, Nat.le_of_ble_eq_true rfl⟩) hP hD hS hA [0] [] rfl rfl rfl (by decide) (fun H locs hP hD hS => ?_)
      have hP : va_P (dC, dI) vwCl [(h0, .inr (0, [.int fn, .ref hu, .int fo, .ref hm, .int fa, .int fx, .int fy, .int fs, .int (f_X1_shown_fp (f_X1_setFlag_fp (f_X1_setFlag_fp fp 1 1) 64 0) (((fa + p1) + (fp &&& 1)) &&& 255)), .int fc, .int fd, .int fb, .long fz]))] H := hP
      have hD : va_D A [(h0, .inr (0, [.int fn, .ref hu, .int fo, .ref hm, .int fa, .int fx, .int fy, .int fs, .int (f_X1_shown_fp (f_X1_setFlag_fp (f_X1_setFlag_fp fp 1 1) 64 0) (((fa + p1) + (fp &&& 1)) &&& 255)), .int fc, .int fd, .int fb, .long fz]))] := hD
      refine va_put (D := (dC, dI)) (ci := 0) (v := .int (f_X1_shown_r (((fa + p1) + (fp &&& 1)) &&& 255))) (ty := tyX1 4) (C := RX1) (T := TX1) (N := 13) hx hb hts (fun w h => gw_b w (iX1 w h)) tyX1 tyX1_ok nmX1 hown hK hP hD hS 0 rfl rfl 4 (by decide) (hts _ (gw_b _ gm_144)) (fun _ h9 => h9) rfl (tyX1_ok 4 (by decide)) rfl rfl (Nat.le_of_ble_eq_true rfl) dX1_add_69 (fun H locs hP hD hS => ?_)
      have hP : va_P (dC, dI) vwCl [(h0, .inr (0, [.int fn, .ref hu, .int fo, .ref hm, .int (f_X1_shown_r (((fa + p1) + (fp &&& 1)) &&& 255)), .int fx, .int fy, .int fs, .int (f_X1_shown_fp (f_X1_setFlag_fp (f_X1_setFlag_fp fp 1 1) 64 0) (((fa + p1) + (fp &&& 1)) &&& 255)), .int fc, .int fd, .int fb, .long fz]))] H := hP
      have hD : va_D A [(h0, .inr (0, [.int fn, .ref hu, .int fo, .ref hm, .int (f_X1_shown_r (((fa + p1) + (fp &&& 1)) &&& 255)), .int fx, .int fy, .int fs, .int (f_X1_shown_fp (f_X1_setFlag_fp (f_X1_setFlag_fp fp 1 1) 64 0) (((fa + p1) + (fp &&& 1)) &&& 255)), .int fc, .int fd, .int fb, .long fz]))] := hD
      have e_fa : (f_X1_add_fa fa fp p1) = (f_X1_shown_r (((fa + p1) + (fp &&& 1)) &&& 255)) := rfl
      have e_fp : (f_X1_add_fp fa fp p1) = (f_X1_shown_fp (f_X1_setFlag_fp (f_X1_setFlag_fp fp 1 1) 64 0) (((fa + p1) + (fp &&& 1)) &&& 255)) := ((if_neg c_1)).trans (if_pos c_3)
      have hP9 : va_P (dC, dI) vwCl [(h0, .inr (0, [.int fn, .ref hu, .int fo, .ref hm, .int (f_X1_add_fa fa fp p1), .int fx, .int fy, .int fs, .int (f_X1_add_fp fa fp p1), .int fc, .int fd, .int fb, .long fz]))] H := by rw [e_fa, e_fp]; exact hP.sub (ws' := [(h0, .inr (0, [.int fn, .ref hu, .int fo, .ref hm, .int (f_X1_shown_r (((fa + p1) + (fp &&& 1)) &&& 255)), .int fx, .int fy, .int fs, .int (f_X1_shown_fp (f_X1_setFlag_fp (f_X1_setFlag_fp fp 1 1) 64 0) (((fa + p1) + (fp &&& 1)) &&& 255)), .int fc, .int fd, .int fb, .long fz]))]) [0] rfl
      have hD9 : va_D A [(h0, .inr (0, [.int fn, .ref hu, .int fo, .ref hm, .int (f_X1_add_fa fa fp p1), .int fx, .int fy, .int fs, .int (f_X1_add_fp fa fp p1), .int fc, .int fd, .int fb, .long fz]))] := by rw [e_fa, e_fp]; exact hD.sub (ws' := [(h0, .inr (0, [.int fn, .ref hu, .int fo, .ref hm, .int (f_X1_shown_r (((fa + p1) + (fp &&& 1)) &&& 255)), .int fx, .int fy, .int fs, .int (f_X1_shown_fp (f_X1_setFlag_fp (f_X1_setFlag_fp fp 1 1) 64 0) (((fa + p1) + (fp &&& 1)) &&& 255)), .int fc, .int fd, .int fb, .long fz]))]) [0] (by decide) rfl
      exact W.vret hx hb hr (fun t ht hW => ⟨⟨(), rfl, trivial, by rw [ht]; exact hP9, hD9⟩, hS.F ht⟩) hS.2.2 dX1_add_72
    · skip
      refine lv_iconst (v := 1) hx hb dX1_add_51 (by decide) ?_
      refine lv_goto (tgt := 56) hx hb dX1_add_52 (by decide) ?_
      refine gc_v (wr := []) (w1 := [(h0, .inr (0, [.int fn, .ref hu, .int fo, .ref hm, .int fa, .int fx, .int fy, .int fs, .int (f_X1_setFlag_fp (f_X1_setFlag_fp fp 1 1) 64 1), .int fc, .int fd, .int fb, .long fz]))]) (gcV (As := [.int 64, .int 1]) (rest := []) ⟨hx, hb, hml, hown, hts⟩ (c_X1_setFlag l dC dI H.size h0 hu hm fn fo fa fx fy fs (f_X1_setFlag_fp fp 1 1) fc fd fb fz 64 1) (cwV 2 hts (gw_V gw_b gm_467 gm_469 gm_18 gm_71 gm_470) rfl rfl rfl (by decide +kernel) ⟨Nat.le_of_ble_eq_true rfl, Nat.le_of_ble_eq_true rfl⟩) hK [] rfl hP hD [0] rfl rfl rfl rfl wX0_k (fun _ _ _ => trivial) rfl rfl hl.1 rfl (lv_room (Nat.le_of_ble_eq_true rfl)) dX1_add_56 ⟨Nat.le_of_ble_eq_true rfl, Nat.le_of_ble_eq_true rfl⟩) hP hD hS hA [0] [] rfl rfl rfl (by decide) (fun H locs hP hD hS => ?_)
      have hP : va_P (dC, dI) vwCl [(h0, .inr (0, [.int fn, .ref hu, .int fo, .ref hm, .int fa, .int fx, .int fy, .int fs, .int (f_X1_setFlag_fp (f_X1_setFlag_fp fp 1 1) 64 1), .int fc, .int fd, .int fb, .long fz]))] H := hP
      have hD : va_D A [(h0, .inr (0, [.int fn, .ref hu, .int fo, .ref hm, .int fa, .int fx, .int fy, .int fs, .int (f_X1_setFlag_fp (f_X1_setFlag_fp fp 1 1) 64 1), .int fc, .int fd, .int fb, .long fz]))] := hD
      refine lv_aload_n hx hb dX1_add_59 rfl (lv_at hl 1 rfl) ?_
      refine lv_aload_n hx hb dX1_add_60 rfl (lv_at hl 1 rfl) ?_
      refine lv_iload_n hx hb dX1_add_61 rfl (lv_at hl 0 rfl) ?_
      refine lv_sipush (v := 255) hx hb dX1_add_62 (by decide) ?_
      refine lv_iand hx hb dX1_add_65 ?_
      refine gc_i (wr := []) (w1 := [(h0, .inr (0, [.int fn, .ref hu, .int fo, .ref hm, .int fa, .int fx, .int fy, .int fs, .int (f_X1_shown_fp (f_X1_setFlag_fp (f_X1_setFlag_fp fp 1 1) 64 1) (((fa + p1) + (fp &&& 1)) &&& 255)), .int fc, .int fd, .int fb, .long fz]))]) (gcV (As := [.int (((fa + p1) + (fp &&& 1)) &&& 255)]) (rest := [.ref h0]) ⟨hx, hb, hml, hown, hts⟩ (c_X1_shown l dC dI H.size h0 hu hm fn fo fa fx fy fs (f_X1_setFlag_fp (f_X1_setFlag_fp fp 1 1) 64 1) fc fd fb fz (((fa + p1) + (fp &&& 1)) &&& 255)) (cwV 1 hts (gw_V gw_b gm_459 gm_461 gm_16 gm_71 gm_462) rfl rfl rfl (by decide +kernel) ⟨Nat.le_of_ble_eq_true rfl, Nat.le_of_ble_eq_true rfl⟩) hK [] rfl hP hD [0] rfl rfl rfl rfl wX0_k (fun _ _ _ => trivial) rfl rfl hl.1 rfl (lv_room (Nat.le_of_ble_eq_true rfl)) dX1_add_66 ⟨Nat.le_of_ble_eq_true rfl, Nat.le_of_ble_eq_true rfl⟩) hP hD hS hA [0] [] rfl rfl rfl (by decide) (fun H locs hP hD hS => ?_)
      have hP : va_P (dC, dI) vwCl [(h0, .inr (0, [.int fn, .ref hu, .int fo, .ref hm, .int fa, .int fx, .int fy, .int fs, .int (f_X1_shown_fp (f_X1_setFlag_fp (f_X1_setFlag_fp fp 1 1) 64 1) (((fa + p1) + (fp &&& 1)) &&& 255)), .int fc, .int fd, .int fb, .long fz]))] H := hP
      have hD : va_D A [(h0, .inr (0, [.int fn, .ref hu, .int fo, .ref hm, .int fa, .int fx, .int fy, .int fs, .int (f_X1_shown_fp (f_X1_setFlag_fp (f_X1_setFlag_fp fp 1 1) 64 1) (((fa + p1) + (fp &&& 1)) &&& 255)), .int fc, .int fd, .int fb, .long fz]))] := hD
      refine va_put (D := (dC, dI)) (ci := 0) (v := .int (f_X1_shown_r (((fa + p1) + (fp &&& 1)) &&& 255))) (ty := tyX1 4) (C := RX1) (T := TX1) (N := 13) hx hb hts (fun w h => gw_b w (iX1 w h)) tyX1 tyX1_ok nmX1 hown hK hP hD hS 0 rfl rfl 4 (by decide) (hts _ (gw_b _ gm_144)) (fun _ h9 => h9) rfl (tyX1_ok 4 (by decide)) rfl rfl (Nat.le_of_ble_eq_true rfl) dX1_add_69 (fun H locs hP hD hS => ?_)
      have hP : va_P (dC, dI) vwCl [(h0, .inr (0, [.int fn, .ref hu, .int fo, .ref hm, .int (f_X1_shown_r (((fa + p1) + (fp &&& 1)) &&& 255)), .int fx, .int fy, .int fs, .int (f_X1_shown_fp (f_X1_setFlag_fp (f_X1_setFlag_fp fp 1 1) 64 1) (((fa + p1) + (fp &&& 1)) &&& 255)), .int fc, .int fd, .int fb, .long fz]))] H := hP
      have hD : va_D A [(h0, .inr (0, [.int fn, .ref hu, .int fo, .ref hm, .int (f_X1_shown_r (((fa + p1) + (fp &&& 1)) &&& 255)), .int fx, .int fy, .int fs, .int (f_X1_shown_fp (f_X1_setFlag_fp (f_X1_setFlag_fp fp 1 1) 64 1) (((fa + p1) + (fp &&& 1)) &&& 255)), .int fc, .int fd, .int fb, .long fz]))] := hD
      have e_fa : (f_X1_add_fa fa fp p1) = (f_X1_shown_r (((fa + p1) + (fp &&& 1)) &&& 255)) := rfl
      have e_fp : (f_X1_add_fp fa fp p1) = (f_X1_shown_fp (f_X1_setFlag_fp (f_X1_setFlag_fp fp 1 1) 64 1) (((fa + p1) + (fp &&& 1)) &&& 255)) := ((if_neg c_1)).trans (if_neg c_3)
      have hP9 : va_P (dC, dI) vwCl [(h0, .inr (0, [.int fn, .ref hu, .int fo, .ref hm, .int (f_X1_add_fa fa fp p1), .int fx, .int fy, .int fs, .int (f_X1_add_fp fa fp p1), .int fc, .int fd, .int fb, .long fz]))] H := by rw [e_fa, e_fp]; exact hP.sub (ws' := [(h0, .inr (0, [.int fn, .ref hu, .int fo, .ref hm, .int (f_X1_shown_r (((fa + p1) + (fp &&& 1)) &&& 255)), .int fx, .int fy, .int fs, .int (f_X1_shown_fp (f_X1_setFlag_fp (f_X1_setFlag_fp fp 1 1) 64 1) (((fa + p1) + (fp &&& 1)) &&& 255)), .int fc, .int fd, .int fb, .long fz]))]) [0] rfl
      have hD9 : va_D A [(h0, .inr (0, [.int fn, .ref hu, .int fo, .ref hm, .int (f_X1_add_fa fa fp p1), .int fx, .int fy, .int fs, .int (f_X1_add_fp fa fp p1), .int fc, .int fd, .int fb, .long fz]))] := by rw [e_fa, e_fp]; exact hD.sub (ws' := [(h0, .inr (0, [.int fn, .ref hu, .int fo, .ref hm, .int (f_X1_shown_r (((fa + p1) + (fp &&& 1)) &&& 255)), .int fx, .int fy, .int fs, .int (f_X1_shown_fp (f_X1_setFlag_fp (f_X1_setFlag_fp fp 1 1) 64 1) (((fa + p1) + (fp &&& 1)) &&& 255)), .int fc, .int fd, .int fb, .long fz]))]) [0] (by decide) rfl
      exact W.vret hx hb hr (fun t ht hW => ⟨⟨(), rfl, trivial, by rw [ht]; exact hP9, hD9⟩, hS.F ht⟩) hS.2.2 dX1_add_72

def f_X1_changed_fp (fp : Int32) (p1 : Int32) (p2 : Int32) : Int32 := (if p1 = 48 then (if p2 ≤ 127 then (f_X1_setFlag_fp fp 1 0) else (f_X1_setFlag_fp fp 1 1)) else (if p1 = 49 then (if p2 ≤ 127 then (f_X1_setFlag_fp fp 1 0) else (f_X1_setFlag_fp fp 1 1)) else (if p1 = 50 then (if (p2 &&& 1) = 0 then (f_X1_setFlag_fp fp 1 0) else (f_X1_setFlag_fp fp 1 1)) else (if p1 = 51 then (if (p2 &&& 1) = 0 then (f_X1_setFlag_fp fp 1 0) else (f_X1_setFlag_fp fp 1 1)) else fp))))
def f_X1_changed_r (fp : Int32) (p1 : Int32) (p2 : Int32) : Int32 := (if p1 = 48 then ((p2 <<< ((1 : Int32) &&& 31)) &&& 255) else (if p1 = 49 then (((p2 <<< ((1 : Int32) &&& 31)) ||| (fp &&& 1)) &&& 255) else (if p1 = 50 then (p2 >>> ((1 : Int32) &&& 31)) else (if p1 = 51 then ((p2 >>> ((1 : Int32) &&& 31)) ||| ((fp &&& 1) <<< ((7 : Int32) &&& 31))) else (if p1 = 52 then ((p2 - 1) &&& 255) else ((p2 + 1) &&& 255))))))
set_option maxHeartbeats 4000000 in
set_option maxRecDepth 100000 in
/-- X1_changed -/
theorem c_X1_changed (l : Launch) (dC : Nat → ClassId) (dI : Nat → Nat → Nat) (sz : Nat) (h0 : Nat) (hu : Nat) (hm : Nat) (fn : Int32) (fo : Int32) (fa : Int32) (fx : Int32) (fy : Int32) (fs : Int32) (fp : Int32) (fc : Int32) (fd : Int32) (fb : Int32) (fz : Int64) (p1 : Int32) (p2 : Int32)  : Met l yX1_changed (Cond.code yX1_changed cX1_changed 4 (some .int) :: gw) { frames := 1, cells := 0, slots := 0, locals := 22 } (va_Pc [.ref h0, .int p1, .int p2] (wPre (dC, dI) [] [(h0, .inr (0, [.int fn, .ref hu, .int fo, .ref hm, .int fa, .int fx, .int fy, .int fs, .int fp, .int fc, .int fd, .int fb, .long fz]))] sz wX0)) (va_Qi (fun (r : Int32) (_ : Unit) => r = (f_X1_changed_r fp p1 p2)) (fun _ t => wPost (dC, dI) (va_A [(h0, .inr (0, [.int fn, .ref hu, .int fo, .ref hm, .int fa, .int fx, .int fy, .int fs, .int fp, .int fc, .int fd, .int fb, .long fz]))] sz) [(h0, .inr (0, [.int fn, .ref hu, .int fo, .ref hm, .int fa, .int fx, .int fy, .int fs, .int (f_X1_changed_fp fp p1 p2), .int fc, .int fd, .int fb, .long fz]))] t) (va_A [(h0, .inr (0, [.int fn, .ref hu, .int fo, .ref hm, .int fa, .int fx, .int fy, .int fs, .int fp, .int fc, .int fd, .int fb, .long fz]))] sz)) 0 0 (va_A [(h0, .inr (0, [.int fn, .ref hu, .int fo, .ref hm, .int fa, .int fx, .int fy, .int fs, .int fp, .int fc, .int fd, .int fb, .long fz]))] sz) := by
  refine Met.ofW (cc := cX1_changed) (maxL := 4) (ret := (some .int)) (by decide) rfl ?_
  intro p e s m args below meth c s₁ B hml hv
  obtain ⟨rfl, hsz, hP, hK, hD0, hXX⟩ := hv
  have hx := B.exec
  have hb := B.bytes
  have hr := B.returns
  have hts := atoms_spec (ws := (Cond.code yX1_changed cX1_changed 4 (some .int) :: gw)) B.pre
  have hown : s.vm.findClass RX1 = some m.cls := findClass_of_methodNamed B.named
  have hlocks := B.notSynchronized
  subst hsz
  have hD := hD0.self (sz := s.heap.size)
  generalize hAe : va_A [(h0, .inr (0, [.int fn, .ref hu, .int fo, .ref hm, .int fa, .int fx, .int fy, .int fs, .int fp, .int fc, .int fd, .int fb, .long fz]))] s.heap.size = A at hD ⊢
  have hA : ∀ q : Nat, s.heap.size ≤ q → A q := fun q h => by rw [← hAe]; exact Or.inr h
  have hS : va_S A s.heap s.heap [] := va_S.rf
  have hl := lv_entry ([.ref h0, .int p1, .int p2]) (n := 4) (Nat.le_of_ble_eq_true rfl)
  rw [lg_entry_eq]
  generalize (lg_sl ([.ref h0, .int p1, .int p2]) ++ List.replicate (4 - (lg_sl ([.ref h0, .int p1, .int p2])).length) Slot.unset).toArray = ls at hl ⊢
  have hl : lv_has ls 4 [(0, .ref h0), (1, .int p1), (2, .int p2)] := hl
  refine lv_aload_n hx hb dX1_changed_0 rfl (lv_at hl 0 rfl) ?_
  refine va_get (D := (dC, dI)) (ci := 0) (v := .int fp) (C := RX1) (T := TX1) (N := 13) hx hb hts (fun w h => gw_b w (iX1 w h)) hown hK hP 0 rfl rfl 8 (by decide) (hts _ (gw_b _ gm_148)) (fun _ h9 => h9) rfl dX1_changed_1 ?_
  refine lv_iconst (v := 1) hx hb dX1_changed_4 (by decide) ?_
  refine lv_iand hx hb dX1_changed_5 ?_
  refine lv_istore_n (lv' := [(3, .int (fp &&& 1)), (0, .ref h0), (1, .int p1), (2, .int p2)]) hx hb dX1_changed_6 rfl hl (by decide) rfl (fun ls hl => ?_)
  refine lv_iload_n hx hb dX1_changed_7 rfl (lv_at hl 2 rfl) ?_
  refine sw_by (p := p1 = 48) (fun c_1 => ?_) (fun c_1 => ?_)
  · refine sw_at c_1 ?_
    refine lv_tableIn (tgt := 44) hx hb dX1_changed_8 (by decide) (by decide) rfl (by decide) ?_
    refine lv_aload_n hx hb dX1_changed_44 rfl (lv_at hl 1 rfl) ?_
    refine lv_iconst (v := 1) hx hb dX1_changed_45 (by decide) ?_
    refine lv_iload_n hx hb dX1_changed_46 rfl (lv_at hl 3 rfl) ?_
    refine lv_bipush (v := 127) hx hb dX1_changed_47 (by decide) ?_
    refine lv_icmp_le (tgt := 56) hx hb dX1_changed_49 (by decide) (fun c_2 => ?_) (fun c_2 => ?_)
    · skip
      refine lv_iconst (v := 0) hx hb dX1_changed_56 (by decide) ?_
      refine gc_v (wr := []) (w1 := [(h0, .inr (0, [.int fn, .ref hu, .int fo, .ref hm, .int fa, .int fx, .int fy, .int fs, .int (f_X1_setFlag_fp fp 1 0), .int fc, .int fd, .int fb, .long fz]))]) (gcV (As := [.int 1, .int 0]) (rest := []) ⟨hx, hb, hml, hown, hts⟩ (c_X1_setFlag l dC dI s.heap.size h0 hu hm fn fo fa fx fy fs fp fc fd fb fz 1 0) (cwV 2 hts (gw_V gw_b gm_467 gm_469 gm_18 gm_71 gm_470) rfl rfl rfl (by decide +kernel) ⟨Nat.le_of_ble_eq_true rfl, Nat.le_of_ble_eq_true rfl⟩) hK [] rfl hP hD [0] rfl rfl rfl rfl wX0_k (fun _ _ _ => trivial) rfl rfl hl.1 rfl (lv_room (Nat.le_of_ble_eq_true rfl)) dX1_changed_57 ⟨Nat.le_of_ble_eq_true rfl, Nat.le_of_ble_eq_true rfl⟩) hP hD hS hA [0] [] rfl rfl rfl (by decide) (fun H locs hP hD hS => ?_)
      have hP : va_P (dC, dI) vwCl [(h0, .inr (0, [.int fn, .ref hu, .int fo, .ref hm, .int fa, .int fx, .int fy, .int fs, .int (f_X1_setFlag_fp fp 1 0), .int fc, .int fd, .int fb, .long fz]))] H := hP
      have hD : va_D A [(h0, .inr (0, [.int fn, .ref hu, .int fo, .ref hm, .int fa, .int fx, .int fy, .int fs, .int (f_X1_setFlag_fp fp 1 0), .int fc, .int fd, .int fb, .long fz]))] := hD
      refine lv_iload_n hx hb dX1_changed_60 rfl (lv_at hl 3 rfl) ?_
      refine lv_iconst (v := 1) hx hb dX1_changed_61 (by decide) ?_
      refine lv_ishl hx hb dX1_changed_62 ?_
      refine lv_sipush (v := 255) hx hb dX1_changed_63 (by decide) ?_
      refine lv_iand hx hb dX1_changed_66 ?_
      have e_fp : (f_X1_changed_fp fp p1 p2) = (f_X1_setFlag_fp fp 1 0) := ((if_pos c_1)).trans (if_pos c_2)
      have hP9 : va_P (dC, dI) vwCl [(h0, .inr (0, [.int fn, .ref hu, .int fo, .ref hm, .int fa, .int fx, .int fy, .int fs, .int (f_X1_changed_fp fp p1 p2), .int fc, .int fd, .int fb, .long fz]))] H := by rw [e_fp]; exact hP.sub (ws' := [(h0, .inr (0, [.int fn, .ref hu, .int fo, .ref hm, .int fa, .int fx, .int fy, .int fs, .int (f_X1_setFlag_fp fp 1 0), .int fc, .int fd, .int fb, .long fz]))]) [0] rfl
      have hD9 : va_D A [(h0, .inr (0, [.int fn, .ref hu, .int fo, .ref hm, .int fa, .int fx, .int fy, .int fs, .int (f_X1_changed_fp fp p1 p2), .int fc, .int fd, .int fb, .long fz]))] := by rw [e_fp]; exact hD.sub (ws' := [(h0, .inr (0, [.int fn, .ref hu, .int fo, .ref hm, .int fa, .int fx, .int fy, .int fs, .int (f_X1_setFlag_fp fp 1 0), .int fc, .int fd, .int fb, .long fz]))]) [0] (by decide) rfl
      exact W.iret (v := ((p2 <<< ((1 : Int32) &&& 31)) &&& 255)) hx hb hr (fun t ht hW => ⟨⟨((p2 <<< ((1 : Int32) &&& 31)) &&& 255), (), rfl, Eq.symm ((if_pos c_1) : (f_X1_changed_r fp p1 p2) = ((p2 <<< ((1 : Int32) &&& 31)) &&& 255)), by rw [ht]; exact hP9, hD9⟩, hS.F ht⟩) hS.2.2 dX1_changed_67
    · skip
      refine lv_iconst (v := 1) hx hb dX1_changed_52 (by decide) ?_
      refine lv_goto (tgt := 57) hx hb dX1_changed_53 (by decide) ?_
      refine gc_v (wr := []) (w1 := [(h0, .inr (0, [.int fn, .ref hu, .int fo, .ref hm, .int fa, .int fx, .int fy, .int fs, .int (f_X1_setFlag_fp fp 1 1), .int fc, .int fd, .int fb, .long fz]))]) (gcV (As := [.int 1, .int 1]) (rest := []) ⟨hx, hb, hml, hown, hts⟩ (c_X1_setFlag l dC dI s.heap.size h0 hu hm fn fo fa fx fy fs fp fc fd fb fz 1 1) (cwV 2 hts (gw_V gw_b gm_467 gm_469 gm_18 gm_71 gm_470) rfl rfl rfl (by decide +kernel) ⟨Nat.le_of_ble_eq_true rfl, Nat.le_of_ble_eq_true rfl⟩) hK [] rfl hP hD [0] rfl rfl rfl rfl wX0_k (fun _ _ _ => trivial) rfl rfl hl.1 rfl (lv_room (Nat.le_of_ble_eq_true rfl)) dX1_changed_57 ⟨Nat.le_of_ble_eq_true rfl, Nat.le_of_ble_eq_true rfl⟩) hP hD hS hA [0] [] rfl rfl rfl (by decide) (fun H locs hP hD hS => ?_)
      have hP : va_P (dC, dI) vwCl [(h0, .inr (0, [.int fn, .ref hu, .int fo, .ref hm, .int fa, .int fx, .int fy, .int fs, .int (f_X1_setFlag_fp fp 1 1), .int fc, .int fd, .int fb, .long fz]))] H := hP
      have hD : va_D A [(h0, .inr (0, [.int fn, .ref hu, .int fo, .ref hm, .int fa, .int fx, .int fy, .int fs, .int (f_X1_setFlag_fp fp 1 1), .int fc, .int fd, .int fb, .long fz]))] := hD
      refine lv_iload_n hx hb dX1_changed_60 rfl (lv_at hl 3 rfl) ?_
      refine lv_iconst (v := 1) hx hb dX1_changed_61 (by decide) ?_
      refine lv_ishl hx hb dX1_changed_62 ?_
      refine lv_sipush (v := 255) hx hb dX1_changed_63 (by decide) ?_
      refine lv_iand hx hb dX1_changed_66 ?_
      have e_fp : (f_X1_changed_fp fp p1 p2) = (f_X1_setFlag_fp fp 1 1) := ((if_pos c_1)).trans (if_neg c_2)
      have hP9 : va_P (dC, dI) vwCl [(h0, .inr (0, [.int fn, .ref hu, .int fo, .ref hm, .int fa, .int fx, .int fy, .int fs, .int (f_X1_changed_fp fp p1 p2), .int fc, .int fd, .int fb, .long fz]))] H := by rw [e_fp]; exact hP.sub (ws' := [(h0, .inr (0, [.int fn, .ref hu, .int fo, .ref hm, .int fa, .int fx, .int fy, .int fs, .int (f_X1_setFlag_fp fp 1 1), .int fc, .int fd, .int fb, .long fz]))]) [0] rfl
      have hD9 : va_D A [(h0, .inr (0, [.int fn, .ref hu, .int fo, .ref hm, .int fa, .int fx, .int fy, .int fs, .int (f_X1_changed_fp fp p1 p2), .int fc, .int fd, .int fb, .long fz]))] := by rw [e_fp]; exact hD.sub (ws' := [(h0, .inr (0, [.int fn, .ref hu, .int fo, .ref hm, .int fa, .int fx, .int fy, .int fs, .int (f_X1_setFlag_fp fp 1 1), .int fc, .int fd, .int fb, .long fz]))]) [0] (by decide) rfl
      exact W.iret (v := ((p2 <<< ((1 : Int32) &&& 31)) &&& 255)) hx hb hr (fun t ht hW => ⟨⟨((p2 <<< ((1 : Int32) &&& 31)) &&& 255), (), rfl, Eq.symm ((if_pos c_1) : (f_X1_changed_r fp p1 p2) = ((p2 <<< ((1 : Int32) &&& 31)) &&& 255)), by rw [ht]; exact hP9, hD9⟩, hS.F ht⟩) hS.2.2 dX1_changed_67
  refine sw_by (p := p1 = 49) (fun c_3 => ?_) (fun c_3 => ?_)
  · refine sw_at c_3 ?_
    refine lv_tableIn (tgt := 68) hx hb dX1_changed_8 (by decide) (by decide) rfl (by decide) ?_
    refine lv_aload_n hx hb dX1_changed_68 rfl (lv_at hl 1 rfl) ?_
    refine lv_iconst (v := 1) hx hb dX1_changed_69 (by decide) ?_
    refine lv_iload_n hx hb dX1_changed_70 rfl (lv_at hl 3 rfl) ?_
    refine lv_bipush (v := 127) hx hb dX1_changed_71 (by decide) ?_
    refine lv_icmp_le (tgt := 80) hx hb dX1_changed_73 (by decide) (fun c_4 => ?_) (fun c_4 => ?_)
    · skip
      refine lv_iconst (v := 0) hx hb dX1_changed_80 (by decide) ?_
      refine gc_v (wr := []) (w1 := [(h0, .inr (0, [.int fn, .ref hu, .int fo, .ref hm, .int fa, .int fx, .int fy, .int fs, .int (f_X1_setFlag_fp fp 1 0), .int fc, .int fd, .int fb, .long fz]))]) (gcV (As := [.int 1, .int 0]) (rest := []) ⟨hx, hb, hml, hown, hts⟩ (c_X1_setFlag l dC dI s.heap.size h0 hu hm fn fo fa fx fy fs fp fc fd fb fz 1 0) (cwV 2 hts (gw_V gw_b gm_467 gm_469 gm_18 gm_71 gm_470) rfl rfl rfl (by decide +kernel) ⟨Nat.le_of_ble_eq_true rfl, Nat.le_of_ble_eq_true rfl⟩) hK [] rfl hP hD [0] rfl rfl rfl rfl wX0_k (fun _ _ _ => trivial) rfl rfl hl.1 rfl (lv_room (Nat.le_of_ble_eq_true rfl)) dX1_changed_81 ⟨Nat.le_of_ble_eq_true rfl, Nat.le_of_ble_eq_true rfl⟩) hP hD hS hA [0] [] rfl rfl rfl (by decide) (fun H locs hP hD hS => ?_)
      have hP : va_P (dC, dI) vwCl [(h0, .inr (0, [.int fn, .ref hu, .int fo, .ref hm, .int fa, .int fx, .int fy, .int fs, .int (f_X1_setFlag_fp fp 1 0), .int fc, .int fd, .int fb, .long fz]))] H := hP
      have hD : va_D A [(h0, .inr (0, [.int fn, .ref hu, .int fo, .ref hm, .int fa, .int fx, .int fy, .int fs, .int (f_X1_setFlag_fp fp 1 0), .int fc, .int fd, .int fb, .long fz]))] := hD
      refine lv_iload_n hx hb dX1_changed_84 rfl (lv_at hl 3 rfl) ?_
      refine lv_iconst (v := 1) hx hb dX1_changed_85 (by decide) ?_
      refine lv_ishl hx hb dX1_changed_86 ?_
      refine lv_iload_n hx hb dX1_changed_87 rfl (lv_at hl 0 rfl) ?_
      refine lv_ior hx hb dX1_changed_88 ?_
      refine lv_sipush (v := 255) hx hb dX1_changed_89 (by decide) ?_
      refine lv_iand hx hb dX1_changed_92 ?_
      have e_fp : (f_X1_changed_fp fp p1 p2) = (f_X1_setFlag_fp fp 1 0) := (((if_neg c_1)).trans (if_pos c_3)).trans (if_pos c_4)
      have hP9 : va_P (dC, dI) vwCl [(h0, .inr (0, [.int fn, .ref hu, .int fo, .ref hm, .int fa, .int fx, .int fy, .int fs, .int (f_X1_changed_fp fp p1 p2), .int fc, .int fd, .int fb, .long fz]))] H := by rw [e_fp]; exact hP.sub (ws' := [(h0, .inr (0, [.int fn, .ref hu, .int fo, .ref hm, .int fa, .int fx, .int fy, .int fs, .int (f_X1_setFlag_fp fp 1 0), .int fc, .int fd, .int fb, .long fz]))]) [0] rfl
      have hD9 : va_D A [(h0, .inr (0, [.int fn, .ref hu, .int fo, .ref hm, .int fa, .int fx, .int fy, .int fs, .int (f_X1_changed_fp fp p1 p2), .int fc, .int fd, .int fb, .long fz]))] := by rw [e_fp]; exact hD.sub (ws' := [(h0, .inr (0, [.int fn, .ref hu, .int fo, .ref hm, .int fa, .int fx, .int fy, .int fs, .int (f_X1_setFlag_fp fp 1 0), .int fc, .int fd, .int fb, .long fz]))]) [0] (by decide) rfl
      exact W.iret (v := (((p2 <<< ((1 : Int32) &&& 31)) ||| (fp &&& 1)) &&& 255)) hx hb hr (fun t ht hW => ⟨⟨(((p2 <<< ((1 : Int32) &&& 31)) ||| (fp &&& 1)) &&& 255), (), rfl, Eq.symm (((if_neg c_1)).trans (if_pos c_3) : (f_X1_changed_r fp p1 p2) = (((p2 <<< ((1 : Int32) &&& 31)) ||| (fp &&& 1)) &&& 255)), by rw [ht]; exact hP9, hD9⟩, hS.F ht⟩) hS.2.2 dX1_changed_93
    · skip
      refine lv_iconst (v := 1) hx hb dX1_changed_76 (by decide) ?_
      refine lv_goto (tgt := 81) hx hb dX1_changed_77 (by decide) ?_
      refine gc_v (wr := []) (w1 := [(h0, .inr (0, [.int fn, .ref hu, .int fo, .ref hm, .int fa, .int fx, .int fy, .int fs, .int (f_X1_setFlag_fp fp 1 1), .int fc, .int fd, .int fb, .long fz]))]) (gcV (As := [.int 1, .int 1]) (rest := []) ⟨hx, hb, hml, hown, hts⟩ (c_X1_setFlag l dC dI s.heap.size h0 hu hm fn fo fa fx fy fs fp fc fd fb fz 1 1) (cwV 2 hts (gw_V gw_b gm_467 gm_469 gm_18 gm_71 gm_470) rfl rfl rfl (by decide +kernel) ⟨Nat.le_of_ble_eq_true rfl, Nat.le_of_ble_eq_true rfl⟩) hK [] rfl hP hD [0] rfl rfl rfl rfl wX0_k (fun _ _ _ => trivial) rfl rfl hl.1 rfl (lv_room (Nat.le_of_ble_eq_true rfl)) dX1_changed_81 ⟨Nat.le_of_ble_eq_true rfl, Nat.le_of_ble_eq_true rfl⟩) hP hD hS hA [0] [] rfl rfl rfl (by decide) (fun H locs hP hD hS => ?_)
      have hP : va_P (dC, dI) vwCl [(h0, .inr (0, [.int fn, .ref hu, .int fo, .ref hm, .int fa, .int fx, .int fy, .int fs, .int (f_X1_setFlag_fp fp 1 1), .int fc, .int fd, .int fb, .long fz]))] H := hP
      have hD : va_D A [(h0, .inr (0, [.int fn, .ref hu, .int fo, .ref hm, .int fa, .int fx, .int fy, .int fs, .int (f_X1_setFlag_fp fp 1 1), .int fc, .int fd, .int fb, .long fz]))] := hD
      refine lv_iload_n hx hb dX1_changed_84 rfl (lv_at hl 3 rfl) ?_
      refine lv_iconst (v := 1) hx hb dX1_changed_85 (by decide) ?_
      refine lv_ishl hx hb dX1_changed_86 ?_
      refine lv_iload_n hx hb dX1_changed_87 rfl (lv_at hl 0 rfl) ?_
      refine lv_ior hx hb dX1_changed_88 ?_
      refine lv_sipush (v := 255) hx hb dX1_changed_89 (by decide) ?_
      refine lv_iand hx hb dX1_changed_92 ?_
      have e_fp : (f_X1_changed_fp fp p1 p2) = (f_X1_setFlag_fp fp 1 1) := (((if_neg c_1)).trans (if_pos c_3)).trans (if_neg c_4)
      have hP9 : va_P (dC, dI) vwCl [(h0, .inr (0, [.int fn, .ref hu, .int fo, .ref hm, .int fa, .int fx, .int fy, .int fs, .int (f_X1_changed_fp fp p1 p2), .int fc, .int fd, .int fb, .long fz]))] H := by rw [e_fp]; exact hP.sub (ws' := [(h0, .inr (0, [.int fn, .ref hu, .int fo, .ref hm, .int fa, .int fx, .int fy, .int fs, .int (f_X1_setFlag_fp fp 1 1), .int fc, .int fd, .int fb, .long fz]))]) [0] rfl
      have hD9 : va_D A [(h0, .inr (0, [.int fn, .ref hu, .int fo, .ref hm, .int fa, .int fx, .int fy, .int fs, .int (f_X1_changed_fp fp p1 p2), .int fc, .int fd, .int fb, .long fz]))] := by rw [e_fp]; exact hD.sub (ws' := [(h0, .inr (0, [.int fn, .ref hu, .int fo, .ref hm, .int fa, .int fx, .int fy, .int fs, .int (f_X1_setFlag_fp fp 1 1), .int fc, .int fd, .int fb, .long fz]))]) [0] (by decide) rfl
      exact W.iret (v := (((p2 <<< ((1 : Int32) &&& 31)) ||| (fp &&& 1)) &&& 255)) hx hb hr (fun t ht hW => ⟨⟨(((p2 <<< ((1 : Int32) &&& 31)) ||| (fp &&& 1)) &&& 255), (), rfl, Eq.symm (((if_neg c_1)).trans (if_pos c_3) : (f_X1_changed_r fp p1 p2) = (((p2 <<< ((1 : Int32) &&& 31)) ||| (fp &&& 1)) &&& 255)), by rw [ht]; exact hP9, hD9⟩, hS.F ht⟩) hS.2.2 dX1_changed_93
  refine sw_by (p := p1 = 50) (fun c_5 => ?_) (fun c_5 => ?_)
  · refine sw_at c_5 ?_
    refine lv_tableIn (tgt := 94) hx hb dX1_changed_8 (by decide) (by decide) rfl (by decide) ?_
    refine lv_aload_n hx hb dX1_changed_94 rfl (lv_at hl 1 rfl) ?_
    refine lv_iconst (v := 1) hx hb dX1_changed_95 (by decide) ?_
    refine lv_iload_n hx hb dX1_changed_96 rfl (lv_at hl 3 rfl) ?_
    refine lv_iconst (v := 1) hx hb dX1_changed_97 (by decide) ?_
    refine lv_iand hx hb dX1_changed_98 ?_
    refine lv_if_eq (tgt := 106) hx hb dX1_changed_99 (by decide) (fun c_6 => ?_) (fun c_6 => ?_)
    · skip
      refine lv_iconst (v := 0) hx hb dX1_changed_106 (by decide) ?_
      refine gc_v (wr := []) (w1 := [(h0, .inr (0, [.int fn, .ref hu, .int fo, .ref hm, .int fa, .int fx, .int fy, .int fs, .int (f_X1_setFlag_fp fp 1 0), .int fc, .int fd, .int fb, .long fz]))]) (gcV (As := [.int 1, .int 0]) (rest := []) ⟨hx, hb, hml, hown, hts⟩ (c_X1_setFlag l dC dI s.heap.size h0 hu hm fn fo fa fx fy fs fp fc fd fb fz 1 0) (cwV 2 hts (gw_V gw_b gm_467 gm_469 gm_18 gm_71 gm_470) rfl rfl rfl (by decide +kernel) ⟨Nat.le_of_ble_eq_true rfl, Nat.le_of_ble_eq_true rfl⟩) hK [] rfl hP hD [0] rfl rfl rfl rfl wX0_k (fun _ _ _ => trivial) rfl rfl hl.1 rfl (lv_room (Nat.le_of_ble_eq_true rfl)) dX1_changed_107 ⟨Nat.le_of_ble_eq_true rfl, Nat.le_of_ble_eq_true rfl⟩) hP hD hS hA [0] [] rfl rfl rfl (by decide) (fun H locs hP hD hS => ?_)
      have hP : va_P (dC, dI) vwCl [(h0, .inr (0, [.int fn, .ref hu, .int fo, .ref hm, .int fa, .int fx, .int fy, .int fs, .int (f_X1_setFlag_fp fp 1 0), .int fc, .int fd, .int fb, .long fz]))] H := hP
      have hD : va_D A [(h0, .inr (0, [.int fn, .ref hu, .int fo, .ref hm, .int fa, .int fx, .int fy, .int fs, .int (f_X1_setFlag_fp fp 1 0), .int fc, .int fd, .int fb, .long fz]))] := hD
      refine lv_iload_n hx hb dX1_changed_110 rfl (lv_at hl 3 rfl) ?_
      refine lv_iconst (v := 1) hx hb dX1_changed_111 (by decide) ?_
      refine lv_ishr hx hb dX1_changed_112 ?_
      have e_fp : (f_X1_changed_fp fp p1 p2) = (f_X1_setFlag_fp fp 1 0) := ((((if_neg c_1)).trans (if_neg c_3)).trans (if_pos c_5)).trans (if_pos c_6)
      have hP9 : va_P (dC, dI) vwCl [(h0, .inr (0, [.int fn, .ref hu, .int fo, .ref hm, .int fa, .int fx, .int fy, .int fs, .int (f_X1_changed_fp fp p1 p2), .int fc, .int fd, .int fb, .long fz]))] H := by rw [e_fp]; exact hP.sub (ws' := [(h0, .inr (0, [.int fn, .ref hu, .int fo, .ref hm, .int fa, .int fx, .int fy, .int fs, .int (f_X1_setFlag_fp fp 1 0), .int fc, .int fd, .int fb, .long fz]))]) [0] rfl
      have hD9 : va_D A [(h0, .inr (0, [.int fn, .ref hu, .int fo, .ref hm, .int fa, .int fx, .int fy, .int fs, .int (f_X1_changed_fp fp p1 p2), .int fc, .int fd, .int fb, .long fz]))] := by rw [e_fp]; exact hD.sub (ws' := [(h0, .inr (0, [.int fn, .ref hu, .int fo, .ref hm, .int fa, .int fx, .int fy, .int fs, .int (f_X1_setFlag_fp fp 1 0), .int fc, .int fd, .int fb, .long fz]))]) [0] (by decide) rfl
      exact W.iret (v := (p2 >>> ((1 : Int32) &&& 31))) hx hb hr (fun t ht hW => ⟨⟨(p2 >>> ((1 : Int32) &&& 31)), (), rfl, Eq.symm ((((if_neg c_1)).trans (if_neg c_3)).trans (if_pos c_5) : (f_X1_changed_r fp p1 p2) = (p2 >>> ((1 : Int32) &&& 31))), by rw [ht]; exact hP9, hD9⟩, hS.F ht⟩) hS.2.2 dX1_changed_113
    · skip
      refine lv_iconst (v := 1) hx hb dX1_changed_102 (by decide) ?_
      refine lv_goto (tgt := 107) hx hb dX1_changed_103 (by decide) ?_
      refine gc_v (wr := []) (w1 := [(h0, .inr (0, [.int fn, .ref hu, .int fo, .ref hm, .int fa, .int fx, .int fy, .int fs, .int (f_X1_setFlag_fp fp 1 1), .int fc, .int fd, .int fb, .long fz]))]) (gcV (As := [.int 1, .int 1]) (rest := []) ⟨hx, hb, hml, hown, hts⟩ (c_X1_setFlag l dC dI s.heap.size h0 hu hm fn fo fa fx fy fs fp fc fd fb fz 1 1) (cwV 2 hts (gw_V gw_b gm_467 gm_469 gm_18 gm_71 gm_470) rfl rfl rfl (by decide +kernel) ⟨Nat.le_of_ble_eq_true rfl, Nat.le_of_ble_eq_true rfl⟩) hK [] rfl hP hD [0] rfl rfl rfl rfl wX0_k (fun _ _ _ => trivial) rfl rfl hl.1 rfl (lv_room (Nat.le_of_ble_eq_true rfl)) dX1_changed_107 ⟨Nat.le_of_ble_eq_true rfl, Nat.le_of_ble_eq_true rfl⟩) hP hD hS hA [0] [] rfl rfl rfl (by decide) (fun H locs hP hD hS => ?_)
      have hP : va_P (dC, dI) vwCl [(h0, .inr (0, [.int fn, .ref hu, .int fo, .ref hm, .int fa, .int fx, .int fy, .int fs, .int (f_X1_setFlag_fp fp 1 1), .int fc, .int fd, .int fb, .long fz]))] H := hP
      have hD : va_D A [(h0, .inr (0, [.int fn, .ref hu, .int fo, .ref hm, .int fa, .int fx, .int fy, .int fs, .int (f_X1_setFlag_fp fp 1 1), .int fc, .int fd, .int fb, .long fz]))] := hD
      refine lv_iload_n hx hb dX1_changed_110 rfl (lv_at hl 3 rfl) ?_
      refine lv_iconst (v := 1) hx hb dX1_changed_111 (by decide) ?_
      refine lv_ishr hx hb dX1_changed_112 ?_
      have e_fp : (f_X1_changed_fp fp p1 p2) = (f_X1_setFlag_fp fp 1 1) := ((((if_neg c_1)).trans (if_neg c_3)).trans (if_pos c_5)).trans (if_neg c_6)
      have hP9 : va_P (dC, dI) vwCl [(h0, .inr (0, [.int fn, .ref hu, .int fo, .ref hm, .int fa, .int fx, .int fy, .int fs, .int (f_X1_changed_fp fp p1 p2), .int fc, .int fd, .int fb, .long fz]))] H := by rw [e_fp]; exact hP.sub (ws' := [(h0, .inr (0, [.int fn, .ref hu, .int fo, .ref hm, .int fa, .int fx, .int fy, .int fs, .int (f_X1_setFlag_fp fp 1 1), .int fc, .int fd, .int fb, .long fz]))]) [0] rfl
      have hD9 : va_D A [(h0, .inr (0, [.int fn, .ref hu, .int fo, .ref hm, .int fa, .int fx, .int fy, .int fs, .int (f_X1_changed_fp fp p1 p2), .int fc, .int fd, .int fb, .long fz]))] := by rw [e_fp]; exact hD.sub (ws' := [(h0, .inr (0, [.int fn, .ref hu, .int fo, .ref hm, .int fa, .int fx, .int fy, .int fs, .int (f_X1_setFlag_fp fp 1 1), .int fc, .int fd, .int fb, .long fz]))]) [0] (by decide) rfl
      exact W.iret (v := (p2 >>> ((1 : Int32) &&& 31))) hx hb hr (fun t ht hW => ⟨⟨(p2 >>> ((1 : Int32) &&& 31)), (), rfl, Eq.symm ((((if_neg c_1)).trans (if_neg c_3)).trans (if_pos c_5) : (f_X1_changed_r fp p1 p2) = (p2 >>> ((1 : Int32) &&& 31))), by rw [ht]; exact hP9, hD9⟩, hS.F ht⟩) hS.2.2 dX1_changed_113
  refine sw_by (p := p1 = 51) (fun c_7 => ?_) (fun c_7 => ?_)
  · refine sw_at c_7 ?_
    refine lv_tableIn (tgt := 114) hx hb dX1_changed_8 (by decide) (by decide) rfl (by decide) ?_
    refine lv_aload_n hx hb dX1_changed_114 rfl (lv_at hl 1 rfl) ?_
    refine lv_iconst (v := 1) hx hb dX1_changed_115 (by decide) ?_
    refine lv_iload_n hx hb dX1_changed_116 rfl (lv_at hl 3 rfl) ?_
    refine lv_iconst (v := 1) hx hb dX1_changed_117 (by decide) ?_
    refine lv_iand hx hb dX1_changed_118 ?_
    refine lv_if_eq (tgt := 126) hx hb dX1_changed_119 (by decide) (fun c_8 => ?_) (fun c_8 => ?_)
    · skip
      refine lv_iconst (v := 0) hx hb dX1_changed_126 (by decide) ?_
      refine gc_v (wr := []) (w1 := [(h0, .inr (0, [.int fn, .ref hu, .int fo, .ref hm, .int fa, .int fx, .int fy, .int fs, .int (f_X1_setFlag_fp fp 1 0), .int fc, .int fd, .int fb, .long fz]))]) (gcV (As := [.int 1, .int 0]) (rest := []) ⟨hx, hb, hml, hown, hts⟩ (c_X1_setFlag l dC dI s.heap.size h0 hu hm fn fo fa fx fy fs fp fc fd fb fz 1 0) (cwV 2 hts (gw_V gw_b gm_467 gm_469 gm_18 gm_71 gm_470) rfl rfl rfl (by decide +kernel) ⟨Nat.le_of_ble_eq_true rfl, Nat.le_of_ble_eq_true rfl⟩) hK [] rfl hP hD [0] rfl rfl rfl rfl wX0_k (fun _ _ _ => trivial) rfl rfl hl.1 rfl (lv_room (Nat.le_of_ble_eq_true rfl)) dX1_changed_127 ⟨Nat.le_of_ble_eq_true rfl, Nat.le_of_ble_eq_true rfl⟩) hP hD hS hA [0] [] rfl rfl rfl (by decide) (fun H locs hP hD hS => ?_)
      have hP : va_P (dC, dI) vwCl [(h0, .inr (0, [.int fn, .ref hu, .int fo, .ref hm, .int fa, .int fx, .int fy, .int fs, .int (f_X1_setFlag_fp fp 1 0), .int fc, .int fd, .int fb, .long fz]))] H := hP
      have hD : va_D A [(h0, .inr (0, [.int fn, .ref hu, .int fo, .ref hm, .int fa, .int fx, .int fy, .int fs, .int (f_X1_setFlag_fp fp 1 0), .int fc, .int fd, .int fb, .long fz]))] := hD
      refine lv_iload_n hx hb dX1_changed_130 rfl (lv_at hl 3 rfl) ?_
      refine lv_iconst (v := 1) hx hb dX1_changed_131 (by decide) ?_
      refine lv_ishr hx hb dX1_changed_132 ?_
      refine lv_iload_n hx hb dX1_changed_133 rfl (lv_at hl 0 rfl) ?_
      refine lv_bipush (v := 7) hx hb dX1_changed_134 (by decide) ?_
      refine lv_ishl hx hb dX1_changed_136 ?_
      refine lv_ior hx hb dX1_changed_137 ?_
      have e_fp : (f_X1_changed_fp fp p1 p2) = (f_X1_setFlag_fp fp 1 0) := (((((if_neg c_1)).trans (if_neg c_3)).trans (if_neg c_5)).trans (if_pos c_7)).trans (if_pos c_8)
      have hP9 : va_P (dC, dI) vwCl [(h0, .inr (0, [.int fn, .ref hu, .int fo, .ref hm, .int fa, .int fx, .int fy, .int fs, .int (f_X1_changed_fp fp p1 p2), .int fc, .int fd, .int fb, .long fz]))] H := by rw [e_fp]; exact hP.sub (ws' := [(h0, .inr (0, [.int fn, .ref hu, .int fo, .ref hm, .int fa, .int fx, .int fy, .int fs, .int (f_X1_setFlag_fp fp 1 0), .int fc, .int fd, .int fb, .long fz]))]) [0] rfl
      have hD9 : va_D A [(h0, .inr (0, [.int fn, .ref hu, .int fo, .ref hm, .int fa, .int fx, .int fy, .int fs, .int (f_X1_changed_fp fp p1 p2), .int fc, .int fd, .int fb, .long fz]))] := by rw [e_fp]; exact hD.sub (ws' := [(h0, .inr (0, [.int fn, .ref hu, .int fo, .ref hm, .int fa, .int fx, .int fy, .int fs, .int (f_X1_setFlag_fp fp 1 0), .int fc, .int fd, .int fb, .long fz]))]) [0] (by decide) rfl
      exact W.iret (v := ((p2 >>> ((1 : Int32) &&& 31)) ||| ((fp &&& 1) <<< ((7 : Int32) &&& 31)))) hx hb hr (fun t ht hW => ⟨⟨((p2 >>> ((1 : Int32) &&& 31)) ||| ((fp &&& 1) <<< ((7 : Int32) &&& 31))), (), rfl, Eq.symm (((((if_neg c_1)).trans (if_neg c_3)).trans (if_neg c_5)).trans (if_pos c_7) : (f_X1_changed_r fp p1 p2) = ((p2 >>> ((1 : Int32) &&& 31)) ||| ((fp &&& 1) <<< ((7 : Int32) &&& 31)))), by rw [ht]; exact hP9, hD9⟩, hS.F ht⟩) hS.2.2 dX1_changed_138
    · skip
      refine lv_iconst (v := 1) hx hb dX1_changed_122 (by decide) ?_
      refine lv_goto (tgt := 127) hx hb dX1_changed_123 (by decide) ?_
      refine gc_v (wr := []) (w1 := [(h0, .inr (0, [.int fn, .ref hu, .int fo, .ref hm, .int fa, .int fx, .int fy, .int fs, .int (f_X1_setFlag_fp fp 1 1), .int fc, .int fd, .int fb, .long fz]))]) (gcV (As := [.int 1, .int 1]) (rest := []) ⟨hx, hb, hml, hown, hts⟩ (c_X1_setFlag l dC dI s.heap.size h0 hu hm fn fo fa fx fy fs fp fc fd fb fz 1 1) (cwV 2 hts (gw_V gw_b gm_467 gm_469 gm_18 gm_71 gm_470) rfl rfl rfl (by decide +kernel) ⟨Nat.le_of_ble_eq_true rfl, Nat.le_of_ble_eq_true rfl⟩) hK [] rfl hP hD [0] rfl rfl rfl rfl wX0_k (fun _ _ _ => trivial) rfl rfl hl.1 rfl (lv_room (Nat.le_of_ble_eq_true rfl)) dX1_changed_127 ⟨Nat.le_of_ble_eq_true rfl, Nat.le_of_ble_eq_true rfl⟩) hP hD hS hA [0] [] rfl rfl rfl (by decide) (fun H locs hP hD hS => ?_)
      have hP : va_P (dC, dI) vwCl [(h0, .inr (0, [.int fn, .ref hu, .int fo, .ref hm, .int fa, .int fx, .int fy, .int fs, .int (f_X1_setFlag_fp fp 1 1), .int fc, .int fd, .int fb, .long fz]))] H := hP
      have hD : va_D A [(h0, .inr (0, [.int fn, .ref hu, .int fo, .ref hm, .int fa, .int fx, .int fy, .int fs, .int (f_X1_setFlag_fp fp 1 1), .int fc, .int fd, .int fb, .long fz]))] := hD
      refine lv_iload_n hx hb dX1_changed_130 rfl (lv_at hl 3 rfl) ?_
      refine lv_iconst (v := 1) hx hb dX1_changed_131 (by decide) ?_
      refine lv_ishr hx hb dX1_changed_132 ?_
      refine lv_iload_n hx hb dX1_changed_133 rfl (lv_at hl 0 rfl) ?_
      refine lv_bipush (v := 7) hx hb dX1_changed_134 (by decide) ?_
      refine lv_ishl hx hb dX1_changed_136 ?_
      refine lv_ior hx hb dX1_changed_137 ?_
      have e_fp : (f_X1_changed_fp fp p1 p2) = (f_X1_setFlag_fp fp 1 1) := (((((if_neg c_1)).trans (if_neg c_3)).trans (if_neg c_5)).trans (if_pos c_7)).trans (if_neg c_8)
      have hP9 : va_P (dC, dI) vwCl [(h0, .inr (0, [.int fn, .ref hu, .int fo, .ref hm, .int fa, .int fx, .int fy, .int fs, .int (f_X1_changed_fp fp p1 p2), .int fc, .int fd, .int fb, .long fz]))] H := by rw [e_fp]; exact hP.sub (ws' := [(h0, .inr (0, [.int fn, .ref hu, .int fo, .ref hm, .int fa, .int fx, .int fy, .int fs, .int (f_X1_setFlag_fp fp 1 1), .int fc, .int fd, .int fb, .long fz]))]) [0] rfl
      have hD9 : va_D A [(h0, .inr (0, [.int fn, .ref hu, .int fo, .ref hm, .int fa, .int fx, .int fy, .int fs, .int (f_X1_changed_fp fp p1 p2), .int fc, .int fd, .int fb, .long fz]))] := by rw [e_fp]; exact hD.sub (ws' := [(h0, .inr (0, [.int fn, .ref hu, .int fo, .ref hm, .int fa, .int fx, .int fy, .int fs, .int (f_X1_setFlag_fp fp 1 1), .int fc, .int fd, .int fb, .long fz]))]) [0] (by decide) rfl
      exact W.iret (v := ((p2 >>> ((1 : Int32) &&& 31)) ||| ((fp &&& 1) <<< ((7 : Int32) &&& 31)))) hx hb hr (fun t ht hW => ⟨⟨((p2 >>> ((1 : Int32) &&& 31)) ||| ((fp &&& 1) <<< ((7 : Int32) &&& 31))), (), rfl, Eq.symm (((((if_neg c_1)).trans (if_neg c_3)).trans (if_neg c_5)).trans (if_pos c_7) : (f_X1_changed_r fp p1 p2) = ((p2 >>> ((1 : Int32) &&& 31)) ||| ((fp &&& 1) <<< ((7 : Int32) &&& 31)))), by rw [ht]; exact hP9, hD9⟩, hS.F ht⟩) hS.2.2 dX1_changed_138
  refine sw_by (p := p1 = 52) (fun c_9 => ?_) (fun c_9 => ?_)
  · refine sw_at c_9 ?_
    refine lv_tableIn (tgt := 139) hx hb dX1_changed_8 (by decide) (by decide) rfl (by decide) ?_
    refine lv_iload_n hx hb dX1_changed_139 rfl (lv_at hl 3 rfl) ?_
    refine lv_iconst (v := 1) hx hb dX1_changed_140 (by decide) ?_
    refine lv_isub hx hb dX1_changed_141 ?_
    refine lv_sipush (v := 255) hx hb dX1_changed_142 (by decide) ?_
    refine lv_iand hx hb dX1_changed_145 ?_
    have e_fp : (f_X1_changed_fp fp p1 p2) = fp := ((((if_neg c_1)).trans (if_neg c_3)).trans (if_neg c_5)).trans (if_neg c_7)
    have hP9 : va_P (dC, dI) vwCl [(h0, .inr (0, [.int fn, .ref hu, .int fo, .ref hm, .int fa, .int fx, .int fy, .int fs, .int (f_X1_changed_fp fp p1 p2), .int fc, .int fd, .int fb, .long fz]))] s.heap := by rw [e_fp]; exact hP.sub (ws' := [(h0, .inr (0, [.int fn, .ref hu, .int fo, .ref hm, .int fa, .int fx, .int fy, .int fs, .int fp, .int fc, .int fd, .int fb, .long fz]))]) [0] rfl
    have hD9 : va_D A [(h0, .inr (0, [.int fn, .ref hu, .int fo, .ref hm, .int fa, .int fx, .int fy, .int fs, .int (f_X1_changed_fp fp p1 p2), .int fc, .int fd, .int fb, .long fz]))] := by rw [e_fp]; exact hD.sub (ws' := [(h0, .inr (0, [.int fn, .ref hu, .int fo, .ref hm, .int fa, .int fx, .int fy, .int fs, .int fp, .int fc, .int fd, .int fb, .long fz]))]) [0] (by decide) rfl
    exact W.iret (v := ((p2 - 1) &&& 255)) hx hb hr (fun t ht hW => ⟨⟨((p2 - 1) &&& 255), (), rfl, Eq.symm ((((((if_neg c_1)).trans (if_neg c_3)).trans (if_neg c_5)).trans (if_neg c_7)).trans (if_pos c_9) : (f_X1_changed_r fp p1 p2) = ((p2 - 1) &&& 255)), by rw [ht]; exact hP9, hD9⟩, hS.F ht⟩) hS.2.2 dX1_changed_146
  refine lv_tableOut (tgt := 147) hx hb dX1_changed_8 (sw_range (fun v h1 h2 => by rcases (show v = 48 ∨ v = 49 ∨ v = 50 ∨ v = 51 ∨ v = 52 by omega) with rfl | rfl | rfl | rfl | rfl; (· exact c_1); (· exact c_3); (· exact c_5); (· exact c_7); (· exact c_9))) (by decide) ?_
  refine lv_iload_n hx hb dX1_changed_147 rfl (lv_at hl 3 rfl) ?_
  refine lv_iconst (v := 1) hx hb dX1_changed_148 (by decide) ?_
  refine lv_iadd hx hb dX1_changed_149 ?_
  refine lv_sipush (v := 255) hx hb dX1_changed_150 (by decide) ?_
  refine lv_iand hx hb dX1_changed_153 ?_
  have e_fp : (f_X1_changed_fp fp p1 p2) = fp := ((((if_neg c_1)).trans (if_neg c_3)).trans (if_neg c_5)).trans (if_neg c_7)
  have hP9 : va_P (dC, dI) vwCl [(h0, .inr (0, [.int fn, .ref hu, .int fo, .ref hm, .int fa, .int fx, .int fy, .int fs, .int (f_X1_changed_fp fp p1 p2), .int fc, .int fd, .int fb, .long fz]))] s.heap := by rw [e_fp]; exact hP.sub (ws' := [(h0, .inr (0, [.int fn, .ref hu, .int fo, .ref hm, .int fa, .int fx, .int fy, .int fs, .int fp, .int fc, .int fd, .int fb, .long fz]))]) [0] rfl
  have hD9 : va_D A [(h0, .inr (0, [.int fn, .ref hu, .int fo, .ref hm, .int fa, .int fx, .int fy, .int fs, .int (f_X1_changed_fp fp p1 p2), .int fc, .int fd, .int fb, .long fz]))] := by rw [e_fp]; exact hD.sub (ws' := [(h0, .inr (0, [.int fn, .ref hu, .int fo, .ref hm, .int fa, .int fx, .int fy, .int fs, .int fp, .int fc, .int fd, .int fb, .long fz]))]) [0] (by decide) rfl
  exact W.iret (v := ((p2 + 1) &&& 255)) hx hb hr (fun t ht hW => ⟨⟨((p2 + 1) &&& 255), (), rfl, Eq.symm ((((((if_neg c_1)).trans (if_neg c_3)).trans (if_neg c_5)).trans (if_neg c_7)).trans (if_neg c_9) : (f_X1_changed_r fp p1 p2) = ((p2 + 1) &&& 255)), by rw [ht]; exact hP9, hD9⟩, hS.F ht⟩) hS.2.2 dX1_changed_154

def f_X1_move_fa (fa : Int32) (fx : Int32) (fy : Int32) (p1 : Int32) : Int32 := (if p1 = 64 then fa else (if p1 = 65 then fa else (if p1 = 66 then (f_X1_shown_r fx) else (if p1 = 67 then (f_X1_shown_r fy) else fa))))
def f_X1_move_fx (fa : Int32) (fx : Int32) (fs : Int32) (p1 : Int32) : Int32 := (if p1 = 64 then (f_X1_shown_r fa) else (if p1 = 65 then fx else (if p1 = 66 then fx else (if p1 = 67 then fx else (if p1 = 68 then (f_X1_shown_r fs) else (if p1 = 69 then fx else (if p1 = 70 then (f_X1_shown_r ((fx + 1) &&& 255)) else (if p1 = 71 then fx else (if p1 = 72 then (f_X1_shown_r ((fx - 1) &&& 255)) else fx)))))))))
def f_X1_move_fy (fa : Int32) (fy : Int32) (p1 : Int32) : Int32 := (if p1 = 64 then fy else (if p1 = 65 then (f_X1_shown_r fa) else (if p1 = 66 then fy else (if p1 = 67 then fy else (if p1 = 68 then fy else (if p1 = 69 then fy else (if p1 = 70 then fy else (if p1 = 71 then (f_X1_shown_r ((fy + 1) &&& 255)) else (if p1 = 72 then fy else (if p1 = 73 then (f_X1_shown_r ((fy - 1) &&& 255)) else fy))))))))))
def f_X1_move_fs (fx : Int32) (fs : Int32) (p1 : Int32) : Int32 := (if p1 = 64 then fs else (if p1 = 65 then fs else (if p1 = 66 then fs else (if p1 = 67 then fs else (if p1 = 68 then fs else (if p1 = 69 then fx else fs))))))
def f_X1_move_fp (fa : Int32) (fx : Int32) (fy : Int32) (fs : Int32) (fp : Int32) (p1 : Int32) : Int32 := (if p1 = 64 then (f_X1_shown_fp fp fa) else (if p1 = 65 then (f_X1_shown_fp fp fa) else (if p1 = 66 then (f_X1_shown_fp fp fx) else (if p1 = 67 then (f_X1_shown_fp fp fy) else (if p1 = 68 then (f_X1_shown_fp fp fs) else (if p1 = 69 then fp else (if p1 = 70 then (f_X1_shown_fp fp ((fx + 1) &&& 255)) else (if p1 = 71 then (f_X1_shown_fp fp ((fy + 1) &&& 255)) else (if p1 = 72 then (f_X1_shown_fp fp ((fx - 1) &&& 255)) else (if p1 = 73 then (f_X1_shown_fp fp ((fy - 1) &&& 255)) else fp))))))))))
set_option maxHeartbeats 4000000 in
set_option maxRecDepth 100000 in
/-- X1_move -/
theorem c_X1_move (l : Launch) (dC : Nat → ClassId) (dI : Nat → Nat → Nat) (sz : Nat) (h0 : Nat) (hu : Nat) (hm : Nat) (fn : Int32) (fo : Int32) (fa : Int32) (fx : Int32) (fy : Int32) (fs : Int32) (fp : Int32) (fc : Int32) (fd : Int32) (fb : Int32) (fz : Int64) (p1 : Int32)  : Met l yX1_move (Cond.code yX1_move cX1_move 2 none :: gw) { frames := 1, cells := 0, slots := 0, locals := 22 } (va_Pc [.ref h0, .int p1] (wPre (dC, dI) [] [(h0, .inr (0, [.int fn, .ref hu, .int fo, .ref hm, .int fa, .int fx, .int fy, .int fs, .int fp, .int fc, .int fd, .int fb, .long fz]))] sz wX0)) (va_Qv (fun _ : Unit => True) (fun _ t => wPost (dC, dI) (va_A [(h0, .inr (0, [.int fn, .ref hu, .int fo, .ref hm, .int fa, .int fx, .int fy, .int fs, .int fp, .int fc, .int fd, .int fb, .long fz]))] sz) [(h0, .inr (0, [.int fn, .ref hu, .int fo, .ref hm, .int (f_X1_move_fa fa fx fy p1), .int (f_X1_move_fx fa fx fs p1), .int (f_X1_move_fy fa fy p1), .int (f_X1_move_fs fx fs p1), .int (f_X1_move_fp fa fx fy fs fp p1), .int fc, .int fd, .int fb, .long fz]))] t) (va_A [(h0, .inr (0, [.int fn, .ref hu, .int fo, .ref hm, .int fa, .int fx, .int fy, .int fs, .int fp, .int fc, .int fd, .int fb, .long fz]))] sz)) 0 0 (va_A [(h0, .inr (0, [.int fn, .ref hu, .int fo, .ref hm, .int fa, .int fx, .int fy, .int fs, .int fp, .int fc, .int fd, .int fb, .long fz]))] sz) := by
  refine Met.ofW (cc := cX1_move) (maxL := 2) (ret := none) (by decide) rfl ?_
  intro p e s m args below meth c s₁ B hml hv
  obtain ⟨rfl, hsz, hP, hK, hD0, hXX⟩ := hv
  have hx := B.exec
  have hb := B.bytes
  have hr := B.returns
  have hts := atoms_spec (ws := (Cond.code yX1_move cX1_move 2 none :: gw)) B.pre
  have hown : s.vm.findClass RX1 = some m.cls := findClass_of_methodNamed B.named
  have hlocks := B.notSynchronized
  subst hsz
  have hD := hD0.self (sz := s.heap.size)
  generalize hAe : va_A [(h0, .inr (0, [.int fn, .ref hu, .int fo, .ref hm, .int fa, .int fx, .int fy, .int fs, .int fp, .int fc, .int fd, .int fb, .long fz]))] s.heap.size = A at hD ⊢
  have hA : ∀ q : Nat, s.heap.size ≤ q → A q := fun q h => by rw [← hAe]; exact Or.inr h
  have hS : va_S A s.heap s.heap [] := va_S.rf
  have hl := lv_entry ([.ref h0, .int p1]) (n := 2) (Nat.le_of_ble_eq_true rfl)
  rw [lg_entry_eq]
  generalize (lg_sl ([.ref h0, .int p1]) ++ List.replicate (2 - (lg_sl ([.ref h0, .int p1])).length) Slot.unset).toArray = ls at hl ⊢
  have hl : lv_has ls 2 [(0, .ref h0), (1, .int p1)] := hl
  refine lv_iload_n hx hb dX1_move_0 rfl (lv_at hl 1 rfl) ?_
  refine sw_by (p := p1 = 64) (fun c_1 => ?_) (fun c_1 => ?_)
  · refine sw_at c_1 ?_
    refine lv_tableIn (tgt := 56) hx hb dX1_move_1 (by decide) (by decide) rfl (by decide) ?_
    refine lv_aload_n hx hb dX1_move_56 rfl (lv_at hl 0 rfl) ?_
    refine lv_aload_n hx hb dX1_move_57 rfl (lv_at hl 0 rfl) ?_
    refine lv_aload_n hx hb dX1_move_58 rfl (lv_at hl 0 rfl) ?_
    refine va_get (D := (dC, dI)) (ci := 0) (v := .int fa) (C := RX1) (T := TX1) (N := 13) hx hb hts (fun w h => gw_b w (iX1 w h)) hown hK hP 0 rfl rfl 4 (by decide) (hts _ (gw_b _ gm_144)) (fun _ h9 => h9) rfl dX1_move_59 ?_
    refine gc_i (wr := []) (w1 := [(h0, .inr (0, [.int fn, .ref hu, .int fo, .ref hm, .int fa, .int fx, .int fy, .int fs, .int (f_X1_shown_fp fp fa), .int fc, .int fd, .int fb, .long fz]))]) (gcV (As := [.int fa]) (rest := [.ref h0]) ⟨hx, hb, hml, hown, hts⟩ (c_X1_shown l dC dI s.heap.size h0 hu hm fn fo fa fx fy fs fp fc fd fb fz fa) (cwV 1 hts (gw_V gw_b gm_459 gm_461 gm_16 gm_71 gm_462) rfl rfl rfl (by decide +kernel) ⟨Nat.le_of_ble_eq_true rfl, Nat.le_of_ble_eq_true rfl⟩) hK [] rfl hP hD [0] rfl rfl rfl rfl wX0_k (fun _ _ _ => trivial) rfl rfl hl.1 rfl (lv_room (Nat.le_of_ble_eq_true rfl)) dX1_move_62 ⟨Nat.le_of_ble_eq_true rfl, Nat.le_of_ble_eq_true rfl⟩) hP hD hS hA [0] [] rfl rfl rfl (by decide) (fun H locs hP hD hS => ?_)
    have hP : va_P (dC, dI) vwCl [(h0, .inr (0, [.int fn, .ref hu, .int fo, .ref hm, .int fa, .int fx, .int fy, .int fs, .int (f_X1_shown_fp fp fa), .int fc, .int fd, .int fb, .long fz]))] H := hP
    have hD : va_D A [(h0, .inr (0, [.int fn, .ref hu, .int fo, .ref hm, .int fa, .int fx, .int fy, .int fs, .int (f_X1_shown_fp fp fa), .int fc, .int fd, .int fb, .long fz]))] := hD
    refine va_put (D := (dC, dI)) (ci := 0) (v := .int (f_X1_shown_r fa)) (ty := tyX1 5) (C := RX1) (T := TX1) (N := 13) hx hb hts (fun w h => gw_b w (iX1 w h)) tyX1 tyX1_ok nmX1 hown hK hP hD hS 0 rfl rfl 5 (by decide) (hts _ (gw_b _ gm_145)) (fun _ h9 => h9) rfl (tyX1_ok 5 (by decide)) rfl rfl (Nat.le_of_ble_eq_true rfl) dX1_move_65 (fun H locs hP hD hS => ?_)
    have hP : va_P (dC, dI) vwCl [(h0, .inr (0, [.int fn, .ref hu, .int fo, .ref hm, .int fa, .int (f_X1_shown_r fa), .int fy, .int fs, .int (f_X1_shown_fp fp fa), .int fc, .int fd, .int fb, .long fz]))] H := hP
    have hD : va_D A [(h0, .inr (0, [.int fn, .ref hu, .int fo, .ref hm, .int fa, .int (f_X1_shown_r fa), .int fy, .int fs, .int (f_X1_shown_fp fp fa), .int fc, .int fd, .int fb, .long fz]))] := hD
    refine lv_goto (tgt := 226) hx hb dX1_move_68 (by decide) ?_
    have e_fa : (f_X1_move_fa fa fx fy p1) = fa := (if_pos c_1)
    have e_fx : (f_X1_move_fx fa fx fs p1) = (f_X1_shown_r fa) := (if_pos c_1)
    have e_fy : (f_X1_move_fy fa fy p1) = fy := (if_pos c_1)
    have e_fs : (f_X1_move_fs fx fs p1) = fs := (if_pos c_1)
    have e_fp : (f_X1_move_fp fa fx fy fs fp p1) = (f_X1_shown_fp fp fa) := (if_pos c_1)
    have hP9 : va_P (dC, dI) vwCl [(h0, .inr (0, [.int fn, .ref hu, .int fo, .ref hm, .int (f_X1_move_fa fa fx fy p1), .int (f_X1_move_fx fa fx fs p1), .int (f_X1_move_fy fa fy p1), .int (f_X1_move_fs fx fs p1), .int (f_X1_move_fp fa fx fy fs fp p1), .int fc, .int fd, .int fb, .long fz]))] H := by rw [e_fa, e_fx, e_fy, e_fs, e_fp]; exact hP.sub (ws' := [(h0, .inr (0, [.int fn, .ref hu, .int fo, .ref hm, .int fa, .int (f_X1_shown_r fa), .int fy, .int fs, .int (f_X1_shown_fp fp fa), .int fc, .int fd, .int fb, .long fz]))]) [0] rfl
    have hD9 : va_D A [(h0, .inr (0, [.int fn, .ref hu, .int fo, .ref hm, .int (f_X1_move_fa fa fx fy p1), .int (f_X1_move_fx fa fx fs p1), .int (f_X1_move_fy fa fy p1), .int (f_X1_move_fs fx fs p1), .int (f_X1_move_fp fa fx fy fs fp p1), .int fc, .int fd, .int fb, .long fz]))] := by rw [e_fa, e_fx, e_fy, e_fs, e_fp]; exact hD.sub (ws' := [(h0, .inr (0, [.int fn, .ref hu, .int fo, .ref hm, .int fa, .int (f_X1_shown_r fa), .int fy, .int fs, .int (f_X1_shown_fp fp fa), .int fc, .int fd, .int fb, .long fz]))]) [0] (by decide) rfl
    exact W.vret hx hb hr (fun t ht hW => ⟨⟨(), rfl, trivial, by rw [ht]; exact hP9, hD9⟩, hS.F ht⟩) hS.2.2 dX1_move_226
  refine sw_by (p := p1 = 65) (fun c_2 => ?_) (fun c_2 => ?_)
  · refine sw_at c_2 ?_
    refine lv_tableIn (tgt := 71) hx hb dX1_move_1 (by decide) (by decide) rfl (by decide) ?_
    refine lv_aload_n hx hb dX1_move_71 rfl (lv_at hl 0 rfl) ?_
    refine lv_aload_n hx hb dX1_move_72 rfl (lv_at hl 0 rfl) ?_
    refine lv_aload_n hx hb dX1_move_73 rfl (lv_at hl 0 rfl) ?_
    refine va_get (D := (dC, dI)) (ci := 0) (v := .int fa) (C := RX1) (T := TX1) (N := 13) hx hb hts (fun w h => gw_b w (iX1 w h)) hown hK hP 0 rfl rfl 4 (by decide) (hts _ (gw_b _ gm_144)) (fun _ h9 => h9) rfl dX1_move_74 ?_
    refine gc_i (wr := []) (w1 := [(h0, .inr (0, [.int fn, .ref hu, .int fo, .ref hm, .int fa, .int fx, .int fy, .int fs, .int (f_X1_shown_fp fp fa), .int fc, .int fd, .int fb, .long fz]))]) (gcV (As := [.int fa]) (rest := [.ref h0]) ⟨hx, hb, hml, hown, hts⟩ (c_X1_shown l dC dI s.heap.size h0 hu hm fn fo fa fx fy fs fp fc fd fb fz fa) (cwV 1 hts (gw_V gw_b gm_459 gm_461 gm_16 gm_71 gm_462) rfl rfl rfl (by decide +kernel) ⟨Nat.le_of_ble_eq_true rfl, Nat.le_of_ble_eq_true rfl⟩) hK [] rfl hP hD [0] rfl rfl rfl rfl wX0_k (fun _ _ _ => trivial) rfl rfl hl.1 rfl (lv_room (Nat.le_of_ble_eq_true rfl)) dX1_move_77 ⟨Nat.le_of_ble_eq_true rfl, Nat.le_of_ble_eq_true rfl⟩) hP hD hS hA [0] [] rfl rfl rfl (by decide) (fun H locs hP hD hS => ?_)
    have hP : va_P (dC, dI) vwCl [(h0, .inr (0, [.int fn, .ref hu, .int fo, .ref hm, .int fa, .int fx, .int fy, .int fs, .int (f_X1_shown_fp fp fa), .int fc, .int fd, .int fb, .long fz]))] H := hP
    have hD : va_D A [(h0, .inr (0, [.int fn, .ref hu, .int fo, .ref hm, .int fa, .int fx, .int fy, .int fs, .int (f_X1_shown_fp fp fa), .int fc, .int fd, .int fb, .long fz]))] := hD
    refine va_put (D := (dC, dI)) (ci := 0) (v := .int (f_X1_shown_r fa)) (ty := tyX1 6) (C := RX1) (T := TX1) (N := 13) hx hb hts (fun w h => gw_b w (iX1 w h)) tyX1 tyX1_ok nmX1 hown hK hP hD hS 0 rfl rfl 6 (by decide) (hts _ (gw_b _ gm_146)) (fun _ h9 => h9) rfl (tyX1_ok 6 (by decide)) rfl rfl (Nat.le_of_ble_eq_true rfl) dX1_move_80 (fun H locs hP hD hS => ?_)
    have hP : va_P (dC, dI) vwCl [(h0, .inr (0, [.int fn, .ref hu, .int fo, .ref hm, .int fa, .int fx, .int (f_X1_shown_r fa), .int fs, .int (f_X1_shown_fp fp fa), .int fc, .int fd, .int fb, .long fz]))] H := hP
    have hD : va_D A [(h0, .inr (0, [.int fn, .ref hu, .int fo, .ref hm, .int fa, .int fx, .int (f_X1_shown_r fa), .int fs, .int (f_X1_shown_fp fp fa), .int fc, .int fd, .int fb, .long fz]))] := hD
    refine lv_goto (tgt := 226) hx hb dX1_move_83 (by decide) ?_
    have e_fa : (f_X1_move_fa fa fx fy p1) = fa := ((if_neg c_1)).trans (if_pos c_2)
    have e_fx : (f_X1_move_fx fa fx fs p1) = fx := ((if_neg c_1)).trans (if_pos c_2)
    have e_fy : (f_X1_move_fy fa fy p1) = (f_X1_shown_r fa) := ((if_neg c_1)).trans (if_pos c_2)
    have e_fs : (f_X1_move_fs fx fs p1) = fs := ((if_neg c_1)).trans (if_pos c_2)
    have e_fp : (f_X1_move_fp fa fx fy fs fp p1) = (f_X1_shown_fp fp fa) := ((if_neg c_1)).trans (if_pos c_2)
    have hP9 : va_P (dC, dI) vwCl [(h0, .inr (0, [.int fn, .ref hu, .int fo, .ref hm, .int (f_X1_move_fa fa fx fy p1), .int (f_X1_move_fx fa fx fs p1), .int (f_X1_move_fy fa fy p1), .int (f_X1_move_fs fx fs p1), .int (f_X1_move_fp fa fx fy fs fp p1), .int fc, .int fd, .int fb, .long fz]))] H := by rw [e_fa, e_fx, e_fy, e_fs, e_fp]; exact hP.sub (ws' := [(h0, .inr (0, [.int fn, .ref hu, .int fo, .ref hm, .int fa, .int fx, .int (f_X1_shown_r fa), .int fs, .int (f_X1_shown_fp fp fa), .int fc, .int fd, .int fb, .long fz]))]) [0] rfl
    have hD9 : va_D A [(h0, .inr (0, [.int fn, .ref hu, .int fo, .ref hm, .int (f_X1_move_fa fa fx fy p1), .int (f_X1_move_fx fa fx fs p1), .int (f_X1_move_fy fa fy p1), .int (f_X1_move_fs fx fs p1), .int (f_X1_move_fp fa fx fy fs fp p1), .int fc, .int fd, .int fb, .long fz]))] := by rw [e_fa, e_fx, e_fy, e_fs, e_fp]; exact hD.sub (ws' := [(h0, .inr (0, [.int fn, .ref hu, .int fo, .ref hm, .int fa, .int fx, .int (f_X1_shown_r fa), .int fs, .int (f_X1_shown_fp fp fa), .int fc, .int fd, .int fb, .long fz]))]) [0] (by decide) rfl
    exact W.vret hx hb hr (fun t ht hW => ⟨⟨(), rfl, trivial, by rw [ht]; exact hP9, hD9⟩, hS.F ht⟩) hS.2.2 dX1_move_226
  refine sw_by (p := p1 = 66) (fun c_3 => ?_) (fun c_3 => ?_)
  · refine sw_at c_3 ?_
    refine lv_tableIn (tgt := 86) hx hb dX1_move_1 (by decide) (by decide) rfl (by decide) ?_
    refine lv_aload_n hx hb dX1_move_86 rfl (lv_at hl 0 rfl) ?_
    refine lv_aload_n hx hb dX1_move_87 rfl (lv_at hl 0 rfl) ?_
    refine lv_aload_n hx hb dX1_move_88 rfl (lv_at hl 0 rfl) ?_
    refine va_get (D := (dC, dI)) (ci := 0) (v := .int fx) (C := RX1) (T := TX1) (N := 13) hx hb hts (fun w h => gw_b w (iX1 w h)) hown hK hP 0 rfl rfl 5 (by decide) (hts _ (gw_b _ gm_145)) (fun _ h9 => h9) rfl dX1_move_89 ?_
    refine gc_i (wr := []) (w1 := [(h0, .inr (0, [.int fn, .ref hu, .int fo, .ref hm, .int fa, .int fx, .int fy, .int fs, .int (f_X1_shown_fp fp fx), .int fc, .int fd, .int fb, .long fz]))]) (gcV (As := [.int fx]) (rest := [.ref h0]) ⟨hx, hb, hml, hown, hts⟩ (c_X1_shown l dC dI s.heap.size h0 hu hm fn fo fa fx fy fs fp fc fd fb fz fx) (cwV 1 hts (gw_V gw_b gm_459 gm_461 gm_16 gm_71 gm_462) rfl rfl rfl (by decide +kernel) ⟨Nat.le_of_ble_eq_true rfl, Nat.le_of_ble_eq_true rfl⟩) hK [] rfl hP hD [0] rfl rfl rfl rfl wX0_k (fun _ _ _ => trivial) rfl rfl hl.1 rfl (lv_room (Nat.le_of_ble_eq_true rfl)) dX1_move_92 ⟨Nat.le_of_ble_eq_true rfl, Nat.le_of_ble_eq_true rfl⟩) hP hD hS hA [0] [] rfl rfl rfl (by decide) (fun H locs hP hD hS => ?_)
    have hP : va_P (dC, dI) vwCl [(h0, .inr (0, [.int fn, .ref hu, .int fo, .ref hm, .int fa, .int fx, .int fy, .int fs, .int (f_X1_shown_fp fp fx), .int fc, .int fd, .int fb, .long fz]))] H := hP
    have hD : va_D A [(h0, .inr (0, [.int fn, .ref hu, .int fo, .ref hm, .int fa, .int fx, .int fy, .int fs, .int (f_X1_shown_fp fp fx), .int fc, .int fd, .int fb, .long fz]))] := hD
    refine va_put (D := (dC, dI)) (ci := 0) (v := .int (f_X1_shown_r fx)) (ty := tyX1 4) (C := RX1) (T := TX1) (N := 13) hx hb hts (fun w h => gw_b w (iX1 w h)) tyX1 tyX1_ok nmX1 hown hK hP hD hS 0 rfl rfl 4 (by decide) (hts _ (gw_b _ gm_144)) (fun _ h9 => h9) rfl (tyX1_ok 4 (by decide)) rfl rfl (Nat.le_of_ble_eq_true rfl) dX1_move_95 (fun H locs hP hD hS => ?_)
    have hP : va_P (dC, dI) vwCl [(h0, .inr (0, [.int fn, .ref hu, .int fo, .ref hm, .int (f_X1_shown_r fx), .int fx, .int fy, .int fs, .int (f_X1_shown_fp fp fx), .int fc, .int fd, .int fb, .long fz]))] H := hP
    have hD : va_D A [(h0, .inr (0, [.int fn, .ref hu, .int fo, .ref hm, .int (f_X1_shown_r fx), .int fx, .int fy, .int fs, .int (f_X1_shown_fp fp fx), .int fc, .int fd, .int fb, .long fz]))] := hD
    refine lv_goto (tgt := 226) hx hb dX1_move_98 (by decide) ?_
    have e_fa : (f_X1_move_fa fa fx fy p1) = (f_X1_shown_r fx) := (((if_neg c_1)).trans (if_neg c_2)).trans (if_pos c_3)
    have e_fx : (f_X1_move_fx fa fx fs p1) = fx := (((if_neg c_1)).trans (if_neg c_2)).trans (if_pos c_3)
    have e_fy : (f_X1_move_fy fa fy p1) = fy := (((if_neg c_1)).trans (if_neg c_2)).trans (if_pos c_3)
    have e_fs : (f_X1_move_fs fx fs p1) = fs := (((if_neg c_1)).trans (if_neg c_2)).trans (if_pos c_3)
    have e_fp : (f_X1_move_fp fa fx fy fs fp p1) = (f_X1_shown_fp fp fx) := (((if_neg c_1)).trans (if_neg c_2)).trans (if_pos c_3)
    have hP9 : va_P (dC, dI) vwCl [(h0, .inr (0, [.int fn, .ref hu, .int fo, .ref hm, .int (f_X1_move_fa fa fx fy p1), .int (f_X1_move_fx fa fx fs p1), .int (f_X1_move_fy fa fy p1), .int (f_X1_move_fs fx fs p1), .int (f_X1_move_fp fa fx fy fs fp p1), .int fc, .int fd, .int fb, .long fz]))] H := by rw [e_fa, e_fx, e_fy, e_fs, e_fp]; exact hP.sub (ws' := [(h0, .inr (0, [.int fn, .ref hu, .int fo, .ref hm, .int (f_X1_shown_r fx), .int fx, .int fy, .int fs, .int (f_X1_shown_fp fp fx), .int fc, .int fd, .int fb, .long fz]))]) [0] rfl
    have hD9 : va_D A [(h0, .inr (0, [.int fn, .ref hu, .int fo, .ref hm, .int (f_X1_move_fa fa fx fy p1), .int (f_X1_move_fx fa fx fs p1), .int (f_X1_move_fy fa fy p1), .int (f_X1_move_fs fx fs p1), .int (f_X1_move_fp fa fx fy fs fp p1), .int fc, .int fd, .int fb, .long fz]))] := by rw [e_fa, e_fx, e_fy, e_fs, e_fp]; exact hD.sub (ws' := [(h0, .inr (0, [.int fn, .ref hu, .int fo, .ref hm, .int (f_X1_shown_r fx), .int fx, .int fy, .int fs, .int (f_X1_shown_fp fp fx), .int fc, .int fd, .int fb, .long fz]))]) [0] (by decide) rfl
    exact W.vret hx hb hr (fun t ht hW => ⟨⟨(), rfl, trivial, by rw [ht]; exact hP9, hD9⟩, hS.F ht⟩) hS.2.2 dX1_move_226
  refine sw_by (p := p1 = 67) (fun c_4 => ?_) (fun c_4 => ?_)
  · refine sw_at c_4 ?_
    refine lv_tableIn (tgt := 101) hx hb dX1_move_1 (by decide) (by decide) rfl (by decide) ?_
    refine lv_aload_n hx hb dX1_move_101 rfl (lv_at hl 0 rfl) ?_
    refine lv_aload_n hx hb dX1_move_102 rfl (lv_at hl 0 rfl) ?_
    refine lv_aload_n hx hb dX1_move_103 rfl (lv_at hl 0 rfl) ?_
    refine va_get (D := (dC, dI)) (ci := 0) (v := .int fy) (C := RX1) (T := TX1) (N := 13) hx hb hts (fun w h => gw_b w (iX1 w h)) hown hK hP 0 rfl rfl 6 (by decide) (hts _ (gw_b _ gm_146)) (fun _ h9 => h9) rfl dX1_move_104 ?_
    refine gc_i (wr := []) (w1 := [(h0, .inr (0, [.int fn, .ref hu, .int fo, .ref hm, .int fa, .int fx, .int fy, .int fs, .int (f_X1_shown_fp fp fy), .int fc, .int fd, .int fb, .long fz]))]) (gcV (As := [.int fy]) (rest := [.ref h0]) ⟨hx, hb, hml, hown, hts⟩ (c_X1_shown l dC dI s.heap.size h0 hu hm fn fo fa fx fy fs fp fc fd fb fz fy) (cwV 1 hts (gw_V gw_b gm_459 gm_461 gm_16 gm_71 gm_462) rfl rfl rfl (by decide +kernel) ⟨Nat.le_of_ble_eq_true rfl, Nat.le_of_ble_eq_true rfl⟩) hK [] rfl hP hD [0] rfl rfl rfl rfl wX0_k (fun _ _ _ => trivial) rfl rfl hl.1 rfl (lv_room (Nat.le_of_ble_eq_true rfl)) dX1_move_107 ⟨Nat.le_of_ble_eq_true rfl, Nat.le_of_ble_eq_true rfl⟩) hP hD hS hA [0] [] rfl rfl rfl (by decide) (fun H locs hP hD hS => ?_)
    have hP : va_P (dC, dI) vwCl [(h0, .inr (0, [.int fn, .ref hu, .int fo, .ref hm, .int fa, .int fx, .int fy, .int fs, .int (f_X1_shown_fp fp fy), .int fc, .int fd, .int fb, .long fz]))] H := hP
    have hD : va_D A [(h0, .inr (0, [.int fn, .ref hu, .int fo, .ref hm, .int fa, .int fx, .int fy, .int fs, .int (f_X1_shown_fp fp fy), .int fc, .int fd, .int fb, .long fz]))] := hD
    refine va_put (D := (dC, dI)) (ci := 0) (v := .int (f_X1_shown_r fy)) (ty := tyX1 4) (C := RX1) (T := TX1) (N := 13) hx hb hts (fun w h => gw_b w (iX1 w h)) tyX1 tyX1_ok nmX1 hown hK hP hD hS 0 rfl rfl 4 (by decide) (hts _ (gw_b _ gm_144)) (fun _ h9 => h9) rfl (tyX1_ok 4 (by decide)) rfl rfl (Nat.le_of_ble_eq_true rfl) dX1_move_110 (fun H locs hP hD hS => ?_)
    have hP : va_P (dC, dI) vwCl [(h0, .inr (0, [.int fn, .ref hu, .int fo, .ref hm, .int (f_X1_shown_r fy), .int fx, .int fy, .int fs, .int (f_X1_shown_fp fp fy), .int fc, .int fd, .int fb, .long fz]))] H := hP
    have hD : va_D A [(h0, .inr (0, [.int fn, .ref hu, .int fo, .ref hm, .int (f_X1_shown_r fy), .int fx, .int fy, .int fs, .int (f_X1_shown_fp fp fy), .int fc, .int fd, .int fb, .long fz]))] := hD
    refine lv_goto (tgt := 226) hx hb dX1_move_113 (by decide) ?_
    have e_fa : (f_X1_move_fa fa fx fy p1) = (f_X1_shown_r fy) := ((((if_neg c_1)).trans (if_neg c_2)).trans (if_neg c_3)).trans (if_pos c_4)
    have e_fx : (f_X1_move_fx fa fx fs p1) = fx := ((((if_neg c_1)).trans (if_neg c_2)).trans (if_neg c_3)).trans (if_pos c_4)
    have e_fy : (f_X1_move_fy fa fy p1) = fy := ((((if_neg c_1)).trans (if_neg c_2)).trans (if_neg c_3)).trans (if_pos c_4)
    have e_fs : (f_X1_move_fs fx fs p1) = fs := ((((if_neg c_1)).trans (if_neg c_2)).trans (if_neg c_3)).trans (if_pos c_4)
    have e_fp : (f_X1_move_fp fa fx fy fs fp p1) = (f_X1_shown_fp fp fy) := ((((if_neg c_1)).trans (if_neg c_2)).trans (if_neg c_3)).trans (if_pos c_4)
    have hP9 : va_P (dC, dI) vwCl [(h0, .inr (0, [.int fn, .ref hu, .int fo, .ref hm, .int (f_X1_move_fa fa fx fy p1), .int (f_X1_move_fx fa fx fs p1), .int (f_X1_move_fy fa fy p1), .int (f_X1_move_fs fx fs p1), .int (f_X1_move_fp fa fx fy fs fp p1), .int fc, .int fd, .int fb, .long fz]))] H := by rw [e_fa, e_fx, e_fy, e_fs, e_fp]; exact hP.sub (ws' := [(h0, .inr (0, [.int fn, .ref hu, .int fo, .ref hm, .int (f_X1_shown_r fy), .int fx, .int fy, .int fs, .int (f_X1_shown_fp fp fy), .int fc, .int fd, .int fb, .long fz]))]) [0] rfl
    have hD9 : va_D A [(h0, .inr (0, [.int fn, .ref hu, .int fo, .ref hm, .int (f_X1_move_fa fa fx fy p1), .int (f_X1_move_fx fa fx fs p1), .int (f_X1_move_fy fa fy p1), .int (f_X1_move_fs fx fs p1), .int (f_X1_move_fp fa fx fy fs fp p1), .int fc, .int fd, .int fb, .long fz]))] := by rw [e_fa, e_fx, e_fy, e_fs, e_fp]; exact hD.sub (ws' := [(h0, .inr (0, [.int fn, .ref hu, .int fo, .ref hm, .int (f_X1_shown_r fy), .int fx, .int fy, .int fs, .int (f_X1_shown_fp fp fy), .int fc, .int fd, .int fb, .long fz]))]) [0] (by decide) rfl
    exact W.vret hx hb hr (fun t ht hW => ⟨⟨(), rfl, trivial, by rw [ht]; exact hP9, hD9⟩, hS.F ht⟩) hS.2.2 dX1_move_226
  refine sw_by (p := p1 = 68) (fun c_5 => ?_) (fun c_5 => ?_)
  · refine sw_at c_5 ?_
    refine lv_tableIn (tgt := 116) hx hb dX1_move_1 (by decide) (by decide) rfl (by decide) ?_
    refine lv_aload_n hx hb dX1_move_116 rfl (lv_at hl 0 rfl) ?_
    refine lv_aload_n hx hb dX1_move_117 rfl (lv_at hl 0 rfl) ?_
    refine lv_aload_n hx hb dX1_move_118 rfl (lv_at hl 0 rfl) ?_
    refine va_get (D := (dC, dI)) (ci := 0) (v := .int fs) (C := RX1) (T := TX1) (N := 13) hx hb hts (fun w h => gw_b w (iX1 w h)) hown hK hP 0 rfl rfl 7 (by decide) (hts _ (gw_b _ gm_147)) (fun _ h9 => h9) rfl dX1_move_119 ?_
    refine gc_i (wr := []) (w1 := [(h0, .inr (0, [.int fn, .ref hu, .int fo, .ref hm, .int fa, .int fx, .int fy, .int fs, .int (f_X1_shown_fp fp fs), .int fc, .int fd, .int fb, .long fz]))]) (gcV (As := [.int fs]) (rest := [.ref h0]) ⟨hx, hb, hml, hown, hts⟩ (c_X1_shown l dC dI s.heap.size h0 hu hm fn fo fa fx fy fs fp fc fd fb fz fs) (cwV 1 hts (gw_V gw_b gm_459 gm_461 gm_16 gm_71 gm_462) rfl rfl rfl (by decide +kernel) ⟨Nat.le_of_ble_eq_true rfl, Nat.le_of_ble_eq_true rfl⟩) hK [] rfl hP hD [0] rfl rfl rfl rfl wX0_k (fun _ _ _ => trivial) rfl rfl hl.1 rfl (lv_room (Nat.le_of_ble_eq_true rfl)) dX1_move_122 ⟨Nat.le_of_ble_eq_true rfl, Nat.le_of_ble_eq_true rfl⟩) hP hD hS hA [0] [] rfl rfl rfl (by decide) (fun H locs hP hD hS => ?_)
    have hP : va_P (dC, dI) vwCl [(h0, .inr (0, [.int fn, .ref hu, .int fo, .ref hm, .int fa, .int fx, .int fy, .int fs, .int (f_X1_shown_fp fp fs), .int fc, .int fd, .int fb, .long fz]))] H := hP
    have hD : va_D A [(h0, .inr (0, [.int fn, .ref hu, .int fo, .ref hm, .int fa, .int fx, .int fy, .int fs, .int (f_X1_shown_fp fp fs), .int fc, .int fd, .int fb, .long fz]))] := hD
    refine va_put (D := (dC, dI)) (ci := 0) (v := .int (f_X1_shown_r fs)) (ty := tyX1 5) (C := RX1) (T := TX1) (N := 13) hx hb hts (fun w h => gw_b w (iX1 w h)) tyX1 tyX1_ok nmX1 hown hK hP hD hS 0 rfl rfl 5 (by decide) (hts _ (gw_b _ gm_145)) (fun _ h9 => h9) rfl (tyX1_ok 5 (by decide)) rfl rfl (Nat.le_of_ble_eq_true rfl) dX1_move_125 (fun H locs hP hD hS => ?_)
    have hP : va_P (dC, dI) vwCl [(h0, .inr (0, [.int fn, .ref hu, .int fo, .ref hm, .int fa, .int (f_X1_shown_r fs), .int fy, .int fs, .int (f_X1_shown_fp fp fs), .int fc, .int fd, .int fb, .long fz]))] H := hP
    have hD : va_D A [(h0, .inr (0, [.int fn, .ref hu, .int fo, .ref hm, .int fa, .int (f_X1_shown_r fs), .int fy, .int fs, .int (f_X1_shown_fp fp fs), .int fc, .int fd, .int fb, .long fz]))] := hD
    refine lv_goto (tgt := 226) hx hb dX1_move_128 (by decide) ?_
    have e_fa : (f_X1_move_fa fa fx fy p1) = fa := ((((if_neg c_1)).trans (if_neg c_2)).trans (if_neg c_3)).trans (if_neg c_4)
    have e_fx : (f_X1_move_fx fa fx fs p1) = (f_X1_shown_r fs) := (((((if_neg c_1)).trans (if_neg c_2)).trans (if_neg c_3)).trans (if_neg c_4)).trans (if_pos c_5)
    have e_fy : (f_X1_move_fy fa fy p1) = fy := (((((if_neg c_1)).trans (if_neg c_2)).trans (if_neg c_3)).trans (if_neg c_4)).trans (if_pos c_5)
    have e_fs : (f_X1_move_fs fx fs p1) = fs := (((((if_neg c_1)).trans (if_neg c_2)).trans (if_neg c_3)).trans (if_neg c_4)).trans (if_pos c_5)
    have e_fp : (f_X1_move_fp fa fx fy fs fp p1) = (f_X1_shown_fp fp fs) := (((((if_neg c_1)).trans (if_neg c_2)).trans (if_neg c_3)).trans (if_neg c_4)).trans (if_pos c_5)
    have hP9 : va_P (dC, dI) vwCl [(h0, .inr (0, [.int fn, .ref hu, .int fo, .ref hm, .int (f_X1_move_fa fa fx fy p1), .int (f_X1_move_fx fa fx fs p1), .int (f_X1_move_fy fa fy p1), .int (f_X1_move_fs fx fs p1), .int (f_X1_move_fp fa fx fy fs fp p1), .int fc, .int fd, .int fb, .long fz]))] H := by rw [e_fa, e_fx, e_fy, e_fs, e_fp]; exact hP.sub (ws' := [(h0, .inr (0, [.int fn, .ref hu, .int fo, .ref hm, .int fa, .int (f_X1_shown_r fs), .int fy, .int fs, .int (f_X1_shown_fp fp fs), .int fc, .int fd, .int fb, .long fz]))]) [0] rfl
    have hD9 : va_D A [(h0, .inr (0, [.int fn, .ref hu, .int fo, .ref hm, .int (f_X1_move_fa fa fx fy p1), .int (f_X1_move_fx fa fx fs p1), .int (f_X1_move_fy fa fy p1), .int (f_X1_move_fs fx fs p1), .int (f_X1_move_fp fa fx fy fs fp p1), .int fc, .int fd, .int fb, .long fz]))] := by rw [e_fa, e_fx, e_fy, e_fs, e_fp]; exact hD.sub (ws' := [(h0, .inr (0, [.int fn, .ref hu, .int fo, .ref hm, .int fa, .int (f_X1_shown_r fs), .int fy, .int fs, .int (f_X1_shown_fp fp fs), .int fc, .int fd, .int fb, .long fz]))]) [0] (by decide) rfl
    exact W.vret hx hb hr (fun t ht hW => ⟨⟨(), rfl, trivial, by rw [ht]; exact hP9, hD9⟩, hS.F ht⟩) hS.2.2 dX1_move_226
  refine sw_by (p := p1 = 69) (fun c_6 => ?_) (fun c_6 => ?_)
  · refine sw_at c_6 ?_
    refine lv_tableIn (tgt := 131) hx hb dX1_move_1 (by decide) (by decide) rfl (by decide) ?_
    refine lv_aload_n hx hb dX1_move_131 rfl (lv_at hl 0 rfl) ?_
    refine lv_aload_n hx hb dX1_move_132 rfl (lv_at hl 0 rfl) ?_
    refine va_get (D := (dC, dI)) (ci := 0) (v := .int fx) (C := RX1) (T := TX1) (N := 13) hx hb hts (fun w h => gw_b w (iX1 w h)) hown hK hP 0 rfl rfl 5 (by decide) (hts _ (gw_b _ gm_145)) (fun _ h9 => h9) rfl dX1_move_133 ?_
    refine va_put (D := (dC, dI)) (ci := 0) (v := .int fx) (ty := tyX1 7) (C := RX1) (T := TX1) (N := 13) hx hb hts (fun w h => gw_b w (iX1 w h)) tyX1 tyX1_ok nmX1 hown hK hP hD hS 0 rfl rfl 7 (by decide) (hts _ (gw_b _ gm_147)) (fun _ h9 => h9) rfl (tyX1_ok 7 (by decide)) rfl rfl (Nat.le_of_ble_eq_true rfl) dX1_move_136 (fun H locs hP hD hS => ?_)
    have hP : va_P (dC, dI) vwCl [(h0, .inr (0, [.int fn, .ref hu, .int fo, .ref hm, .int fa, .int fx, .int fy, .int fx, .int fp, .int fc, .int fd, .int fb, .long fz]))] H := hP
    have hD : va_D A [(h0, .inr (0, [.int fn, .ref hu, .int fo, .ref hm, .int fa, .int fx, .int fy, .int fx, .int fp, .int fc, .int fd, .int fb, .long fz]))] := hD
    refine lv_goto (tgt := 226) hx hb dX1_move_139 (by decide) ?_
    have e_fa : (f_X1_move_fa fa fx fy p1) = fa := ((((if_neg c_1)).trans (if_neg c_2)).trans (if_neg c_3)).trans (if_neg c_4)
    have e_fx : (f_X1_move_fx fa fx fs p1) = fx := ((((((if_neg c_1)).trans (if_neg c_2)).trans (if_neg c_3)).trans (if_neg c_4)).trans (if_neg c_5)).trans (if_pos c_6)
    have e_fy : (f_X1_move_fy fa fy p1) = fy := ((((((if_neg c_1)).trans (if_neg c_2)).trans (if_neg c_3)).trans (if_neg c_4)).trans (if_neg c_5)).trans (if_pos c_6)
    have e_fs : (f_X1_move_fs fx fs p1) = fx := ((((((if_neg c_1)).trans (if_neg c_2)).trans (if_neg c_3)).trans (if_neg c_4)).trans (if_neg c_5)).trans (if_pos c_6)
    have e_fp : (f_X1_move_fp fa fx fy fs fp p1) = fp := ((((((if_neg c_1)).trans (if_neg c_2)).trans (if_neg c_3)).trans (if_neg c_4)).trans (if_neg c_5)).trans (if_pos c_6)
    have hP9 : va_P (dC, dI) vwCl [(h0, .inr (0, [.int fn, .ref hu, .int fo, .ref hm, .int (f_X1_move_fa fa fx fy p1), .int (f_X1_move_fx fa fx fs p1), .int (f_X1_move_fy fa fy p1), .int (f_X1_move_fs fx fs p1), .int (f_X1_move_fp fa fx fy fs fp p1), .int fc, .int fd, .int fb, .long fz]))] H := by rw [e_fa, e_fx, e_fy, e_fs, e_fp]; exact hP.sub (ws' := [(h0, .inr (0, [.int fn, .ref hu, .int fo, .ref hm, .int fa, .int fx, .int fy, .int fx, .int fp, .int fc, .int fd, .int fb, .long fz]))]) [0] rfl
    have hD9 : va_D A [(h0, .inr (0, [.int fn, .ref hu, .int fo, .ref hm, .int (f_X1_move_fa fa fx fy p1), .int (f_X1_move_fx fa fx fs p1), .int (f_X1_move_fy fa fy p1), .int (f_X1_move_fs fx fs p1), .int (f_X1_move_fp fa fx fy fs fp p1), .int fc, .int fd, .int fb, .long fz]))] := by rw [e_fa, e_fx, e_fy, e_fs, e_fp]; exact hD.sub (ws' := [(h0, .inr (0, [.int fn, .ref hu, .int fo, .ref hm, .int fa, .int fx, .int fy, .int fx, .int fp, .int fc, .int fd, .int fb, .long fz]))]) [0] (by decide) rfl
    exact W.vret hx hb hr (fun t ht hW => ⟨⟨(), rfl, trivial, by rw [ht]; exact hP9, hD9⟩, hS.F ht⟩) hS.2.2 dX1_move_226
  refine sw_by (p := p1 = 70) (fun c_7 => ?_) (fun c_7 => ?_)
  · refine sw_at c_7 ?_
    refine lv_tableIn (tgt := 142) hx hb dX1_move_1 (by decide) (by decide) rfl (by decide) ?_
    refine lv_aload_n hx hb dX1_move_142 rfl (lv_at hl 0 rfl) ?_
    refine lv_aload_n hx hb dX1_move_143 rfl (lv_at hl 0 rfl) ?_
    refine lv_aload_n hx hb dX1_move_144 rfl (lv_at hl 0 rfl) ?_
    refine va_get (D := (dC, dI)) (ci := 0) (v := .int fx) (C := RX1) (T := TX1) (N := 13) hx hb hts (fun w h => gw_b w (iX1 w h)) hown hK hP 0 rfl rfl 5 (by decide) (hts _ (gw_b _ gm_145)) (fun _ h9 => h9) rfl dX1_move_145 ?_
    refine lv_iconst (v := 1) hx hb dX1_move_148 (by decide) ?_
    refine lv_iadd hx hb dX1_move_149 ?_
    refine lv_sipush (v := 255) hx hb dX1_move_150 (by decide) ?_
    refine lv_iand hx hb dX1_move_153 ?_
    refine gc_i (wr := []) (w1 := [(h0, .inr (0, [.int fn, .ref hu, .int fo, .ref hm, .int fa, .int fx, .int fy, .int fs, .int (f_X1_shown_fp fp ((fx + 1) &&& 255)), .int fc, .int fd, .int fb, .long fz]))]) (gcV (As := [.int ((fx + 1) &&& 255)]) (rest := [.ref h0]) ⟨hx, hb, hml, hown, hts⟩ (c_X1_shown l dC dI s.heap.size h0 hu hm fn fo fa fx fy fs fp fc fd fb fz ((fx + 1) &&& 255)) (cwV 1 hts (gw_V gw_b gm_459 gm_461 gm_16 gm_71 gm_462) rfl rfl rfl (by decide +kernel) ⟨Nat.le_of_ble_eq_true rfl, Nat.le_of_ble_eq_true rfl⟩) hK [] rfl hP hD [0] rfl rfl rfl rfl wX0_k (fun _ _ _ => trivial) rfl rfl hl.1 rfl (lv_room (Nat.le_of_ble_eq_true rfl)) dX1_move_154 ⟨Nat.le_of_ble_eq_true rfl, Nat.le_of_ble_eq_true rfl⟩) hP hD hS hA [0] [] rfl rfl rfl (by decide) (fun H locs hP hD hS => ?_)
    have hP : va_P (dC, dI) vwCl [(h0, .inr (0, [.int fn, .ref hu, .int fo, .ref hm, .int fa, .int fx, .int fy, .int fs, .int (f_X1_shown_fp fp ((fx + 1) &&& 255)), .int fc, .int fd, .int fb, .long fz]))] H := hP
    have hD : va_D A [(h0, .inr (0, [.int fn, .ref hu, .int fo, .ref hm, .int fa, .int fx, .int fy, .int fs, .int (f_X1_shown_fp fp ((fx + 1) &&& 255)), .int fc, .int fd, .int fb, .long fz]))] := hD
    refine va_put (D := (dC, dI)) (ci := 0) (v := .int (f_X1_shown_r ((fx + 1) &&& 255))) (ty := tyX1 5) (C := RX1) (T := TX1) (N := 13) hx hb hts (fun w h => gw_b w (iX1 w h)) tyX1 tyX1_ok nmX1 hown hK hP hD hS 0 rfl rfl 5 (by decide) (hts _ (gw_b _ gm_145)) (fun _ h9 => h9) rfl (tyX1_ok 5 (by decide)) rfl rfl (Nat.le_of_ble_eq_true rfl) dX1_move_157 (fun H locs hP hD hS => ?_)
    have hP : va_P (dC, dI) vwCl [(h0, .inr (0, [.int fn, .ref hu, .int fo, .ref hm, .int fa, .int (f_X1_shown_r ((fx + 1) &&& 255)), .int fy, .int fs, .int (f_X1_shown_fp fp ((fx + 1) &&& 255)), .int fc, .int fd, .int fb, .long fz]))] H := hP
    have hD : va_D A [(h0, .inr (0, [.int fn, .ref hu, .int fo, .ref hm, .int fa, .int (f_X1_shown_r ((fx + 1) &&& 255)), .int fy, .int fs, .int (f_X1_shown_fp fp ((fx + 1) &&& 255)), .int fc, .int fd, .int fb, .long fz]))] := hD
    refine lv_goto (tgt := 226) hx hb dX1_move_160 (by decide) ?_
    have e_fa : (f_X1_move_fa fa fx fy p1) = fa := ((((if_neg c_1)).trans (if_neg c_2)).trans (if_neg c_3)).trans (if_neg c_4)
    have e_fx : (f_X1_move_fx fa fx fs p1) = (f_X1_shown_r ((fx + 1) &&& 255)) := (((((((if_neg c_1)).trans (if_neg c_2)).trans (if_neg c_3)).trans (if_neg c_4)).trans (if_neg c_5)).trans (if_neg c_6)).trans (if_pos c_7)
    have e_fy : (f_X1_move_fy fa fy p1) = fy := (((((((if_neg c_1)).trans (if_neg c_2)).trans (if_neg c_3)).trans (if_neg c_4)).trans (if_neg c_5)).trans (if_neg c_6)).trans (if_pos c_7)
    have e_fs : (f_X1_move_fs fx fs p1) = fs := ((((((if_neg c_1)).trans (if_neg c_2)).trans (if_neg c_3)).trans (if_neg c_4)).trans (if_neg c_5)).trans (if_neg c_6)
    have e_fp : (f_X1_move_fp fa fx fy fs fp p1) = (f_X1_shown_fp fp ((fx + 1) &&& 255)) := (((((((if_neg c_1)).trans (if_neg c_2)).trans (if_neg c_3)).trans (if_neg c_4)).trans (if_neg c_5)).trans (if_neg c_6)).trans (if_pos c_7)
    have hP9 : va_P (dC, dI) vwCl [(h0, .inr (0, [.int fn, .ref hu, .int fo, .ref hm, .int (f_X1_move_fa fa fx fy p1), .int (f_X1_move_fx fa fx fs p1), .int (f_X1_move_fy fa fy p1), .int (f_X1_move_fs fx fs p1), .int (f_X1_move_fp fa fx fy fs fp p1), .int fc, .int fd, .int fb, .long fz]))] H := by rw [e_fa, e_fx, e_fy, e_fs, e_fp]; exact hP.sub (ws' := [(h0, .inr (0, [.int fn, .ref hu, .int fo, .ref hm, .int fa, .int (f_X1_shown_r ((fx + 1) &&& 255)), .int fy, .int fs, .int (f_X1_shown_fp fp ((fx + 1) &&& 255)), .int fc, .int fd, .int fb, .long fz]))]) [0] rfl
    have hD9 : va_D A [(h0, .inr (0, [.int fn, .ref hu, .int fo, .ref hm, .int (f_X1_move_fa fa fx fy p1), .int (f_X1_move_fx fa fx fs p1), .int (f_X1_move_fy fa fy p1), .int (f_X1_move_fs fx fs p1), .int (f_X1_move_fp fa fx fy fs fp p1), .int fc, .int fd, .int fb, .long fz]))] := by rw [e_fa, e_fx, e_fy, e_fs, e_fp]; exact hD.sub (ws' := [(h0, .inr (0, [.int fn, .ref hu, .int fo, .ref hm, .int fa, .int (f_X1_shown_r ((fx + 1) &&& 255)), .int fy, .int fs, .int (f_X1_shown_fp fp ((fx + 1) &&& 255)), .int fc, .int fd, .int fb, .long fz]))]) [0] (by decide) rfl
    exact W.vret hx hb hr (fun t ht hW => ⟨⟨(), rfl, trivial, by rw [ht]; exact hP9, hD9⟩, hS.F ht⟩) hS.2.2 dX1_move_226
  refine sw_by (p := p1 = 71) (fun c_8 => ?_) (fun c_8 => ?_)
  · refine sw_at c_8 ?_
    refine lv_tableIn (tgt := 163) hx hb dX1_move_1 (by decide) (by decide) rfl (by decide) ?_
    refine lv_aload_n hx hb dX1_move_163 rfl (lv_at hl 0 rfl) ?_
    refine lv_aload_n hx hb dX1_move_164 rfl (lv_at hl 0 rfl) ?_
    refine lv_aload_n hx hb dX1_move_165 rfl (lv_at hl 0 rfl) ?_
    refine va_get (D := (dC, dI)) (ci := 0) (v := .int fy) (C := RX1) (T := TX1) (N := 13) hx hb hts (fun w h => gw_b w (iX1 w h)) hown hK hP 0 rfl rfl 6 (by decide) (hts _ (gw_b _ gm_146)) (fun _ h9 => h9) rfl dX1_move_166 ?_
    refine lv_iconst (v := 1) hx hb dX1_move_169 (by decide) ?_
    refine lv_iadd hx hb dX1_move_170 ?_
    refine lv_sipush (v := 255) hx hb dX1_move_171 (by decide) ?_
    refine lv_iand hx hb dX1_move_174 ?_
    refine gc_i (wr := []) (w1 := [(h0, .inr (0, [.int fn, .ref hu, .int fo, .ref hm, .int fa, .int fx, .int fy, .int fs, .int (f_X1_shown_fp fp ((fy + 1) &&& 255)), .int fc, .int fd, .int fb, .long fz]))]) (gcV (As := [.int ((fy + 1) &&& 255)]) (rest := [.ref h0]) ⟨hx, hb, hml, hown, hts⟩ (c_X1_shown l dC dI s.heap.size h0 hu hm fn fo fa fx fy fs fp fc fd fb fz ((fy + 1) &&& 255)) (cwV 1 hts (gw_V gw_b gm_459 gm_461 gm_16 gm_71 gm_462) rfl rfl rfl (by decide +kernel) ⟨Nat.le_of_ble_eq_true rfl, Nat.le_of_ble_eq_true rfl⟩) hK [] rfl hP hD [0] rfl rfl rfl rfl wX0_k (fun _ _ _ => trivial) rfl rfl hl.1 rfl (lv_room (Nat.le_of_ble_eq_true rfl)) dX1_move_175 ⟨Nat.le_of_ble_eq_true rfl, Nat.le_of_ble_eq_true rfl⟩) hP hD hS hA [0] [] rfl rfl rfl (by decide) (fun H locs hP hD hS => ?_)
    have hP : va_P (dC, dI) vwCl [(h0, .inr (0, [.int fn, .ref hu, .int fo, .ref hm, .int fa, .int fx, .int fy, .int fs, .int (f_X1_shown_fp fp ((fy + 1) &&& 255)), .int fc, .int fd, .int fb, .long fz]))] H := hP
    have hD : va_D A [(h0, .inr (0, [.int fn, .ref hu, .int fo, .ref hm, .int fa, .int fx, .int fy, .int fs, .int (f_X1_shown_fp fp ((fy + 1) &&& 255)), .int fc, .int fd, .int fb, .long fz]))] := hD
    refine va_put (D := (dC, dI)) (ci := 0) (v := .int (f_X1_shown_r ((fy + 1) &&& 255))) (ty := tyX1 6) (C := RX1) (T := TX1) (N := 13) hx hb hts (fun w h => gw_b w (iX1 w h)) tyX1 tyX1_ok nmX1 hown hK hP hD hS 0 rfl rfl 6 (by decide) (hts _ (gw_b _ gm_146)) (fun _ h9 => h9) rfl (tyX1_ok 6 (by decide)) rfl rfl (Nat.le_of_ble_eq_true rfl) dX1_move_178 (fun H locs hP hD hS => ?_)
    have hP : va_P (dC, dI) vwCl [(h0, .inr (0, [.int fn, .ref hu, .int fo, .ref hm, .int fa, .int fx, .int (f_X1_shown_r ((fy + 1) &&& 255)), .int fs, .int (f_X1_shown_fp fp ((fy + 1) &&& 255)), .int fc, .int fd, .int fb, .long fz]))] H := hP
    have hD : va_D A [(h0, .inr (0, [.int fn, .ref hu, .int fo, .ref hm, .int fa, .int fx, .int (f_X1_shown_r ((fy + 1) &&& 255)), .int fs, .int (f_X1_shown_fp fp ((fy + 1) &&& 255)), .int fc, .int fd, .int fb, .long fz]))] := hD
    refine lv_goto (tgt := 226) hx hb dX1_move_181 (by decide) ?_
    have e_fa : (f_X1_move_fa fa fx fy p1) = fa := ((((if_neg c_1)).trans (if_neg c_2)).trans (if_neg c_3)).trans (if_neg c_4)
    have e_fx : (f_X1_move_fx fa fx fs p1) = fx := ((((((((if_neg c_1)).trans (if_neg c_2)).trans (if_neg c_3)).trans (if_neg c_4)).trans (if_neg c_5)).trans (if_neg c_6)).trans (if_neg c_7)).trans (if_pos c_8)
    have e_fy : (f_X1_move_fy fa fy p1) = (f_X1_shown_r ((fy + 1) &&& 255)) := ((((((((if_neg c_1)).trans (if_neg c_2)).trans (if_neg c_3)).trans (if_neg c_4)).trans (if_neg c_5)).trans (if_neg c_6)).trans (if_neg c_7)).trans (if_pos c_8)
    have e_fs : (f_X1_move_fs fx fs p1) = fs := ((((((if_neg c_1)).trans (if_neg c_2)).trans (if_neg c_3)).trans (if_neg c_4)).trans (if_neg c_5)).trans (if_neg c_6)
    have e_fp : (f_X1_move_fp fa fx fy fs fp p1) = (f_X1_shown_fp fp ((fy + 1) &&& 255)) := ((((((((if_neg c_1)).trans (if_neg c_2)).trans (if_neg c_3)).trans (if_neg c_4)).trans (if_neg c_5)).trans (if_neg c_6)).trans (if_neg c_7)).trans (if_pos c_8)
    have hP9 : va_P (dC, dI) vwCl [(h0, .inr (0, [.int fn, .ref hu, .int fo, .ref hm, .int (f_X1_move_fa fa fx fy p1), .int (f_X1_move_fx fa fx fs p1), .int (f_X1_move_fy fa fy p1), .int (f_X1_move_fs fx fs p1), .int (f_X1_move_fp fa fx fy fs fp p1), .int fc, .int fd, .int fb, .long fz]))] H := by rw [e_fa, e_fx, e_fy, e_fs, e_fp]; exact hP.sub (ws' := [(h0, .inr (0, [.int fn, .ref hu, .int fo, .ref hm, .int fa, .int fx, .int (f_X1_shown_r ((fy + 1) &&& 255)), .int fs, .int (f_X1_shown_fp fp ((fy + 1) &&& 255)), .int fc, .int fd, .int fb, .long fz]))]) [0] rfl
    have hD9 : va_D A [(h0, .inr (0, [.int fn, .ref hu, .int fo, .ref hm, .int (f_X1_move_fa fa fx fy p1), .int (f_X1_move_fx fa fx fs p1), .int (f_X1_move_fy fa fy p1), .int (f_X1_move_fs fx fs p1), .int (f_X1_move_fp fa fx fy fs fp p1), .int fc, .int fd, .int fb, .long fz]))] := by rw [e_fa, e_fx, e_fy, e_fs, e_fp]; exact hD.sub (ws' := [(h0, .inr (0, [.int fn, .ref hu, .int fo, .ref hm, .int fa, .int fx, .int (f_X1_shown_r ((fy + 1) &&& 255)), .int fs, .int (f_X1_shown_fp fp ((fy + 1) &&& 255)), .int fc, .int fd, .int fb, .long fz]))]) [0] (by decide) rfl
    exact W.vret hx hb hr (fun t ht hW => ⟨⟨(), rfl, trivial, by rw [ht]; exact hP9, hD9⟩, hS.F ht⟩) hS.2.2 dX1_move_226
  refine sw_by (p := p1 = 72) (fun c_9 => ?_) (fun c_9 => ?_)
  · refine sw_at c_9 ?_
    refine lv_tableIn (tgt := 184) hx hb dX1_move_1 (by decide) (by decide) rfl (by decide) ?_
    refine lv_aload_n hx hb dX1_move_184 rfl (lv_at hl 0 rfl) ?_
    refine lv_aload_n hx hb dX1_move_185 rfl (lv_at hl 0 rfl) ?_
    refine lv_aload_n hx hb dX1_move_186 rfl (lv_at hl 0 rfl) ?_
    refine va_get (D := (dC, dI)) (ci := 0) (v := .int fx) (C := RX1) (T := TX1) (N := 13) hx hb hts (fun w h => gw_b w (iX1 w h)) hown hK hP 0 rfl rfl 5 (by decide) (hts _ (gw_b _ gm_145)) (fun _ h9 => h9) rfl dX1_move_187 ?_
    refine lv_iconst (v := 1) hx hb dX1_move_190 (by decide) ?_
    refine lv_isub hx hb dX1_move_191 ?_
    refine lv_sipush (v := 255) hx hb dX1_move_192 (by decide) ?_
    refine lv_iand hx hb dX1_move_195 ?_
    refine gc_i (wr := []) (w1 := [(h0, .inr (0, [.int fn, .ref hu, .int fo, .ref hm, .int fa, .int fx, .int fy, .int fs, .int (f_X1_shown_fp fp ((fx - 1) &&& 255)), .int fc, .int fd, .int fb, .long fz]))]) (gcV (As := [.int ((fx - 1) &&& 255)]) (rest := [.ref h0]) ⟨hx, hb, hml, hown, hts⟩ (c_X1_shown l dC dI s.heap.size h0 hu hm fn fo fa fx fy fs fp fc fd fb fz ((fx - 1) &&& 255)) (cwV 1 hts (gw_V gw_b gm_459 gm_461 gm_16 gm_71 gm_462) rfl rfl rfl (by decide +kernel) ⟨Nat.le_of_ble_eq_true rfl, Nat.le_of_ble_eq_true rfl⟩) hK [] rfl hP hD [0] rfl rfl rfl rfl wX0_k (fun _ _ _ => trivial) rfl rfl hl.1 rfl (lv_room (Nat.le_of_ble_eq_true rfl)) dX1_move_196 ⟨Nat.le_of_ble_eq_true rfl, Nat.le_of_ble_eq_true rfl⟩) hP hD hS hA [0] [] rfl rfl rfl (by decide) (fun H locs hP hD hS => ?_)
    have hP : va_P (dC, dI) vwCl [(h0, .inr (0, [.int fn, .ref hu, .int fo, .ref hm, .int fa, .int fx, .int fy, .int fs, .int (f_X1_shown_fp fp ((fx - 1) &&& 255)), .int fc, .int fd, .int fb, .long fz]))] H := hP
    have hD : va_D A [(h0, .inr (0, [.int fn, .ref hu, .int fo, .ref hm, .int fa, .int fx, .int fy, .int fs, .int (f_X1_shown_fp fp ((fx - 1) &&& 255)), .int fc, .int fd, .int fb, .long fz]))] := hD
    refine va_put (D := (dC, dI)) (ci := 0) (v := .int (f_X1_shown_r ((fx - 1) &&& 255))) (ty := tyX1 5) (C := RX1) (T := TX1) (N := 13) hx hb hts (fun w h => gw_b w (iX1 w h)) tyX1 tyX1_ok nmX1 hown hK hP hD hS 0 rfl rfl 5 (by decide) (hts _ (gw_b _ gm_145)) (fun _ h9 => h9) rfl (tyX1_ok 5 (by decide)) rfl rfl (Nat.le_of_ble_eq_true rfl) dX1_move_199 (fun H locs hP hD hS => ?_)
    have hP : va_P (dC, dI) vwCl [(h0, .inr (0, [.int fn, .ref hu, .int fo, .ref hm, .int fa, .int (f_X1_shown_r ((fx - 1) &&& 255)), .int fy, .int fs, .int (f_X1_shown_fp fp ((fx - 1) &&& 255)), .int fc, .int fd, .int fb, .long fz]))] H := hP
    have hD : va_D A [(h0, .inr (0, [.int fn, .ref hu, .int fo, .ref hm, .int fa, .int (f_X1_shown_r ((fx - 1) &&& 255)), .int fy, .int fs, .int (f_X1_shown_fp fp ((fx - 1) &&& 255)), .int fc, .int fd, .int fb, .long fz]))] := hD
    refine lv_goto (tgt := 226) hx hb dX1_move_202 (by decide) ?_
    have e_fa : (f_X1_move_fa fa fx fy p1) = fa := ((((if_neg c_1)).trans (if_neg c_2)).trans (if_neg c_3)).trans (if_neg c_4)
    have e_fx : (f_X1_move_fx fa fx fs p1) = (f_X1_shown_r ((fx - 1) &&& 255)) := (((((((((if_neg c_1)).trans (if_neg c_2)).trans (if_neg c_3)).trans (if_neg c_4)).trans (if_neg c_5)).trans (if_neg c_6)).trans (if_neg c_7)).trans (if_neg c_8)).trans (if_pos c_9)
    have e_fy : (f_X1_move_fy fa fy p1) = fy := (((((((((if_neg c_1)).trans (if_neg c_2)).trans (if_neg c_3)).trans (if_neg c_4)).trans (if_neg c_5)).trans (if_neg c_6)).trans (if_neg c_7)).trans (if_neg c_8)).trans (if_pos c_9)
    have e_fs : (f_X1_move_fs fx fs p1) = fs := ((((((if_neg c_1)).trans (if_neg c_2)).trans (if_neg c_3)).trans (if_neg c_4)).trans (if_neg c_5)).trans (if_neg c_6)
    have e_fp : (f_X1_move_fp fa fx fy fs fp p1) = (f_X1_shown_fp fp ((fx - 1) &&& 255)) := (((((((((if_neg c_1)).trans (if_neg c_2)).trans (if_neg c_3)).trans (if_neg c_4)).trans (if_neg c_5)).trans (if_neg c_6)).trans (if_neg c_7)).trans (if_neg c_8)).trans (if_pos c_9)
    have hP9 : va_P (dC, dI) vwCl [(h0, .inr (0, [.int fn, .ref hu, .int fo, .ref hm, .int (f_X1_move_fa fa fx fy p1), .int (f_X1_move_fx fa fx fs p1), .int (f_X1_move_fy fa fy p1), .int (f_X1_move_fs fx fs p1), .int (f_X1_move_fp fa fx fy fs fp p1), .int fc, .int fd, .int fb, .long fz]))] H := by rw [e_fa, e_fx, e_fy, e_fs, e_fp]; exact hP.sub (ws' := [(h0, .inr (0, [.int fn, .ref hu, .int fo, .ref hm, .int fa, .int (f_X1_shown_r ((fx - 1) &&& 255)), .int fy, .int fs, .int (f_X1_shown_fp fp ((fx - 1) &&& 255)), .int fc, .int fd, .int fb, .long fz]))]) [0] rfl
    have hD9 : va_D A [(h0, .inr (0, [.int fn, .ref hu, .int fo, .ref hm, .int (f_X1_move_fa fa fx fy p1), .int (f_X1_move_fx fa fx fs p1), .int (f_X1_move_fy fa fy p1), .int (f_X1_move_fs fx fs p1), .int (f_X1_move_fp fa fx fy fs fp p1), .int fc, .int fd, .int fb, .long fz]))] := by rw [e_fa, e_fx, e_fy, e_fs, e_fp]; exact hD.sub (ws' := [(h0, .inr (0, [.int fn, .ref hu, .int fo, .ref hm, .int fa, .int (f_X1_shown_r ((fx - 1) &&& 255)), .int fy, .int fs, .int (f_X1_shown_fp fp ((fx - 1) &&& 255)), .int fc, .int fd, .int fb, .long fz]))]) [0] (by decide) rfl
    exact W.vret hx hb hr (fun t ht hW => ⟨⟨(), rfl, trivial, by rw [ht]; exact hP9, hD9⟩, hS.F ht⟩) hS.2.2 dX1_move_226
  refine sw_by (p := p1 = 73) (fun c_10 => ?_) (fun c_10 => ?_)
  · refine sw_at c_10 ?_
    refine lv_tableIn (tgt := 205) hx hb dX1_move_1 (by decide) (by decide) rfl (by decide) ?_
    refine lv_aload_n hx hb dX1_move_205 rfl (lv_at hl 0 rfl) ?_
    refine lv_aload_n hx hb dX1_move_206 rfl (lv_at hl 0 rfl) ?_
    refine lv_aload_n hx hb dX1_move_207 rfl (lv_at hl 0 rfl) ?_
    refine va_get (D := (dC, dI)) (ci := 0) (v := .int fy) (C := RX1) (T := TX1) (N := 13) hx hb hts (fun w h => gw_b w (iX1 w h)) hown hK hP 0 rfl rfl 6 (by decide) (hts _ (gw_b _ gm_146)) (fun _ h9 => h9) rfl dX1_move_208 ?_
    refine lv_iconst (v := 1) hx hb dX1_move_211 (by decide) ?_
    refine lv_isub hx hb dX1_move_212 ?_
    refine lv_sipush (v := 255) hx hb dX1_move_213 (by decide) ?_
    refine lv_iand hx hb dX1_move_216 ?_
    refine gc_i (wr := []) (w1 := [(h0, .inr (0, [.int fn, .ref hu, .int fo, .ref hm, .int fa, .int fx, .int fy, .int fs, .int (f_X1_shown_fp fp ((fy - 1) &&& 255)), .int fc, .int fd, .int fb, .long fz]))]) (gcV (As := [.int ((fy - 1) &&& 255)]) (rest := [.ref h0]) ⟨hx, hb, hml, hown, hts⟩ (c_X1_shown l dC dI s.heap.size h0 hu hm fn fo fa fx fy fs fp fc fd fb fz ((fy - 1) &&& 255)) (cwV 1 hts (gw_V gw_b gm_459 gm_461 gm_16 gm_71 gm_462) rfl rfl rfl (by decide +kernel) ⟨Nat.le_of_ble_eq_true rfl, Nat.le_of_ble_eq_true rfl⟩) hK [] rfl hP hD [0] rfl rfl rfl rfl wX0_k (fun _ _ _ => trivial) rfl rfl hl.1 rfl (lv_room (Nat.le_of_ble_eq_true rfl)) dX1_move_217 ⟨Nat.le_of_ble_eq_true rfl, Nat.le_of_ble_eq_true rfl⟩) hP hD hS hA [0] [] rfl rfl rfl (by decide) (fun H locs hP hD hS => ?_)
    have hP : va_P (dC, dI) vwCl [(h0, .inr (0, [.int fn, .ref hu, .int fo, .ref hm, .int fa, .int fx, .int fy, .int fs, .int (f_X1_shown_fp fp ((fy - 1) &&& 255)), .int fc, .int fd, .int fb, .long fz]))] H := hP
    have hD : va_D A [(h0, .inr (0, [.int fn, .ref hu, .int fo, .ref hm, .int fa, .int fx, .int fy, .int fs, .int (f_X1_shown_fp fp ((fy - 1) &&& 255)), .int fc, .int fd, .int fb, .long fz]))] := hD
    refine va_put (D := (dC, dI)) (ci := 0) (v := .int (f_X1_shown_r ((fy - 1) &&& 255))) (ty := tyX1 6) (C := RX1) (T := TX1) (N := 13) hx hb hts (fun w h => gw_b w (iX1 w h)) tyX1 tyX1_ok nmX1 hown hK hP hD hS 0 rfl rfl 6 (by decide) (hts _ (gw_b _ gm_146)) (fun _ h9 => h9) rfl (tyX1_ok 6 (by decide)) rfl rfl (Nat.le_of_ble_eq_true rfl) dX1_move_220 (fun H locs hP hD hS => ?_)
    have hP : va_P (dC, dI) vwCl [(h0, .inr (0, [.int fn, .ref hu, .int fo, .ref hm, .int fa, .int fx, .int (f_X1_shown_r ((fy - 1) &&& 255)), .int fs, .int (f_X1_shown_fp fp ((fy - 1) &&& 255)), .int fc, .int fd, .int fb, .long fz]))] H := hP
    have hD : va_D A [(h0, .inr (0, [.int fn, .ref hu, .int fo, .ref hm, .int fa, .int fx, .int (f_X1_shown_r ((fy - 1) &&& 255)), .int fs, .int (f_X1_shown_fp fp ((fy - 1) &&& 255)), .int fc, .int fd, .int fb, .long fz]))] := hD
    refine lv_goto (tgt := 226) hx hb dX1_move_223 (by decide) ?_
    have e_fa : (f_X1_move_fa fa fx fy p1) = fa := ((((if_neg c_1)).trans (if_neg c_2)).trans (if_neg c_3)).trans (if_neg c_4)
    have e_fx : (f_X1_move_fx fa fx fs p1) = fx := (((((((((if_neg c_1)).trans (if_neg c_2)).trans (if_neg c_3)).trans (if_neg c_4)).trans (if_neg c_5)).trans (if_neg c_6)).trans (if_neg c_7)).trans (if_neg c_8)).trans (if_neg c_9)
    have e_fy : (f_X1_move_fy fa fy p1) = (f_X1_shown_r ((fy - 1) &&& 255)) := ((((((((((if_neg c_1)).trans (if_neg c_2)).trans (if_neg c_3)).trans (if_neg c_4)).trans (if_neg c_5)).trans (if_neg c_6)).trans (if_neg c_7)).trans (if_neg c_8)).trans (if_neg c_9)).trans (if_pos c_10)
    have e_fs : (f_X1_move_fs fx fs p1) = fs := ((((((if_neg c_1)).trans (if_neg c_2)).trans (if_neg c_3)).trans (if_neg c_4)).trans (if_neg c_5)).trans (if_neg c_6)
    have e_fp : (f_X1_move_fp fa fx fy fs fp p1) = (f_X1_shown_fp fp ((fy - 1) &&& 255)) := ((((((((((if_neg c_1)).trans (if_neg c_2)).trans (if_neg c_3)).trans (if_neg c_4)).trans (if_neg c_5)).trans (if_neg c_6)).trans (if_neg c_7)).trans (if_neg c_8)).trans (if_neg c_9)).trans (if_pos c_10)
    have hP9 : va_P (dC, dI) vwCl [(h0, .inr (0, [.int fn, .ref hu, .int fo, .ref hm, .int (f_X1_move_fa fa fx fy p1), .int (f_X1_move_fx fa fx fs p1), .int (f_X1_move_fy fa fy p1), .int (f_X1_move_fs fx fs p1), .int (f_X1_move_fp fa fx fy fs fp p1), .int fc, .int fd, .int fb, .long fz]))] H := by rw [e_fa, e_fx, e_fy, e_fs, e_fp]; exact hP.sub (ws' := [(h0, .inr (0, [.int fn, .ref hu, .int fo, .ref hm, .int fa, .int fx, .int (f_X1_shown_r ((fy - 1) &&& 255)), .int fs, .int (f_X1_shown_fp fp ((fy - 1) &&& 255)), .int fc, .int fd, .int fb, .long fz]))]) [0] rfl
    have hD9 : va_D A [(h0, .inr (0, [.int fn, .ref hu, .int fo, .ref hm, .int (f_X1_move_fa fa fx fy p1), .int (f_X1_move_fx fa fx fs p1), .int (f_X1_move_fy fa fy p1), .int (f_X1_move_fs fx fs p1), .int (f_X1_move_fp fa fx fy fs fp p1), .int fc, .int fd, .int fb, .long fz]))] := by rw [e_fa, e_fx, e_fy, e_fs, e_fp]; exact hD.sub (ws' := [(h0, .inr (0, [.int fn, .ref hu, .int fo, .ref hm, .int fa, .int fx, .int (f_X1_shown_r ((fy - 1) &&& 255)), .int fs, .int (f_X1_shown_fp fp ((fy - 1) &&& 255)), .int fc, .int fd, .int fb, .long fz]))]) [0] (by decide) rfl
    exact W.vret hx hb hr (fun t ht hW => ⟨⟨(), rfl, trivial, by rw [ht]; exact hP9, hD9⟩, hS.F ht⟩) hS.2.2 dX1_move_226
  refine lv_tableOut (tgt := 226) hx hb dX1_move_1 (sw_range (fun v h1 h2 => by rcases (show v = 64 ∨ v = 65 ∨ v = 66 ∨ v = 67 ∨ v = 68 ∨ v = 69 ∨ v = 70 ∨ v = 71 ∨ v = 72 ∨ v = 73 by omega) with rfl | rfl | rfl | rfl | rfl | rfl | rfl | rfl | rfl | rfl; (· exact c_1); (· exact c_2); (· exact c_3); (· exact c_4); (· exact c_5); (· exact c_6); (· exact c_7); (· exact c_8); (· exact c_9); (· exact c_10))) (by decide) ?_
  have e_fa : (f_X1_move_fa fa fx fy p1) = fa := ((((if_neg c_1)).trans (if_neg c_2)).trans (if_neg c_3)).trans (if_neg c_4)
  have e_fx : (f_X1_move_fx fa fx fs p1) = fx := (((((((((if_neg c_1)).trans (if_neg c_2)).trans (if_neg c_3)).trans (if_neg c_4)).trans (if_neg c_5)).trans (if_neg c_6)).trans (if_neg c_7)).trans (if_neg c_8)).trans (if_neg c_9)
  have e_fy : (f_X1_move_fy fa fy p1) = fy := ((((((((((if_neg c_1)).trans (if_neg c_2)).trans (if_neg c_3)).trans (if_neg c_4)).trans (if_neg c_5)).trans (if_neg c_6)).trans (if_neg c_7)).trans (if_neg c_8)).trans (if_neg c_9)).trans (if_neg c_10)
  have e_fs : (f_X1_move_fs fx fs p1) = fs := ((((((if_neg c_1)).trans (if_neg c_2)).trans (if_neg c_3)).trans (if_neg c_4)).trans (if_neg c_5)).trans (if_neg c_6)
  have e_fp : (f_X1_move_fp fa fx fy fs fp p1) = fp := ((((((((((if_neg c_1)).trans (if_neg c_2)).trans (if_neg c_3)).trans (if_neg c_4)).trans (if_neg c_5)).trans (if_neg c_6)).trans (if_neg c_7)).trans (if_neg c_8)).trans (if_neg c_9)).trans (if_neg c_10)
  have hP9 : va_P (dC, dI) vwCl [(h0, .inr (0, [.int fn, .ref hu, .int fo, .ref hm, .int (f_X1_move_fa fa fx fy p1), .int (f_X1_move_fx fa fx fs p1), .int (f_X1_move_fy fa fy p1), .int (f_X1_move_fs fx fs p1), .int (f_X1_move_fp fa fx fy fs fp p1), .int fc, .int fd, .int fb, .long fz]))] s.heap := by rw [e_fa, e_fx, e_fy, e_fs, e_fp]; exact hP.sub (ws' := [(h0, .inr (0, [.int fn, .ref hu, .int fo, .ref hm, .int fa, .int fx, .int fy, .int fs, .int fp, .int fc, .int fd, .int fb, .long fz]))]) [0] rfl
  have hD9 : va_D A [(h0, .inr (0, [.int fn, .ref hu, .int fo, .ref hm, .int (f_X1_move_fa fa fx fy p1), .int (f_X1_move_fx fa fx fs p1), .int (f_X1_move_fy fa fy p1), .int (f_X1_move_fs fx fs p1), .int (f_X1_move_fp fa fx fy fs fp p1), .int fc, .int fd, .int fb, .long fz]))] := by rw [e_fa, e_fx, e_fy, e_fs, e_fp]; exact hD.sub (ws' := [(h0, .inr (0, [.int fn, .ref hu, .int fo, .ref hm, .int fa, .int fx, .int fy, .int fs, .int fp, .int fc, .int fd, .int fb, .long fz]))]) [0] (by decide) rfl
  exact W.vret hx hb hr (fun t ht hW => ⟨⟨(), rfl, trivial, by rw [ht]; exact hP9, hD9⟩, hS.F ht⟩) hS.2.2 dX1_move_226

def f_X1_changeFlag_fp (fp : Int32) (p1 : Int32) : Int32 := (if p1 = 80 then (f_X1_setFlag_fp fp 1 0) else (if p1 = 81 then (f_X1_setFlag_fp fp 1 1) else (if p1 = 82 then (f_X1_setFlag_fp fp 4 0) else (if p1 = 83 then (f_X1_setFlag_fp fp 4 1) else (if p1 = 84 then (f_X1_setFlag_fp fp 64 0) else (if p1 = 85 then (f_X1_setFlag_fp fp 8 0) else (f_X1_setFlag_fp fp 8 1)))))))
set_option maxHeartbeats 4000000 in
set_option maxRecDepth 100000 in
/-- X1_changeFlag -/
theorem c_X1_changeFlag (l : Launch) (dC : Nat → ClassId) (dI : Nat → Nat → Nat) (sz : Nat) (h0 : Nat) (hu : Nat) (hm : Nat) (fn : Int32) (fo : Int32) (fa : Int32) (fx : Int32) (fy : Int32) (fs : Int32) (fp : Int32) (fc : Int32) (fd : Int32) (fb : Int32) (fz : Int64) (p1 : Int32)  : Met l yX1_changeFlag (Cond.code yX1_changeFlag cX1_changeFlag 2 none :: gw) { frames := 1, cells := 0, slots := 0, locals := 22 } (va_Pc [.ref h0, .int p1] (wPre (dC, dI) [] [(h0, .inr (0, [.int fn, .ref hu, .int fo, .ref hm, .int fa, .int fx, .int fy, .int fs, .int fp, .int fc, .int fd, .int fb, .long fz]))] sz wX0)) (va_Qv (fun _ : Unit => True) (fun _ t => wPost (dC, dI) (va_A [(h0, .inr (0, [.int fn, .ref hu, .int fo, .ref hm, .int fa, .int fx, .int fy, .int fs, .int fp, .int fc, .int fd, .int fb, .long fz]))] sz) [(h0, .inr (0, [.int fn, .ref hu, .int fo, .ref hm, .int fa, .int fx, .int fy, .int fs, .int (f_X1_changeFlag_fp fp p1), .int fc, .int fd, .int fb, .long fz]))] t) (va_A [(h0, .inr (0, [.int fn, .ref hu, .int fo, .ref hm, .int fa, .int fx, .int fy, .int fs, .int fp, .int fc, .int fd, .int fb, .long fz]))] sz)) 0 0 (va_A [(h0, .inr (0, [.int fn, .ref hu, .int fo, .ref hm, .int fa, .int fx, .int fy, .int fs, .int fp, .int fc, .int fd, .int fb, .long fz]))] sz) := by
  refine Met.ofW (cc := cX1_changeFlag) (maxL := 2) (ret := none) (by decide) rfl ?_
  intro p e s m args below meth c s₁ B hml hv
  obtain ⟨rfl, hsz, hP, hK, hD0, hXX⟩ := hv
  have hx := B.exec
  have hb := B.bytes
  have hr := B.returns
  have hts := atoms_spec (ws := (Cond.code yX1_changeFlag cX1_changeFlag 2 none :: gw)) B.pre
  have hown : s.vm.findClass RX1 = some m.cls := findClass_of_methodNamed B.named
  have hlocks := B.notSynchronized
  subst hsz
  have hD := hD0.self (sz := s.heap.size)
  generalize hAe : va_A [(h0, .inr (0, [.int fn, .ref hu, .int fo, .ref hm, .int fa, .int fx, .int fy, .int fs, .int fp, .int fc, .int fd, .int fb, .long fz]))] s.heap.size = A at hD ⊢
  have hA : ∀ q : Nat, s.heap.size ≤ q → A q := fun q h => by rw [← hAe]; exact Or.inr h
  have hS : va_S A s.heap s.heap [] := va_S.rf
  have hl := lv_entry ([.ref h0, .int p1]) (n := 2) (Nat.le_of_ble_eq_true rfl)
  rw [lg_entry_eq]
  generalize (lg_sl ([.ref h0, .int p1]) ++ List.replicate (2 - (lg_sl ([.ref h0, .int p1])).length) Slot.unset).toArray = ls at hl ⊢
  have hl : lv_has ls 2 [(0, .ref h0), (1, .int p1)] := hl
  refine lv_iload_n hx hb dX1_changeFlag_0 rfl (lv_at hl 1 rfl) ?_
  refine sw_by (p := p1 = 80) (fun c_1 => ?_) (fun c_1 => ?_)
  · refine sw_at c_1 ?_
    refine lv_tableIn (tgt := 40) hx hb dX1_changeFlag_1 (by decide) (by decide) rfl (by decide) ?_
    refine lv_aload_n hx hb dX1_changeFlag_40 rfl (lv_at hl 0 rfl) ?_
    refine lv_iconst (v := 1) hx hb dX1_changeFlag_41 (by decide) ?_
    refine lv_iconst (v := 0) hx hb dX1_changeFlag_42 (by decide) ?_
    refine gc_v (wr := []) (w1 := [(h0, .inr (0, [.int fn, .ref hu, .int fo, .ref hm, .int fa, .int fx, .int fy, .int fs, .int (f_X1_setFlag_fp fp 1 0), .int fc, .int fd, .int fb, .long fz]))]) (gcV (As := [.int 1, .int 0]) (rest := []) ⟨hx, hb, hml, hown, hts⟩ (c_X1_setFlag l dC dI s.heap.size h0 hu hm fn fo fa fx fy fs fp fc fd fb fz 1 0) (cwV 2 hts (gw_V gw_b gm_467 gm_469 gm_18 gm_71 gm_470) rfl rfl rfl (by decide +kernel) ⟨Nat.le_of_ble_eq_true rfl, Nat.le_of_ble_eq_true rfl⟩) hK [] rfl hP hD [0] rfl rfl rfl rfl wX0_k (fun _ _ _ => trivial) rfl rfl hl.1 rfl (lv_room (Nat.le_of_ble_eq_true rfl)) dX1_changeFlag_43 ⟨Nat.le_of_ble_eq_true rfl, Nat.le_of_ble_eq_true rfl⟩) hP hD hS hA [0] [] rfl rfl rfl (by decide) (fun H locs hP hD hS => ?_)
    have hP : va_P (dC, dI) vwCl [(h0, .inr (0, [.int fn, .ref hu, .int fo, .ref hm, .int fa, .int fx, .int fy, .int fs, .int (f_X1_setFlag_fp fp 1 0), .int fc, .int fd, .int fb, .long fz]))] H := hP
    have hD : va_D A [(h0, .inr (0, [.int fn, .ref hu, .int fo, .ref hm, .int fa, .int fx, .int fy, .int fs, .int (f_X1_setFlag_fp fp 1 0), .int fc, .int fd, .int fb, .long fz]))] := hD
    refine lv_goto (tgt := 103) hx hb dX1_changeFlag_46 (by decide) ?_
    have e_fp : (f_X1_changeFlag_fp fp p1) = (f_X1_setFlag_fp fp 1 0) := (if_pos c_1)
    have hP9 : va_P (dC, dI) vwCl [(h0, .inr (0, [.int fn, .ref hu, .int fo, .ref hm, .int fa, .int fx, .int fy, .int fs, .int (f_X1_changeFlag_fp fp p1), .int fc, .int fd, .int fb, .long fz]))] H := by rw [e_fp]; exact hP.sub (ws' := [(h0, .inr (0, [.int fn, .ref hu, .int fo, .ref hm, .int fa, .int fx, .int fy, .int fs, .int (f_X1_setFlag_fp fp 1 0), .int fc, .int fd, .int fb, .long fz]))]) [0] rfl
    have hD9 : va_D A [(h0, .inr (0, [.int fn, .ref hu, .int fo, .ref hm, .int fa, .int fx, .int fy, .int fs, .int (f_X1_changeFlag_fp fp p1), .int fc, .int fd, .int fb, .long fz]))] := by rw [e_fp]; exact hD.sub (ws' := [(h0, .inr (0, [.int fn, .ref hu, .int fo, .ref hm, .int fa, .int fx, .int fy, .int fs, .int (f_X1_setFlag_fp fp 1 0), .int fc, .int fd, .int fb, .long fz]))]) [0] (by decide) rfl
    exact W.vret hx hb hr (fun t ht hW => ⟨⟨(), rfl, trivial, by rw [ht]; exact hP9, hD9⟩, hS.F ht⟩) hS.2.2 dX1_changeFlag_103
  refine sw_by (p := p1 = 81) (fun c_2 => ?_) (fun c_2 => ?_)
  · refine sw_at c_2 ?_
    refine lv_tableIn (tgt := 49) hx hb dX1_changeFlag_1 (by decide) (by decide) rfl (by decide) ?_
    refine lv_aload_n hx hb dX1_changeFlag_49 rfl (lv_at hl 0 rfl) ?_
    refine lv_iconst (v := 1) hx hb dX1_changeFlag_50 (by decide) ?_
    refine lv_iconst (v := 1) hx hb dX1_changeFlag_51 (by decide) ?_
    refine gc_v (wr := []) (w1 := [(h0, .inr (0, [.int fn, .ref hu, .int fo, .ref hm, .int fa, .int fx, .int fy, .int fs, .int (f_X1_setFlag_fp fp 1 1), .int fc, .int fd, .int fb, .long fz]))]) (gcV (As := [.int 1, .int 1]) (rest := []) ⟨hx, hb, hml, hown, hts⟩ (c_X1_setFlag l dC dI s.heap.size h0 hu hm fn fo fa fx fy fs fp fc fd fb fz 1 1) (cwV 2 hts (gw_V gw_b gm_467 gm_469 gm_18 gm_71 gm_470) rfl rfl rfl (by decide +kernel) ⟨Nat.le_of_ble_eq_true rfl, Nat.le_of_ble_eq_true rfl⟩) hK [] rfl hP hD [0] rfl rfl rfl rfl wX0_k (fun _ _ _ => trivial) rfl rfl hl.1 rfl (lv_room (Nat.le_of_ble_eq_true rfl)) dX1_changeFlag_52 ⟨Nat.le_of_ble_eq_true rfl, Nat.le_of_ble_eq_true rfl⟩) hP hD hS hA [0] [] rfl rfl rfl (by decide) (fun H locs hP hD hS => ?_)
    have hP : va_P (dC, dI) vwCl [(h0, .inr (0, [.int fn, .ref hu, .int fo, .ref hm, .int fa, .int fx, .int fy, .int fs, .int (f_X1_setFlag_fp fp 1 1), .int fc, .int fd, .int fb, .long fz]))] H := hP
    have hD : va_D A [(h0, .inr (0, [.int fn, .ref hu, .int fo, .ref hm, .int fa, .int fx, .int fy, .int fs, .int (f_X1_setFlag_fp fp 1 1), .int fc, .int fd, .int fb, .long fz]))] := hD
    refine lv_goto (tgt := 103) hx hb dX1_changeFlag_55 (by decide) ?_
    have e_fp : (f_X1_changeFlag_fp fp p1) = (f_X1_setFlag_fp fp 1 1) := ((if_neg c_1)).trans (if_pos c_2)
    have hP9 : va_P (dC, dI) vwCl [(h0, .inr (0, [.int fn, .ref hu, .int fo, .ref hm, .int fa, .int fx, .int fy, .int fs, .int (f_X1_changeFlag_fp fp p1), .int fc, .int fd, .int fb, .long fz]))] H := by rw [e_fp]; exact hP.sub (ws' := [(h0, .inr (0, [.int fn, .ref hu, .int fo, .ref hm, .int fa, .int fx, .int fy, .int fs, .int (f_X1_setFlag_fp fp 1 1), .int fc, .int fd, .int fb, .long fz]))]) [0] rfl
    have hD9 : va_D A [(h0, .inr (0, [.int fn, .ref hu, .int fo, .ref hm, .int fa, .int fx, .int fy, .int fs, .int (f_X1_changeFlag_fp fp p1), .int fc, .int fd, .int fb, .long fz]))] := by rw [e_fp]; exact hD.sub (ws' := [(h0, .inr (0, [.int fn, .ref hu, .int fo, .ref hm, .int fa, .int fx, .int fy, .int fs, .int (f_X1_setFlag_fp fp 1 1), .int fc, .int fd, .int fb, .long fz]))]) [0] (by decide) rfl
    exact W.vret hx hb hr (fun t ht hW => ⟨⟨(), rfl, trivial, by rw [ht]; exact hP9, hD9⟩, hS.F ht⟩) hS.2.2 dX1_changeFlag_103
  refine sw_by (p := p1 = 82) (fun c_3 => ?_) (fun c_3 => ?_)
  · refine sw_at c_3 ?_
    refine lv_tableIn (tgt := 58) hx hb dX1_changeFlag_1 (by decide) (by decide) rfl (by decide) ?_
    refine lv_aload_n hx hb dX1_changeFlag_58 rfl (lv_at hl 0 rfl) ?_
    refine lv_iconst (v := 4) hx hb dX1_changeFlag_59 (by decide) ?_
    refine lv_iconst (v := 0) hx hb dX1_changeFlag_60 (by decide) ?_
    refine gc_v (wr := []) (w1 := [(h0, .inr (0, [.int fn, .ref hu, .int fo, .ref hm, .int fa, .int fx, .int fy, .int fs, .int (f_X1_setFlag_fp fp 4 0), .int fc, .int fd, .int fb, .long fz]))]) (gcV (As := [.int 4, .int 0]) (rest := []) ⟨hx, hb, hml, hown, hts⟩ (c_X1_setFlag l dC dI s.heap.size h0 hu hm fn fo fa fx fy fs fp fc fd fb fz 4 0) (cwV 2 hts (gw_V gw_b gm_467 gm_469 gm_18 gm_71 gm_470) rfl rfl rfl (by decide +kernel) ⟨Nat.le_of_ble_eq_true rfl, Nat.le_of_ble_eq_true rfl⟩) hK [] rfl hP hD [0] rfl rfl rfl rfl wX0_k (fun _ _ _ => trivial) rfl rfl hl.1 rfl (lv_room (Nat.le_of_ble_eq_true rfl)) dX1_changeFlag_61 ⟨Nat.le_of_ble_eq_true rfl, Nat.le_of_ble_eq_true rfl⟩) hP hD hS hA [0] [] rfl rfl rfl (by decide) (fun H locs hP hD hS => ?_)
    have hP : va_P (dC, dI) vwCl [(h0, .inr (0, [.int fn, .ref hu, .int fo, .ref hm, .int fa, .int fx, .int fy, .int fs, .int (f_X1_setFlag_fp fp 4 0), .int fc, .int fd, .int fb, .long fz]))] H := hP
    have hD : va_D A [(h0, .inr (0, [.int fn, .ref hu, .int fo, .ref hm, .int fa, .int fx, .int fy, .int fs, .int (f_X1_setFlag_fp fp 4 0), .int fc, .int fd, .int fb, .long fz]))] := hD
    refine lv_goto (tgt := 103) hx hb dX1_changeFlag_64 (by decide) ?_
    have e_fp : (f_X1_changeFlag_fp fp p1) = (f_X1_setFlag_fp fp 4 0) := (((if_neg c_1)).trans (if_neg c_2)).trans (if_pos c_3)
    have hP9 : va_P (dC, dI) vwCl [(h0, .inr (0, [.int fn, .ref hu, .int fo, .ref hm, .int fa, .int fx, .int fy, .int fs, .int (f_X1_changeFlag_fp fp p1), .int fc, .int fd, .int fb, .long fz]))] H := by rw [e_fp]; exact hP.sub (ws' := [(h0, .inr (0, [.int fn, .ref hu, .int fo, .ref hm, .int fa, .int fx, .int fy, .int fs, .int (f_X1_setFlag_fp fp 4 0), .int fc, .int fd, .int fb, .long fz]))]) [0] rfl
    have hD9 : va_D A [(h0, .inr (0, [.int fn, .ref hu, .int fo, .ref hm, .int fa, .int fx, .int fy, .int fs, .int (f_X1_changeFlag_fp fp p1), .int fc, .int fd, .int fb, .long fz]))] := by rw [e_fp]; exact hD.sub (ws' := [(h0, .inr (0, [.int fn, .ref hu, .int fo, .ref hm, .int fa, .int fx, .int fy, .int fs, .int (f_X1_setFlag_fp fp 4 0), .int fc, .int fd, .int fb, .long fz]))]) [0] (by decide) rfl
    exact W.vret hx hb hr (fun t ht hW => ⟨⟨(), rfl, trivial, by rw [ht]; exact hP9, hD9⟩, hS.F ht⟩) hS.2.2 dX1_changeFlag_103
  refine sw_by (p := p1 = 83) (fun c_4 => ?_) (fun c_4 => ?_)
  · refine sw_at c_4 ?_
    refine lv_tableIn (tgt := 67) hx hb dX1_changeFlag_1 (by decide) (by decide) rfl (by decide) ?_
    refine lv_aload_n hx hb dX1_changeFlag_67 rfl (lv_at hl 0 rfl) ?_
    refine lv_iconst (v := 4) hx hb dX1_changeFlag_68 (by decide) ?_
    refine lv_iconst (v := 1) hx hb dX1_changeFlag_69 (by decide) ?_
    refine gc_v (wr := []) (w1 := [(h0, .inr (0, [.int fn, .ref hu, .int fo, .ref hm, .int fa, .int fx, .int fy, .int fs, .int (f_X1_setFlag_fp fp 4 1), .int fc, .int fd, .int fb, .long fz]))]) (gcV (As := [.int 4, .int 1]) (rest := []) ⟨hx, hb, hml, hown, hts⟩ (c_X1_setFlag l dC dI s.heap.size h0 hu hm fn fo fa fx fy fs fp fc fd fb fz 4 1) (cwV 2 hts (gw_V gw_b gm_467 gm_469 gm_18 gm_71 gm_470) rfl rfl rfl (by decide +kernel) ⟨Nat.le_of_ble_eq_true rfl, Nat.le_of_ble_eq_true rfl⟩) hK [] rfl hP hD [0] rfl rfl rfl rfl wX0_k (fun _ _ _ => trivial) rfl rfl hl.1 rfl (lv_room (Nat.le_of_ble_eq_true rfl)) dX1_changeFlag_70 ⟨Nat.le_of_ble_eq_true rfl, Nat.le_of_ble_eq_true rfl⟩) hP hD hS hA [0] [] rfl rfl rfl (by decide) (fun H locs hP hD hS => ?_)
    have hP : va_P (dC, dI) vwCl [(h0, .inr (0, [.int fn, .ref hu, .int fo, .ref hm, .int fa, .int fx, .int fy, .int fs, .int (f_X1_setFlag_fp fp 4 1), .int fc, .int fd, .int fb, .long fz]))] H := hP
    have hD : va_D A [(h0, .inr (0, [.int fn, .ref hu, .int fo, .ref hm, .int fa, .int fx, .int fy, .int fs, .int (f_X1_setFlag_fp fp 4 1), .int fc, .int fd, .int fb, .long fz]))] := hD
    refine lv_goto (tgt := 103) hx hb dX1_changeFlag_73 (by decide) ?_
    have e_fp : (f_X1_changeFlag_fp fp p1) = (f_X1_setFlag_fp fp 4 1) := ((((if_neg c_1)).trans (if_neg c_2)).trans (if_neg c_3)).trans (if_pos c_4)
    have hP9 : va_P (dC, dI) vwCl [(h0, .inr (0, [.int fn, .ref hu, .int fo, .ref hm, .int fa, .int fx, .int fy, .int fs, .int (f_X1_changeFlag_fp fp p1), .int fc, .int fd, .int fb, .long fz]))] H := by rw [e_fp]; exact hP.sub (ws' := [(h0, .inr (0, [.int fn, .ref hu, .int fo, .ref hm, .int fa, .int fx, .int fy, .int fs, .int (f_X1_setFlag_fp fp 4 1), .int fc, .int fd, .int fb, .long fz]))]) [0] rfl
    have hD9 : va_D A [(h0, .inr (0, [.int fn, .ref hu, .int fo, .ref hm, .int fa, .int fx, .int fy, .int fs, .int (f_X1_changeFlag_fp fp p1), .int fc, .int fd, .int fb, .long fz]))] := by rw [e_fp]; exact hD.sub (ws' := [(h0, .inr (0, [.int fn, .ref hu, .int fo, .ref hm, .int fa, .int fx, .int fy, .int fs, .int (f_X1_setFlag_fp fp 4 1), .int fc, .int fd, .int fb, .long fz]))]) [0] (by decide) rfl
    exact W.vret hx hb hr (fun t ht hW => ⟨⟨(), rfl, trivial, by rw [ht]; exact hP9, hD9⟩, hS.F ht⟩) hS.2.2 dX1_changeFlag_103
  refine sw_by (p := p1 = 84) (fun c_5 => ?_) (fun c_5 => ?_)
  · refine sw_at c_5 ?_
    refine lv_tableIn (tgt := 76) hx hb dX1_changeFlag_1 (by decide) (by decide) rfl (by decide) ?_
    refine lv_aload_n hx hb dX1_changeFlag_76 rfl (lv_at hl 0 rfl) ?_
    refine lv_bipush (v := 64) hx hb dX1_changeFlag_77 (by decide) ?_
    refine lv_iconst (v := 0) hx hb dX1_changeFlag_79 (by decide) ?_
    refine gc_v (wr := []) (w1 := [(h0, .inr (0, [.int fn, .ref hu, .int fo, .ref hm, .int fa, .int fx, .int fy, .int fs, .int (f_X1_setFlag_fp fp 64 0), .int fc, .int fd, .int fb, .long fz]))]) (gcV (As := [.int 64, .int 0]) (rest := []) ⟨hx, hb, hml, hown, hts⟩ (c_X1_setFlag l dC dI s.heap.size h0 hu hm fn fo fa fx fy fs fp fc fd fb fz 64 0) (cwV 2 hts (gw_V gw_b gm_467 gm_469 gm_18 gm_71 gm_470) rfl rfl rfl (by decide +kernel) ⟨Nat.le_of_ble_eq_true rfl, Nat.le_of_ble_eq_true rfl⟩) hK [] rfl hP hD [0] rfl rfl rfl rfl wX0_k (fun _ _ _ => trivial) rfl rfl hl.1 rfl (lv_room (Nat.le_of_ble_eq_true rfl)) dX1_changeFlag_80 ⟨Nat.le_of_ble_eq_true rfl, Nat.le_of_ble_eq_true rfl⟩) hP hD hS hA [0] [] rfl rfl rfl (by decide) (fun H locs hP hD hS => ?_)
    have hP : va_P (dC, dI) vwCl [(h0, .inr (0, [.int fn, .ref hu, .int fo, .ref hm, .int fa, .int fx, .int fy, .int fs, .int (f_X1_setFlag_fp fp 64 0), .int fc, .int fd, .int fb, .long fz]))] H := hP
    have hD : va_D A [(h0, .inr (0, [.int fn, .ref hu, .int fo, .ref hm, .int fa, .int fx, .int fy, .int fs, .int (f_X1_setFlag_fp fp 64 0), .int fc, .int fd, .int fb, .long fz]))] := hD
    refine lv_goto (tgt := 103) hx hb dX1_changeFlag_83 (by decide) ?_
    have e_fp : (f_X1_changeFlag_fp fp p1) = (f_X1_setFlag_fp fp 64 0) := (((((if_neg c_1)).trans (if_neg c_2)).trans (if_neg c_3)).trans (if_neg c_4)).trans (if_pos c_5)
    have hP9 : va_P (dC, dI) vwCl [(h0, .inr (0, [.int fn, .ref hu, .int fo, .ref hm, .int fa, .int fx, .int fy, .int fs, .int (f_X1_changeFlag_fp fp p1), .int fc, .int fd, .int fb, .long fz]))] H := by rw [e_fp]; exact hP.sub (ws' := [(h0, .inr (0, [.int fn, .ref hu, .int fo, .ref hm, .int fa, .int fx, .int fy, .int fs, .int (f_X1_setFlag_fp fp 64 0), .int fc, .int fd, .int fb, .long fz]))]) [0] rfl
    have hD9 : va_D A [(h0, .inr (0, [.int fn, .ref hu, .int fo, .ref hm, .int fa, .int fx, .int fy, .int fs, .int (f_X1_changeFlag_fp fp p1), .int fc, .int fd, .int fb, .long fz]))] := by rw [e_fp]; exact hD.sub (ws' := [(h0, .inr (0, [.int fn, .ref hu, .int fo, .ref hm, .int fa, .int fx, .int fy, .int fs, .int (f_X1_setFlag_fp fp 64 0), .int fc, .int fd, .int fb, .long fz]))]) [0] (by decide) rfl
    exact W.vret hx hb hr (fun t ht hW => ⟨⟨(), rfl, trivial, by rw [ht]; exact hP9, hD9⟩, hS.F ht⟩) hS.2.2 dX1_changeFlag_103
  refine sw_by (p := p1 = 85) (fun c_6 => ?_) (fun c_6 => ?_)
  · refine sw_at c_6 ?_
    refine lv_tableIn (tgt := 86) hx hb dX1_changeFlag_1 (by decide) (by decide) rfl (by decide) ?_
    refine lv_aload_n hx hb dX1_changeFlag_86 rfl (lv_at hl 0 rfl) ?_
    refine lv_bipush (v := 8) hx hb dX1_changeFlag_87 (by decide) ?_
    refine lv_iconst (v := 0) hx hb dX1_changeFlag_89 (by decide) ?_
    refine gc_v (wr := []) (w1 := [(h0, .inr (0, [.int fn, .ref hu, .int fo, .ref hm, .int fa, .int fx, .int fy, .int fs, .int (f_X1_setFlag_fp fp 8 0), .int fc, .int fd, .int fb, .long fz]))]) (gcV (As := [.int 8, .int 0]) (rest := []) ⟨hx, hb, hml, hown, hts⟩ (c_X1_setFlag l dC dI s.heap.size h0 hu hm fn fo fa fx fy fs fp fc fd fb fz 8 0) (cwV 2 hts (gw_V gw_b gm_467 gm_469 gm_18 gm_71 gm_470) rfl rfl rfl (by decide +kernel) ⟨Nat.le_of_ble_eq_true rfl, Nat.le_of_ble_eq_true rfl⟩) hK [] rfl hP hD [0] rfl rfl rfl rfl wX0_k (fun _ _ _ => trivial) rfl rfl hl.1 rfl (lv_room (Nat.le_of_ble_eq_true rfl)) dX1_changeFlag_90 ⟨Nat.le_of_ble_eq_true rfl, Nat.le_of_ble_eq_true rfl⟩) hP hD hS hA [0] [] rfl rfl rfl (by decide) (fun H locs hP hD hS => ?_)
    have hP : va_P (dC, dI) vwCl [(h0, .inr (0, [.int fn, .ref hu, .int fo, .ref hm, .int fa, .int fx, .int fy, .int fs, .int (f_X1_setFlag_fp fp 8 0), .int fc, .int fd, .int fb, .long fz]))] H := hP
    have hD : va_D A [(h0, .inr (0, [.int fn, .ref hu, .int fo, .ref hm, .int fa, .int fx, .int fy, .int fs, .int (f_X1_setFlag_fp fp 8 0), .int fc, .int fd, .int fb, .long fz]))] := hD
    refine lv_goto (tgt := 103) hx hb dX1_changeFlag_93 (by decide) ?_
    have e_fp : (f_X1_changeFlag_fp fp p1) = (f_X1_setFlag_fp fp 8 0) := ((((((if_neg c_1)).trans (if_neg c_2)).trans (if_neg c_3)).trans (if_neg c_4)).trans (if_neg c_5)).trans (if_pos c_6)
    have hP9 : va_P (dC, dI) vwCl [(h0, .inr (0, [.int fn, .ref hu, .int fo, .ref hm, .int fa, .int fx, .int fy, .int fs, .int (f_X1_changeFlag_fp fp p1), .int fc, .int fd, .int fb, .long fz]))] H := by rw [e_fp]; exact hP.sub (ws' := [(h0, .inr (0, [.int fn, .ref hu, .int fo, .ref hm, .int fa, .int fx, .int fy, .int fs, .int (f_X1_setFlag_fp fp 8 0), .int fc, .int fd, .int fb, .long fz]))]) [0] rfl
    have hD9 : va_D A [(h0, .inr (0, [.int fn, .ref hu, .int fo, .ref hm, .int fa, .int fx, .int fy, .int fs, .int (f_X1_changeFlag_fp fp p1), .int fc, .int fd, .int fb, .long fz]))] := by rw [e_fp]; exact hD.sub (ws' := [(h0, .inr (0, [.int fn, .ref hu, .int fo, .ref hm, .int fa, .int fx, .int fy, .int fs, .int (f_X1_setFlag_fp fp 8 0), .int fc, .int fd, .int fb, .long fz]))]) [0] (by decide) rfl
    exact W.vret hx hb hr (fun t ht hW => ⟨⟨(), rfl, trivial, by rw [ht]; exact hP9, hD9⟩, hS.F ht⟩) hS.2.2 dX1_changeFlag_103
  refine lv_tableOut (tgt := 96) hx hb dX1_changeFlag_1 (sw_range (fun v h1 h2 => by rcases (show v = 80 ∨ v = 81 ∨ v = 82 ∨ v = 83 ∨ v = 84 ∨ v = 85 by omega) with rfl | rfl | rfl | rfl | rfl | rfl; (· exact c_1); (· exact c_2); (· exact c_3); (· exact c_4); (· exact c_5); (· exact c_6))) (by decide) ?_
  refine lv_aload_n hx hb dX1_changeFlag_96 rfl (lv_at hl 0 rfl) ?_
  refine lv_bipush (v := 8) hx hb dX1_changeFlag_97 (by decide) ?_
  refine lv_iconst (v := 1) hx hb dX1_changeFlag_99 (by decide) ?_
  refine gc_v (wr := []) (w1 := [(h0, .inr (0, [.int fn, .ref hu, .int fo, .ref hm, .int fa, .int fx, .int fy, .int fs, .int (f_X1_setFlag_fp fp 8 1), .int fc, .int fd, .int fb, .long fz]))]) (gcV (As := [.int 8, .int 1]) (rest := []) ⟨hx, hb, hml, hown, hts⟩ (c_X1_setFlag l dC dI s.heap.size h0 hu hm fn fo fa fx fy fs fp fc fd fb fz 8 1) (cwV 2 hts (gw_V gw_b gm_467 gm_469 gm_18 gm_71 gm_470) rfl rfl rfl (by decide +kernel) ⟨Nat.le_of_ble_eq_true rfl, Nat.le_of_ble_eq_true rfl⟩) hK [] rfl hP hD [0] rfl rfl rfl rfl wX0_k (fun _ _ _ => trivial) rfl rfl hl.1 rfl (lv_room (Nat.le_of_ble_eq_true rfl)) dX1_changeFlag_100 ⟨Nat.le_of_ble_eq_true rfl, Nat.le_of_ble_eq_true rfl⟩) hP hD hS hA [0] [] rfl rfl rfl (by decide) (fun H locs hP hD hS => ?_)
  have hP : va_P (dC, dI) vwCl [(h0, .inr (0, [.int fn, .ref hu, .int fo, .ref hm, .int fa, .int fx, .int fy, .int fs, .int (f_X1_setFlag_fp fp 8 1), .int fc, .int fd, .int fb, .long fz]))] H := hP
  have hD : va_D A [(h0, .inr (0, [.int fn, .ref hu, .int fo, .ref hm, .int fa, .int fx, .int fy, .int fs, .int (f_X1_setFlag_fp fp 8 1), .int fc, .int fd, .int fb, .long fz]))] := hD
  have e_fp : (f_X1_changeFlag_fp fp p1) = (f_X1_setFlag_fp fp 8 1) := ((((((if_neg c_1)).trans (if_neg c_2)).trans (if_neg c_3)).trans (if_neg c_4)).trans (if_neg c_5)).trans (if_neg c_6)
  have hP9 : va_P (dC, dI) vwCl [(h0, .inr (0, [.int fn, .ref hu, .int fo, .ref hm, .int fa, .int fx, .int fy, .int fs, .int (f_X1_changeFlag_fp fp p1), .int fc, .int fd, .int fb, .long fz]))] H := by rw [e_fp]; exact hP.sub (ws' := [(h0, .inr (0, [.int fn, .ref hu, .int fo, .ref hm, .int fa, .int fx, .int fy, .int fs, .int (f_X1_setFlag_fp fp 8 1), .int fc, .int fd, .int fb, .long fz]))]) [0] rfl
  have hD9 : va_D A [(h0, .inr (0, [.int fn, .ref hu, .int fo, .ref hm, .int fa, .int fx, .int fy, .int fs, .int (f_X1_changeFlag_fp fp p1), .int fc, .int fd, .int fb, .long fz]))] := by rw [e_fp]; exact hD.sub (ws' := [(h0, .inr (0, [.int fn, .ref hu, .int fo, .ref hm, .int fa, .int fx, .int fy, .int fs, .int (f_X1_setFlag_fp fp 8 1), .int fc, .int fd, .int fb, .long fz]))]) [0] (by decide) rfl
  exact W.vret hx hb hr (fun t ht hW => ⟨⟨(), rfl, trivial, by rw [ht]; exact hP9, hD9⟩, hS.F ht⟩) hS.2.2 dX1_changeFlag_103

def f_X1_goes_r (fp : Int32) (p1 : Int32) : Int32 := (if p1 = 128 then (if (fp &&& 128) = 0 then 1 else 0) else (if p1 = 129 then (if (fp &&& 128) = 0 then 0 else 1) else (if p1 = 130 then (if (fp &&& 64) = 0 then 1 else 0) else (if p1 = 131 then (if (fp &&& 64) = 0 then 0 else 1) else (if p1 = 132 then (if (fp &&& 1) = 0 then 1 else 0) else (if p1 = 133 then (if (fp &&& 1) = 0 then 0 else 1) else (if p1 = 134 then (if (fp &&& 2) = 0 then 1 else 0) else (if (fp &&& 2) = 0 then 0 else 1))))))))
theorem b_X1_goes (fp : Int32) (p1 : Int32) : wB (f_X1_goes_r fp p1) := by
  unfold f_X1_goes_r
  (by_cases c0 : p1 = 128; (· rw [if_pos c0]; (by_cases c1 : (fp &&& 128) = 0; (· rw [if_pos c1]; exact Or.inr rfl); (· rw [if_neg c1]; exact Or.inl rfl))); (· rw [if_neg c0]; (by_cases c2 : p1 = 129; (· rw [if_pos c2]; (by_cases c3 : (fp &&& 128) = 0; (· rw [if_pos c3]; exact Or.inl rfl); (· rw [if_neg c3]; exact Or.inr rfl))); (· rw [if_neg c2]; (by_cases c4 : p1 = 130; (· rw [if_pos c4]; (by_cases c5 : (fp &&& 64) = 0; (· rw [if_pos c5]; exact Or.inr rfl); (· rw [if_neg c5]; exact Or.inl rfl))); (· rw [if_neg c4]; (by_cases c6 : p1 = 131; (· rw [if_pos c6]; (by_cases c7 : (fp &&& 64) = 0; (· rw [if_pos c7]; exact Or.inl rfl); (· rw [if_neg c7]; exact Or.inr rfl))); (· rw [if_neg c6]; (by_cases c8 : p1 = 132; (· rw [if_pos c8]; (by_cases c9 : (fp &&& 1) = 0; (· rw [if_pos c9]; exact Or.inr rfl); (· rw [if_neg c9]; exact Or.inl rfl))); (· rw [if_neg c8]; (by_cases c10 : p1 = 133; (· rw [if_pos c10]; (by_cases c11 : (fp &&& 1) = 0; (· rw [if_pos c11]; exact Or.inl rfl); (· rw [if_neg c11]; exact Or.inr rfl))); (· rw [if_neg c10]; (by_cases c12 : p1 = 134; (· rw [if_pos c12]; (by_cases c13 : (fp &&& 2) = 0; (· rw [if_pos c13]; exact Or.inr rfl); (· rw [if_neg c13]; exact Or.inl rfl))); (· rw [if_neg c12]; (by_cases c14 : (fp &&& 2) = 0; (· rw [if_pos c14]; exact Or.inl rfl); (· rw [if_neg c14]; exact Or.inr rfl))))))))))))))))
set_option maxHeartbeats 4000000 in
set_option maxRecDepth 100000 in
/-- X1_goes -/
theorem c_X1_goes (l : Launch) (dC : Nat → ClassId) (dI : Nat → Nat → Nat) (sz : Nat) (h0 : Nat) (hu : Nat) (hm : Nat) (fn : Int32) (fo : Int32) (fa : Int32) (fx : Int32) (fy : Int32) (fs : Int32) (fp : Int32) (fc : Int32) (fd : Int32) (fb : Int32) (fz : Int64) (p1 : Int32)  : Met l yX1_goes (Cond.code yX1_goes cX1_goes 2 (some .boolean) :: gw) { frames := 0, cells := 0, slots := 0, locals := 0 } (va_Pc [.ref h0, .int p1] (wPre (dC, dI) [] [(h0, .inr (0, [.int fn, .ref hu, .int fo, .ref hm, .int fa, .int fx, .int fy, .int fs, .int fp, .int fc, .int fd, .int fb, .long fz]))] sz wX0)) (va_Qi (fun (r : Int32) (_ : Unit) => r = (f_X1_goes_r fp p1)) (fun _ t => wPost (dC, dI) (va_A [(h0, .inr (0, [.int fn, .ref hu, .int fo, .ref hm, .int fa, .int fx, .int fy, .int fs, .int fp, .int fc, .int fd, .int fb, .long fz]))] sz) [(h0, .inr (0, [.int fn, .ref hu, .int fo, .ref hm, .int fa, .int fx, .int fy, .int fs, .int fp, .int fc, .int fd, .int fb, .long fz]))] t) (va_A [(h0, .inr (0, [.int fn, .ref hu, .int fo, .ref hm, .int fa, .int fx, .int fy, .int fs, .int fp, .int fc, .int fd, .int fb, .long fz]))] sz)) 0 0 (va_A [(h0, .inr (0, [.int fn, .ref hu, .int fo, .ref hm, .int fa, .int fx, .int fy, .int fs, .int fp, .int fc, .int fd, .int fb, .long fz]))] sz) := by
  refine Met.ofW (cc := cX1_goes) (maxL := 2) (ret := (some .boolean)) (by decide) rfl ?_
  intro p e s m args below meth c s₁ B hml hv
  obtain ⟨rfl, hsz, hP, hK, hD0, hXX⟩ := hv
  have hx := B.exec
  have hb := B.bytes
  have hr := B.returns
  have hts := atoms_spec (ws := (Cond.code yX1_goes cX1_goes 2 (some .boolean) :: gw)) B.pre
  have hown : s.vm.findClass RX1 = some m.cls := findClass_of_methodNamed B.named
  have hlocks := B.notSynchronized
  subst hsz
  have hD := hD0.self (sz := s.heap.size)
  generalize hAe : va_A [(h0, .inr (0, [.int fn, .ref hu, .int fo, .ref hm, .int fa, .int fx, .int fy, .int fs, .int fp, .int fc, .int fd, .int fb, .long fz]))] s.heap.size = A at hD ⊢
  have hA : ∀ q : Nat, s.heap.size ≤ q → A q := fun q h => by rw [← hAe]; exact Or.inr h
  have hS : va_S A s.heap s.heap [] := va_S.rf
  have hl := lv_entry ([.ref h0, .int p1]) (n := 2) (Nat.le_of_ble_eq_true rfl)
  rw [lg_entry_eq]
  generalize (lg_sl ([.ref h0, .int p1]) ++ List.replicate (2 - (lg_sl ([.ref h0, .int p1])).length) Slot.unset).toArray = ls at hl ⊢
  have hl : lv_has ls 2 [(0, .ref h0), (1, .int p1)] := hl
  refine lv_iload_n hx hb dX1_goes_0 rfl (lv_at hl 1 rfl) ?_
  refine sw_by (p := p1 = 128) (fun c_1 => ?_) (fun c_1 => ?_)
  · refine sw_at c_1 ?_
    refine lv_tableIn (tgt := 44) hx hb dX1_goes_1 (by decide) (by decide) rfl (by decide) ?_
    refine lv_aload_n hx hb dX1_goes_44 rfl (lv_at hl 0 rfl) ?_
    refine va_get (D := (dC, dI)) (ci := 0) (v := .int fp) (C := RX1) (T := TX1) (N := 13) hx hb hts (fun w h => gw_b w (iX1 w h)) hown hK hP 0 rfl rfl 8 (by decide) (hts _ (gw_b _ gm_148)) (fun _ h9 => h9) rfl dX1_goes_45 ?_
    refine lv_sipush (v := 128) hx hb dX1_goes_48 (by decide) ?_
    refine lv_iand hx hb dX1_goes_51 ?_
    refine lv_if_ne (tgt := 59) hx hb dX1_goes_52 (by decide) (fun c_2 => ?_) (fun c_2 => ?_)
    · skip
      refine lv_iconst (v := 0) hx hb dX1_goes_59 (by decide) ?_
      have hP9 : va_P (dC, dI) vwCl [(h0, .inr (0, [.int fn, .ref hu, .int fo, .ref hm, .int fa, .int fx, .int fy, .int fs, .int fp, .int fc, .int fd, .int fb, .long fz]))] s.heap := by exact hP.sub (ws' := [(h0, .inr (0, [.int fn, .ref hu, .int fo, .ref hm, .int fa, .int fx, .int fy, .int fs, .int fp, .int fc, .int fd, .int fb, .long fz]))]) [0] rfl
      have hD9 : va_D A [(h0, .inr (0, [.int fn, .ref hu, .int fo, .ref hm, .int fa, .int fx, .int fy, .int fs, .int fp, .int fc, .int fd, .int fb, .long fz]))] := by exact hD.sub (ws' := [(h0, .inr (0, [.int fn, .ref hu, .int fo, .ref hm, .int fa, .int fx, .int fy, .int fs, .int fp, .int fc, .int fd, .int fb, .long fz]))]) [0] (by decide) rfl
      exact W.zret (v := 0) hx hb hr rfl (fun t ht hW => ⟨⟨0, (), rfl, Eq.symm (((if_pos c_1)).trans (if_neg c_2) : (f_X1_goes_r fp p1) = 0), by rw [ht]; exact hP9, hD9⟩, hS.F ht⟩) hS.2.2 dX1_goes_60
    · skip
      refine lv_iconst (v := 1) hx hb dX1_goes_55 (by decide) ?_
      refine lv_goto (tgt := 60) hx hb dX1_goes_56 (by decide) ?_
      have hP9 : va_P (dC, dI) vwCl [(h0, .inr (0, [.int fn, .ref hu, .int fo, .ref hm, .int fa, .int fx, .int fy, .int fs, .int fp, .int fc, .int fd, .int fb, .long fz]))] s.heap := by exact hP.sub (ws' := [(h0, .inr (0, [.int fn, .ref hu, .int fo, .ref hm, .int fa, .int fx, .int fy, .int fs, .int fp, .int fc, .int fd, .int fb, .long fz]))]) [0] rfl
      have hD9 : va_D A [(h0, .inr (0, [.int fn, .ref hu, .int fo, .ref hm, .int fa, .int fx, .int fy, .int fs, .int fp, .int fc, .int fd, .int fb, .long fz]))] := by exact hD.sub (ws' := [(h0, .inr (0, [.int fn, .ref hu, .int fo, .ref hm, .int fa, .int fx, .int fy, .int fs, .int fp, .int fc, .int fd, .int fb, .long fz]))]) [0] (by decide) rfl
      exact W.zret (v := 1) hx hb hr rfl (fun t ht hW => ⟨⟨1, (), rfl, Eq.symm (((if_pos c_1)).trans (if_pos c_2) : (f_X1_goes_r fp p1) = 1), by rw [ht]; exact hP9, hD9⟩, hS.F ht⟩) hS.2.2 dX1_goes_60
  refine sw_by (p := p1 = 129) (fun c_3 => ?_) (fun c_3 => ?_)
  · refine sw_at c_3 ?_
    refine lv_tableIn (tgt := 61) hx hb dX1_goes_1 (by decide) (by decide) rfl (by decide) ?_
    refine lv_aload_n hx hb dX1_goes_61 rfl (lv_at hl 0 rfl) ?_
    refine va_get (D := (dC, dI)) (ci := 0) (v := .int fp) (C := RX1) (T := TX1) (N := 13) hx hb hts (fun w h => gw_b w (iX1 w h)) hown hK hP 0 rfl rfl 8 (by decide) (hts _ (gw_b _ gm_148)) (fun _ h9 => h9) rfl dX1_goes_62 ?_
    refine lv_sipush (v := 128) hx hb dX1_goes_65 (by decide) ?_
    refine lv_iand hx hb dX1_goes_68 ?_
    refine lv_if_eq (tgt := 76) hx hb dX1_goes_69 (by decide) (fun c_4 => ?_) (fun c_4 => ?_)
    · skip
      refine lv_iconst (v := 0) hx hb dX1_goes_76 (by decide) ?_
      have hP9 : va_P (dC, dI) vwCl [(h0, .inr (0, [.int fn, .ref hu, .int fo, .ref hm, .int fa, .int fx, .int fy, .int fs, .int fp, .int fc, .int fd, .int fb, .long fz]))] s.heap := by exact hP.sub (ws' := [(h0, .inr (0, [.int fn, .ref hu, .int fo, .ref hm, .int fa, .int fx, .int fy, .int fs, .int fp, .int fc, .int fd, .int fb, .long fz]))]) [0] rfl
      have hD9 : va_D A [(h0, .inr (0, [.int fn, .ref hu, .int fo, .ref hm, .int fa, .int fx, .int fy, .int fs, .int fp, .int fc, .int fd, .int fb, .long fz]))] := by exact hD.sub (ws' := [(h0, .inr (0, [.int fn, .ref hu, .int fo, .ref hm, .int fa, .int fx, .int fy, .int fs, .int fp, .int fc, .int fd, .int fb, .long fz]))]) [0] (by decide) rfl
      exact W.zret (v := 0) hx hb hr rfl (fun t ht hW => ⟨⟨0, (), rfl, Eq.symm ((((if_neg c_1)).trans (if_pos c_3)).trans (if_pos c_4) : (f_X1_goes_r fp p1) = 0), by rw [ht]; exact hP9, hD9⟩, hS.F ht⟩) hS.2.2 dX1_goes_77
    · skip
      refine lv_iconst (v := 1) hx hb dX1_goes_72 (by decide) ?_
      refine lv_goto (tgt := 77) hx hb dX1_goes_73 (by decide) ?_
      have hP9 : va_P (dC, dI) vwCl [(h0, .inr (0, [.int fn, .ref hu, .int fo, .ref hm, .int fa, .int fx, .int fy, .int fs, .int fp, .int fc, .int fd, .int fb, .long fz]))] s.heap := by exact hP.sub (ws' := [(h0, .inr (0, [.int fn, .ref hu, .int fo, .ref hm, .int fa, .int fx, .int fy, .int fs, .int fp, .int fc, .int fd, .int fb, .long fz]))]) [0] rfl
      have hD9 : va_D A [(h0, .inr (0, [.int fn, .ref hu, .int fo, .ref hm, .int fa, .int fx, .int fy, .int fs, .int fp, .int fc, .int fd, .int fb, .long fz]))] := by exact hD.sub (ws' := [(h0, .inr (0, [.int fn, .ref hu, .int fo, .ref hm, .int fa, .int fx, .int fy, .int fs, .int fp, .int fc, .int fd, .int fb, .long fz]))]) [0] (by decide) rfl
      exact W.zret (v := 1) hx hb hr rfl (fun t ht hW => ⟨⟨1, (), rfl, Eq.symm ((((if_neg c_1)).trans (if_pos c_3)).trans (if_neg c_4) : (f_X1_goes_r fp p1) = 1), by rw [ht]; exact hP9, hD9⟩, hS.F ht⟩) hS.2.2 dX1_goes_77
  refine sw_by (p := p1 = 130) (fun c_5 => ?_) (fun c_5 => ?_)
  · refine sw_at c_5 ?_
    refine lv_tableIn (tgt := 78) hx hb dX1_goes_1 (by decide) (by decide) rfl (by decide) ?_
    refine lv_aload_n hx hb dX1_goes_78 rfl (lv_at hl 0 rfl) ?_
    refine va_get (D := (dC, dI)) (ci := 0) (v := .int fp) (C := RX1) (T := TX1) (N := 13) hx hb hts (fun w h => gw_b w (iX1 w h)) hown hK hP 0 rfl rfl 8 (by decide) (hts _ (gw_b _ gm_148)) (fun _ h9 => h9) rfl dX1_goes_79 ?_
    refine lv_bipush (v := 64) hx hb dX1_goes_82 (by decide) ?_
    refine lv_iand hx hb dX1_goes_84 ?_
    refine lv_if_ne (tgt := 92) hx hb dX1_goes_85 (by decide) (fun c_6 => ?_) (fun c_6 => ?_)
    · skip
      refine lv_iconst (v := 0) hx hb dX1_goes_92 (by decide) ?_
      have hP9 : va_P (dC, dI) vwCl [(h0, .inr (0, [.int fn, .ref hu, .int fo, .ref hm, .int fa, .int fx, .int fy, .int fs, .int fp, .int fc, .int fd, .int fb, .long fz]))] s.heap := by exact hP.sub (ws' := [(h0, .inr (0, [.int fn, .ref hu, .int fo, .ref hm, .int fa, .int fx, .int fy, .int fs, .int fp, .int fc, .int fd, .int fb, .long fz]))]) [0] rfl
      have hD9 : va_D A [(h0, .inr (0, [.int fn, .ref hu, .int fo, .ref hm, .int fa, .int fx, .int fy, .int fs, .int fp, .int fc, .int fd, .int fb, .long fz]))] := by exact hD.sub (ws' := [(h0, .inr (0, [.int fn, .ref hu, .int fo, .ref hm, .int fa, .int fx, .int fy, .int fs, .int fp, .int fc, .int fd, .int fb, .long fz]))]) [0] (by decide) rfl
      exact W.zret (v := 0) hx hb hr rfl (fun t ht hW => ⟨⟨0, (), rfl, Eq.symm (((((if_neg c_1)).trans (if_neg c_3)).trans (if_pos c_5)).trans (if_neg c_6) : (f_X1_goes_r fp p1) = 0), by rw [ht]; exact hP9, hD9⟩, hS.F ht⟩) hS.2.2 dX1_goes_93
    · skip
      refine lv_iconst (v := 1) hx hb dX1_goes_88 (by decide) ?_
      refine lv_goto (tgt := 93) hx hb dX1_goes_89 (by decide) ?_
      have hP9 : va_P (dC, dI) vwCl [(h0, .inr (0, [.int fn, .ref hu, .int fo, .ref hm, .int fa, .int fx, .int fy, .int fs, .int fp, .int fc, .int fd, .int fb, .long fz]))] s.heap := by exact hP.sub (ws' := [(h0, .inr (0, [.int fn, .ref hu, .int fo, .ref hm, .int fa, .int fx, .int fy, .int fs, .int fp, .int fc, .int fd, .int fb, .long fz]))]) [0] rfl
      have hD9 : va_D A [(h0, .inr (0, [.int fn, .ref hu, .int fo, .ref hm, .int fa, .int fx, .int fy, .int fs, .int fp, .int fc, .int fd, .int fb, .long fz]))] := by exact hD.sub (ws' := [(h0, .inr (0, [.int fn, .ref hu, .int fo, .ref hm, .int fa, .int fx, .int fy, .int fs, .int fp, .int fc, .int fd, .int fb, .long fz]))]) [0] (by decide) rfl
      exact W.zret (v := 1) hx hb hr rfl (fun t ht hW => ⟨⟨1, (), rfl, Eq.symm (((((if_neg c_1)).trans (if_neg c_3)).trans (if_pos c_5)).trans (if_pos c_6) : (f_X1_goes_r fp p1) = 1), by rw [ht]; exact hP9, hD9⟩, hS.F ht⟩) hS.2.2 dX1_goes_93
  refine sw_by (p := p1 = 131) (fun c_7 => ?_) (fun c_7 => ?_)
  · refine sw_at c_7 ?_
    refine lv_tableIn (tgt := 94) hx hb dX1_goes_1 (by decide) (by decide) rfl (by decide) ?_
    refine lv_aload_n hx hb dX1_goes_94 rfl (lv_at hl 0 rfl) ?_
    refine va_get (D := (dC, dI)) (ci := 0) (v := .int fp) (C := RX1) (T := TX1) (N := 13) hx hb hts (fun w h => gw_b w (iX1 w h)) hown hK hP 0 rfl rfl 8 (by decide) (hts _ (gw_b _ gm_148)) (fun _ h9 => h9) rfl dX1_goes_95 ?_
    refine lv_bipush (v := 64) hx hb dX1_goes_98 (by decide) ?_
    refine lv_iand hx hb dX1_goes_100 ?_
    refine lv_if_eq (tgt := 108) hx hb dX1_goes_101 (by decide) (fun c_8 => ?_) (fun c_8 => ?_)
    · skip
      refine lv_iconst (v := 0) hx hb dX1_goes_108 (by decide) ?_
      have hP9 : va_P (dC, dI) vwCl [(h0, .inr (0, [.int fn, .ref hu, .int fo, .ref hm, .int fa, .int fx, .int fy, .int fs, .int fp, .int fc, .int fd, .int fb, .long fz]))] s.heap := by exact hP.sub (ws' := [(h0, .inr (0, [.int fn, .ref hu, .int fo, .ref hm, .int fa, .int fx, .int fy, .int fs, .int fp, .int fc, .int fd, .int fb, .long fz]))]) [0] rfl
      have hD9 : va_D A [(h0, .inr (0, [.int fn, .ref hu, .int fo, .ref hm, .int fa, .int fx, .int fy, .int fs, .int fp, .int fc, .int fd, .int fb, .long fz]))] := by exact hD.sub (ws' := [(h0, .inr (0, [.int fn, .ref hu, .int fo, .ref hm, .int fa, .int fx, .int fy, .int fs, .int fp, .int fc, .int fd, .int fb, .long fz]))]) [0] (by decide) rfl
      exact W.zret (v := 0) hx hb hr rfl (fun t ht hW => ⟨⟨0, (), rfl, Eq.symm ((((((if_neg c_1)).trans (if_neg c_3)).trans (if_neg c_5)).trans (if_pos c_7)).trans (if_pos c_8) : (f_X1_goes_r fp p1) = 0), by rw [ht]; exact hP9, hD9⟩, hS.F ht⟩) hS.2.2 dX1_goes_109
    · skip
      refine lv_iconst (v := 1) hx hb dX1_goes_104 (by decide) ?_
      refine lv_goto (tgt := 109) hx hb dX1_goes_105 (by decide) ?_
      have hP9 : va_P (dC, dI) vwCl [(h0, .inr (0, [.int fn, .ref hu, .int fo, .ref hm, .int fa, .int fx, .int fy, .int fs, .int fp, .int fc, .int fd, .int fb, .long fz]))] s.heap := by exact hP.sub (ws' := [(h0, .inr (0, [.int fn, .ref hu, .int fo, .ref hm, .int fa, .int fx, .int fy, .int fs, .int fp, .int fc, .int fd, .int fb, .long fz]))]) [0] rfl
      have hD9 : va_D A [(h0, .inr (0, [.int fn, .ref hu, .int fo, .ref hm, .int fa, .int fx, .int fy, .int fs, .int fp, .int fc, .int fd, .int fb, .long fz]))] := by exact hD.sub (ws' := [(h0, .inr (0, [.int fn, .ref hu, .int fo, .ref hm, .int fa, .int fx, .int fy, .int fs, .int fp, .int fc, .int fd, .int fb, .long fz]))]) [0] (by decide) rfl
      exact W.zret (v := 1) hx hb hr rfl (fun t ht hW => ⟨⟨1, (), rfl, Eq.symm ((((((if_neg c_1)).trans (if_neg c_3)).trans (if_neg c_5)).trans (if_pos c_7)).trans (if_neg c_8) : (f_X1_goes_r fp p1) = 1), by rw [ht]; exact hP9, hD9⟩, hS.F ht⟩) hS.2.2 dX1_goes_109
  refine sw_by (p := p1 = 132) (fun c_9 => ?_) (fun c_9 => ?_)
  · refine sw_at c_9 ?_
    refine lv_tableIn (tgt := 110) hx hb dX1_goes_1 (by decide) (by decide) rfl (by decide) ?_
    refine lv_aload_n hx hb dX1_goes_110 rfl (lv_at hl 0 rfl) ?_
    refine va_get (D := (dC, dI)) (ci := 0) (v := .int fp) (C := RX1) (T := TX1) (N := 13) hx hb hts (fun w h => gw_b w (iX1 w h)) hown hK hP 0 rfl rfl 8 (by decide) (hts _ (gw_b _ gm_148)) (fun _ h9 => h9) rfl dX1_goes_111 ?_
    refine lv_iconst (v := 1) hx hb dX1_goes_114 (by decide) ?_
    refine lv_iand hx hb dX1_goes_115 ?_
    refine lv_if_ne (tgt := 123) hx hb dX1_goes_116 (by decide) (fun c_10 => ?_) (fun c_10 => ?_)
    · skip
      refine lv_iconst (v := 0) hx hb dX1_goes_123 (by decide) ?_
      have hP9 : va_P (dC, dI) vwCl [(h0, .inr (0, [.int fn, .ref hu, .int fo, .ref hm, .int fa, .int fx, .int fy, .int fs, .int fp, .int fc, .int fd, .int fb, .long fz]))] s.heap := by exact hP.sub (ws' := [(h0, .inr (0, [.int fn, .ref hu, .int fo, .ref hm, .int fa, .int fx, .int fy, .int fs, .int fp, .int fc, .int fd, .int fb, .long fz]))]) [0] rfl
      have hD9 : va_D A [(h0, .inr (0, [.int fn, .ref hu, .int fo, .ref hm, .int fa, .int fx, .int fy, .int fs, .int fp, .int fc, .int fd, .int fb, .long fz]))] := by exact hD.sub (ws' := [(h0, .inr (0, [.int fn, .ref hu, .int fo, .ref hm, .int fa, .int fx, .int fy, .int fs, .int fp, .int fc, .int fd, .int fb, .long fz]))]) [0] (by decide) rfl
      exact W.zret (v := 0) hx hb hr rfl (fun t ht hW => ⟨⟨0, (), rfl, Eq.symm (((((((if_neg c_1)).trans (if_neg c_3)).trans (if_neg c_5)).trans (if_neg c_7)).trans (if_pos c_9)).trans (if_neg c_10) : (f_X1_goes_r fp p1) = 0), by rw [ht]; exact hP9, hD9⟩, hS.F ht⟩) hS.2.2 dX1_goes_124
    · skip
      refine lv_iconst (v := 1) hx hb dX1_goes_119 (by decide) ?_
      refine lv_goto (tgt := 124) hx hb dX1_goes_120 (by decide) ?_
      have hP9 : va_P (dC, dI) vwCl [(h0, .inr (0, [.int fn, .ref hu, .int fo, .ref hm, .int fa, .int fx, .int fy, .int fs, .int fp, .int fc, .int fd, .int fb, .long fz]))] s.heap := by exact hP.sub (ws' := [(h0, .inr (0, [.int fn, .ref hu, .int fo, .ref hm, .int fa, .int fx, .int fy, .int fs, .int fp, .int fc, .int fd, .int fb, .long fz]))]) [0] rfl
      have hD9 : va_D A [(h0, .inr (0, [.int fn, .ref hu, .int fo, .ref hm, .int fa, .int fx, .int fy, .int fs, .int fp, .int fc, .int fd, .int fb, .long fz]))] := by exact hD.sub (ws' := [(h0, .inr (0, [.int fn, .ref hu, .int fo, .ref hm, .int fa, .int fx, .int fy, .int fs, .int fp, .int fc, .int fd, .int fb, .long fz]))]) [0] (by decide) rfl
      exact W.zret (v := 1) hx hb hr rfl (fun t ht hW => ⟨⟨1, (), rfl, Eq.symm (((((((if_neg c_1)).trans (if_neg c_3)).trans (if_neg c_5)).trans (if_neg c_7)).trans (if_pos c_9)).trans (if_pos c_10) : (f_X1_goes_r fp p1) = 1), by rw [ht]; exact hP9, hD9⟩, hS.F ht⟩) hS.2.2 dX1_goes_124
  refine sw_by (p := p1 = 133) (fun c_11 => ?_) (fun c_11 => ?_)
  · refine sw_at c_11 ?_
    refine lv_tableIn (tgt := 125) hx hb dX1_goes_1 (by decide) (by decide) rfl (by decide) ?_
    refine lv_aload_n hx hb dX1_goes_125 rfl (lv_at hl 0 rfl) ?_
    refine va_get (D := (dC, dI)) (ci := 0) (v := .int fp) (C := RX1) (T := TX1) (N := 13) hx hb hts (fun w h => gw_b w (iX1 w h)) hown hK hP 0 rfl rfl 8 (by decide) (hts _ (gw_b _ gm_148)) (fun _ h9 => h9) rfl dX1_goes_126 ?_
    refine lv_iconst (v := 1) hx hb dX1_goes_129 (by decide) ?_
    refine lv_iand hx hb dX1_goes_130 ?_
    refine lv_if_eq (tgt := 138) hx hb dX1_goes_131 (by decide) (fun c_12 => ?_) (fun c_12 => ?_)
    · skip
      refine lv_iconst (v := 0) hx hb dX1_goes_138 (by decide) ?_
      have hP9 : va_P (dC, dI) vwCl [(h0, .inr (0, [.int fn, .ref hu, .int fo, .ref hm, .int fa, .int fx, .int fy, .int fs, .int fp, .int fc, .int fd, .int fb, .long fz]))] s.heap := by exact hP.sub (ws' := [(h0, .inr (0, [.int fn, .ref hu, .int fo, .ref hm, .int fa, .int fx, .int fy, .int fs, .int fp, .int fc, .int fd, .int fb, .long fz]))]) [0] rfl
      have hD9 : va_D A [(h0, .inr (0, [.int fn, .ref hu, .int fo, .ref hm, .int fa, .int fx, .int fy, .int fs, .int fp, .int fc, .int fd, .int fb, .long fz]))] := by exact hD.sub (ws' := [(h0, .inr (0, [.int fn, .ref hu, .int fo, .ref hm, .int fa, .int fx, .int fy, .int fs, .int fp, .int fc, .int fd, .int fb, .long fz]))]) [0] (by decide) rfl
      exact W.zret (v := 0) hx hb hr rfl (fun t ht hW => ⟨⟨0, (), rfl, Eq.symm ((((((((if_neg c_1)).trans (if_neg c_3)).trans (if_neg c_5)).trans (if_neg c_7)).trans (if_neg c_9)).trans (if_pos c_11)).trans (if_pos c_12) : (f_X1_goes_r fp p1) = 0), by rw [ht]; exact hP9, hD9⟩, hS.F ht⟩) hS.2.2 dX1_goes_139
    · skip
      refine lv_iconst (v := 1) hx hb dX1_goes_134 (by decide) ?_
      refine lv_goto (tgt := 139) hx hb dX1_goes_135 (by decide) ?_
      have hP9 : va_P (dC, dI) vwCl [(h0, .inr (0, [.int fn, .ref hu, .int fo, .ref hm, .int fa, .int fx, .int fy, .int fs, .int fp, .int fc, .int fd, .int fb, .long fz]))] s.heap := by exact hP.sub (ws' := [(h0, .inr (0, [.int fn, .ref hu, .int fo, .ref hm, .int fa, .int fx, .int fy, .int fs, .int fp, .int fc, .int fd, .int fb, .long fz]))]) [0] rfl
      have hD9 : va_D A [(h0, .inr (0, [.int fn, .ref hu, .int fo, .ref hm, .int fa, .int fx, .int fy, .int fs, .int fp, .int fc, .int fd, .int fb, .long fz]))] := by exact hD.sub (ws' := [(h0, .inr (0, [.int fn, .ref hu, .int fo, .ref hm, .int fa, .int fx, .int fy, .int fs, .int fp, .int fc, .int fd, .int fb, .long fz]))]) [0] (by decide) rfl
      exact W.zret (v := 1) hx hb hr rfl (fun t ht hW => ⟨⟨1, (), rfl, Eq.symm ((((((((if_neg c_1)).trans (if_neg c_3)).trans (if_neg c_5)).trans (if_neg c_7)).trans (if_neg c_9)).trans (if_pos c_11)).trans (if_neg c_12) : (f_X1_goes_r fp p1) = 1), by rw [ht]; exact hP9, hD9⟩, hS.F ht⟩) hS.2.2 dX1_goes_139
  refine sw_by (p := p1 = 134) (fun c_13 => ?_) (fun c_13 => ?_)
  · refine sw_at c_13 ?_
    refine lv_tableIn (tgt := 140) hx hb dX1_goes_1 (by decide) (by decide) rfl (by decide) ?_
    refine lv_aload_n hx hb dX1_goes_140 rfl (lv_at hl 0 rfl) ?_
    refine va_get (D := (dC, dI)) (ci := 0) (v := .int fp) (C := RX1) (T := TX1) (N := 13) hx hb hts (fun w h => gw_b w (iX1 w h)) hown hK hP 0 rfl rfl 8 (by decide) (hts _ (gw_b _ gm_148)) (fun _ h9 => h9) rfl dX1_goes_141 ?_
    refine lv_iconst (v := 2) hx hb dX1_goes_144 (by decide) ?_
    refine lv_iand hx hb dX1_goes_145 ?_
    refine lv_if_ne (tgt := 153) hx hb dX1_goes_146 (by decide) (fun c_14 => ?_) (fun c_14 => ?_)
    · skip
      refine lv_iconst (v := 0) hx hb dX1_goes_153 (by decide) ?_
      have hP9 : va_P (dC, dI) vwCl [(h0, .inr (0, [.int fn, .ref hu, .int fo, .ref hm, .int fa, .int fx, .int fy, .int fs, .int fp, .int fc, .int fd, .int fb, .long fz]))] s.heap := by exact hP.sub (ws' := [(h0, .inr (0, [.int fn, .ref hu, .int fo, .ref hm, .int fa, .int fx, .int fy, .int fs, .int fp, .int fc, .int fd, .int fb, .long fz]))]) [0] rfl
      have hD9 : va_D A [(h0, .inr (0, [.int fn, .ref hu, .int fo, .ref hm, .int fa, .int fx, .int fy, .int fs, .int fp, .int fc, .int fd, .int fb, .long fz]))] := by exact hD.sub (ws' := [(h0, .inr (0, [.int fn, .ref hu, .int fo, .ref hm, .int fa, .int fx, .int fy, .int fs, .int fp, .int fc, .int fd, .int fb, .long fz]))]) [0] (by decide) rfl
      exact W.zret (v := 0) hx hb hr rfl (fun t ht hW => ⟨⟨0, (), rfl, Eq.symm (((((((((if_neg c_1)).trans (if_neg c_3)).trans (if_neg c_5)).trans (if_neg c_7)).trans (if_neg c_9)).trans (if_neg c_11)).trans (if_pos c_13)).trans (if_neg c_14) : (f_X1_goes_r fp p1) = 0), by rw [ht]; exact hP9, hD9⟩, hS.F ht⟩) hS.2.2 dX1_goes_154
    · skip
      refine lv_iconst (v := 1) hx hb dX1_goes_149 (by decide) ?_
      refine lv_goto (tgt := 154) hx hb dX1_goes_150 (by decide) ?_
      have hP9 : va_P (dC, dI) vwCl [(h0, .inr (0, [.int fn, .ref hu, .int fo, .ref hm, .int fa, .int fx, .int fy, .int fs, .int fp, .int fc, .int fd, .int fb, .long fz]))] s.heap := by exact hP.sub (ws' := [(h0, .inr (0, [.int fn, .ref hu, .int fo, .ref hm, .int fa, .int fx, .int fy, .int fs, .int fp, .int fc, .int fd, .int fb, .long fz]))]) [0] rfl
      have hD9 : va_D A [(h0, .inr (0, [.int fn, .ref hu, .int fo, .ref hm, .int fa, .int fx, .int fy, .int fs, .int fp, .int fc, .int fd, .int fb, .long fz]))] := by exact hD.sub (ws' := [(h0, .inr (0, [.int fn, .ref hu, .int fo, .ref hm, .int fa, .int fx, .int fy, .int fs, .int fp, .int fc, .int fd, .int fb, .long fz]))]) [0] (by decide) rfl
      exact W.zret (v := 1) hx hb hr rfl (fun t ht hW => ⟨⟨1, (), rfl, Eq.symm (((((((((if_neg c_1)).trans (if_neg c_3)).trans (if_neg c_5)).trans (if_neg c_7)).trans (if_neg c_9)).trans (if_neg c_11)).trans (if_pos c_13)).trans (if_pos c_14) : (f_X1_goes_r fp p1) = 1), by rw [ht]; exact hP9, hD9⟩, hS.F ht⟩) hS.2.2 dX1_goes_154
  refine lv_tableOut (tgt := 155) hx hb dX1_goes_1 (sw_range (fun v h1 h2 => by rcases (show v = 128 ∨ v = 129 ∨ v = 130 ∨ v = 131 ∨ v = 132 ∨ v = 133 ∨ v = 134 by omega) with rfl | rfl | rfl | rfl | rfl | rfl | rfl; (· exact c_1); (· exact c_3); (· exact c_5); (· exact c_7); (· exact c_9); (· exact c_11); (· exact c_13))) (by decide) ?_
  refine lv_aload_n hx hb dX1_goes_155 rfl (lv_at hl 0 rfl) ?_
  refine va_get (D := (dC, dI)) (ci := 0) (v := .int fp) (C := RX1) (T := TX1) (N := 13) hx hb hts (fun w h => gw_b w (iX1 w h)) hown hK hP 0 rfl rfl 8 (by decide) (hts _ (gw_b _ gm_148)) (fun _ h9 => h9) rfl dX1_goes_156 ?_
  refine lv_iconst (v := 2) hx hb dX1_goes_159 (by decide) ?_
  refine lv_iand hx hb dX1_goes_160 ?_
  refine lv_if_eq (tgt := 168) hx hb dX1_goes_161 (by decide) (fun c_15 => ?_) (fun c_15 => ?_)
  · skip
    refine lv_iconst (v := 0) hx hb dX1_goes_168 (by decide) ?_
    have hP9 : va_P (dC, dI) vwCl [(h0, .inr (0, [.int fn, .ref hu, .int fo, .ref hm, .int fa, .int fx, .int fy, .int fs, .int fp, .int fc, .int fd, .int fb, .long fz]))] s.heap := by exact hP.sub (ws' := [(h0, .inr (0, [.int fn, .ref hu, .int fo, .ref hm, .int fa, .int fx, .int fy, .int fs, .int fp, .int fc, .int fd, .int fb, .long fz]))]) [0] rfl
    have hD9 : va_D A [(h0, .inr (0, [.int fn, .ref hu, .int fo, .ref hm, .int fa, .int fx, .int fy, .int fs, .int fp, .int fc, .int fd, .int fb, .long fz]))] := by exact hD.sub (ws' := [(h0, .inr (0, [.int fn, .ref hu, .int fo, .ref hm, .int fa, .int fx, .int fy, .int fs, .int fp, .int fc, .int fd, .int fb, .long fz]))]) [0] (by decide) rfl
    exact W.zret (v := 0) hx hb hr rfl (fun t ht hW => ⟨⟨0, (), rfl, Eq.symm (((((((((if_neg c_1)).trans (if_neg c_3)).trans (if_neg c_5)).trans (if_neg c_7)).trans (if_neg c_9)).trans (if_neg c_11)).trans (if_neg c_13)).trans (if_pos c_15) : (f_X1_goes_r fp p1) = 0), by rw [ht]; exact hP9, hD9⟩, hS.F ht⟩) hS.2.2 dX1_goes_169
  · skip
    refine lv_iconst (v := 1) hx hb dX1_goes_164 (by decide) ?_
    refine lv_goto (tgt := 169) hx hb dX1_goes_165 (by decide) ?_
    have hP9 : va_P (dC, dI) vwCl [(h0, .inr (0, [.int fn, .ref hu, .int fo, .ref hm, .int fa, .int fx, .int fy, .int fs, .int fp, .int fc, .int fd, .int fb, .long fz]))] s.heap := by exact hP.sub (ws' := [(h0, .inr (0, [.int fn, .ref hu, .int fo, .ref hm, .int fa, .int fx, .int fy, .int fs, .int fp, .int fc, .int fd, .int fb, .long fz]))]) [0] rfl
    have hD9 : va_D A [(h0, .inr (0, [.int fn, .ref hu, .int fo, .ref hm, .int fa, .int fx, .int fy, .int fs, .int fp, .int fc, .int fd, .int fb, .long fz]))] := by exact hD.sub (ws' := [(h0, .inr (0, [.int fn, .ref hu, .int fo, .ref hm, .int fa, .int fx, .int fy, .int fs, .int fp, .int fc, .int fd, .int fb, .long fz]))]) [0] (by decide) rfl
    exact W.zret (v := 1) hx hb hr rfl (fun t ht hW => ⟨⟨1, (), rfl, Eq.symm (((((((((if_neg c_1)).trans (if_neg c_3)).trans (if_neg c_5)).trans (if_neg c_7)).trans (if_neg c_9)).trans (if_neg c_11)).trans (if_neg c_13)).trans (if_neg c_15) : (f_X1_goes_r fp p1) = 1), by rw [ht]; exact hP9, hD9⟩, hS.F ht⟩) hS.2.2 dX1_goes_169

def f_X1_branch_fc (fp : Int32) (fc : Int32) (p1 : Int32) (p2 : Int32) : Int32 := (if (f_X1_goes_r fp p1) = 0 then fc else ((fc + (p2.toInt8.toInt32)) &&& 65535))
set_option maxHeartbeats 4000000 in
set_option maxRecDepth 100000 in
/-- X1_branch -/
theorem c_X1_branch (l : Launch) (dC : Nat → ClassId) (dI : Nat → Nat → Nat) (sz : Nat) (h0 : Nat) (hu : Nat) (hm : Nat) (fn : Int32) (fo : Int32) (fa : Int32) (fx : Int32) (fy : Int32) (fs : Int32) (fp : Int32) (fc : Int32) (fd : Int32) (fb : Int32) (fz : Int64) (p1 : Int32) (p2 : Int32)  : Met l yX1_branch (Cond.code yX1_branch cX1_branch 3 none :: gw) { frames := 1, cells := 0, slots := 0, locals := 21 } (va_Pc [.ref h0, .int p1, .int p2] (wPre (dC, dI) [] [(h0, .inr (0, [.int fn, .ref hu, .int fo, .ref hm, .int fa, .int fx, .int fy, .int fs, .int fp, .int fc, .int fd, .int fb, .long fz]))] sz wX0)) (va_Qv (fun _ : Unit => True) (fun _ t => wPost (dC, dI) (va_A [(h0, .inr (0, [.int fn, .ref hu, .int fo, .ref hm, .int fa, .int fx, .int fy, .int fs, .int fp, .int fc, .int fd, .int fb, .long fz]))] sz) [(h0, .inr (0, [.int fn, .ref hu, .int fo, .ref hm, .int fa, .int fx, .int fy, .int fs, .int fp, .int (f_X1_branch_fc fp fc p1 p2), .int fd, .int fb, .long fz]))] t) (va_A [(h0, .inr (0, [.int fn, .ref hu, .int fo, .ref hm, .int fa, .int fx, .int fy, .int fs, .int fp, .int fc, .int fd, .int fb, .long fz]))] sz)) 0 0 (va_A [(h0, .inr (0, [.int fn, .ref hu, .int fo, .ref hm, .int fa, .int fx, .int fy, .int fs, .int fp, .int fc, .int fd, .int fb, .long fz]))] sz) := by
  refine Met.ofW (cc := cX1_branch) (maxL := 3) (ret := none) (by decide) rfl ?_
  intro p e s m args below meth c s₁ B hml hv
  obtain ⟨rfl, hsz, hP, hK, hD0, hXX⟩ := hv
  have hx := B.exec
  have hb := B.bytes
  have hr := B.returns
  have hts := atoms_spec (ws := (Cond.code yX1_branch cX1_branch 3 none :: gw)) B.pre
  have hown : s.vm.findClass RX1 = some m.cls := findClass_of_methodNamed B.named
  have hlocks := B.notSynchronized
  subst hsz
  have hD := hD0.self (sz := s.heap.size)
  generalize hAe : va_A [(h0, .inr (0, [.int fn, .ref hu, .int fo, .ref hm, .int fa, .int fx, .int fy, .int fs, .int fp, .int fc, .int fd, .int fb, .long fz]))] s.heap.size = A at hD ⊢
  have hA : ∀ q : Nat, s.heap.size ≤ q → A q := fun q h => by rw [← hAe]; exact Or.inr h
  have hS : va_S A s.heap s.heap [] := va_S.rf
  have hl := lv_entry ([.ref h0, .int p1, .int p2]) (n := 3) (Nat.le_of_ble_eq_true rfl)
  rw [lg_entry_eq]
  generalize (lg_sl ([.ref h0, .int p1, .int p2]) ++ List.replicate (3 - (lg_sl ([.ref h0, .int p1, .int p2])).length) Slot.unset).toArray = ls at hl ⊢
  have hl : lv_has ls 3 [(0, .ref h0), (1, .int p1), (2, .int p2)] := hl
  refine lv_aload_n hx hb dX1_branch_0 rfl (lv_at hl 0 rfl) ?_
  refine lv_iload_n hx hb dX1_branch_1 rfl (lv_at hl 1 rfl) ?_
  refine gc_i (wr := []) (w1 := [(h0, .inr (0, [.int fn, .ref hu, .int fo, .ref hm, .int fa, .int fx, .int fy, .int fs, .int fp, .int fc, .int fd, .int fb, .long fz]))]) (gcV (As := [.int p1]) (rest := []) ⟨hx, hb, hml, hown, hts⟩ (c_X1_goes l dC dI s.heap.size h0 hu hm fn fo fa fx fy fs fp fc fd fb fz p1) (cwV 1 hts (gw_V gw_b gm_532 gm_534 gm_33 gm_71 gm_535) rfl rfl rfl (by decide +kernel) ⟨Nat.le_of_ble_eq_true rfl, Nat.le_of_ble_eq_true rfl⟩) hK [] rfl hP hD [0] rfl rfl rfl rfl wX0_k (fun _ _ _ => trivial) rfl rfl hl.1 rfl (lv_room (Nat.le_of_ble_eq_true rfl)) dX1_branch_2 ⟨Nat.le_of_ble_eq_true rfl, Nat.le_of_ble_eq_true rfl⟩) hP hD hS hA [0] [] rfl rfl rfl (by decide) (fun H locs hP hD hS => ?_)
  have hP : va_P (dC, dI) vwCl [(h0, .inr (0, [.int fn, .ref hu, .int fo, .ref hm, .int fa, .int fx, .int fy, .int fs, .int fp, .int fc, .int fd, .int fb, .long fz]))] H := hP
  have hD : va_D A [(h0, .inr (0, [.int fn, .ref hu, .int fo, .ref hm, .int fa, .int fx, .int fy, .int fs, .int fp, .int fc, .int fd, .int fb, .long fz]))] := hD
  refine lv_if_eq (tgt := 22) hx hb dX1_branch_5 (by decide) (fun c_1 => ?_) (fun c_1 => ?_)
  · skip
    have e_fc : (f_X1_branch_fc fp fc p1 p2) = fc := (if_pos c_1)
    have hP9 : va_P (dC, dI) vwCl [(h0, .inr (0, [.int fn, .ref hu, .int fo, .ref hm, .int fa, .int fx, .int fy, .int fs, .int fp, .int (f_X1_branch_fc fp fc p1 p2), .int fd, .int fb, .long fz]))] H := by rw [e_fc]; exact hP.sub (ws' := [(h0, .inr (0, [.int fn, .ref hu, .int fo, .ref hm, .int fa, .int fx, .int fy, .int fs, .int fp, .int fc, .int fd, .int fb, .long fz]))]) [0] rfl
    have hD9 : va_D A [(h0, .inr (0, [.int fn, .ref hu, .int fo, .ref hm, .int fa, .int fx, .int fy, .int fs, .int fp, .int (f_X1_branch_fc fp fc p1 p2), .int fd, .int fb, .long fz]))] := by rw [e_fc]; exact hD.sub (ws' := [(h0, .inr (0, [.int fn, .ref hu, .int fo, .ref hm, .int fa, .int fx, .int fy, .int fs, .int fp, .int fc, .int fd, .int fb, .long fz]))]) [0] (by decide) rfl
    exact W.vret hx hb hr (fun t ht hW => ⟨⟨(), rfl, trivial, by rw [ht]; exact hP9, hD9⟩, hS.F ht⟩) hS.2.2 dX1_branch_22
  · skip
    refine lv_aload_n hx hb dX1_branch_8 rfl (lv_at hl 0 rfl) ?_
    refine lv_aload_n hx hb dX1_branch_9 rfl (lv_at hl 0 rfl) ?_
    refine va_get (D := (dC, dI)) (ci := 0) (v := .int fc) (C := RX1) (T := TX1) (N := 13) hx hb hts (fun w h => gw_b w (iX1 w h)) hown hK hP 0 rfl rfl 9 (by decide) (hts _ (gw_b _ gm_149)) (fun _ h9 => h9) rfl dX1_branch_10 ?_
    refine lv_iload_n hx hb dX1_branch_13 rfl (lv_at hl 2 rfl) ?_
    refine lv_i2b (v := (p2.toInt8.toInt32)) hx hb dX1_branch_14 rfl ?_
    refine lv_iadd hx hb dX1_branch_15 ?_
    refine lv_ldc (v := 65535) hx hb hown (hts _ (gw_b _ gm_431)) dX1_branch_16 ?_
    refine lv_iand hx hb dX1_branch_18 ?_
    refine va_put (D := (dC, dI)) (ci := 0) (v := .int ((fc + (p2.toInt8.toInt32)) &&& 65535)) (ty := tyX1 9) (C := RX1) (T := TX1) (N := 13) hx hb hts (fun w h => gw_b w (iX1 w h)) tyX1 tyX1_ok nmX1 hown hK hP hD hS 0 rfl rfl 9 (by decide) (hts _ (gw_b _ gm_149)) (fun _ h9 => h9) rfl (tyX1_ok 9 (by decide)) rfl rfl (Nat.le_of_ble_eq_true rfl) dX1_branch_19 (fun H locs hP hD hS => ?_)
    have hP : va_P (dC, dI) vwCl [(h0, .inr (0, [.int fn, .ref hu, .int fo, .ref hm, .int fa, .int fx, .int fy, .int fs, .int fp, .int ((fc + (p2.toInt8.toInt32)) &&& 65535), .int fd, .int fb, .long fz]))] H := hP
    have hD : va_D A [(h0, .inr (0, [.int fn, .ref hu, .int fo, .ref hm, .int fa, .int fx, .int fy, .int fs, .int fp, .int ((fc + (p2.toInt8.toInt32)) &&& 65535), .int fd, .int fb, .long fz]))] := hD
    have e_fc : (f_X1_branch_fc fp fc p1 p2) = ((fc + (p2.toInt8.toInt32)) &&& 65535) := (if_neg c_1)
    have hP9 : va_P (dC, dI) vwCl [(h0, .inr (0, [.int fn, .ref hu, .int fo, .ref hm, .int fa, .int fx, .int fy, .int fs, .int fp, .int (f_X1_branch_fc fp fc p1 p2), .int fd, .int fb, .long fz]))] H := by rw [e_fc]; exact hP.sub (ws' := [(h0, .inr (0, [.int fn, .ref hu, .int fo, .ref hm, .int fa, .int fx, .int fy, .int fs, .int fp, .int ((fc + (p2.toInt8.toInt32)) &&& 65535), .int fd, .int fb, .long fz]))]) [0] rfl
    have hD9 : va_D A [(h0, .inr (0, [.int fn, .ref hu, .int fo, .ref hm, .int fa, .int fx, .int fy, .int fs, .int fp, .int (f_X1_branch_fc fp fc p1 p2), .int fd, .int fb, .long fz]))] := by rw [e_fc]; exact hD.sub (ws' := [(h0, .inr (0, [.int fn, .ref hu, .int fo, .ref hm, .int fa, .int fx, .int fy, .int fs, .int fp, .int ((fc + (p2.toInt8.toInt32)) &&& 65535), .int fd, .int fb, .long fz]))]) [0] (by decide) rfl
    exact W.vret hx hb hr (fun t ht hW => ⟨⟨(), rfl, trivial, by rw [ht]; exact hP9, hD9⟩, hS.F ht⟩) hS.2.2 dX1_branch_22

def f_X1_use_fa (fa : Int32) (fp : Int32) (p1 : Int32) (p2 : Int32) : Int32 := (if p1 = 16 then (f_X1_shown_r p2) else (if p1 = 17 then fa else (if p1 = 18 then fa else (if p1 = 19 then (f_X1_shown_r (fa ||| p2)) else (if p1 = 20 then (f_X1_shown_r (fa &&& p2)) else (if p1 = 21 then (f_X1_shown_r (fa ^^^ p2)) else (if p1 = 22 then (f_X1_add_fa fa fp p2) else (if p1 = 23 then (f_X1_add_fa fa fp (p2 ^^^ 255)) else fa))))))))
def f_X1_use_fx (fx : Int32) (p1 : Int32) (p2 : Int32) : Int32 := (if p1 = 16 then fx else (if p1 = 17 then (f_X1_shown_r p2) else fx))
def f_X1_use_fy (fy : Int32) (p1 : Int32) (p2 : Int32) : Int32 := (if p1 = 16 then fy else (if p1 = 17 then fy else (if p1 = 18 then (f_X1_shown_r p2) else fy)))
def f_X1_use_fp (fa : Int32) (fx : Int32) (fy : Int32) (fp : Int32) (p1 : Int32) (p2 : Int32) : Int32 := (if p1 = 16 then (f_X1_shown_fp fp p2) else (if p1 = 17 then (f_X1_shown_fp fp p2) else (if p1 = 18 then (f_X1_shown_fp fp p2) else (if p1 = 19 then (f_X1_shown_fp fp (fa ||| p2)) else (if p1 = 20 then (f_X1_shown_fp fp (fa &&& p2)) else (if p1 = 21 then (f_X1_shown_fp fp (fa ^^^ p2)) else (if p1 = 22 then (f_X1_add_fp fa fp p2) else (if p1 = 23 then (f_X1_add_fp fa fp (p2 ^^^ 255)) else (if p1 = 24 then (f_X1_compare_fp fp fa p2) else (if p1 = 25 then (f_X1_compare_fp fp fx p2) else (if p1 = 26 then (f_X1_compare_fp fp fy p2) else (f_X1_testBits_fp fa fp p2))))))))))))
set_option maxHeartbeats 4000000 in
set_option maxRecDepth 100000 in
/-- X1_use -/
theorem c_X1_use (l : Launch) (dC : Nat → ClassId) (dI : Nat → Nat → Nat) (sz : Nat) (h0 : Nat) (hu : Nat) (hm : Nat) (fn : Int32) (fo : Int32) (fa : Int32) (fx : Int32) (fy : Int32) (fs : Int32) (fp : Int32) (fc : Int32) (fd : Int32) (fb : Int32) (fz : Int64) (p1 : Int32) (p2 : Int32)  : Met l yX1_use (Cond.code yX1_use cX1_use 3 none :: gw) { frames := 2, cells := 0, slots := 0, locals := 44 } (va_Pc [.ref h0, .int p1, .int p2] (wPre (dC, dI) [] [(h0, .inr (0, [.int fn, .ref hu, .int fo, .ref hm, .int fa, .int fx, .int fy, .int fs, .int fp, .int fc, .int fd, .int fb, .long fz]))] sz wX0)) (va_Qv (fun _ : Unit => True) (fun _ t => wPost (dC, dI) (va_A [(h0, .inr (0, [.int fn, .ref hu, .int fo, .ref hm, .int fa, .int fx, .int fy, .int fs, .int fp, .int fc, .int fd, .int fb, .long fz]))] sz) [(h0, .inr (0, [.int fn, .ref hu, .int fo, .ref hm, .int (f_X1_use_fa fa fp p1 p2), .int (f_X1_use_fx fx p1 p2), .int (f_X1_use_fy fy p1 p2), .int fs, .int (f_X1_use_fp fa fx fy fp p1 p2), .int fc, .int fd, .int fb, .long fz]))] t) (va_A [(h0, .inr (0, [.int fn, .ref hu, .int fo, .ref hm, .int fa, .int fx, .int fy, .int fs, .int fp, .int fc, .int fd, .int fb, .long fz]))] sz)) 0 0 (va_A [(h0, .inr (0, [.int fn, .ref hu, .int fo, .ref hm, .int fa, .int fx, .int fy, .int fs, .int fp, .int fc, .int fd, .int fb, .long fz]))] sz) := by
  refine Met.ofW (cc := cX1_use) (maxL := 3) (ret := none) (by decide) rfl ?_
  intro p e s m args below meth c s₁ B hml hv
  obtain ⟨rfl, hsz, hP, hK, hD0, hXX⟩ := hv
  have hx := B.exec
  have hb := B.bytes
  have hr := B.returns
  have hts := atoms_spec (ws := (Cond.code yX1_use cX1_use 3 none :: gw)) B.pre
  have hown : s.vm.findClass RX1 = some m.cls := findClass_of_methodNamed B.named
  have hlocks := B.notSynchronized
  subst hsz
  have hD := hD0.self (sz := s.heap.size)
  generalize hAe : va_A [(h0, .inr (0, [.int fn, .ref hu, .int fo, .ref hm, .int fa, .int fx, .int fy, .int fs, .int fp, .int fc, .int fd, .int fb, .long fz]))] s.heap.size = A at hD ⊢
  have hA : ∀ q : Nat, s.heap.size ≤ q → A q := fun q h => by rw [← hAe]; exact Or.inr h
  have hS : va_S A s.heap s.heap [] := va_S.rf
  have hl := lv_entry ([.ref h0, .int p1, .int p2]) (n := 3) (Nat.le_of_ble_eq_true rfl)
  rw [lg_entry_eq]
  generalize (lg_sl ([.ref h0, .int p1, .int p2]) ++ List.replicate (3 - (lg_sl ([.ref h0, .int p1, .int p2])).length) Slot.unset).toArray = ls at hl ⊢
  have hl : lv_has ls 3 [(0, .ref h0), (1, .int p1), (2, .int p2)] := hl
  refine lv_iload_n hx hb dX1_use_0 rfl (lv_at hl 1 rfl) ?_
  refine sw_by (p := p1 = 16) (fun c_1 => ?_) (fun c_1 => ?_)
  · refine sw_at c_1 ?_
    refine lv_tableIn (tgt := 60) hx hb dX1_use_1 (by decide) (by decide) rfl (by decide) ?_
    refine lv_aload_n hx hb dX1_use_60 rfl (lv_at hl 0 rfl) ?_
    refine lv_aload_n hx hb dX1_use_61 rfl (lv_at hl 0 rfl) ?_
    refine lv_iload_n hx hb dX1_use_62 rfl (lv_at hl 2 rfl) ?_
    refine gc_i (wr := []) (w1 := [(h0, .inr (0, [.int fn, .ref hu, .int fo, .ref hm, .int fa, .int fx, .int fy, .int fs, .int (f_X1_shown_fp fp p2), .int fc, .int fd, .int fb, .long fz]))]) (gcV (As := [.int p2]) (rest := [.ref h0]) ⟨hx, hb, hml, hown, hts⟩ (c_X1_shown l dC dI s.heap.size h0 hu hm fn fo fa fx fy fs fp fc fd fb fz p2) (cwV 1 hts (gw_V gw_b gm_459 gm_461 gm_16 gm_71 gm_462) rfl rfl rfl (by decide +kernel) ⟨Nat.le_of_ble_eq_true rfl, Nat.le_of_ble_eq_true rfl⟩) hK [] rfl hP hD [0] rfl rfl rfl rfl wX0_k (fun _ _ _ => trivial) rfl rfl hl.1 rfl (lv_room (Nat.le_of_ble_eq_true rfl)) dX1_use_63 ⟨Nat.le_of_ble_eq_true rfl, Nat.le_of_ble_eq_true rfl⟩) hP hD hS hA [0] [] rfl rfl rfl (by decide) (fun H locs hP hD hS => ?_)
    have hP : va_P (dC, dI) vwCl [(h0, .inr (0, [.int fn, .ref hu, .int fo, .ref hm, .int fa, .int fx, .int fy, .int fs, .int (f_X1_shown_fp fp p2), .int fc, .int fd, .int fb, .long fz]))] H := hP
    have hD : va_D A [(h0, .inr (0, [.int fn, .ref hu, .int fo, .ref hm, .int fa, .int fx, .int fy, .int fs, .int (f_X1_shown_fp fp p2), .int fc, .int fd, .int fb, .long fz]))] := hD
    refine va_put (D := (dC, dI)) (ci := 0) (v := .int (f_X1_shown_r p2)) (ty := tyX1 4) (C := RX1) (T := TX1) (N := 13) hx hb hts (fun w h => gw_b w (iX1 w h)) tyX1 tyX1_ok nmX1 hown hK hP hD hS 0 rfl rfl 4 (by decide) (hts _ (gw_b _ gm_144)) (fun _ h9 => h9) rfl (tyX1_ok 4 (by decide)) rfl rfl (Nat.le_of_ble_eq_true rfl) dX1_use_66 (fun H locs hP hD hS => ?_)
    have hP : va_P (dC, dI) vwCl [(h0, .inr (0, [.int fn, .ref hu, .int fo, .ref hm, .int (f_X1_shown_r p2), .int fx, .int fy, .int fs, .int (f_X1_shown_fp fp p2), .int fc, .int fd, .int fb, .long fz]))] H := hP
    have hD : va_D A [(h0, .inr (0, [.int fn, .ref hu, .int fo, .ref hm, .int (f_X1_shown_r p2), .int fx, .int fy, .int fs, .int (f_X1_shown_fp fp p2), .int fc, .int fd, .int fb, .long fz]))] := hD
    refine lv_goto (tgt := 208) hx hb dX1_use_69 (by decide) ?_
    have e_fa : (f_X1_use_fa fa fp p1 p2) = (f_X1_shown_r p2) := (if_pos c_1)
    have e_fx : (f_X1_use_fx fx p1 p2) = fx := (if_pos c_1)
    have e_fy : (f_X1_use_fy fy p1 p2) = fy := (if_pos c_1)
    have e_fp : (f_X1_use_fp fa fx fy fp p1 p2) = (f_X1_shown_fp fp p2) := (if_pos c_1)
    have hP9 : va_P (dC, dI) vwCl [(h0, .inr (0, [.int fn, .ref hu, .int fo, .ref hm, .int (f_X1_use_fa fa fp p1 p2), .int (f_X1_use_fx fx p1 p2), .int (f_X1_use_fy fy p1 p2), .int fs, .int (f_X1_use_fp fa fx fy fp p1 p2), .int fc, .int fd, .int fb, .long fz]))] H := by rw [e_fa, e_fx, e_fy, e_fp]; exact hP.sub (ws' := [(h0, .inr (0, [.int fn, .ref hu, .int fo, .ref hm, .int (f_X1_shown_r p2), .int fx, .int fy, .int fs, .int (f_X1_shown_fp fp p2), .int fc, .int fd, .int fb, .long fz]))]) [0] rfl
    have hD9 : va_D A [(h0, .inr (0, [.int fn, .ref hu, .int fo, .ref hm, .int (f_X1_use_fa fa fp p1 p2), .int (f_X1_use_fx fx p1 p2), .int (f_X1_use_fy fy p1 p2), .int fs, .int (f_X1_use_fp fa fx fy fp p1 p2), .int fc, .int fd, .int fb, .long fz]))] := by rw [e_fa, e_fx, e_fy, e_fp]; exact hD.sub (ws' := [(h0, .inr (0, [.int fn, .ref hu, .int fo, .ref hm, .int (f_X1_shown_r p2), .int fx, .int fy, .int fs, .int (f_X1_shown_fp fp p2), .int fc, .int fd, .int fb, .long fz]))]) [0] (by decide) rfl
    exact W.vret hx hb hr (fun t ht hW => ⟨⟨(), rfl, trivial, by rw [ht]; exact hP9, hD9⟩, hS.F ht⟩) hS.2.2 dX1_use_208
  refine sw_by (p := p1 = 17) (fun c_2 => ?_) (fun c_2 => ?_)
  · refine sw_at c_2 ?_
    refine lv_tableIn (tgt := 72) hx hb dX1_use_1 (by decide) (by decide) rfl (by decide) ?_
    refine lv_aload_n hx hb dX1_use_72 rfl (lv_at hl 0 rfl) ?_
    refine lv_aload_n hx hb dX1_use_73 rfl (lv_at hl 0 rfl) ?_
    refine lv_iload_n hx hb dX1_use_74 rfl (lv_at hl 2 rfl) ?_
    refine gc_i (wr := []) (w1 := [(h0, .inr (0, [.int fn, .ref hu, .int fo, .ref hm, .int fa, .int fx, .int fy, .int fs, .int (f_X1_shown_fp fp p2), .int fc, .int fd, .int fb, .long fz]))]) (gcV (As := [.int p2]) (rest := [.ref h0]) ⟨hx, hb, hml, hown, hts⟩ (c_X1_shown l dC dI s.heap.size h0 hu hm fn fo fa fx fy fs fp fc fd fb fz p2) (cwV 1 hts (gw_V gw_b gm_459 gm_461 gm_16 gm_71 gm_462) rfl rfl rfl (by decide +kernel) ⟨Nat.le_of_ble_eq_true rfl, Nat.le_of_ble_eq_true rfl⟩) hK [] rfl hP hD [0] rfl rfl rfl rfl wX0_k (fun _ _ _ => trivial) rfl rfl hl.1 rfl (lv_room (Nat.le_of_ble_eq_true rfl)) dX1_use_75 ⟨Nat.le_of_ble_eq_true rfl, Nat.le_of_ble_eq_true rfl⟩) hP hD hS hA [0] [] rfl rfl rfl (by decide) (fun H locs hP hD hS => ?_)
    have hP : va_P (dC, dI) vwCl [(h0, .inr (0, [.int fn, .ref hu, .int fo, .ref hm, .int fa, .int fx, .int fy, .int fs, .int (f_X1_shown_fp fp p2), .int fc, .int fd, .int fb, .long fz]))] H := hP
    have hD : va_D A [(h0, .inr (0, [.int fn, .ref hu, .int fo, .ref hm, .int fa, .int fx, .int fy, .int fs, .int (f_X1_shown_fp fp p2), .int fc, .int fd, .int fb, .long fz]))] := hD
    refine va_put (D := (dC, dI)) (ci := 0) (v := .int (f_X1_shown_r p2)) (ty := tyX1 5) (C := RX1) (T := TX1) (N := 13) hx hb hts (fun w h => gw_b w (iX1 w h)) tyX1 tyX1_ok nmX1 hown hK hP hD hS 0 rfl rfl 5 (by decide) (hts _ (gw_b _ gm_145)) (fun _ h9 => h9) rfl (tyX1_ok 5 (by decide)) rfl rfl (Nat.le_of_ble_eq_true rfl) dX1_use_78 (fun H locs hP hD hS => ?_)
    have hP : va_P (dC, dI) vwCl [(h0, .inr (0, [.int fn, .ref hu, .int fo, .ref hm, .int fa, .int (f_X1_shown_r p2), .int fy, .int fs, .int (f_X1_shown_fp fp p2), .int fc, .int fd, .int fb, .long fz]))] H := hP
    have hD : va_D A [(h0, .inr (0, [.int fn, .ref hu, .int fo, .ref hm, .int fa, .int (f_X1_shown_r p2), .int fy, .int fs, .int (f_X1_shown_fp fp p2), .int fc, .int fd, .int fb, .long fz]))] := hD
    refine lv_goto (tgt := 208) hx hb dX1_use_81 (by decide) ?_
    have e_fa : (f_X1_use_fa fa fp p1 p2) = fa := ((if_neg c_1)).trans (if_pos c_2)
    have e_fx : (f_X1_use_fx fx p1 p2) = (f_X1_shown_r p2) := ((if_neg c_1)).trans (if_pos c_2)
    have e_fy : (f_X1_use_fy fy p1 p2) = fy := ((if_neg c_1)).trans (if_pos c_2)
    have e_fp : (f_X1_use_fp fa fx fy fp p1 p2) = (f_X1_shown_fp fp p2) := ((if_neg c_1)).trans (if_pos c_2)
    have hP9 : va_P (dC, dI) vwCl [(h0, .inr (0, [.int fn, .ref hu, .int fo, .ref hm, .int (f_X1_use_fa fa fp p1 p2), .int (f_X1_use_fx fx p1 p2), .int (f_X1_use_fy fy p1 p2), .int fs, .int (f_X1_use_fp fa fx fy fp p1 p2), .int fc, .int fd, .int fb, .long fz]))] H := by rw [e_fa, e_fx, e_fy, e_fp]; exact hP.sub (ws' := [(h0, .inr (0, [.int fn, .ref hu, .int fo, .ref hm, .int fa, .int (f_X1_shown_r p2), .int fy, .int fs, .int (f_X1_shown_fp fp p2), .int fc, .int fd, .int fb, .long fz]))]) [0] rfl
    have hD9 : va_D A [(h0, .inr (0, [.int fn, .ref hu, .int fo, .ref hm, .int (f_X1_use_fa fa fp p1 p2), .int (f_X1_use_fx fx p1 p2), .int (f_X1_use_fy fy p1 p2), .int fs, .int (f_X1_use_fp fa fx fy fp p1 p2), .int fc, .int fd, .int fb, .long fz]))] := by rw [e_fa, e_fx, e_fy, e_fp]; exact hD.sub (ws' := [(h0, .inr (0, [.int fn, .ref hu, .int fo, .ref hm, .int fa, .int (f_X1_shown_r p2), .int fy, .int fs, .int (f_X1_shown_fp fp p2), .int fc, .int fd, .int fb, .long fz]))]) [0] (by decide) rfl
    exact W.vret hx hb hr (fun t ht hW => ⟨⟨(), rfl, trivial, by rw [ht]; exact hP9, hD9⟩, hS.F ht⟩) hS.2.2 dX1_use_208
  refine sw_by (p := p1 = 18) (fun c_3 => ?_) (fun c_3 => ?_)
  · refine sw_at c_3 ?_
    refine lv_tableIn (tgt := 84) hx hb dX1_use_1 (by decide) (by decide) rfl (by decide) ?_
    refine lv_aload_n hx hb dX1_use_84 rfl (lv_at hl 0 rfl) ?_
    refine lv_aload_n hx hb dX1_use_85 rfl (lv_at hl 0 rfl) ?_
    refine lv_iload_n hx hb dX1_use_86 rfl (lv_at hl 2 rfl) ?_
    refine gc_i (wr := []) (w1 := [(h0, .inr (0, [.int fn, .ref hu, .int fo, .ref hm, .int fa, .int fx, .int fy, .int fs, .int (f_X1_shown_fp fp p2), .int fc, .int fd, .int fb, .long fz]))]) (gcV (As := [.int p2]) (rest := [.ref h0]) ⟨hx, hb, hml, hown, hts⟩ (c_X1_shown l dC dI s.heap.size h0 hu hm fn fo fa fx fy fs fp fc fd fb fz p2) (cwV 1 hts (gw_V gw_b gm_459 gm_461 gm_16 gm_71 gm_462) rfl rfl rfl (by decide +kernel) ⟨Nat.le_of_ble_eq_true rfl, Nat.le_of_ble_eq_true rfl⟩) hK [] rfl hP hD [0] rfl rfl rfl rfl wX0_k (fun _ _ _ => trivial) rfl rfl hl.1 rfl (lv_room (Nat.le_of_ble_eq_true rfl)) dX1_use_87 ⟨Nat.le_of_ble_eq_true rfl, Nat.le_of_ble_eq_true rfl⟩) hP hD hS hA [0] [] rfl rfl rfl (by decide) (fun H locs hP hD hS => ?_)
    have hP : va_P (dC, dI) vwCl [(h0, .inr (0, [.int fn, .ref hu, .int fo, .ref hm, .int fa, .int fx, .int fy, .int fs, .int (f_X1_shown_fp fp p2), .int fc, .int fd, .int fb, .long fz]))] H := hP
    have hD : va_D A [(h0, .inr (0, [.int fn, .ref hu, .int fo, .ref hm, .int fa, .int fx, .int fy, .int fs, .int (f_X1_shown_fp fp p2), .int fc, .int fd, .int fb, .long fz]))] := hD
    refine va_put (D := (dC, dI)) (ci := 0) (v := .int (f_X1_shown_r p2)) (ty := tyX1 6) (C := RX1) (T := TX1) (N := 13) hx hb hts (fun w h => gw_b w (iX1 w h)) tyX1 tyX1_ok nmX1 hown hK hP hD hS 0 rfl rfl 6 (by decide) (hts _ (gw_b _ gm_146)) (fun _ h9 => h9) rfl (tyX1_ok 6 (by decide)) rfl rfl (Nat.le_of_ble_eq_true rfl) dX1_use_90 (fun H locs hP hD hS => ?_)
    have hP : va_P (dC, dI) vwCl [(h0, .inr (0, [.int fn, .ref hu, .int fo, .ref hm, .int fa, .int fx, .int (f_X1_shown_r p2), .int fs, .int (f_X1_shown_fp fp p2), .int fc, .int fd, .int fb, .long fz]))] H := hP
    have hD : va_D A [(h0, .inr (0, [.int fn, .ref hu, .int fo, .ref hm, .int fa, .int fx, .int (f_X1_shown_r p2), .int fs, .int (f_X1_shown_fp fp p2), .int fc, .int fd, .int fb, .long fz]))] := hD
    refine lv_goto (tgt := 208) hx hb dX1_use_93 (by decide) ?_
    have e_fa : (f_X1_use_fa fa fp p1 p2) = fa := (((if_neg c_1)).trans (if_neg c_2)).trans (if_pos c_3)
    have e_fx : (f_X1_use_fx fx p1 p2) = fx := ((if_neg c_1)).trans (if_neg c_2)
    have e_fy : (f_X1_use_fy fy p1 p2) = (f_X1_shown_r p2) := (((if_neg c_1)).trans (if_neg c_2)).trans (if_pos c_3)
    have e_fp : (f_X1_use_fp fa fx fy fp p1 p2) = (f_X1_shown_fp fp p2) := (((if_neg c_1)).trans (if_neg c_2)).trans (if_pos c_3)
    have hP9 : va_P (dC, dI) vwCl [(h0, .inr (0, [.int fn, .ref hu, .int fo, .ref hm, .int (f_X1_use_fa fa fp p1 p2), .int (f_X1_use_fx fx p1 p2), .int (f_X1_use_fy fy p1 p2), .int fs, .int (f_X1_use_fp fa fx fy fp p1 p2), .int fc, .int fd, .int fb, .long fz]))] H := by rw [e_fa, e_fx, e_fy, e_fp]; exact hP.sub (ws' := [(h0, .inr (0, [.int fn, .ref hu, .int fo, .ref hm, .int fa, .int fx, .int (f_X1_shown_r p2), .int fs, .int (f_X1_shown_fp fp p2), .int fc, .int fd, .int fb, .long fz]))]) [0] rfl
    have hD9 : va_D A [(h0, .inr (0, [.int fn, .ref hu, .int fo, .ref hm, .int (f_X1_use_fa fa fp p1 p2), .int (f_X1_use_fx fx p1 p2), .int (f_X1_use_fy fy p1 p2), .int fs, .int (f_X1_use_fp fa fx fy fp p1 p2), .int fc, .int fd, .int fb, .long fz]))] := by rw [e_fa, e_fx, e_fy, e_fp]; exact hD.sub (ws' := [(h0, .inr (0, [.int fn, .ref hu, .int fo, .ref hm, .int fa, .int fx, .int (f_X1_shown_r p2), .int fs, .int (f_X1_shown_fp fp p2), .int fc, .int fd, .int fb, .long fz]))]) [0] (by decide) rfl
    exact W.vret hx hb hr (fun t ht hW => ⟨⟨(), rfl, trivial, by rw [ht]; exact hP9, hD9⟩, hS.F ht⟩) hS.2.2 dX1_use_208
  refine sw_by (p := p1 = 19) (fun c_4 => ?_) (fun c_4 => ?_)
  · refine sw_at c_4 ?_
    refine lv_tableIn (tgt := 96) hx hb dX1_use_1 (by decide) (by decide) rfl (by decide) ?_
    refine lv_aload_n hx hb dX1_use_96 rfl (lv_at hl 0 rfl) ?_
    refine lv_aload_n hx hb dX1_use_97 rfl (lv_at hl 0 rfl) ?_
    refine lv_aload_n hx hb dX1_use_98 rfl (lv_at hl 0 rfl) ?_
    refine va_get (D := (dC, dI)) (ci := 0) (v := .int fa) (C := RX1) (T := TX1) (N := 13) hx hb hts (fun w h => gw_b w (iX1 w h)) hown hK hP 0 rfl rfl 4 (by decide) (hts _ (gw_b _ gm_144)) (fun _ h9 => h9) rfl dX1_use_99 ?_
    refine lv_iload_n hx hb dX1_use_102 rfl (lv_at hl 2 rfl) ?_
    refine lv_ior hx hb dX1_use_103 ?_
    refine gc_i (wr := []) (w1 := [(h0, .inr (0, [.int fn, .ref hu, .int fo, .ref hm, .int fa, .int fx, .int fy, .int fs, .int (f_X1_shown_fp fp (fa ||| p2)), .int fc, .int fd, .int fb, .long fz]))]) (gcV (As := [.int (fa ||| p2)]) (rest := [.ref h0]) ⟨hx, hb, hml, hown, hts⟩ (c_X1_shown l dC dI s.heap.size h0 hu hm fn fo fa fx fy fs fp fc fd fb fz (fa ||| p2)) (cwV 1 hts (gw_V gw_b gm_459 gm_461 gm_16 gm_71 gm_462) rfl rfl rfl (by decide +kernel) ⟨Nat.le_of_ble_eq_true rfl, Nat.le_of_ble_eq_true rfl⟩) hK [] rfl hP hD [0] rfl rfl rfl rfl wX0_k (fun _ _ _ => trivial) rfl rfl hl.1 rfl (lv_room (Nat.le_of_ble_eq_true rfl)) dX1_use_104 ⟨Nat.le_of_ble_eq_true rfl, Nat.le_of_ble_eq_true rfl⟩) hP hD hS hA [0] [] rfl rfl rfl (by decide) (fun H locs hP hD hS => ?_)
    have hP : va_P (dC, dI) vwCl [(h0, .inr (0, [.int fn, .ref hu, .int fo, .ref hm, .int fa, .int fx, .int fy, .int fs, .int (f_X1_shown_fp fp (fa ||| p2)), .int fc, .int fd, .int fb, .long fz]))] H := hP
    have hD : va_D A [(h0, .inr (0, [.int fn, .ref hu, .int fo, .ref hm, .int fa, .int fx, .int fy, .int fs, .int (f_X1_shown_fp fp (fa ||| p2)), .int fc, .int fd, .int fb, .long fz]))] := hD
    refine va_put (D := (dC, dI)) (ci := 0) (v := .int (f_X1_shown_r (fa ||| p2))) (ty := tyX1 4) (C := RX1) (T := TX1) (N := 13) hx hb hts (fun w h => gw_b w (iX1 w h)) tyX1 tyX1_ok nmX1 hown hK hP hD hS 0 rfl rfl 4 (by decide) (hts _ (gw_b _ gm_144)) (fun _ h9 => h9) rfl (tyX1_ok 4 (by decide)) rfl rfl (Nat.le_of_ble_eq_true rfl) dX1_use_107 (fun H locs hP hD hS => ?_)
    have hP : va_P (dC, dI) vwCl [(h0, .inr (0, [.int fn, .ref hu, .int fo, .ref hm, .int (f_X1_shown_r (fa ||| p2)), .int fx, .int fy, .int fs, .int (f_X1_shown_fp fp (fa ||| p2)), .int fc, .int fd, .int fb, .long fz]))] H := hP
    have hD : va_D A [(h0, .inr (0, [.int fn, .ref hu, .int fo, .ref hm, .int (f_X1_shown_r (fa ||| p2)), .int fx, .int fy, .int fs, .int (f_X1_shown_fp fp (fa ||| p2)), .int fc, .int fd, .int fb, .long fz]))] := hD
    refine lv_goto (tgt := 208) hx hb dX1_use_110 (by decide) ?_
    have e_fa : (f_X1_use_fa fa fp p1 p2) = (f_X1_shown_r (fa ||| p2)) := ((((if_neg c_1)).trans (if_neg c_2)).trans (if_neg c_3)).trans (if_pos c_4)
    have e_fx : (f_X1_use_fx fx p1 p2) = fx := ((if_neg c_1)).trans (if_neg c_2)
    have e_fy : (f_X1_use_fy fy p1 p2) = fy := (((if_neg c_1)).trans (if_neg c_2)).trans (if_neg c_3)
    have e_fp : (f_X1_use_fp fa fx fy fp p1 p2) = (f_X1_shown_fp fp (fa ||| p2)) := ((((if_neg c_1)).trans (if_neg c_2)).trans (if_neg c_3)).trans (if_pos c_4)
    have hP9 : va_P (dC, dI) vwCl [(h0, .inr (0, [.int fn, .ref hu, .int fo, .ref hm, .int (f_X1_use_fa fa fp p1 p2), .int (f_X1_use_fx fx p1 p2), .int (f_X1_use_fy fy p1 p2), .int fs, .int (f_X1_use_fp fa fx fy fp p1 p2), .int fc, .int fd, .int fb, .long fz]))] H := by rw [e_fa, e_fx, e_fy, e_fp]; exact hP.sub (ws' := [(h0, .inr (0, [.int fn, .ref hu, .int fo, .ref hm, .int (f_X1_shown_r (fa ||| p2)), .int fx, .int fy, .int fs, .int (f_X1_shown_fp fp (fa ||| p2)), .int fc, .int fd, .int fb, .long fz]))]) [0] rfl
    have hD9 : va_D A [(h0, .inr (0, [.int fn, .ref hu, .int fo, .ref hm, .int (f_X1_use_fa fa fp p1 p2), .int (f_X1_use_fx fx p1 p2), .int (f_X1_use_fy fy p1 p2), .int fs, .int (f_X1_use_fp fa fx fy fp p1 p2), .int fc, .int fd, .int fb, .long fz]))] := by rw [e_fa, e_fx, e_fy, e_fp]; exact hD.sub (ws' := [(h0, .inr (0, [.int fn, .ref hu, .int fo, .ref hm, .int (f_X1_shown_r (fa ||| p2)), .int fx, .int fy, .int fs, .int (f_X1_shown_fp fp (fa ||| p2)), .int fc, .int fd, .int fb, .long fz]))]) [0] (by decide) rfl
    exact W.vret hx hb hr (fun t ht hW => ⟨⟨(), rfl, trivial, by rw [ht]; exact hP9, hD9⟩, hS.F ht⟩) hS.2.2 dX1_use_208
  refine sw_by (p := p1 = 20) (fun c_5 => ?_) (fun c_5 => ?_)
  · refine sw_at c_5 ?_
    refine lv_tableIn (tgt := 113) hx hb dX1_use_1 (by decide) (by decide) rfl (by decide) ?_
    refine lv_aload_n hx hb dX1_use_113 rfl (lv_at hl 0 rfl) ?_
    refine lv_aload_n hx hb dX1_use_114 rfl (lv_at hl 0 rfl) ?_
    refine lv_aload_n hx hb dX1_use_115 rfl (lv_at hl 0 rfl) ?_
    refine va_get (D := (dC, dI)) (ci := 0) (v := .int fa) (C := RX1) (T := TX1) (N := 13) hx hb hts (fun w h => gw_b w (iX1 w h)) hown hK hP 0 rfl rfl 4 (by decide) (hts _ (gw_b _ gm_144)) (fun _ h9 => h9) rfl dX1_use_116 ?_
    refine lv_iload_n hx hb dX1_use_119 rfl (lv_at hl 2 rfl) ?_
    refine lv_iand hx hb dX1_use_120 ?_
    refine gc_i (wr := []) (w1 := [(h0, .inr (0, [.int fn, .ref hu, .int fo, .ref hm, .int fa, .int fx, .int fy, .int fs, .int (f_X1_shown_fp fp (fa &&& p2)), .int fc, .int fd, .int fb, .long fz]))]) (gcV (As := [.int (fa &&& p2)]) (rest := [.ref h0]) ⟨hx, hb, hml, hown, hts⟩ (c_X1_shown l dC dI s.heap.size h0 hu hm fn fo fa fx fy fs fp fc fd fb fz (fa &&& p2)) (cwV 1 hts (gw_V gw_b gm_459 gm_461 gm_16 gm_71 gm_462) rfl rfl rfl (by decide +kernel) ⟨Nat.le_of_ble_eq_true rfl, Nat.le_of_ble_eq_true rfl⟩) hK [] rfl hP hD [0] rfl rfl rfl rfl wX0_k (fun _ _ _ => trivial) rfl rfl hl.1 rfl (lv_room (Nat.le_of_ble_eq_true rfl)) dX1_use_121 ⟨Nat.le_of_ble_eq_true rfl, Nat.le_of_ble_eq_true rfl⟩) hP hD hS hA [0] [] rfl rfl rfl (by decide) (fun H locs hP hD hS => ?_)
    have hP : va_P (dC, dI) vwCl [(h0, .inr (0, [.int fn, .ref hu, .int fo, .ref hm, .int fa, .int fx, .int fy, .int fs, .int (f_X1_shown_fp fp (fa &&& p2)), .int fc, .int fd, .int fb, .long fz]))] H := hP
    have hD : va_D A [(h0, .inr (0, [.int fn, .ref hu, .int fo, .ref hm, .int fa, .int fx, .int fy, .int fs, .int (f_X1_shown_fp fp (fa &&& p2)), .int fc, .int fd, .int fb, .long fz]))] := hD
    refine va_put (D := (dC, dI)) (ci := 0) (v := .int (f_X1_shown_r (fa &&& p2))) (ty := tyX1 4) (C := RX1) (T := TX1) (N := 13) hx hb hts (fun w h => gw_b w (iX1 w h)) tyX1 tyX1_ok nmX1 hown hK hP hD hS 0 rfl rfl 4 (by decide) (hts _ (gw_b _ gm_144)) (fun _ h9 => h9) rfl (tyX1_ok 4 (by decide)) rfl rfl (Nat.le_of_ble_eq_true rfl) dX1_use_124 (fun H locs hP hD hS => ?_)
    have hP : va_P (dC, dI) vwCl [(h0, .inr (0, [.int fn, .ref hu, .int fo, .ref hm, .int (f_X1_shown_r (fa &&& p2)), .int fx, .int fy, .int fs, .int (f_X1_shown_fp fp (fa &&& p2)), .int fc, .int fd, .int fb, .long fz]))] H := hP
    have hD : va_D A [(h0, .inr (0, [.int fn, .ref hu, .int fo, .ref hm, .int (f_X1_shown_r (fa &&& p2)), .int fx, .int fy, .int fs, .int (f_X1_shown_fp fp (fa &&& p2)), .int fc, .int fd, .int fb, .long fz]))] := hD
    refine lv_goto (tgt := 208) hx hb dX1_use_127 (by decide) ?_
    have e_fa : (f_X1_use_fa fa fp p1 p2) = (f_X1_shown_r (fa &&& p2)) := (((((if_neg c_1)).trans (if_neg c_2)).trans (if_neg c_3)).trans (if_neg c_4)).trans (if_pos c_5)
    have e_fx : (f_X1_use_fx fx p1 p2) = fx := ((if_neg c_1)).trans (if_neg c_2)
    have e_fy : (f_X1_use_fy fy p1 p2) = fy := (((if_neg c_1)).trans (if_neg c_2)).trans (if_neg c_3)
    have e_fp : (f_X1_use_fp fa fx fy fp p1 p2) = (f_X1_shown_fp fp (fa &&& p2)) := (((((if_neg c_1)).trans (if_neg c_2)).trans (if_neg c_3)).trans (if_neg c_4)).trans (if_pos c_5)
    have hP9 : va_P (dC, dI) vwCl [(h0, .inr (0, [.int fn, .ref hu, .int fo, .ref hm, .int (f_X1_use_fa fa fp p1 p2), .int (f_X1_use_fx fx p1 p2), .int (f_X1_use_fy fy p1 p2), .int fs, .int (f_X1_use_fp fa fx fy fp p1 p2), .int fc, .int fd, .int fb, .long fz]))] H := by rw [e_fa, e_fx, e_fy, e_fp]; exact hP.sub (ws' := [(h0, .inr (0, [.int fn, .ref hu, .int fo, .ref hm, .int (f_X1_shown_r (fa &&& p2)), .int fx, .int fy, .int fs, .int (f_X1_shown_fp fp (fa &&& p2)), .int fc, .int fd, .int fb, .long fz]))]) [0] rfl
    have hD9 : va_D A [(h0, .inr (0, [.int fn, .ref hu, .int fo, .ref hm, .int (f_X1_use_fa fa fp p1 p2), .int (f_X1_use_fx fx p1 p2), .int (f_X1_use_fy fy p1 p2), .int fs, .int (f_X1_use_fp fa fx fy fp p1 p2), .int fc, .int fd, .int fb, .long fz]))] := by rw [e_fa, e_fx, e_fy, e_fp]; exact hD.sub (ws' := [(h0, .inr (0, [.int fn, .ref hu, .int fo, .ref hm, .int (f_X1_shown_r (fa &&& p2)), .int fx, .int fy, .int fs, .int (f_X1_shown_fp fp (fa &&& p2)), .int fc, .int fd, .int fb, .long fz]))]) [0] (by decide) rfl
    exact W.vret hx hb hr (fun t ht hW => ⟨⟨(), rfl, trivial, by rw [ht]; exact hP9, hD9⟩, hS.F ht⟩) hS.2.2 dX1_use_208
  refine sw_by (p := p1 = 21) (fun c_6 => ?_) (fun c_6 => ?_)
  · refine sw_at c_6 ?_
    refine lv_tableIn (tgt := 130) hx hb dX1_use_1 (by decide) (by decide) rfl (by decide) ?_
    refine lv_aload_n hx hb dX1_use_130 rfl (lv_at hl 0 rfl) ?_
    refine lv_aload_n hx hb dX1_use_131 rfl (lv_at hl 0 rfl) ?_
    refine lv_aload_n hx hb dX1_use_132 rfl (lv_at hl 0 rfl) ?_
    refine va_get (D := (dC, dI)) (ci := 0) (v := .int fa) (C := RX1) (T := TX1) (N := 13) hx hb hts (fun w h => gw_b w (iX1 w h)) hown hK hP 0 rfl rfl 4 (by decide) (hts _ (gw_b _ gm_144)) (fun _ h9 => h9) rfl dX1_use_133 ?_
    refine lv_iload_n hx hb dX1_use_136 rfl (lv_at hl 2 rfl) ?_
    refine lv_ixor hx hb dX1_use_137 ?_
    refine gc_i (wr := []) (w1 := [(h0, .inr (0, [.int fn, .ref hu, .int fo, .ref hm, .int fa, .int fx, .int fy, .int fs, .int (f_X1_shown_fp fp (fa ^^^ p2)), .int fc, .int fd, .int fb, .long fz]))]) (gcV (As := [.int (fa ^^^ p2)]) (rest := [.ref h0]) ⟨hx, hb, hml, hown, hts⟩ (c_X1_shown l dC dI s.heap.size h0 hu hm fn fo fa fx fy fs fp fc fd fb fz (fa ^^^ p2)) (cwV 1 hts (gw_V gw_b gm_459 gm_461 gm_16 gm_71 gm_462) rfl rfl rfl (by decide +kernel) ⟨Nat.le_of_ble_eq_true rfl, Nat.le_of_ble_eq_true rfl⟩) hK [] rfl hP hD [0] rfl rfl rfl rfl wX0_k (fun _ _ _ => trivial) rfl rfl hl.1 rfl (lv_room (Nat.le_of_ble_eq_true rfl)) dX1_use_138 ⟨Nat.le_of_ble_eq_true rfl, Nat.le_of_ble_eq_true rfl⟩) hP hD hS hA [0] [] rfl rfl rfl (by decide) (fun H locs hP hD hS => ?_)
    have hP : va_P (dC, dI) vwCl [(h0, .inr (0, [.int fn, .ref hu, .int fo, .ref hm, .int fa, .int fx, .int fy, .int fs, .int (f_X1_shown_fp fp (fa ^^^ p2)), .int fc, .int fd, .int fb, .long fz]))] H := hP
    have hD : va_D A [(h0, .inr (0, [.int fn, .ref hu, .int fo, .ref hm, .int fa, .int fx, .int fy, .int fs, .int (f_X1_shown_fp fp (fa ^^^ p2)), .int fc, .int fd, .int fb, .long fz]))] := hD
    refine va_put (D := (dC, dI)) (ci := 0) (v := .int (f_X1_shown_r (fa ^^^ p2))) (ty := tyX1 4) (C := RX1) (T := TX1) (N := 13) hx hb hts (fun w h => gw_b w (iX1 w h)) tyX1 tyX1_ok nmX1 hown hK hP hD hS 0 rfl rfl 4 (by decide) (hts _ (gw_b _ gm_144)) (fun _ h9 => h9) rfl (tyX1_ok 4 (by decide)) rfl rfl (Nat.le_of_ble_eq_true rfl) dX1_use_141 (fun H locs hP hD hS => ?_)
    have hP : va_P (dC, dI) vwCl [(h0, .inr (0, [.int fn, .ref hu, .int fo, .ref hm, .int (f_X1_shown_r (fa ^^^ p2)), .int fx, .int fy, .int fs, .int (f_X1_shown_fp fp (fa ^^^ p2)), .int fc, .int fd, .int fb, .long fz]))] H := hP
    have hD : va_D A [(h0, .inr (0, [.int fn, .ref hu, .int fo, .ref hm, .int (f_X1_shown_r (fa ^^^ p2)), .int fx, .int fy, .int fs, .int (f_X1_shown_fp fp (fa ^^^ p2)), .int fc, .int fd, .int fb, .long fz]))] := hD
    refine lv_goto (tgt := 208) hx hb dX1_use_144 (by decide) ?_
    have e_fa : (f_X1_use_fa fa fp p1 p2) = (f_X1_shown_r (fa ^^^ p2)) := ((((((if_neg c_1)).trans (if_neg c_2)).trans (if_neg c_3)).trans (if_neg c_4)).trans (if_neg c_5)).trans (if_pos c_6)
    have e_fx : (f_X1_use_fx fx p1 p2) = fx := ((if_neg c_1)).trans (if_neg c_2)
    have e_fy : (f_X1_use_fy fy p1 p2) = fy := (((if_neg c_1)).trans (if_neg c_2)).trans (if_neg c_3)
    have e_fp : (f_X1_use_fp fa fx fy fp p1 p2) = (f_X1_shown_fp fp (fa ^^^ p2)) := ((((((if_neg c_1)).trans (if_neg c_2)).trans (if_neg c_3)).trans (if_neg c_4)).trans (if_neg c_5)).trans (if_pos c_6)
    have hP9 : va_P (dC, dI) vwCl [(h0, .inr (0, [.int fn, .ref hu, .int fo, .ref hm, .int (f_X1_use_fa fa fp p1 p2), .int (f_X1_use_fx fx p1 p2), .int (f_X1_use_fy fy p1 p2), .int fs, .int (f_X1_use_fp fa fx fy fp p1 p2), .int fc, .int fd, .int fb, .long fz]))] H := by rw [e_fa, e_fx, e_fy, e_fp]; exact hP.sub (ws' := [(h0, .inr (0, [.int fn, .ref hu, .int fo, .ref hm, .int (f_X1_shown_r (fa ^^^ p2)), .int fx, .int fy, .int fs, .int (f_X1_shown_fp fp (fa ^^^ p2)), .int fc, .int fd, .int fb, .long fz]))]) [0] rfl
    have hD9 : va_D A [(h0, .inr (0, [.int fn, .ref hu, .int fo, .ref hm, .int (f_X1_use_fa fa fp p1 p2), .int (f_X1_use_fx fx p1 p2), .int (f_X1_use_fy fy p1 p2), .int fs, .int (f_X1_use_fp fa fx fy fp p1 p2), .int fc, .int fd, .int fb, .long fz]))] := by rw [e_fa, e_fx, e_fy, e_fp]; exact hD.sub (ws' := [(h0, .inr (0, [.int fn, .ref hu, .int fo, .ref hm, .int (f_X1_shown_r (fa ^^^ p2)), .int fx, .int fy, .int fs, .int (f_X1_shown_fp fp (fa ^^^ p2)), .int fc, .int fd, .int fb, .long fz]))]) [0] (by decide) rfl
    exact W.vret hx hb hr (fun t ht hW => ⟨⟨(), rfl, trivial, by rw [ht]; exact hP9, hD9⟩, hS.F ht⟩) hS.2.2 dX1_use_208
  refine sw_by (p := p1 = 22) (fun c_7 => ?_) (fun c_7 => ?_)
  · refine sw_at c_7 ?_
    refine lv_tableIn (tgt := 147) hx hb dX1_use_1 (by decide) (by decide) rfl (by decide) ?_
    refine lv_aload_n hx hb dX1_use_147 rfl (lv_at hl 0 rfl) ?_
    refine lv_iload_n hx hb dX1_use_148 rfl (lv_at hl 2 rfl) ?_
    refine gc_v (wr := []) (w1 := [(h0, .inr (0, [.int fn, .ref hu, .int fo, .ref hm, .int (f_X1_add_fa fa fp p2), .int fx, .int fy, .int fs, .int (f_X1_add_fp fa fp p2), .int fc, .int fd, .int fb, .long fz]))]) (gcV (As := [.int p2]) (rest := []) ⟨hx, hb, hml, hown, hts⟩ (c_X1_add l dC dI s.heap.size h0 hu hm fn fo fa fx fy fs fp fc fd fb fz p2) (cwV 1 hts (gw_V gw_b gm_463 gm_465 gm_17 gm_71 gm_466) rfl rfl rfl (by decide +kernel) ⟨Nat.le_of_ble_eq_true rfl, Nat.le_of_ble_eq_true rfl⟩) hK [] rfl hP hD [0] rfl rfl rfl rfl wX0_k (fun _ _ _ => trivial) rfl rfl hl.1 rfl (lv_room (Nat.le_of_ble_eq_true rfl)) dX1_use_149 ⟨Nat.le_of_ble_eq_true rfl, Nat.le_of_ble_eq_true rfl⟩) hP hD hS hA [0] [] rfl rfl rfl (by decide) (fun H locs hP hD hS => ?_)
    have hP : va_P (dC, dI) vwCl [(h0, .inr (0, [.int fn, .ref hu, .int fo, .ref hm, .int (f_X1_add_fa fa fp p2), .int fx, .int fy, .int fs, .int (f_X1_add_fp fa fp p2), .int fc, .int fd, .int fb, .long fz]))] H := hP
    have hD : va_D A [(h0, .inr (0, [.int fn, .ref hu, .int fo, .ref hm, .int (f_X1_add_fa fa fp p2), .int fx, .int fy, .int fs, .int (f_X1_add_fp fa fp p2), .int fc, .int fd, .int fb, .long fz]))] := hD
    refine lv_goto (tgt := 208) hx hb dX1_use_152 (by decide) ?_
    have e_fa : (f_X1_use_fa fa fp p1 p2) = (f_X1_add_fa fa fp p2) := (((((((if_neg c_1)).trans (if_neg c_2)).trans (if_neg c_3)).trans (if_neg c_4)).trans (if_neg c_5)).trans (if_neg c_6)).trans (if_pos c_7)
    have e_fx : (f_X1_use_fx fx p1 p2) = fx := ((if_neg c_1)).trans (if_neg c_2)
    have e_fy : (f_X1_use_fy fy p1 p2) = fy := (((if_neg c_1)).trans (if_neg c_2)).trans (if_neg c_3)
    have e_fp : (f_X1_use_fp fa fx fy fp p1 p2) = (f_X1_add_fp fa fp p2) := (((((((if_neg c_1)).trans (if_neg c_2)).trans (if_neg c_3)).trans (if_neg c_4)).trans (if_neg c_5)).trans (if_neg c_6)).trans (if_pos c_7)
    have hP9 : va_P (dC, dI) vwCl [(h0, .inr (0, [.int fn, .ref hu, .int fo, .ref hm, .int (f_X1_use_fa fa fp p1 p2), .int (f_X1_use_fx fx p1 p2), .int (f_X1_use_fy fy p1 p2), .int fs, .int (f_X1_use_fp fa fx fy fp p1 p2), .int fc, .int fd, .int fb, .long fz]))] H := by rw [e_fa, e_fx, e_fy, e_fp]; exact hP.sub (ws' := [(h0, .inr (0, [.int fn, .ref hu, .int fo, .ref hm, .int (f_X1_add_fa fa fp p2), .int fx, .int fy, .int fs, .int (f_X1_add_fp fa fp p2), .int fc, .int fd, .int fb, .long fz]))]) [0] rfl
    have hD9 : va_D A [(h0, .inr (0, [.int fn, .ref hu, .int fo, .ref hm, .int (f_X1_use_fa fa fp p1 p2), .int (f_X1_use_fx fx p1 p2), .int (f_X1_use_fy fy p1 p2), .int fs, .int (f_X1_use_fp fa fx fy fp p1 p2), .int fc, .int fd, .int fb, .long fz]))] := by rw [e_fa, e_fx, e_fy, e_fp]; exact hD.sub (ws' := [(h0, .inr (0, [.int fn, .ref hu, .int fo, .ref hm, .int (f_X1_add_fa fa fp p2), .int fx, .int fy, .int fs, .int (f_X1_add_fp fa fp p2), .int fc, .int fd, .int fb, .long fz]))]) [0] (by decide) rfl
    exact W.vret hx hb hr (fun t ht hW => ⟨⟨(), rfl, trivial, by rw [ht]; exact hP9, hD9⟩, hS.F ht⟩) hS.2.2 dX1_use_208
  refine sw_by (p := p1 = 23) (fun c_8 => ?_) (fun c_8 => ?_)
  · refine sw_at c_8 ?_
    refine lv_tableIn (tgt := 155) hx hb dX1_use_1 (by decide) (by decide) rfl (by decide) ?_
    refine lv_aload_n hx hb dX1_use_155 rfl (lv_at hl 0 rfl) ?_
    refine lv_iload_n hx hb dX1_use_156 rfl (lv_at hl 2 rfl) ?_
    refine lv_sipush (v := 255) hx hb dX1_use_157 (by decide) ?_
    refine lv_ixor hx hb dX1_use_160 ?_
    refine gc_v (wr := []) (w1 := [(h0, .inr (0, [.int fn, .ref hu, .int fo, .ref hm, .int (f_X1_add_fa fa fp (p2 ^^^ 255)), .int fx, .int fy, .int fs, .int (f_X1_add_fp fa fp (p2 ^^^ 255)), .int fc, .int fd, .int fb, .long fz]))]) (gcV (As := [.int (p2 ^^^ 255)]) (rest := []) ⟨hx, hb, hml, hown, hts⟩ (c_X1_add l dC dI s.heap.size h0 hu hm fn fo fa fx fy fs fp fc fd fb fz (p2 ^^^ 255)) (cwV 1 hts (gw_V gw_b gm_463 gm_465 gm_17 gm_71 gm_466) rfl rfl rfl (by decide +kernel) ⟨Nat.le_of_ble_eq_true rfl, Nat.le_of_ble_eq_true rfl⟩) hK [] rfl hP hD [0] rfl rfl rfl rfl wX0_k (fun _ _ _ => trivial) rfl rfl hl.1 rfl (lv_room (Nat.le_of_ble_eq_true rfl)) dX1_use_161 ⟨Nat.le_of_ble_eq_true rfl, Nat.le_of_ble_eq_true rfl⟩) hP hD hS hA [0] [] rfl rfl rfl (by decide) (fun H locs hP hD hS => ?_)
    have hP : va_P (dC, dI) vwCl [(h0, .inr (0, [.int fn, .ref hu, .int fo, .ref hm, .int (f_X1_add_fa fa fp (p2 ^^^ 255)), .int fx, .int fy, .int fs, .int (f_X1_add_fp fa fp (p2 ^^^ 255)), .int fc, .int fd, .int fb, .long fz]))] H := hP
    have hD : va_D A [(h0, .inr (0, [.int fn, .ref hu, .int fo, .ref hm, .int (f_X1_add_fa fa fp (p2 ^^^ 255)), .int fx, .int fy, .int fs, .int (f_X1_add_fp fa fp (p2 ^^^ 255)), .int fc, .int fd, .int fb, .long fz]))] := hD
    refine lv_goto (tgt := 208) hx hb dX1_use_164 (by decide) ?_
    have e_fa : (f_X1_use_fa fa fp p1 p2) = (f_X1_add_fa fa fp (p2 ^^^ 255)) := ((((((((if_neg c_1)).trans (if_neg c_2)).trans (if_neg c_3)).trans (if_neg c_4)).trans (if_neg c_5)).trans (if_neg c_6)).trans (if_neg c_7)).trans (if_pos c_8)
    have e_fx : (f_X1_use_fx fx p1 p2) = fx := ((if_neg c_1)).trans (if_neg c_2)
    have e_fy : (f_X1_use_fy fy p1 p2) = fy := (((if_neg c_1)).trans (if_neg c_2)).trans (if_neg c_3)
    have e_fp : (f_X1_use_fp fa fx fy fp p1 p2) = (f_X1_add_fp fa fp (p2 ^^^ 255)) := ((((((((if_neg c_1)).trans (if_neg c_2)).trans (if_neg c_3)).trans (if_neg c_4)).trans (if_neg c_5)).trans (if_neg c_6)).trans (if_neg c_7)).trans (if_pos c_8)
    have hP9 : va_P (dC, dI) vwCl [(h0, .inr (0, [.int fn, .ref hu, .int fo, .ref hm, .int (f_X1_use_fa fa fp p1 p2), .int (f_X1_use_fx fx p1 p2), .int (f_X1_use_fy fy p1 p2), .int fs, .int (f_X1_use_fp fa fx fy fp p1 p2), .int fc, .int fd, .int fb, .long fz]))] H := by rw [e_fa, e_fx, e_fy, e_fp]; exact hP.sub (ws' := [(h0, .inr (0, [.int fn, .ref hu, .int fo, .ref hm, .int (f_X1_add_fa fa fp (p2 ^^^ 255)), .int fx, .int fy, .int fs, .int (f_X1_add_fp fa fp (p2 ^^^ 255)), .int fc, .int fd, .int fb, .long fz]))]) [0] rfl
    have hD9 : va_D A [(h0, .inr (0, [.int fn, .ref hu, .int fo, .ref hm, .int (f_X1_use_fa fa fp p1 p2), .int (f_X1_use_fx fx p1 p2), .int (f_X1_use_fy fy p1 p2), .int fs, .int (f_X1_use_fp fa fx fy fp p1 p2), .int fc, .int fd, .int fb, .long fz]))] := by rw [e_fa, e_fx, e_fy, e_fp]; exact hD.sub (ws' := [(h0, .inr (0, [.int fn, .ref hu, .int fo, .ref hm, .int (f_X1_add_fa fa fp (p2 ^^^ 255)), .int fx, .int fy, .int fs, .int (f_X1_add_fp fa fp (p2 ^^^ 255)), .int fc, .int fd, .int fb, .long fz]))]) [0] (by decide) rfl
    exact W.vret hx hb hr (fun t ht hW => ⟨⟨(), rfl, trivial, by rw [ht]; exact hP9, hD9⟩, hS.F ht⟩) hS.2.2 dX1_use_208
  refine sw_by (p := p1 = 24) (fun c_9 => ?_) (fun c_9 => ?_)
  · refine sw_at c_9 ?_
    refine lv_tableIn (tgt := 167) hx hb dX1_use_1 (by decide) (by decide) rfl (by decide) ?_
    refine lv_aload_n hx hb dX1_use_167 rfl (lv_at hl 0 rfl) ?_
    refine lv_aload_n hx hb dX1_use_168 rfl (lv_at hl 0 rfl) ?_
    refine va_get (D := (dC, dI)) (ci := 0) (v := .int fa) (C := RX1) (T := TX1) (N := 13) hx hb hts (fun w h => gw_b w (iX1 w h)) hown hK hP 0 rfl rfl 4 (by decide) (hts _ (gw_b _ gm_144)) (fun _ h9 => h9) rfl dX1_use_169 ?_
    refine lv_iload_n hx hb dX1_use_172 rfl (lv_at hl 2 rfl) ?_
    refine gc_v (wr := []) (w1 := [(h0, .inr (0, [.int fn, .ref hu, .int fo, .ref hm, .int fa, .int fx, .int fy, .int fs, .int (f_X1_compare_fp fp fa p2), .int fc, .int fd, .int fb, .long fz]))]) (gcV (As := [.int fa, .int p2]) (rest := []) ⟨hx, hb, hml, hown, hts⟩ (c_X1_compare l dC dI s.heap.size h0 hu hm fn fo fa fx fy fs fp fc fd fb fz fa p2) (cwV 2 hts (gw_V gw_b gm_471 gm_473 gm_19 gm_71 gm_474) rfl rfl rfl (by decide +kernel) ⟨Nat.le_of_ble_eq_true rfl, Nat.le_of_ble_eq_true rfl⟩) hK [] rfl hP hD [0] rfl rfl rfl rfl wX0_k (fun _ _ _ => trivial) rfl rfl hl.1 rfl (lv_room (Nat.le_of_ble_eq_true rfl)) dX1_use_173 ⟨Nat.le_of_ble_eq_true rfl, Nat.le_of_ble_eq_true rfl⟩) hP hD hS hA [0] [] rfl rfl rfl (by decide) (fun H locs hP hD hS => ?_)
    have hP : va_P (dC, dI) vwCl [(h0, .inr (0, [.int fn, .ref hu, .int fo, .ref hm, .int fa, .int fx, .int fy, .int fs, .int (f_X1_compare_fp fp fa p2), .int fc, .int fd, .int fb, .long fz]))] H := hP
    have hD : va_D A [(h0, .inr (0, [.int fn, .ref hu, .int fo, .ref hm, .int fa, .int fx, .int fy, .int fs, .int (f_X1_compare_fp fp fa p2), .int fc, .int fd, .int fb, .long fz]))] := hD
    refine lv_goto (tgt := 208) hx hb dX1_use_176 (by decide) ?_
    have e_fa : (f_X1_use_fa fa fp p1 p2) = fa := ((((((((if_neg c_1)).trans (if_neg c_2)).trans (if_neg c_3)).trans (if_neg c_4)).trans (if_neg c_5)).trans (if_neg c_6)).trans (if_neg c_7)).trans (if_neg c_8)
    have e_fx : (f_X1_use_fx fx p1 p2) = fx := ((if_neg c_1)).trans (if_neg c_2)
    have e_fy : (f_X1_use_fy fy p1 p2) = fy := (((if_neg c_1)).trans (if_neg c_2)).trans (if_neg c_3)
    have e_fp : (f_X1_use_fp fa fx fy fp p1 p2) = (f_X1_compare_fp fp fa p2) := (((((((((if_neg c_1)).trans (if_neg c_2)).trans (if_neg c_3)).trans (if_neg c_4)).trans (if_neg c_5)).trans (if_neg c_6)).trans (if_neg c_7)).trans (if_neg c_8)).trans (if_pos c_9)
    have hP9 : va_P (dC, dI) vwCl [(h0, .inr (0, [.int fn, .ref hu, .int fo, .ref hm, .int (f_X1_use_fa fa fp p1 p2), .int (f_X1_use_fx fx p1 p2), .int (f_X1_use_fy fy p1 p2), .int fs, .int (f_X1_use_fp fa fx fy fp p1 p2), .int fc, .int fd, .int fb, .long fz]))] H := by rw [e_fa, e_fx, e_fy, e_fp]; exact hP.sub (ws' := [(h0, .inr (0, [.int fn, .ref hu, .int fo, .ref hm, .int fa, .int fx, .int fy, .int fs, .int (f_X1_compare_fp fp fa p2), .int fc, .int fd, .int fb, .long fz]))]) [0] rfl
    have hD9 : va_D A [(h0, .inr (0, [.int fn, .ref hu, .int fo, .ref hm, .int (f_X1_use_fa fa fp p1 p2), .int (f_X1_use_fx fx p1 p2), .int (f_X1_use_fy fy p1 p2), .int fs, .int (f_X1_use_fp fa fx fy fp p1 p2), .int fc, .int fd, .int fb, .long fz]))] := by rw [e_fa, e_fx, e_fy, e_fp]; exact hD.sub (ws' := [(h0, .inr (0, [.int fn, .ref hu, .int fo, .ref hm, .int fa, .int fx, .int fy, .int fs, .int (f_X1_compare_fp fp fa p2), .int fc, .int fd, .int fb, .long fz]))]) [0] (by decide) rfl
    exact W.vret hx hb hr (fun t ht hW => ⟨⟨(), rfl, trivial, by rw [ht]; exact hP9, hD9⟩, hS.F ht⟩) hS.2.2 dX1_use_208
  refine sw_by (p := p1 = 25) (fun c_10 => ?_) (fun c_10 => ?_)
  · refine sw_at c_10 ?_
    refine lv_tableIn (tgt := 179) hx hb dX1_use_1 (by decide) (by decide) rfl (by decide) ?_
    refine lv_aload_n hx hb dX1_use_179 rfl (lv_at hl 0 rfl) ?_
    refine lv_aload_n hx hb dX1_use_180 rfl (lv_at hl 0 rfl) ?_
    refine va_get (D := (dC, dI)) (ci := 0) (v := .int fx) (C := RX1) (T := TX1) (N := 13) hx hb hts (fun w h => gw_b w (iX1 w h)) hown hK hP 0 rfl rfl 5 (by decide) (hts _ (gw_b _ gm_145)) (fun _ h9 => h9) rfl dX1_use_181 ?_
    refine lv_iload_n hx hb dX1_use_184 rfl (lv_at hl 2 rfl) ?_
    refine gc_v (wr := []) (w1 := [(h0, .inr (0, [.int fn, .ref hu, .int fo, .ref hm, .int fa, .int fx, .int fy, .int fs, .int (f_X1_compare_fp fp fx p2), .int fc, .int fd, .int fb, .long fz]))]) (gcV (As := [.int fx, .int p2]) (rest := []) ⟨hx, hb, hml, hown, hts⟩ (c_X1_compare l dC dI s.heap.size h0 hu hm fn fo fa fx fy fs fp fc fd fb fz fx p2) (cwV 2 hts (gw_V gw_b gm_471 gm_473 gm_19 gm_71 gm_474) rfl rfl rfl (by decide +kernel) ⟨Nat.le_of_ble_eq_true rfl, Nat.le_of_ble_eq_true rfl⟩) hK [] rfl hP hD [0] rfl rfl rfl rfl wX0_k (fun _ _ _ => trivial) rfl rfl hl.1 rfl (lv_room (Nat.le_of_ble_eq_true rfl)) dX1_use_185 ⟨Nat.le_of_ble_eq_true rfl, Nat.le_of_ble_eq_true rfl⟩) hP hD hS hA [0] [] rfl rfl rfl (by decide) (fun H locs hP hD hS => ?_)
    have hP : va_P (dC, dI) vwCl [(h0, .inr (0, [.int fn, .ref hu, .int fo, .ref hm, .int fa, .int fx, .int fy, .int fs, .int (f_X1_compare_fp fp fx p2), .int fc, .int fd, .int fb, .long fz]))] H := hP
    have hD : va_D A [(h0, .inr (0, [.int fn, .ref hu, .int fo, .ref hm, .int fa, .int fx, .int fy, .int fs, .int (f_X1_compare_fp fp fx p2), .int fc, .int fd, .int fb, .long fz]))] := hD
    refine lv_goto (tgt := 208) hx hb dX1_use_188 (by decide) ?_
    have e_fa : (f_X1_use_fa fa fp p1 p2) = fa := ((((((((if_neg c_1)).trans (if_neg c_2)).trans (if_neg c_3)).trans (if_neg c_4)).trans (if_neg c_5)).trans (if_neg c_6)).trans (if_neg c_7)).trans (if_neg c_8)
    have e_fx : (f_X1_use_fx fx p1 p2) = fx := ((if_neg c_1)).trans (if_neg c_2)
    have e_fy : (f_X1_use_fy fy p1 p2) = fy := (((if_neg c_1)).trans (if_neg c_2)).trans (if_neg c_3)
    have e_fp : (f_X1_use_fp fa fx fy fp p1 p2) = (f_X1_compare_fp fp fx p2) := ((((((((((if_neg c_1)).trans (if_neg c_2)).trans (if_neg c_3)).trans (if_neg c_4)).trans (if_neg c_5)).trans (if_neg c_6)).trans (if_neg c_7)).trans (if_neg c_8)).trans (if_neg c_9)).trans (if_pos c_10)
    have hP9 : va_P (dC, dI) vwCl [(h0, .inr (0, [.int fn, .ref hu, .int fo, .ref hm, .int (f_X1_use_fa fa fp p1 p2), .int (f_X1_use_fx fx p1 p2), .int (f_X1_use_fy fy p1 p2), .int fs, .int (f_X1_use_fp fa fx fy fp p1 p2), .int fc, .int fd, .int fb, .long fz]))] H := by rw [e_fa, e_fx, e_fy, e_fp]; exact hP.sub (ws' := [(h0, .inr (0, [.int fn, .ref hu, .int fo, .ref hm, .int fa, .int fx, .int fy, .int fs, .int (f_X1_compare_fp fp fx p2), .int fc, .int fd, .int fb, .long fz]))]) [0] rfl
    have hD9 : va_D A [(h0, .inr (0, [.int fn, .ref hu, .int fo, .ref hm, .int (f_X1_use_fa fa fp p1 p2), .int (f_X1_use_fx fx p1 p2), .int (f_X1_use_fy fy p1 p2), .int fs, .int (f_X1_use_fp fa fx fy fp p1 p2), .int fc, .int fd, .int fb, .long fz]))] := by rw [e_fa, e_fx, e_fy, e_fp]; exact hD.sub (ws' := [(h0, .inr (0, [.int fn, .ref hu, .int fo, .ref hm, .int fa, .int fx, .int fy, .int fs, .int (f_X1_compare_fp fp fx p2), .int fc, .int fd, .int fb, .long fz]))]) [0] (by decide) rfl
    exact W.vret hx hb hr (fun t ht hW => ⟨⟨(), rfl, trivial, by rw [ht]; exact hP9, hD9⟩, hS.F ht⟩) hS.2.2 dX1_use_208
  refine sw_by (p := p1 = 26) (fun c_11 => ?_) (fun c_11 => ?_)
  · refine sw_at c_11 ?_
    refine lv_tableIn (tgt := 191) hx hb dX1_use_1 (by decide) (by decide) rfl (by decide) ?_
    refine lv_aload_n hx hb dX1_use_191 rfl (lv_at hl 0 rfl) ?_
    refine lv_aload_n hx hb dX1_use_192 rfl (lv_at hl 0 rfl) ?_
    refine va_get (D := (dC, dI)) (ci := 0) (v := .int fy) (C := RX1) (T := TX1) (N := 13) hx hb hts (fun w h => gw_b w (iX1 w h)) hown hK hP 0 rfl rfl 6 (by decide) (hts _ (gw_b _ gm_146)) (fun _ h9 => h9) rfl dX1_use_193 ?_
    refine lv_iload_n hx hb dX1_use_196 rfl (lv_at hl 2 rfl) ?_
    refine gc_v (wr := []) (w1 := [(h0, .inr (0, [.int fn, .ref hu, .int fo, .ref hm, .int fa, .int fx, .int fy, .int fs, .int (f_X1_compare_fp fp fy p2), .int fc, .int fd, .int fb, .long fz]))]) (gcV (As := [.int fy, .int p2]) (rest := []) ⟨hx, hb, hml, hown, hts⟩ (c_X1_compare l dC dI s.heap.size h0 hu hm fn fo fa fx fy fs fp fc fd fb fz fy p2) (cwV 2 hts (gw_V gw_b gm_471 gm_473 gm_19 gm_71 gm_474) rfl rfl rfl (by decide +kernel) ⟨Nat.le_of_ble_eq_true rfl, Nat.le_of_ble_eq_true rfl⟩) hK [] rfl hP hD [0] rfl rfl rfl rfl wX0_k (fun _ _ _ => trivial) rfl rfl hl.1 rfl (lv_room (Nat.le_of_ble_eq_true rfl)) dX1_use_197 ⟨Nat.le_of_ble_eq_true rfl, Nat.le_of_ble_eq_true rfl⟩) hP hD hS hA [0] [] rfl rfl rfl (by decide) (fun H locs hP hD hS => ?_)
    have hP : va_P (dC, dI) vwCl [(h0, .inr (0, [.int fn, .ref hu, .int fo, .ref hm, .int fa, .int fx, .int fy, .int fs, .int (f_X1_compare_fp fp fy p2), .int fc, .int fd, .int fb, .long fz]))] H := hP
    have hD : va_D A [(h0, .inr (0, [.int fn, .ref hu, .int fo, .ref hm, .int fa, .int fx, .int fy, .int fs, .int (f_X1_compare_fp fp fy p2), .int fc, .int fd, .int fb, .long fz]))] := hD
    refine lv_goto (tgt := 208) hx hb dX1_use_200 (by decide) ?_
    have e_fa : (f_X1_use_fa fa fp p1 p2) = fa := ((((((((if_neg c_1)).trans (if_neg c_2)).trans (if_neg c_3)).trans (if_neg c_4)).trans (if_neg c_5)).trans (if_neg c_6)).trans (if_neg c_7)).trans (if_neg c_8)
    have e_fx : (f_X1_use_fx fx p1 p2) = fx := ((if_neg c_1)).trans (if_neg c_2)
    have e_fy : (f_X1_use_fy fy p1 p2) = fy := (((if_neg c_1)).trans (if_neg c_2)).trans (if_neg c_3)
    have e_fp : (f_X1_use_fp fa fx fy fp p1 p2) = (f_X1_compare_fp fp fy p2) := (((((((((((if_neg c_1)).trans (if_neg c_2)).trans (if_neg c_3)).trans (if_neg c_4)).trans (if_neg c_5)).trans (if_neg c_6)).trans (if_neg c_7)).trans (if_neg c_8)).trans (if_neg c_9)).trans (if_neg c_10)).trans (if_pos c_11)
    have hP9 : va_P (dC, dI) vwCl [(h0, .inr (0, [.int fn, .ref hu, .int fo, .ref hm, .int (f_X1_use_fa fa fp p1 p2), .int (f_X1_use_fx fx p1 p2), .int (f_X1_use_fy fy p1 p2), .int fs, .int (f_X1_use_fp fa fx fy fp p1 p2), .int fc, .int fd, .int fb, .long fz]))] H := by rw [e_fa, e_fx, e_fy, e_fp]; exact hP.sub (ws' := [(h0, .inr (0, [.int fn, .ref hu, .int fo, .ref hm, .int fa, .int fx, .int fy, .int fs, .int (f_X1_compare_fp fp fy p2), .int fc, .int fd, .int fb, .long fz]))]) [0] rfl
    have hD9 : va_D A [(h0, .inr (0, [.int fn, .ref hu, .int fo, .ref hm, .int (f_X1_use_fa fa fp p1 p2), .int (f_X1_use_fx fx p1 p2), .int (f_X1_use_fy fy p1 p2), .int fs, .int (f_X1_use_fp fa fx fy fp p1 p2), .int fc, .int fd, .int fb, .long fz]))] := by rw [e_fa, e_fx, e_fy, e_fp]; exact hD.sub (ws' := [(h0, .inr (0, [.int fn, .ref hu, .int fo, .ref hm, .int fa, .int fx, .int fy, .int fs, .int (f_X1_compare_fp fp fy p2), .int fc, .int fd, .int fb, .long fz]))]) [0] (by decide) rfl
    exact W.vret hx hb hr (fun t ht hW => ⟨⟨(), rfl, trivial, by rw [ht]; exact hP9, hD9⟩, hS.F ht⟩) hS.2.2 dX1_use_208
  refine lv_tableOut (tgt := 203) hx hb dX1_use_1 (sw_range (fun v h1 h2 => by rcases (show v = 16 ∨ v = 17 ∨ v = 18 ∨ v = 19 ∨ v = 20 ∨ v = 21 ∨ v = 22 ∨ v = 23 ∨ v = 24 ∨ v = 25 ∨ v = 26 by omega) with rfl | rfl | rfl | rfl | rfl | rfl | rfl | rfl | rfl | rfl | rfl; (· exact c_1); (· exact c_2); (· exact c_3); (· exact c_4); (· exact c_5); (· exact c_6); (· exact c_7); (· exact c_8); (· exact c_9); (· exact c_10); (· exact c_11))) (by decide) ?_
  refine lv_aload_n hx hb dX1_use_203 rfl (lv_at hl 0 rfl) ?_
  refine lv_iload_n hx hb dX1_use_204 rfl (lv_at hl 2 rfl) ?_
  refine gc_v (wr := []) (w1 := [(h0, .inr (0, [.int fn, .ref hu, .int fo, .ref hm, .int fa, .int fx, .int fy, .int fs, .int (f_X1_testBits_fp fa fp p2), .int fc, .int fd, .int fb, .long fz]))]) (gcV (As := [.int p2]) (rest := []) ⟨hx, hb, hml, hown, hts⟩ (c_X1_testBits l dC dI s.heap.size h0 hu hm fn fo fa fx fy fs fp fc fd fb fz p2) (cwV 1 hts (gw_V gw_b gm_475 gm_477 gm_20 gm_71 gm_478) rfl rfl rfl (by decide +kernel) ⟨Nat.le_of_ble_eq_true rfl, Nat.le_of_ble_eq_true rfl⟩) hK [] rfl hP hD [0] rfl rfl rfl rfl wX0_k (fun _ _ _ => trivial) rfl rfl hl.1 rfl (lv_room (Nat.le_of_ble_eq_true rfl)) dX1_use_205 ⟨Nat.le_of_ble_eq_true rfl, Nat.le_of_ble_eq_true rfl⟩) hP hD hS hA [0] [] rfl rfl rfl (by decide) (fun H locs hP hD hS => ?_)
  have hP : va_P (dC, dI) vwCl [(h0, .inr (0, [.int fn, .ref hu, .int fo, .ref hm, .int fa, .int fx, .int fy, .int fs, .int (f_X1_testBits_fp fa fp p2), .int fc, .int fd, .int fb, .long fz]))] H := hP
  have hD : va_D A [(h0, .inr (0, [.int fn, .ref hu, .int fo, .ref hm, .int fa, .int fx, .int fy, .int fs, .int (f_X1_testBits_fp fa fp p2), .int fc, .int fd, .int fb, .long fz]))] := hD
  have e_fa : (f_X1_use_fa fa fp p1 p2) = fa := ((((((((if_neg c_1)).trans (if_neg c_2)).trans (if_neg c_3)).trans (if_neg c_4)).trans (if_neg c_5)).trans (if_neg c_6)).trans (if_neg c_7)).trans (if_neg c_8)
  have e_fx : (f_X1_use_fx fx p1 p2) = fx := ((if_neg c_1)).trans (if_neg c_2)
  have e_fy : (f_X1_use_fy fy p1 p2) = fy := (((if_neg c_1)).trans (if_neg c_2)).trans (if_neg c_3)
  have e_fp : (f_X1_use_fp fa fx fy fp p1 p2) = (f_X1_testBits_fp fa fp p2) := (((((((((((if_neg c_1)).trans (if_neg c_2)).trans (if_neg c_3)).trans (if_neg c_4)).trans (if_neg c_5)).trans (if_neg c_6)).trans (if_neg c_7)).trans (if_neg c_8)).trans (if_neg c_9)).trans (if_neg c_10)).trans (if_neg c_11)
  have hP9 : va_P (dC, dI) vwCl [(h0, .inr (0, [.int fn, .ref hu, .int fo, .ref hm, .int (f_X1_use_fa fa fp p1 p2), .int (f_X1_use_fx fx p1 p2), .int (f_X1_use_fy fy p1 p2), .int fs, .int (f_X1_use_fp fa fx fy fp p1 p2), .int fc, .int fd, .int fb, .long fz]))] H := by rw [e_fa, e_fx, e_fy, e_fp]; exact hP.sub (ws' := [(h0, .inr (0, [.int fn, .ref hu, .int fo, .ref hm, .int fa, .int fx, .int fy, .int fs, .int (f_X1_testBits_fp fa fp p2), .int fc, .int fd, .int fb, .long fz]))]) [0] rfl
  have hD9 : va_D A [(h0, .inr (0, [.int fn, .ref hu, .int fo, .ref hm, .int (f_X1_use_fa fa fp p1 p2), .int (f_X1_use_fx fx p1 p2), .int (f_X1_use_fy fy p1 p2), .int fs, .int (f_X1_use_fp fa fx fy fp p1 p2), .int fc, .int fd, .int fb, .long fz]))] := by rw [e_fa, e_fx, e_fy, e_fp]; exact hD.sub (ws' := [(h0, .inr (0, [.int fn, .ref hu, .int fo, .ref hm, .int fa, .int fx, .int fy, .int fs, .int (f_X1_testBits_fp fa fp p2), .int fc, .int fd, .int fb, .long fz]))]) [0] (by decide) rfl
  exact W.vret hx hb hr (fun t ht hW => ⟨⟨(), rfl, trivial, by rw [ht]; exact hP9, hD9⟩, hS.F ht⟩) hS.2.2 dX1_use_208
