theorem pv_b {gB gX gS gC gR gM gL : Nat → Int32} {un m k : Int32} (hm : vp_in m 2) (hk : vp_in k 8) (hok : mOk gB gX gS gC gR gM gL un) : vp_in (f_X5_peekPort_r un gR gM gL m k) 256 := by
  have hu : ∀ b : Nat, b ≤ 192 → vp_in (nI b + un) 256 := by
    intro b hb
    obtain ⟨j, hj, e⟩ := vp_in_of hok.2.2.2.2.2.2.2 (by decide)
    rw [e, nI_add]; exact vp_in_nI (by omega) (by decide)
  unfold f_X5_peekPort_r
  by_cases c1 : (k - k / 2 * 2) = 1
  · rw [if_pos c1]
    by_cases c2 : (gM ((4 * m) + (k / 2)).toNatClampNeg) ≤ 0
    · rw [if_pos c2]; exact mr_L hok (pp_own hm hk)
    · rw [if_neg c2]; exact mr_R hok (pp_row (pp_own hm hk))
  · rw [if_neg c1]
    split
    · split
      · split
        · exact hu 0 (by decide)
        · unfold vp_in; decide
      · split
        · exact hu 128 (by decide)
        · unfold vp_in; decide
    · split
      · split
        · exact hu 64 (by decide)
        · unfold vp_in; decide
      · split
        · exact hu 192 (by decide)
        · unfold vp_in; decide
/-- a row of the reference whose first byte went: the others one place on -/
def shiftR (g : Nat → Int32) (w i : Nat) : Nat → Int32 := fun j => if 24 * w ≤ j ∧ j < 24 * w + i then g (j + 1) else g j
theorem shift_0 (g : Nat → Int32) (w : Nat) : shiftR g w 0 = g := by
  funext j
  unfold shiftR
  rw [if_neg (by omega)]
theorem shift_s (g : Nat → Int32) (w i : Nat) : upd (shiftR g w i) (24 * w + i) ((shiftR g w i) (24 * w + i + 1)) = shiftR g w (i + 1) := by
  funext j
  by_cases e : j = 24 * w + i
  · subst e
    rw [pk_us]
    unfold shiftR
    rw [if_neg (by omega), if_pos (by omega)]
  · rw [pk_un e]
    unfold shiftR
    by_cases h : 24 * w ≤ j ∧ j < 24 * w + i
    · rw [if_pos h, if_pos (by omega)]
    · rw [if_neg h, if_neg (by omega)]
theorem mo_sh {gB gX gS gC gR gM gL : Nat → Int32} {un : Int32} {w n : Nat} (hw : w < 8) (hn : n ≤ 23) (h : mOk gB gX gS gC gR gM gL un) : mOk gB gX gS gC (shiftR gR w n) gM gL un := by
  refine ⟨h.1, h.2.1, h.2.2.1, h.2.2.2.1, fun j hj => ?_, h.2.2.2.2.2⟩
  unfold shiftR
  by_cases e : 24 * w ≤ j ∧ j < 24 * w + n
  · rw [if_pos e]; exact h.2.2.2.2.1 _ (by omega)
  · rw [if_neg e]; exact h.2.2.2.2.1 _ hj
set_option maxHeartbeats 4000000 in
set_option maxRecDepth 100000 in
theorem l_shift {p : Program} {l : Launch} {e : Env} {R : Room} {s : State} {m : MethodId} {args : Array Value} {below : List Frame} {meth : Method} {c : Code} {cells slots : Nat} {Q : State → Prop} {A : Nat → Prop} {dC : Nat → ClassId} {dI : Nat → Nat → Nat} {Ts : List Cond} (hx : p.tables.exec = Jvm.exec) (hb : c.code = cX5_readPort) (hts : ∀ w ∈ Ts, w.before args s = true) (hgb : ∀ w ∈ gw, w ∈ Ts) (hown : s.vm.findClass RX5 = some m.cls) {h0 : Nat} {qB : Nat} {qA : Nat} {qX : Nat} {qY : Nat} {qS : Nat} {qP : Nat} {qC : Nat} {qD : Nat} {qT : Nat} {qR : Nat} {qM : Nat} {qL : Nat} {th : Int32} {un : Int32} {ow : Int32} {ln : Int32} {mm : Int32} {cyI : ClassId} {cyZ : ClassId} {cyJ : ClassId} {gB : Nat → Int32} {gA : Nat → Int32} {gX : Nat → Int32} {gY : Nat → Int32} {gS : Nat → Int32} {gP : Nat → Int32} {gC : Nat → Int32} {gD : Nat → Int32} {gT : Nat → Int64} {gM : Nat → Int32} {gL : Nat → Int32} {H0 : Heap} (hK : va_K (dC, dI) vwCl [(cyI, .int), (cyZ, .boolean), (cyJ, .long)] s)
    {own : Int32} {w n : Nat} (hw : own = nI w) (hw8 : w < 8) (hn : gM own.toNatClampNeg = nI n) (hn23 : n ≤ 23) {p1 p2 v : Int32} {g : Nat → Int32}
    (kk : ∀ (H : Heap) (locs : List Loc) (ls : Array Slot), va_P (dC, dI) vwCl [(h0, .inr (4, [.int th, .ref qB, .ref qA, .ref qX, .ref qY, .ref qS, .ref qP, .ref qC, .ref qD, .ref qT, .ref qR, .ref qM, .ref qL, .int un, .int ow, .int ln, .int mm])), (qB, .inl (cyI, 8192, .inl gB)), (qA, .inl (cyI, 2, .inl gA)), (qX, .inl (cyI, 2, .inl gX)), (qY, .inl (cyI, 2, .inl gY)), (qS, .inl (cyI, 2, .inl gS)), (qP, .inl (cyI, 2, .inl gP)), (qC, .inl (cyI, 2, .inl gC)), (qD, .inl (cyZ, 2, .inl gD)), (qT, .inl (cyJ, 2, .inr (.inl gT))), (qR, .inl (cyI, 192, .inl (shiftR g w n))), (qM, .inl (cyI, 8, .inl gM)), (qL, .inl (cyI, 8, .inl gL))] H → va_D A [(h0, .inr (4, [.int th, .ref qB, .ref qA, .ref qX, .ref qY, .ref qS, .ref qP, .ref qC, .ref qD, .ref qT, .ref qR, .ref qM, .ref qL, .int un, .int ow, .int ln, .int mm])), (qB, .inl (cyI, 8192, .inl gB)), (qA, .inl (cyI, 2, .inl gA)), (qX, .inl (cyI, 2, .inl gX)), (qY, .inl (cyI, 2, .inl gY)), (qS, .inl (cyI, 2, .inl gS)), (qP, .inl (cyI, 2, .inl gP)), (qC, .inl (cyI, 2, .inl gC)), (qD, .inl (cyZ, 2, .inl gD)), (qT, .inl (cyJ, 2, .inr (.inl gT))), (qR, .inl (cyI, 192, .inl (shiftR g w n))), (qM, .inl (cyI, 8, .inl gM)), (qL, .inl (cyI, 8, .inl gL))] → va_S A H0 H locs → lv_has ls 6 [(3, .int v)] → W p l e R s m args below meth c H locs cells slots Q (F0 m 101 ls [])) :
    ∀ (k i : Nat) (H : Heap) (locs : List Loc) (ls : Array Slot), i + k = n → va_P (dC, dI) vwCl [(h0, .inr (4, [.int th, .ref qB, .ref qA, .ref qX, .ref qY, .ref qS, .ref qP, .ref qC, .ref qD, .ref qT, .ref qR, .ref qM, .ref qL, .int un, .int ow, .int ln, .int mm])), (qB, .inl (cyI, 8192, .inl gB)), (qA, .inl (cyI, 2, .inl gA)), (qX, .inl (cyI, 2, .inl gX)), (qY, .inl (cyI, 2, .inl gY)), (qS, .inl (cyI, 2, .inl gS)), (qP, .inl (cyI, 2, .inl gP)), (qC, .inl (cyI, 2, .inl gC)), (qD, .inl (cyZ, 2, .inl gD)), (qT, .inl (cyJ, 2, .inr (.inl gT))), (qR, .inl (cyI, 192, .inl (shiftR g w i))), (qM, .inl (cyI, 8, .inl gM)), (qL, .inl (cyI, 8, .inl gL))] H → va_D A [(h0, .inr (4, [.int th, .ref qB, .ref qA, .ref qX, .ref qY, .ref qS, .ref qP, .ref qC, .ref qD, .ref qT, .ref qR, .ref qM, .ref qL, .int un, .int ow, .int ln, .int mm])), (qB, .inl (cyI, 8192, .inl gB)), (qA, .inl (cyI, 2, .inl gA)), (qX, .inl (cyI, 2, .inl gX)), (qY, .inl (cyI, 2, .inl gY)), (qS, .inl (cyI, 2, .inl gS)), (qP, .inl (cyI, 2, .inl gP)), (qC, .inl (cyI, 2, .inl gC)), (qD, .inl (cyZ, 2, .inl gD)), (qT, .inl (cyJ, 2, .inr (.inl gT))), (qR, .inl (cyI, 192, .inl (shiftR g w i))), (qM, .inl (cyI, 8, .inl gM)), (qL, .inl (cyI, 8, .inl gL))] → va_S A H0 H locs → lv_has ls 6 [(5, .int (nI i)), (4, .int own), (3, .int v), (0, .ref h0), (1, .int p1), (2, .int p2)] → W p l e R s m args below meth c H locs cells slots Q (F0 m 55 ls []) := by
  have hoi : vp_in own 8 := by rw [hw]; exact vp_in_nI hw8 (by decide)
  intro k
  induction k with
  | zero =>
    intro i H locs ls hi hP hD hS hl
    obtain rfl : i = n := by omega
    refine lv_iload hx hb dX5_readPort_55 (lv_at hl 0 rfl) ?_
    refine lv_aload_n hx hb dX5_readPort_57 rfl (lv_at hl 3 rfl) ?_
    refine va_get (D := (dC, dI)) (ci := 4) (v := .ref qM) (C := RX5) (T := TX5) (N := 17) hx hb hts (fun w h => hgb w (iX5 w h)) hown hK hP 0 rfl rfl 11 (by decide) (hts _ (hgb _ gm_604)) (fun _ h9 => h9) rfl dX5_readPort_58 ?_
    refine lv_iload hx hb dX5_readPort_61 (lv_at hl 1 rfl) ?_
    refine va_iald (D := (dC, dI)) hx hb hK hP 11 0 rfl rfl hoi dX5_readPort_63 ?_
    refine lv_fold hn ?_
    refine lv_icmp_ge (tgt := 101) hx hb dX5_readPort_64 (by decide) (fun c => ?_) (fun c => absurd (nI_le (Nat.le_refl _) (by omega)) c)
    exact kk H locs ls hP hD hS (lv_sub hl [2] rfl)
  | succ k ih =>
    intro i H locs ls hi hP hD hS hl
    have e0 : (24 * own) + nI i = nI (24 * w + i) := by rw [hw, show (24 : Int32) = nI 24 from rfl, pk_mul, nI_add]
    refine lv_iload hx hb dX5_readPort_55 (lv_at hl 0 rfl) ?_
    refine lv_aload_n hx hb dX5_readPort_57 rfl (lv_at hl 3 rfl) ?_
    refine va_get (D := (dC, dI)) (ci := 4) (v := .ref qM) (C := RX5) (T := TX5) (N := 17) hx hb hts (fun w h => hgb w (iX5 w h)) hown hK hP 0 rfl rfl 11 (by decide) (hts _ (hgb _ gm_604)) (fun _ h9 => h9) rfl dX5_readPort_58 ?_
    refine lv_iload hx hb dX5_readPort_61 (lv_at hl 1 rfl) ?_
    refine va_iald (D := (dC, dI)) hx hb hK hP 11 0 rfl rfl hoi dX5_readPort_63 ?_
    refine lv_fold hn ?_
    refine lv_icmp_ge (tgt := 101) hx hb dX5_readPort_64 (by decide) (fun c => absurd c (by rw [nI_leI (by omega) (by omega)]; omega)) (fun c => ?_)
    refine lv_aload_n hx hb dX5_readPort_67 rfl (lv_at hl 3 rfl) ?_
    refine va_get (D := (dC, dI)) (ci := 4) (v := .ref qR) (C := RX5) (T := TX5) (N := 17) hx hb hts (fun w h => hgb w (iX5 w h)) hown hK hP 0 rfl rfl 10 (by decide) (hts _ (hgb _ gm_603)) (fun _ h9 => h9) rfl dX5_readPort_68 ?_
    refine lv_bipush (v := 24) hx hb dX5_readPort_71 (by decide) ?_
    refine lv_iload hx hb dX5_readPort_73 (lv_at hl 1 rfl) ?_
    refine lv_imul hx hb dX5_readPort_75 ?_
    refine lv_iload hx hb dX5_readPort_76 (lv_at hl 0 rfl) ?_
    refine lv_iadd hx hb dX5_readPort_78 ?_
    refine lv_fold e0 ?_
    refine lv_aload_n hx hb dX5_readPort_79 rfl (lv_at hl 3 rfl) ?_
    refine va_get (D := (dC, dI)) (ci := 4) (v := .ref qR) (C := RX5) (T := TX5) (N := 17) hx hb hts (fun w h => hgb w (iX5 w h)) hown hK hP 0 rfl rfl 10 (by decide) (hts _ (hgb _ gm_603)) (fun _ h9 => h9) rfl dX5_readPort_80 ?_
    refine lv_bipush (v := 24) hx hb dX5_readPort_83 (by decide) ?_
    refine lv_iload hx hb dX5_readPort_85 (lv_at hl 1 rfl) ?_
    refine lv_imul hx hb dX5_readPort_87 ?_
    refine lv_iload hx hb dX5_readPort_88 (lv_at hl 0 rfl) ?_
    refine lv_iadd hx hb dX5_readPort_90 ?_
    refine lv_fold e0 ?_
    refine lv_iconst (v := 1) hx hb dX5_readPort_91 (by decide) ?_
    refine lv_iadd hx hb dX5_readPort_92 ?_
    refine lv_fold (nI_1 (24 * w + i)) ?_
    refine va_iald (D := (dC, dI)) hx hb hK hP 10 0 rfl rfl (vp_in_nI (by omega) (by decide)) dX5_readPort_93 ?_
    refine va_iast (D := (dC, dI)) hx hb hK hP hD hS 10 0 rfl rfl (vp_in_nI (by omega) (by decide)) dX5_readPort_94 (fun H locs hP hD hS => ?_)
    rw [nI_clamp (by omega), nI_clamp (by omega), shift_s] at hP hD
    have hP : va_P (dC, dI) vwCl [(h0, .inr (4, [.int th, .ref qB, .ref qA, .ref qX, .ref qY, .ref qS, .ref qP, .ref qC, .ref qD, .ref qT, .ref qR, .ref qM, .ref qL, .int un, .int ow, .int ln, .int mm])), (qB, .inl (cyI, 8192, .inl gB)), (qA, .inl (cyI, 2, .inl gA)), (qX, .inl (cyI, 2, .inl gX)), (qY, .inl (cyI, 2, .inl gY)), (qS, .inl (cyI, 2, .inl gS)), (qP, .inl (cyI, 2, .inl gP)), (qC, .inl (cyI, 2, .inl gC)), (qD, .inl (cyZ, 2, .inl gD)), (qT, .inl (cyJ, 2, .inr (.inl gT))), (qR, .inl (cyI, 192, .inl (shiftR g w (i + 1)))), (qM, .inl (cyI, 8, .inl gM)), (qL, .inl (cyI, 8, .inl gL))] H := hP
    have hD : va_D A [(h0, .inr (4, [.int th, .ref qB, .ref qA, .ref qX, .ref qY, .ref qS, .ref qP, .ref qC, .ref qD, .ref qT, .ref qR, .ref qM, .ref qL, .int un, .int ow, .int ln, .int mm])), (qB, .inl (cyI, 8192, .inl gB)), (qA, .inl (cyI, 2, .inl gA)), (qX, .inl (cyI, 2, .inl gX)), (qY, .inl (cyI, 2, .inl gY)), (qS, .inl (cyI, 2, .inl gS)), (qP, .inl (cyI, 2, .inl gP)), (qC, .inl (cyI, 2, .inl gC)), (qD, .inl (cyZ, 2, .inl gD)), (qT, .inl (cyJ, 2, .inr (.inl gT))), (qR, .inl (cyI, 192, .inl (shiftR g w (i + 1)))), (qM, .inl (cyI, 8, .inl gM)), (qL, .inl (cyI, 8, .inl gL))] := hD
    refine lv_iinc (v := nI (i + 1)) (lv' := [(5, .int (nI (i + 1))), (4, .int own), (3, .int v), (0, .ref h0), (1, .int p1), (2, .int p2)]) hx hb dX5_readPort_95 hl (k := 0) rfl (nI_1 i) (by decide) rfl (fun ls hl => ?_)
    refine lv_goto (tgt := 55) hx hb dX5_readPort_98 (by decide) ?_
    exact ih (i + 1) H locs ls (by omega) hP hD hS hl
theorem vi_dec {x : Int32} (h : vp_in x 25) (h1 : ¬ x ≤ 0) : vp_in (x - 1) 25 := by
  obtain ⟨j, hj, rfl⟩ := vp_in_of h (by decide)
  have : j ≠ 0 := fun q => h1 (by rw [q]; decide)
  rw [show (1 : Int32) = nI 1 from rfl, pk_sub (by omega)]
  exact vp_in_nI (by omega) (by decide)
theorem vi_dec4 {x : Int32} (h : vp_in x 25) (h1 : ¬ x ≤ 0) : vp_in (x - 1) 24 := by
  obtain ⟨j, hj, rfl⟩ := vp_in_of h (by decide)
  have : j ≠ 0 := fun q => h1 (by rw [q]; decide)
  rw [show (1 : Int32) = nI 1 from rfl, pk_sub (by omega)]
  exact vp_in_nI (by omega) (by decide)
def f_X5_readPort_gR (gR : Nat → Int32) (gM : Nat → Int32) (p1 : Int32) (p2 : Int32) : Nat → Int32 := (if (p2 - p2 / 2 * 2) = 1 then (if (gM ((4 * p1) + (p2 / 2)).toNatClampNeg) ≤ 0 then gR else (shiftR gR ((4 * p1) + (p2 / 2)).toNatClampNeg ((gM ((4 * p1) + (p2 / 2)).toNatClampNeg) - 1).toNatClampNeg)) else gR)
def f_X5_readPort_gM (gM : Nat → Int32) (p1 : Int32) (p2 : Int32) : Nat → Int32 := (if (p2 - p2 / 2 * 2) = 1 then (if (gM ((4 * p1) + (p2 / 2)).toNatClampNeg) ≤ 0 then gM else (upd gM ((4 * p1) + (p2 / 2)).toNatClampNeg ((gM ((4 * p1) + (p2 / 2)).toNatClampNeg) - 1))) else gM)
def f_X5_readPort_gL (un : Int32) (gR : Nat → Int32) (gM : Nat → Int32) (gL : Nat → Int32) (p1 : Int32) (p2 : Int32) : Nat → Int32 := (if (p2 - p2 / 2 * 2) = 1 then (upd gL ((4 * p1) + (p2 / 2)).toNatClampNeg (f_X5_peekPort_r un gR gM gL p1 p2)) else gL)
def f_X5_readPort_r (un : Int32) (gR : Nat → Int32) (gM : Nat → Int32) (gL : Nat → Int32) (p1 : Int32) (p2 : Int32) : Int32 := (f_X5_peekPort_r un gR gM gL p1 p2)
set_option maxHeartbeats 4000000 in
set_option maxRecDepth 100000 in
/-- X5_readPort -/
theorem c_X5_readPort (l : Launch) (dC : Nat → ClassId) (dI : Nat → Nat → Nat) (sz : Nat) (h0 : Nat) (qB : Nat) (qA : Nat) (qX : Nat) (qY : Nat) (qS : Nat) (qP : Nat) (qC : Nat) (qD : Nat) (qT : Nat) (qR : Nat) (qM : Nat) (qL : Nat) (th : Int32) (un : Int32) (ow : Int32) (ln : Int32) (mm : Int32) (cyI : ClassId) (cyZ : ClassId) (cyJ : ClassId) (gB : Nat → Int32) (gA : Nat → Int32) (gX : Nat → Int32) (gY : Nat → Int32) (gS : Nat → Int32) (gP : Nat → Int32) (gC : Nat → Int32) (gD : Nat → Int32) (gT : Nat → Int64) (gR : Nat → Int32) (gM : Nat → Int32) (gL : Nat → Int32) (p1 : Int32) (p2 : Int32) (hm : vp_in p1 2) (hk : vp_in p2 8) (hok : mOk gB gX gS gC gR gM gL un) : Met l yX5_readPort (Cond.code yX5_readPort cX5_readPort 6 (some .int) :: gw) { frames := 2, cells := 0, slots := 0, locals := 48 } (va_Pc [.ref h0, .int p1, .int p2] (wPre (dC, dI) [(cyI, .int), (cyZ, .boolean), (cyJ, .long)] [(h0, .inr (4, [.int th, .ref qB, .ref qA, .ref qX, .ref qY, .ref qS, .ref qP, .ref qC, .ref qD, .ref qT, .ref qR, .ref qM, .ref qL, .int un, .int ow, .int ln, .int mm])), (qB, .inl (cyI, 8192, .inl gB)), (qA, .inl (cyI, 2, .inl gA)), (qX, .inl (cyI, 2, .inl gX)), (qY, .inl (cyI, 2, .inl gY)), (qS, .inl (cyI, 2, .inl gS)), (qP, .inl (cyI, 2, .inl gP)), (qC, .inl (cyI, 2, .inl gC)), (qD, .inl (cyZ, 2, .inl gD)), (qT, .inl (cyJ, 2, .inr (.inl gT))), (qR, .inl (cyI, 192, .inl gR)), (qM, .inl (cyI, 8, .inl gM)), (qL, .inl (cyI, 8, .inl gL))] sz wX0)) (va_Qi (fun (r : Int32) (_ : Unit) => r = (f_X5_readPort_r un gR gM gL p1 p2) ∧ (mOk gB gX gS gC (f_X5_readPort_gR gR gM p1 p2) (f_X5_readPort_gM gM p1 p2) (f_X5_readPort_gL un gR gM gL p1 p2) un ∧ vp_in (f_X5_readPort_r un gR gM gL p1 p2) 256)) (fun _ t => wPost (dC, dI) (va_A [(h0, .inr (4, [.int th, .ref qB, .ref qA, .ref qX, .ref qY, .ref qS, .ref qP, .ref qC, .ref qD, .ref qT, .ref qR, .ref qM, .ref qL, .int un, .int ow, .int ln, .int mm])), (qB, .inl (cyI, 8192, .inl gB)), (qA, .inl (cyI, 2, .inl gA)), (qX, .inl (cyI, 2, .inl gX)), (qY, .inl (cyI, 2, .inl gY)), (qS, .inl (cyI, 2, .inl gS)), (qP, .inl (cyI, 2, .inl gP)), (qC, .inl (cyI, 2, .inl gC)), (qD, .inl (cyZ, 2, .inl gD)), (qT, .inl (cyJ, 2, .inr (.inl gT))), (qR, .inl (cyI, 192, .inl gR)), (qM, .inl (cyI, 8, .inl gM)), (qL, .inl (cyI, 8, .inl gL))] sz) [(h0, .inr (4, [.int th, .ref qB, .ref qA, .ref qX, .ref qY, .ref qS, .ref qP, .ref qC, .ref qD, .ref qT, .ref qR, .ref qM, .ref qL, .int un, .int ow, .int ln, .int mm])), (qB, .inl (cyI, 8192, .inl gB)), (qA, .inl (cyI, 2, .inl gA)), (qX, .inl (cyI, 2, .inl gX)), (qY, .inl (cyI, 2, .inl gY)), (qS, .inl (cyI, 2, .inl gS)), (qP, .inl (cyI, 2, .inl gP)), (qC, .inl (cyI, 2, .inl gC)), (qD, .inl (cyZ, 2, .inl gD)), (qT, .inl (cyJ, 2, .inr (.inl gT))), (qR, .inl (cyI, 192, .inl (f_X5_readPort_gR gR gM p1 p2))), (qM, .inl (cyI, 8, .inl (f_X5_readPort_gM gM p1 p2))), (qL, .inl (cyI, 8, .inl (f_X5_readPort_gL un gR gM gL p1 p2)))] t) (va_A [(h0, .inr (4, [.int th, .ref qB, .ref qA, .ref qX, .ref qY, .ref qS, .ref qP, .ref qC, .ref qD, .ref qT, .ref qR, .ref qM, .ref qL, .int un, .int ow, .int ln, .int mm])), (qB, .inl (cyI, 8192, .inl gB)), (qA, .inl (cyI, 2, .inl gA)), (qX, .inl (cyI, 2, .inl gX)), (qY, .inl (cyI, 2, .inl gY)), (qS, .inl (cyI, 2, .inl gS)), (qP, .inl (cyI, 2, .inl gP)), (qC, .inl (cyI, 2, .inl gC)), (qD, .inl (cyZ, 2, .inl gD)), (qT, .inl (cyJ, 2, .inr (.inl gT))), (qR, .inl (cyI, 192, .inl gR)), (qM, .inl (cyI, 8, .inl gM)), (qL, .inl (cyI, 8, .inl gL))] sz)) 0 0 (va_A [(h0, .inr (4, [.int th, .ref qB, .ref qA, .ref qX, .ref qY, .ref qS, .ref qP, .ref qC, .ref qD, .ref qT, .ref qR, .ref qM, .ref qL, .int un, .int ow, .int ln, .int mm])), (qB, .inl (cyI, 8192, .inl gB)), (qA, .inl (cyI, 2, .inl gA)), (qX, .inl (cyI, 2, .inl gX)), (qY, .inl (cyI, 2, .inl gY)), (qS, .inl (cyI, 2, .inl gS)), (qP, .inl (cyI, 2, .inl gP)), (qC, .inl (cyI, 2, .inl gC)), (qD, .inl (cyZ, 2, .inl gD)), (qT, .inl (cyJ, 2, .inr (.inl gT))), (qR, .inl (cyI, 192, .inl gR)), (qM, .inl (cyI, 8, .inl gM)), (qL, .inl (cyI, 8, .inl gL))] sz) := by
  refine Met.ofW (cc := cX5_readPort) (maxL := 6) (ret := (some .int)) (by decide) rfl ?_
  intro p e s m args below meth c s₁ B hml hv
  obtain ⟨rfl, hsz, hP, hK, hD0, hXX⟩ := hv
  have hx := B.exec
  have hb := B.bytes
  have hr := B.returns
  have hts := atoms_spec (ws := (Cond.code yX5_readPort cX5_readPort 6 (some .int) :: gw)) B.pre
  have hown : s.vm.findClass RX5 = some m.cls := findClass_of_methodNamed B.named
  have hlocks := B.notSynchronized
  subst hsz
  have hD := hD0.self (sz := s.heap.size)
  generalize hAe : va_A [(h0, .inr (4, [.int th, .ref qB, .ref qA, .ref qX, .ref qY, .ref qS, .ref qP, .ref qC, .ref qD, .ref qT, .ref qR, .ref qM, .ref qL, .int un, .int ow, .int ln, .int mm])), (qB, .inl (cyI, 8192, .inl gB)), (qA, .inl (cyI, 2, .inl gA)), (qX, .inl (cyI, 2, .inl gX)), (qY, .inl (cyI, 2, .inl gY)), (qS, .inl (cyI, 2, .inl gS)), (qP, .inl (cyI, 2, .inl gP)), (qC, .inl (cyI, 2, .inl gC)), (qD, .inl (cyZ, 2, .inl gD)), (qT, .inl (cyJ, 2, .inr (.inl gT))), (qR, .inl (cyI, 192, .inl gR)), (qM, .inl (cyI, 8, .inl gM)), (qL, .inl (cyI, 8, .inl gL))] s.heap.size = A at hD ⊢
  have hA : ∀ q : Nat, s.heap.size ≤ q → A q := fun q h => by rw [← hAe]; exact Or.inr h
  have hS : va_S A s.heap s.heap [] := va_S.rf
  have hl := lv_entry ([.ref h0, .int p1, .int p2]) (n := 6) (Nat.le_of_ble_eq_true rfl)
  rw [lg_entry_eq]
  generalize (lg_sl ([.ref h0, .int p1, .int p2]) ++ List.replicate (6 - (lg_sl ([.ref h0, .int p1, .int p2])).length) Slot.unset).toArray = ls at hl ⊢
  have hl : lv_has ls 6 [(0, .ref h0), (1, .int p1), (2, .int p2)] := hl
  refine lv_aload_n hx hb dX5_readPort_0 rfl (lv_at hl 0 rfl) ?_
  refine lv_iload_n hx hb dX5_readPort_1 rfl (lv_at hl 1 rfl) ?_
  refine lv_iload_n hx hb dX5_readPort_2 rfl (lv_at hl 2 rfl) ?_
  refine gc_i (wr := []) (w1 := [(h0, .inr (4, [.int th, .ref qB, .ref qA, .ref qX, .ref qY, .ref qS, .ref qP, .ref qC, .ref qD, .ref qT, .ref qR, .ref qM, .ref qL, .int un, .int ow, .int ln, .int mm])), (qB, .inl (cyI, 8192, .inl gB)), (qA, .inl (cyI, 2, .inl gA)), (qX, .inl (cyI, 2, .inl gX)), (qY, .inl (cyI, 2, .inl gY)), (qS, .inl (cyI, 2, .inl gS)), (qP, .inl (cyI, 2, .inl gP)), (qC, .inl (cyI, 2, .inl gC)), (qD, .inl (cyZ, 2, .inl gD)), (qT, .inl (cyJ, 2, .inr (.inl gT))), (qR, .inl (cyI, 192, .inl gR)), (qM, .inl (cyI, 8, .inl gM)), (qL, .inl (cyI, 8, .inl gL))]) (gcV (As := [.int p1, .int p2]) (rest := []) ⟨hx, hb, hml, hown, hts⟩ (c_X5_peekPort l dC dI s.heap.size h0 qB qA qX qY qS qP qC qD qT qR qM qL th un ow ln mm cyI cyZ cyJ gB gA gX gY gS gP gC gD gT gR gM gL p1 p2 hm hk) (cwV 2 hts (gw_V gw_b gm_733 gm_735 gm_49 gm_72 gm_736) rfl rfl rfl (by decide +kernel) ⟨Nat.le_of_ble_eq_true rfl, Nat.le_of_ble_eq_true rfl⟩) hK [0, 1, 2] rfl hP hD [0, 1, 2, 3, 4, 5, 6, 7, 8, 9, 10, 11, 12] rfl rfl rfl rfl wX0_k (fun _ _ _ => trivial) rfl rfl hl.1 rfl (lv_room (Nat.le_of_ble_eq_true rfl)) dX5_readPort_3 ⟨Nat.le_of_ble_eq_true rfl, Nat.le_of_ble_eq_true rfl⟩) hP hD hS hA [0, 1, 2, 3, 4, 5, 6, 7, 8, 9, 10, 11, 12] [] rfl rfl rfl (by decide) (fun H locs hP hD hS => ?_)
  have hP : va_P (dC, dI) vwCl [(h0, .inr (4, [.int th, .ref qB, .ref qA, .ref qX, .ref qY, .ref qS, .ref qP, .ref qC, .ref qD, .ref qT, .ref qR, .ref qM, .ref qL, .int un, .int ow, .int ln, .int mm])), (qB, .inl (cyI, 8192, .inl gB)), (qA, .inl (cyI, 2, .inl gA)), (qX, .inl (cyI, 2, .inl gX)), (qY, .inl (cyI, 2, .inl gY)), (qS, .inl (cyI, 2, .inl gS)), (qP, .inl (cyI, 2, .inl gP)), (qC, .inl (cyI, 2, .inl gC)), (qD, .inl (cyZ, 2, .inl gD)), (qT, .inl (cyJ, 2, .inr (.inl gT))), (qR, .inl (cyI, 192, .inl gR)), (qM, .inl (cyI, 8, .inl gM)), (qL, .inl (cyI, 8, .inl gL))] H := hP
  have hD : va_D A [(h0, .inr (4, [.int th, .ref qB, .ref qA, .ref qX, .ref qY, .ref qS, .ref qP, .ref qC, .ref qD, .ref qT, .ref qR, .ref qM, .ref qL, .int un, .int ow, .int ln, .int mm])), (qB, .inl (cyI, 8192, .inl gB)), (qA, .inl (cyI, 2, .inl gA)), (qX, .inl (cyI, 2, .inl gX)), (qY, .inl (cyI, 2, .inl gY)), (qS, .inl (cyI, 2, .inl gS)), (qP, .inl (cyI, 2, .inl gP)), (qC, .inl (cyI, 2, .inl gC)), (qD, .inl (cyZ, 2, .inl gD)), (qT, .inl (cyJ, 2, .inr (.inl gT))), (qR, .inl (cyI, 192, .inl gR)), (qM, .inl (cyI, 8, .inl gM)), (qL, .inl (cyI, 8, .inl gL))] := hD
  refine lv_istore_n (lv' := [(3, .int (f_X5_peekPort_r un gR gM gL p1 p2)), (0, .ref h0), (1, .int p1), (2, .int p2)]) hx hb dX5_readPort_6 rfl hl (by decide) rfl (fun ls hl => ?_)
  refine lv_iconst (v := 4) hx hb dX5_readPort_7 (by decide) ?_
  refine lv_iload_n hx hb dX5_readPort_8 rfl (lv_at hl 2 rfl) ?_
  refine lv_imul hx hb dX5_readPort_9 ?_
  refine lv_iload_n hx hb dX5_readPort_10 rfl (lv_at hl 3 rfl) ?_
  refine lv_iconst (v := 2) hx hb dX5_readPort_11 (by decide) ?_
  refine lv_idiv hx hb dX5_readPort_12 (by decide) ?_
  refine lv_iadd hx hb dX5_readPort_13 ?_
  refine lv_istore (lv' := [(4, .int ((4 * p1) + (p2 / 2))), (3, .int (f_X5_peekPort_r un gR gM gL p1 p2)), (0, .ref h0), (1, .int p1), (2, .int p2)]) hx hb dX5_readPort_14 hl (by decide) rfl (fun ls hl => ?_)
  refine lv_iload_n hx hb dX5_readPort_16 rfl (lv_at hl 4 rfl) ?_
  refine lv_iconst (v := 2) hx hb dX5_readPort_17 (by decide) ?_
  refine lv_irem hx hb dX5_readPort_18 (by decide) ?_
  refine lv_iconst (v := 1) hx hb dX5_readPort_19 (by decide) ?_
  refine lv_icmp_ne (tgt := 101) hx hb dX5_readPort_20 (by decide) (fun c_1 => ?_) (fun c_1 => ?_)
  · skip
    refine lv_iload_n hx hb dX5_readPort_101 rfl (lv_at hl 1 rfl) ?_
    have e_gR : (f_X5_readPort_gR gR gM p1 p2) = gR := (if_neg c_1)
    have e_gM : (f_X5_readPort_gM gM p1 p2) = gM := (if_neg c_1)
    have e_gL : (f_X5_readPort_gL un gR gM gL p1 p2) = gL := (if_neg c_1)
    have hP9 : va_P (dC, dI) vwCl [(h0, .inr (4, [.int th, .ref qB, .ref qA, .ref qX, .ref qY, .ref qS, .ref qP, .ref qC, .ref qD, .ref qT, .ref qR, .ref qM, .ref qL, .int un, .int ow, .int ln, .int mm])), (qB, .inl (cyI, 8192, .inl gB)), (qA, .inl (cyI, 2, .inl gA)), (qX, .inl (cyI, 2, .inl gX)), (qY, .inl (cyI, 2, .inl gY)), (qS, .inl (cyI, 2, .inl gS)), (qP, .inl (cyI, 2, .inl gP)), (qC, .inl (cyI, 2, .inl gC)), (qD, .inl (cyZ, 2, .inl gD)), (qT, .inl (cyJ, 2, .inr (.inl gT))), (qR, .inl (cyI, 192, .inl (f_X5_readPort_gR gR gM p1 p2))), (qM, .inl (cyI, 8, .inl (f_X5_readPort_gM gM p1 p2))), (qL, .inl (cyI, 8, .inl (f_X5_readPort_gL un gR gM gL p1 p2)))] H := by rw [e_gR, e_gM, e_gL]; exact hP.sub (ws' := [(h0, .inr (4, [.int th, .ref qB, .ref qA, .ref qX, .ref qY, .ref qS, .ref qP, .ref qC, .ref qD, .ref qT, .ref qR, .ref qM, .ref qL, .int un, .int ow, .int ln, .int mm])), (qB, .inl (cyI, 8192, .inl gB)), (qA, .inl (cyI, 2, .inl gA)), (qX, .inl (cyI, 2, .inl gX)), (qY, .inl (cyI, 2, .inl gY)), (qS, .inl (cyI, 2, .inl gS)), (qP, .inl (cyI, 2, .inl gP)), (qC, .inl (cyI, 2, .inl gC)), (qD, .inl (cyZ, 2, .inl gD)), (qT, .inl (cyJ, 2, .inr (.inl gT))), (qR, .inl (cyI, 192, .inl gR)), (qM, .inl (cyI, 8, .inl gM)), (qL, .inl (cyI, 8, .inl gL))]) [0, 1, 2, 3, 4, 5, 6, 7, 8, 9, 10, 11, 12] rfl
    have hD9 : va_D A [(h0, .inr (4, [.int th, .ref qB, .ref qA, .ref qX, .ref qY, .ref qS, .ref qP, .ref qC, .ref qD, .ref qT, .ref qR, .ref qM, .ref qL, .int un, .int ow, .int ln, .int mm])), (qB, .inl (cyI, 8192, .inl gB)), (qA, .inl (cyI, 2, .inl gA)), (qX, .inl (cyI, 2, .inl gX)), (qY, .inl (cyI, 2, .inl gY)), (qS, .inl (cyI, 2, .inl gS)), (qP, .inl (cyI, 2, .inl gP)), (qC, .inl (cyI, 2, .inl gC)), (qD, .inl (cyZ, 2, .inl gD)), (qT, .inl (cyJ, 2, .inr (.inl gT))), (qR, .inl (cyI, 192, .inl (f_X5_readPort_gR gR gM p1 p2))), (qM, .inl (cyI, 8, .inl (f_X5_readPort_gM gM p1 p2))), (qL, .inl (cyI, 8, .inl (f_X5_readPort_gL un gR gM gL p1 p2)))] := by rw [e_gR, e_gM, e_gL]; exact hD.sub (ws' := [(h0, .inr (4, [.int th, .ref qB, .ref qA, .ref qX, .ref qY, .ref qS, .ref qP, .ref qC, .ref qD, .ref qT, .ref qR, .ref qM, .ref qL, .int un, .int ow, .int ln, .int mm])), (qB, .inl (cyI, 8192, .inl gB)), (qA, .inl (cyI, 2, .inl gA)), (qX, .inl (cyI, 2, .inl gX)), (qY, .inl (cyI, 2, .inl gY)), (qS, .inl (cyI, 2, .inl gS)), (qP, .inl (cyI, 2, .inl gP)), (qC, .inl (cyI, 2, .inl gC)), (qD, .inl (cyZ, 2, .inl gD)), (qT, .inl (cyJ, 2, .inr (.inl gT))), (qR, .inl (cyI, 192, .inl gR)), (qM, .inl (cyI, 8, .inl gM)), (qL, .inl (cyI, 8, .inl gL))]) [0, 1, 2, 3, 4, 5, 6, 7, 8, 9, 10, 11, 12] (by decide) rfl
    have hpo9 : (mOk gB gX gS gC (f_X5_readPort_gR gR gM p1 p2) (f_X5_readPort_gM gM p1 p2) (f_X5_readPort_gL un gR gM gL p1 p2) un ∧ vp_in (f_X5_readPort_r un gR gM gL p1 p2) 256) := by have e_r : (f_X5_readPort_r un gR gM gL p1 p2) = (f_X5_peekPort_r un gR gM gL p1 p2) := rfl; rw [e_gR, e_gM, e_gL, e_r]; exact ⟨hok, (pv_b hm hk hok)⟩
    exact W.iret (v := (f_X5_peekPort_r un gR gM gL p1 p2)) hx hb hr (fun t ht hW => ⟨⟨(f_X5_peekPort_r un gR gM gL p1 p2), (), rfl, ⟨Eq.symm (rfl : (f_X5_readPort_r un gR gM gL p1 p2) = (f_X5_peekPort_r un gR gM gL p1 p2)), hpo9⟩, by rw [ht]; exact hP9, hD9⟩, hS.F ht⟩) hS.2.2 dX5_readPort_102
  · skip
    refine lv_aload_n hx hb dX5_readPort_23 rfl (lv_at hl 2 rfl) ?_
    refine va_get (D := (dC, dI)) (ci := 4) (v := .ref qL) (C := RX5) (T := TX5) (N := 17) hx hb hts (fun w h => gw_b w (iX5 w h)) hown hK hP 0 rfl rfl 12 (by decide) (hts _ (gw_b _ gm_605)) (fun _ h9 => h9) rfl dX5_readPort_24 ?_
    refine lv_iload hx hb dX5_readPort_27 (lv_at hl 0 rfl) ?_
    refine lv_iload_n hx hb dX5_readPort_29 rfl (lv_at hl 1 rfl) ?_
    refine va_iast (D := (dC, dI)) hx hb hK hP hD hS 12 0 rfl rfl (pp_own hm hk) dX5_readPort_30 (fun H locs hP hD hS => ?_)
    have hP : va_P (dC, dI) vwCl [(h0, .inr (4, [.int th, .ref qB, .ref qA, .ref qX, .ref qY, .ref qS, .ref qP, .ref qC, .ref qD, .ref qT, .ref qR, .ref qM, .ref qL, .int un, .int ow, .int ln, .int mm])), (qB, .inl (cyI, 8192, .inl gB)), (qA, .inl (cyI, 2, .inl gA)), (qX, .inl (cyI, 2, .inl gX)), (qY, .inl (cyI, 2, .inl gY)), (qS, .inl (cyI, 2, .inl gS)), (qP, .inl (cyI, 2, .inl gP)), (qC, .inl (cyI, 2, .inl gC)), (qD, .inl (cyZ, 2, .inl gD)), (qT, .inl (cyJ, 2, .inr (.inl gT))), (qR, .inl (cyI, 192, .inl gR)), (qM, .inl (cyI, 8, .inl gM)), (qL, .inl (cyI, 8, .inl (upd gL ((4 * p1) + (p2 / 2)).toNatClampNeg (f_X5_peekPort_r un gR gM gL p1 p2))))] H := hP
    have hD : va_D A [(h0, .inr (4, [.int th, .ref qB, .ref qA, .ref qX, .ref qY, .ref qS, .ref qP, .ref qC, .ref qD, .ref qT, .ref qR, .ref qM, .ref qL, .int un, .int ow, .int ln, .int mm])), (qB, .inl (cyI, 8192, .inl gB)), (qA, .inl (cyI, 2, .inl gA)), (qX, .inl (cyI, 2, .inl gX)), (qY, .inl (cyI, 2, .inl gY)), (qS, .inl (cyI, 2, .inl gS)), (qP, .inl (cyI, 2, .inl gP)), (qC, .inl (cyI, 2, .inl gC)), (qD, .inl (cyZ, 2, .inl gD)), (qT, .inl (cyJ, 2, .inr (.inl gT))), (qR, .inl (cyI, 192, .inl gR)), (qM, .inl (cyI, 8, .inl gM)), (qL, .inl (cyI, 8, .inl (upd gL ((4 * p1) + (p2 / 2)).toNatClampNeg (f_X5_peekPort_r un gR gM gL p1 p2))))] := hD
    refine lv_aload_n hx hb dX5_readPort_31 rfl (lv_at hl 2 rfl) ?_
    refine va_get (D := (dC, dI)) (ci := 4) (v := .ref qM) (C := RX5) (T := TX5) (N := 17) hx hb hts (fun w h => gw_b w (iX5 w h)) hown hK hP 0 rfl rfl 11 (by decide) (hts _ (gw_b _ gm_604)) (fun _ h9 => h9) rfl dX5_readPort_32 ?_
    refine lv_iload hx hb dX5_readPort_35 (lv_at hl 0 rfl) ?_
    refine va_iald (D := (dC, dI)) hx hb hK hP 11 0 rfl rfl (pp_own hm hk) dX5_readPort_37 ?_
    refine lv_if_le (tgt := 101) hx hb dX5_readPort_38 (by decide) (fun c_2 => ?_) (fun c_2 => ?_)
    · skip
      refine lv_iload_n hx hb dX5_readPort_101 rfl (lv_at hl 1 rfl) ?_
      have e_gR : (f_X5_readPort_gR gR gM p1 p2) = gR := ((if_pos c_1)).trans (if_pos c_2)
      have e_gM : (f_X5_readPort_gM gM p1 p2) = gM := ((if_pos c_1)).trans (if_pos c_2)
      have e_gL : (f_X5_readPort_gL un gR gM gL p1 p2) = (upd gL ((4 * p1) + (p2 / 2)).toNatClampNeg (f_X5_peekPort_r un gR gM gL p1 p2)) := (if_pos c_1)
      have hP9 : va_P (dC, dI) vwCl [(h0, .inr (4, [.int th, .ref qB, .ref qA, .ref qX, .ref qY, .ref qS, .ref qP, .ref qC, .ref qD, .ref qT, .ref qR, .ref qM, .ref qL, .int un, .int ow, .int ln, .int mm])), (qB, .inl (cyI, 8192, .inl gB)), (qA, .inl (cyI, 2, .inl gA)), (qX, .inl (cyI, 2, .inl gX)), (qY, .inl (cyI, 2, .inl gY)), (qS, .inl (cyI, 2, .inl gS)), (qP, .inl (cyI, 2, .inl gP)), (qC, .inl (cyI, 2, .inl gC)), (qD, .inl (cyZ, 2, .inl gD)), (qT, .inl (cyJ, 2, .inr (.inl gT))), (qR, .inl (cyI, 192, .inl (f_X5_readPort_gR gR gM p1 p2))), (qM, .inl (cyI, 8, .inl (f_X5_readPort_gM gM p1 p2))), (qL, .inl (cyI, 8, .inl (f_X5_readPort_gL un gR gM gL p1 p2)))] H := by rw [e_gR, e_gM, e_gL]; exact hP.sub (ws' := [(h0, .inr (4, [.int th, .ref qB, .ref qA, .ref qX, .ref qY, .ref qS, .ref qP, .ref qC, .ref qD, .ref qT, .ref qR, .ref qM, .ref qL, .int un, .int ow, .int ln, .int mm])), (qB, .inl (cyI, 8192, .inl gB)), (qA, .inl (cyI, 2, .inl gA)), (qX, .inl (cyI, 2, .inl gX)), (qY, .inl (cyI, 2, .inl gY)), (qS, .inl (cyI, 2, .inl gS)), (qP, .inl (cyI, 2, .inl gP)), (qC, .inl (cyI, 2, .inl gC)), (qD, .inl (cyZ, 2, .inl gD)), (qT, .inl (cyJ, 2, .inr (.inl gT))), (qR, .inl (cyI, 192, .inl gR)), (qM, .inl (cyI, 8, .inl gM)), (qL, .inl (cyI, 8, .inl (upd gL ((4 * p1) + (p2 / 2)).toNatClampNeg (f_X5_peekPort_r un gR gM gL p1 p2))))]) [0, 1, 2, 3, 4, 5, 6, 7, 8, 9, 10, 11, 12] rfl
      have hD9 : va_D A [(h0, .inr (4, [.int th, .ref qB, .ref qA, .ref qX, .ref qY, .ref qS, .ref qP, .ref qC, .ref qD, .ref qT, .ref qR, .ref qM, .ref qL, .int un, .int ow, .int ln, .int mm])), (qB, .inl (cyI, 8192, .inl gB)), (qA, .inl (cyI, 2, .inl gA)), (qX, .inl (cyI, 2, .inl gX)), (qY, .inl (cyI, 2, .inl gY)), (qS, .inl (cyI, 2, .inl gS)), (qP, .inl (cyI, 2, .inl gP)), (qC, .inl (cyI, 2, .inl gC)), (qD, .inl (cyZ, 2, .inl gD)), (qT, .inl (cyJ, 2, .inr (.inl gT))), (qR, .inl (cyI, 192, .inl (f_X5_readPort_gR gR gM p1 p2))), (qM, .inl (cyI, 8, .inl (f_X5_readPort_gM gM p1 p2))), (qL, .inl (cyI, 8, .inl (f_X5_readPort_gL un gR gM gL p1 p2)))] := by rw [e_gR, e_gM, e_gL]; exact hD.sub (ws' := [(h0, .inr (4, [.int th, .ref qB, .ref qA, .ref qX, .ref qY, .ref qS, .ref qP, .ref qC, .ref qD, .ref qT, .ref qR, .ref qM, .ref qL, .int un, .int ow, .int ln, .int mm])), (qB, .inl (cyI, 8192, .inl gB)), (qA, .inl (cyI, 2, .inl gA)), (qX, .inl (cyI, 2, .inl gX)), (qY, .inl (cyI, 2, .inl gY)), (qS, .inl (cyI, 2, .inl gS)), (qP, .inl (cyI, 2, .inl gP)), (qC, .inl (cyI, 2, .inl gC)), (qD, .inl (cyZ, 2, .inl gD)), (qT, .inl (cyJ, 2, .inr (.inl gT))), (qR, .inl (cyI, 192, .inl gR)), (qM, .inl (cyI, 8, .inl gM)), (qL, .inl (cyI, 8, .inl (upd gL ((4 * p1) + (p2 / 2)).toNatClampNeg (f_X5_peekPort_r un gR gM gL p1 p2))))]) [0, 1, 2, 3, 4, 5, 6, 7, 8, 9, 10, 11, 12] (by decide) rfl
      have hpo9 : (mOk gB gX gS gC (f_X5_readPort_gR gR gM p1 p2) (f_X5_readPort_gM gM p1 p2) (f_X5_readPort_gL un gR gM gL p1 p2) un ∧ vp_in (f_X5_readPort_r un gR gM gL p1 p2) 256) := by have e_r : (f_X5_readPort_r un gR gM gL p1 p2) = (f_X5_peekPort_r un gR gM gL p1 p2) := rfl; rw [e_gR, e_gM, e_gL, e_r]; exact ⟨(mo_L (k := ((4 * p1) + (p2 / 2)).toNatClampNeg) hok (pv_b hm hk hok)), (pv_b hm hk hok)⟩
      exact W.iret (v := (f_X5_peekPort_r un gR gM gL p1 p2)) hx hb hr (fun t ht hW => ⟨⟨(f_X5_peekPort_r un gR gM gL p1 p2), (), rfl, ⟨Eq.symm (rfl : (f_X5_readPort_r un gR gM gL p1 p2) = (f_X5_peekPort_r un gR gM gL p1 p2)), hpo9⟩, by rw [ht]; exact hP9, hD9⟩, hS.F ht⟩) hS.2.2 dX5_readPort_102
    · skip
      refine lv_aload_n hx hb dX5_readPort_41 rfl (lv_at hl 2 rfl) ?_
      refine va_get (D := (dC, dI)) (ci := 4) (v := .ref qM) (C := RX5) (T := TX5) (N := 17) hx hb hts (fun w h => gw_b w (iX5 w h)) hown hK hP 0 rfl rfl 11 (by decide) (hts _ (gw_b _ gm_604)) (fun _ h9 => h9) rfl dX5_readPort_42 ?_
      refine lv_iload hx hb dX5_readPort_45 (lv_at hl 0 rfl) ?_
      refine lv_dup2_11 hx hb dX5_readPort_47 rfl rfl ?_
      refine va_iald (D := (dC, dI)) hx hb hK hP 11 0 rfl rfl (pp_own hm hk) dX5_readPort_48 ?_
      refine lv_iconst (v := 1) hx hb dX5_readPort_49 (by decide) ?_
      refine lv_isub hx hb dX5_readPort_50 ?_
      refine va_iast (D := (dC, dI)) hx hb hK hP hD hS 11 0 rfl rfl (pp_own hm hk) dX5_readPort_51 (fun H locs hP hD hS => ?_)
      have hP : va_P (dC, dI) vwCl [(h0, .inr (4, [.int th, .ref qB, .ref qA, .ref qX, .ref qY, .ref qS, .ref qP, .ref qC, .ref qD, .ref qT, .ref qR, .ref qM, .ref qL, .int un, .int ow, .int ln, .int mm])), (qB, .inl (cyI, 8192, .inl gB)), (qA, .inl (cyI, 2, .inl gA)), (qX, .inl (cyI, 2, .inl gX)), (qY, .inl (cyI, 2, .inl gY)), (qS, .inl (cyI, 2, .inl gS)), (qP, .inl (cyI, 2, .inl gP)), (qC, .inl (cyI, 2, .inl gC)), (qD, .inl (cyZ, 2, .inl gD)), (qT, .inl (cyJ, 2, .inr (.inl gT))), (qR, .inl (cyI, 192, .inl gR)), (qM, .inl (cyI, 8, .inl (upd gM ((4 * p1) + (p2 / 2)).toNatClampNeg ((gM ((4 * p1) + (p2 / 2)).toNatClampNeg) - 1)))), (qL, .inl (cyI, 8, .inl (upd gL ((4 * p1) + (p2 / 2)).toNatClampNeg (f_X5_peekPort_r un gR gM gL p1 p2))))] H := hP
      have hD : va_D A [(h0, .inr (4, [.int th, .ref qB, .ref qA, .ref qX, .ref qY, .ref qS, .ref qP, .ref qC, .ref qD, .ref qT, .ref qR, .ref qM, .ref qL, .int un, .int ow, .int ln, .int mm])), (qB, .inl (cyI, 8192, .inl gB)), (qA, .inl (cyI, 2, .inl gA)), (qX, .inl (cyI, 2, .inl gX)), (qY, .inl (cyI, 2, .inl gY)), (qS, .inl (cyI, 2, .inl gS)), (qP, .inl (cyI, 2, .inl gP)), (qC, .inl (cyI, 2, .inl gC)), (qD, .inl (cyZ, 2, .inl gD)), (qT, .inl (cyJ, 2, .inr (.inl gT))), (qR, .inl (cyI, 192, .inl gR)), (qM, .inl (cyI, 8, .inl (upd gM ((4 * p1) + (p2 / 2)).toNatClampNeg ((gM ((4 * p1) + (p2 / 2)).toNatClampNeg) - 1)))), (qL, .inl (cyI, 8, .inl (upd gL ((4 * p1) + (p2 / 2)).toNatClampNeg (f_X5_peekPort_r un gR gM gL p1 p2))))] := hD
      refine lv_iconst (v := 0) hx hb dX5_readPort_52 (by decide) ?_
      refine lv_istore (lv' := [(5, .int 0), (4, .int ((4 * p1) + (p2 / 2))), (3, .int (f_X5_peekPort_r un gR gM gL p1 p2)), (0, .ref h0), (1, .int p1), (2, .int p2)]) hx hb dX5_readPort_53 hl (by decide) rfl (fun ls hl => ?_)
      obtain ⟨w9, hw9, ew9⟩ := vp_in_of (pp_own hm hk) (by decide)
      obtain ⟨n9, hn9, en9⟩ := vp_in_of (vi_dec4 (mr_M (mo_L (k := ((4 * p1) + (p2 / 2)).toNatClampNeg) hok (pv_b hm hk hok)) (pp_own hm hk)) c_2) (by decide)
      have hP : va_P (dC, dI) vwCl [(h0, .inr (4, [.int th, .ref qB, .ref qA, .ref qX, .ref qY, .ref qS, .ref qP, .ref qC, .ref qD, .ref qT, .ref qR, .ref qM, .ref qL, .int un, .int ow, .int ln, .int mm])), (qB, .inl (cyI, 8192, .inl gB)), (qA, .inl (cyI, 2, .inl gA)), (qX, .inl (cyI, 2, .inl gX)), (qY, .inl (cyI, 2, .inl gY)), (qS, .inl (cyI, 2, .inl gS)), (qP, .inl (cyI, 2, .inl gP)), (qC, .inl (cyI, 2, .inl gC)), (qD, .inl (cyZ, 2, .inl gD)), (qT, .inl (cyJ, 2, .inr (.inl gT))), (qR, .inl (cyI, 192, .inl (shiftR gR w9 0))), (qM, .inl (cyI, 8, .inl (upd gM ((4 * p1) + (p2 / 2)).toNatClampNeg ((gM ((4 * p1) + (p2 / 2)).toNatClampNeg) - 1)))), (qL, .inl (cyI, 8, .inl (upd gL ((4 * p1) + (p2 / 2)).toNatClampNeg (f_X5_peekPort_r un gR gM gL p1 p2))))] H := by rw [shift_0]; exact hP.sub (ws' := [(h0, .inr (4, [.int th, .ref qB, .ref qA, .ref qX, .ref qY, .ref qS, .ref qP, .ref qC, .ref qD, .ref qT, .ref qR, .ref qM, .ref qL, .int un, .int ow, .int ln, .int mm])), (qB, .inl (cyI, 8192, .inl gB)), (qA, .inl (cyI, 2, .inl gA)), (qX, .inl (cyI, 2, .inl gX)), (qY, .inl (cyI, 2, .inl gY)), (qS, .inl (cyI, 2, .inl gS)), (qP, .inl (cyI, 2, .inl gP)), (qC, .inl (cyI, 2, .inl gC)), (qD, .inl (cyZ, 2, .inl gD)), (qT, .inl (cyJ, 2, .inr (.inl gT))), (qR, .inl (cyI, 192, .inl gR)), (qM, .inl (cyI, 8, .inl (upd gM ((4 * p1) + (p2 / 2)).toNatClampNeg ((gM ((4 * p1) + (p2 / 2)).toNatClampNeg) - 1)))), (qL, .inl (cyI, 8, .inl (upd gL ((4 * p1) + (p2 / 2)).toNatClampNeg (f_X5_peekPort_r un gR gM gL p1 p2))))]) [0, 1, 2, 3, 4, 5, 6, 7, 8, 9, 10, 11, 12] rfl
      have hD : va_D A [(h0, .inr (4, [.int th, .ref qB, .ref qA, .ref qX, .ref qY, .ref qS, .ref qP, .ref qC, .ref qD, .ref qT, .ref qR, .ref qM, .ref qL, .int un, .int ow, .int ln, .int mm])), (qB, .inl (cyI, 8192, .inl gB)), (qA, .inl (cyI, 2, .inl gA)), (qX, .inl (cyI, 2, .inl gX)), (qY, .inl (cyI, 2, .inl gY)), (qS, .inl (cyI, 2, .inl gS)), (qP, .inl (cyI, 2, .inl gP)), (qC, .inl (cyI, 2, .inl gC)), (qD, .inl (cyZ, 2, .inl gD)), (qT, .inl (cyJ, 2, .inr (.inl gT))), (qR, .inl (cyI, 192, .inl (shiftR gR w9 0))), (qM, .inl (cyI, 8, .inl (upd gM ((4 * p1) + (p2 / 2)).toNatClampNeg ((gM ((4 * p1) + (p2 / 2)).toNatClampNeg) - 1)))), (qL, .inl (cyI, 8, .inl (upd gL ((4 * p1) + (p2 / 2)).toNatClampNeg (f_X5_peekPort_r un gR gM gL p1 p2))))] := by rw [shift_0]; exact hD.sub (ws' := [(h0, .inr (4, [.int th, .ref qB, .ref qA, .ref qX, .ref qY, .ref qS, .ref qP, .ref qC, .ref qD, .ref qT, .ref qR, .ref qM, .ref qL, .int un, .int ow, .int ln, .int mm])), (qB, .inl (cyI, 8192, .inl gB)), (qA, .inl (cyI, 2, .inl gA)), (qX, .inl (cyI, 2, .inl gX)), (qY, .inl (cyI, 2, .inl gY)), (qS, .inl (cyI, 2, .inl gS)), (qP, .inl (cyI, 2, .inl gP)), (qC, .inl (cyI, 2, .inl gC)), (qD, .inl (cyZ, 2, .inl gD)), (qT, .inl (cyJ, 2, .inr (.inl gT))), (qR, .inl (cyI, 192, .inl gR)), (qM, .inl (cyI, 8, .inl (upd gM ((4 * p1) + (p2 / 2)).toNatClampNeg ((gM ((4 * p1) + (p2 / 2)).toNatClampNeg) - 1)))), (qL, .inl (cyI, 8, .inl (upd gL ((4 * p1) + (p2 / 2)).toNatClampNeg (f_X5_peekPort_r un gR gM gL p1 p2))))]) [0, 1, 2, 3, 4, 5, 6, 7, 8, 9, 10, 11, 12] (by decide) rfl
      refine l_shift hx hb hts (fun w h => gw_b w h) hown hK (gM := (upd gM ((4 * p1) + (p2 / 2)).toNatClampNeg ((gM ((4 * p1) + (p2 / 2)).toNatClampNeg) - 1))) (gL := (upd gL ((4 * p1) + (p2 / 2)).toNatClampNeg (f_X5_peekPort_r un gR gM gL p1 p2))) (own := ((4 * p1) + (p2 / 2))) (w := w9) (n := n9) (g := gR) (v := (f_X5_peekPort_r un gR gM gL p1 p2)) ew9 hw9 (by rw [pk_us]; exact en9) (by omega) (fun H locs ls hP hD hS hl => ?_) n9 0 H _ ls (by omega) hP hD hS (lv_sub hl [0, 1, 2, 3, 4, 5] rfl)
      have e9 : shiftR gR w9 n9 = (shiftR gR ((4 * p1) + (p2 / 2)).toNatClampNeg ((gM ((4 * p1) + (p2 / 2)).toNatClampNeg) - 1).toNatClampNeg) := by rw [en9, ew9, nI_clamp (by omega), nI_clamp (by omega)]
      have hw9c : ((4 * p1) + (p2 / 2)).toNatClampNeg < 8 := by rw [ew9, nI_clamp (by omega)]; exact hw9
      have hn9c : ((gM ((4 * p1) + (p2 / 2)).toNatClampNeg) - 1).toNatClampNeg ≤ 23 := by rw [en9, nI_clamp (by omega)]; omega
      rw [e9] at hP hD
      have hP : va_P (dC, dI) vwCl [(h0, .inr (4, [.int th, .ref qB, .ref qA, .ref qX, .ref qY, .ref qS, .ref qP, .ref qC, .ref qD, .ref qT, .ref qR, .ref qM, .ref qL, .int un, .int ow, .int ln, .int mm])), (qB, .inl (cyI, 8192, .inl gB)), (qA, .inl (cyI, 2, .inl gA)), (qX, .inl (cyI, 2, .inl gX)), (qY, .inl (cyI, 2, .inl gY)), (qS, .inl (cyI, 2, .inl gS)), (qP, .inl (cyI, 2, .inl gP)), (qC, .inl (cyI, 2, .inl gC)), (qD, .inl (cyZ, 2, .inl gD)), (qT, .inl (cyJ, 2, .inr (.inl gT))), (qR, .inl (cyI, 192, .inl (shiftR gR ((4 * p1) + (p2 / 2)).toNatClampNeg ((gM ((4 * p1) + (p2 / 2)).toNatClampNeg) - 1).toNatClampNeg))), (qM, .inl (cyI, 8, .inl (upd gM ((4 * p1) + (p2 / 2)).toNatClampNeg ((gM ((4 * p1) + (p2 / 2)).toNatClampNeg) - 1)))), (qL, .inl (cyI, 8, .inl (upd gL ((4 * p1) + (p2 / 2)).toNatClampNeg (f_X5_peekPort_r un gR gM gL p1 p2))))] H := hP
      have hD : va_D A [(h0, .inr (4, [.int th, .ref qB, .ref qA, .ref qX, .ref qY, .ref qS, .ref qP, .ref qC, .ref qD, .ref qT, .ref qR, .ref qM, .ref qL, .int un, .int ow, .int ln, .int mm])), (qB, .inl (cyI, 8192, .inl gB)), (qA, .inl (cyI, 2, .inl gA)), (qX, .inl (cyI, 2, .inl gX)), (qY, .inl (cyI, 2, .inl gY)), (qS, .inl (cyI, 2, .inl gS)), (qP, .inl (cyI, 2, .inl gP)), (qC, .inl (cyI, 2, .inl gC)), (qD, .inl (cyZ, 2, .inl gD)), (qT, .inl (cyJ, 2, .inr (.inl gT))), (qR, .inl (cyI, 192, .inl (shiftR gR ((4 * p1) + (p2 / 2)).toNatClampNeg ((gM ((4 * p1) + (p2 / 2)).toNatClampNeg) - 1).toNatClampNeg))), (qM, .inl (cyI, 8, .inl (upd gM ((4 * p1) + (p2 / 2)).toNatClampNeg ((gM ((4 * p1) + (p2 / 2)).toNatClampNeg) - 1)))), (qL, .inl (cyI, 8, .inl (upd gL ((4 * p1) + (p2 / 2)).toNatClampNeg (f_X5_peekPort_r un gR gM gL p1 p2))))] := hD
      refine lv_iload_n hx hb dX5_readPort_101 rfl (lv_at hl 0 rfl) ?_
      have e_gR : (f_X5_readPort_gR gR gM p1 p2) = (shiftR gR ((4 * p1) + (p2 / 2)).toNatClampNeg ((gM ((4 * p1) + (p2 / 2)).toNatClampNeg) - 1).toNatClampNeg) := ((if_pos c_1)).trans (if_neg c_2)
      have e_gM : (f_X5_readPort_gM gM p1 p2) = (upd gM ((4 * p1) + (p2 / 2)).toNatClampNeg ((gM ((4 * p1) + (p2 / 2)).toNatClampNeg) - 1)) := ((if_pos c_1)).trans (if_neg c_2)
      have e_gL : (f_X5_readPort_gL un gR gM gL p1 p2) = (upd gL ((4 * p1) + (p2 / 2)).toNatClampNeg (f_X5_peekPort_r un gR gM gL p1 p2)) := (if_pos c_1)
      have hP9 : va_P (dC, dI) vwCl [(h0, .inr (4, [.int th, .ref qB, .ref qA, .ref qX, .ref qY, .ref qS, .ref qP, .ref qC, .ref qD, .ref qT, .ref qR, .ref qM, .ref qL, .int un, .int ow, .int ln, .int mm])), (qB, .inl (cyI, 8192, .inl gB)), (qA, .inl (cyI, 2, .inl gA)), (qX, .inl (cyI, 2, .inl gX)), (qY, .inl (cyI, 2, .inl gY)), (qS, .inl (cyI, 2, .inl gS)), (qP, .inl (cyI, 2, .inl gP)), (qC, .inl (cyI, 2, .inl gC)), (qD, .inl (cyZ, 2, .inl gD)), (qT, .inl (cyJ, 2, .inr (.inl gT))), (qR, .inl (cyI, 192, .inl (f_X5_readPort_gR gR gM p1 p2))), (qM, .inl (cyI, 8, .inl (f_X5_readPort_gM gM p1 p2))), (qL, .inl (cyI, 8, .inl (f_X5_readPort_gL un gR gM gL p1 p2)))] H := by rw [e_gR, e_gM, e_gL]; exact hP.sub (ws' := [(h0, .inr (4, [.int th, .ref qB, .ref qA, .ref qX, .ref qY, .ref qS, .ref qP, .ref qC, .ref qD, .ref qT, .ref qR, .ref qM, .ref qL, .int un, .int ow, .int ln, .int mm])), (qB, .inl (cyI, 8192, .inl gB)), (qA, .inl (cyI, 2, .inl gA)), (qX, .inl (cyI, 2, .inl gX)), (qY, .inl (cyI, 2, .inl gY)), (qS, .inl (cyI, 2, .inl gS)), (qP, .inl (cyI, 2, .inl gP)), (qC, .inl (cyI, 2, .inl gC)), (qD, .inl (cyZ, 2, .inl gD)), (qT, .inl (cyJ, 2, .inr (.inl gT))), (qR, .inl (cyI, 192, .inl (shiftR gR ((4 * p1) + (p2 / 2)).toNatClampNeg ((gM ((4 * p1) + (p2 / 2)).toNatClampNeg) - 1).toNatClampNeg))), (qM, .inl (cyI, 8, .inl (upd gM ((4 * p1) + (p2 / 2)).toNatClampNeg ((gM ((4 * p1) + (p2 / 2)).toNatClampNeg) - 1)))), (qL, .inl (cyI, 8, .inl (upd gL ((4 * p1) + (p2 / 2)).toNatClampNeg (f_X5_peekPort_r un gR gM gL p1 p2))))]) [0, 1, 2, 3, 4, 5, 6, 7, 8, 9, 10, 11, 12] rfl
      have hD9 : va_D A [(h0, .inr (4, [.int th, .ref qB, .ref qA, .ref qX, .ref qY, .ref qS, .ref qP, .ref qC, .ref qD, .ref qT, .ref qR, .ref qM, .ref qL, .int un, .int ow, .int ln, .int mm])), (qB, .inl (cyI, 8192, .inl gB)), (qA, .inl (cyI, 2, .inl gA)), (qX, .inl (cyI, 2, .inl gX)), (qY, .inl (cyI, 2, .inl gY)), (qS, .inl (cyI, 2, .inl gS)), (qP, .inl (cyI, 2, .inl gP)), (qC, .inl (cyI, 2, .inl gC)), (qD, .inl (cyZ, 2, .inl gD)), (qT, .inl (cyJ, 2, .inr (.inl gT))), (qR, .inl (cyI, 192, .inl (f_X5_readPort_gR gR gM p1 p2))), (qM, .inl (cyI, 8, .inl (f_X5_readPort_gM gM p1 p2))), (qL, .inl (cyI, 8, .inl (f_X5_readPort_gL un gR gM gL p1 p2)))] := by rw [e_gR, e_gM, e_gL]; exact hD.sub (ws' := [(h0, .inr (4, [.int th, .ref qB, .ref qA, .ref qX, .ref qY, .ref qS, .ref qP, .ref qC, .ref qD, .ref qT, .ref qR, .ref qM, .ref qL, .int un, .int ow, .int ln, .int mm])), (qB, .inl (cyI, 8192, .inl gB)), (qA, .inl (cyI, 2, .inl gA)), (qX, .inl (cyI, 2, .inl gX)), (qY, .inl (cyI, 2, .inl gY)), (qS, .inl (cyI, 2, .inl gS)), (qP, .inl (cyI, 2, .inl gP)), (qC, .inl (cyI, 2, .inl gC)), (qD, .inl (cyZ, 2, .inl gD)), (qT, .inl (cyJ, 2, .inr (.inl gT))), (qR, .inl (cyI, 192, .inl (shiftR gR ((4 * p1) + (p2 / 2)).toNatClampNeg ((gM ((4 * p1) + (p2 / 2)).toNatClampNeg) - 1).toNatClampNeg))), (qM, .inl (cyI, 8, .inl (upd gM ((4 * p1) + (p2 / 2)).toNatClampNeg ((gM ((4 * p1) + (p2 / 2)).toNatClampNeg) - 1)))), (qL, .inl (cyI, 8, .inl (upd gL ((4 * p1) + (p2 / 2)).toNatClampNeg (f_X5_peekPort_r un gR gM gL p1 p2))))]) [0, 1, 2, 3, 4, 5, 6, 7, 8, 9, 10, 11, 12] (by decide) rfl
      have hpo9 : (mOk gB gX gS gC (f_X5_readPort_gR gR gM p1 p2) (f_X5_readPort_gM gM p1 p2) (f_X5_readPort_gL un gR gM gL p1 p2) un ∧ vp_in (f_X5_readPort_r un gR gM gL p1 p2) 256) := by have e_r : (f_X5_readPort_r un gR gM gL p1 p2) = (f_X5_peekPort_r un gR gM gL p1 p2) := rfl; rw [e_gR, e_gM, e_gL, e_r]; exact ⟨(mo_sh hw9c hn9c (mo_M (k := ((4 * p1) + (p2 / 2)).toNatClampNeg) (mo_L (k := ((4 * p1) + (p2 / 2)).toNatClampNeg) hok (pv_b hm hk hok)) (vi_dec (mr_M (mo_L (k := ((4 * p1) + (p2 / 2)).toNatClampNeg) hok (pv_b hm hk hok)) (pp_own hm hk)) c_2))), (pv_b hm hk hok)⟩
      exact W.iret (v := (f_X5_peekPort_r un gR gM gL p1 p2)) hx hb hr (fun t ht hW => ⟨⟨(f_X5_peekPort_r un gR gM gL p1 p2), (), rfl, ⟨Eq.symm (rfl : (f_X5_readPort_r un gR gM gL p1 p2) = (f_X5_peekPort_r un gR gM gL p1 p2)), hpo9⟩, by rw [ht]; exact hP9, hD9⟩, hS.F ht⟩) hS.2.2 dX5_readPort_102
