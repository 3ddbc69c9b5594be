/-! What clear, load and reset keep to. -/
theorem k_clear {ug : Int32} {lt ct hd : Nat → Int32} (h : uOk lt ct hd) : uOk (f_X4_clear_lt ug lt) (f_X4_clear_ct ct) (f_X4_clear_hd hd) := by
  have h1 : uOk (f_X4_clear_lt ug lt) ct hd := by
    unfold f_X4_clear_lt f_X3_forget_lt
    exact uo_flags h
  intro j hj
  obtain ⟨t', c', h', e1, e2, e3, q1, q2, q3, q4⟩ := h1 j hj
  have z1 : f_X4_clear_ct ct j = 0 := by
    rcases (show j = 0 ∨ j = 1 ∨ j = 2 ∨ j = 3 ∨ j = 4 ∨ j = 5 ∨ j = 6 ∨ j = 7 by omega) with rfl | rfl | rfl | rfl | rfl | rfl | rfl | rfl <;> rfl
  have z2 : f_X4_clear_hd hd j = 0 := by
    rcases (show j = 0 ∨ j = 1 ∨ j = 2 ∨ j = 3 ∨ j = 4 ∨ j = 5 ∨ j = 6 ∨ j = 7 by omega) with rfl | rfl | rfl | rfl | rfl | rfl | rfl | rfl <;> rfl
  rw [z1, z2]
  exact ⟨t', 0, 0, e1, rfl, rfl, q1, by omega, by omega, q4⟩
theorem k_load {gB : Nat → Int32} {p1 p2 p3 p4 p5 p6 p7 p8 : Int32} (h : bOk 8192 gB) : bOk 8192 (f_X5_load_gB gB p1 p2 p3 p4 p5 p6 p7 p8) := bOk_load h
theorem k_mload {gB gX gS gC gR gM gL : Nat → Int32} {un p1 p2 p3 p4 p5 p6 p7 p8 : Int32} (h : mOk gB gX gS gC gR gM gL un) : mOk (f_X5_load_gB gB p1 p2 p3 p4 p5 p6 p7 p8) gX gS gC gR gM gL un := ⟨k_load h.1, h.2⟩
theorem k_mreset {gB gX gS gC gR gM gL : Nat → Int32} {un p1 : Int32} (h : mOk gB gX gS gC gR gM gL un) : mOk gB gX (f_X5_reset_gS gS p1) (f_X5_reset_gC gB gC p1) gR gM gL un := by
  unfold f_X5_reset_gS f_X5_reset_gC
  by_cases c : f_X5_isMachine_r p1 = 0
  · rw [if_pos c, if_pos c]; exact h
  · rw [if_neg c, if_neg c]; exact m_doReset (im_in c) h
theorem k_ln {un ln p1 : Int32} {gM : Nat → Int32} (h : wB ln) : wB (f_X5_reset_ln un ln gM p1) := by
  unfold f_X5_reset_ln
  split
  · exact h
  · exact b_doReset h
theorem k_upd8 {N : Nat} {f : Nat → Int32} (hN : 0 < N) : ∀ j, j < 8 → vp_in ((upd (upd (upd (upd (upd (upd (upd (upd f 0 0) 1 0) 2 0) 3 0) 4 0) 5 0) 6 0) 7 0) j) N := by
  intro j hj
  have z : (upd (upd (upd (upd (upd (upd (upd (upd f 0 0) 1 0) 2 0) 3 0) 4 0) 5 0) 6 0) 7 0) j = nI 0 := by
    rcases (show j = 0 ∨ j = 1 ∨ j = 2 ∨ j = 3 ∨ j = 4 ∨ j = 5 ∨ j = 6 ∨ j = 7 by omega) with rfl | rfl | rfl | rfl | rfl | rfl | rfl | rfl <;> rfl
  rw [z]
  unfold vp_in
  rw [nI_clamp (by decide)]
  rintro (a | a)
  · exact absurd a (by decide)
  · omega
theorem k_upd2 {N : Nat} {f : Nat → Int32} (hN : 0 < N) : ∀ j, j < 2 → vp_in ((upd (upd f 0 0) 1 0) j) N := by
  intro j hj
  have z : (upd (upd f 0 0) 1 0) j = nI 0 := by
    rcases (show j = 0 ∨ j = 1 by omega) with rfl | rfl <;> rfl
  rw [z]
  unfold vp_in
  rw [nI_clamp (by decide)]
  rintro (a | a)
  · exact absurd a (by decide)
  · omega
/-- cleared, whatever it was; its rows' bytes stay as they were -/
theorem k_mclear {gB gX gS gC gR gM gL : Nat → Int32} {un : Int32} (h : mOk gB gX gS gC gR gM gL un) : mOk f_X5_clear_gB (f_X5_clear_gX gX) (f_X5_clear_gS gS) (f_X5_clear_gC gC) gR (f_X5_clear_gM gM) (f_X5_clear_gL gL) f_X5_clear_un :=
  ⟨fun j _ => by unfold f_X5_clear_gB vp_in; decide, k_upd2 (by decide), k_upd2 (by decide), k_upd2 (by decide), h.2.2.2.2.1, k_upd8 (by decide), k_upd8 (by decide), by unfold f_X5_clear_un vp_in; decide⟩
/-- a new one -/
theorem k_mnew : mOk f_X5_clear_gB (f_X5_clear_gX (fun _ => 0)) (f_X5_clear_gS (fun _ => 0)) (f_X5_clear_gC (fun _ => 0)) (fun _ => 0) (f_X5_clear_gM (fun _ => 0)) (f_X5_clear_gL (fun _ => 0)) f_X5_clear_un :=
  ⟨fun j _ => by unfold f_X5_clear_gB vp_in; decide, k_upd2 (by decide), k_upd2 (by decide), k_upd2 (by decide), fun j _ => (show vp_in 0 256 by unfold vp_in; decide), k_upd8 (by decide), k_upd8 (by decide), by unfold f_X5_clear_un vp_in; decide⟩

section LK
variable {fa1 fx1 fy1 fs1 fp1 fc1 fd1 fb1 fa2 fx2 fy2 fs2 fp2 fc2 fd2 fb2 ug ud un ow ln mm : Int32} {fz1 fz2 : Int64} {mem1 mem2 lt ct hd la gB gA gX gY gS gP gC gD gR gM gL : Nat → Int32} {gT : Nat → Int64} {bt : Nat → Nat → Int32}
theorem law_gt {L i : Nat} (h : L < i + 9) (hL : L < 100000) (hi : i < 100000) : Int32.ofNat L - 9 < nI i := by
  rw [i_lt]
  have e : (nI L - nI 9).toInt = (L : Int) - 9 := pk_sub_toInt (by omega) (by decide)
  have e2 : (Int32.ofNat L - 9).toInt = (L : Int) - 9 := e
  rw [e2, nI_toInt (by omega)]
  omega
theorem law_ngt {L i : Nat} (h : i + 9 ≤ L) (hL : L < 100000) : ¬ Int32.ofNat L - 9 < nI i := by
  rw [i_lt]
  have e : (nI L - nI 9).toInt = (L : Int) - 9 := pk_sub_toInt (by omega) (by decide)
  have e2 : (Int32.ofNat L - 9).toInt = (L : Int) - 9 := e
  rw [e2, nI_toInt (by omega)]
  omega
theorem lx_load1 (p1 p2 p3 p4 p5 p6 p7 p8 : Int32) : f_L_load_mem1 mem1 p1 p2 p3 p4 p5 p6 p7 p8 = f_X4_load_mem1 mem1 p1 p2 p3 p4 p5 p6 p7 p8 := by
  unfold f_L_load_mem1 f_X4_load_t f_X4_load_mem1
  by_cases a : p1 < 0 <;> by_cases b : 1 < p1 <;> by_cases c : p2 < 0 <;> by_cases d : 65535 < p2 <;> by_cases e : p8 < 1 <;> by_cases f : p8 ≤ 20 <;> simp [a, b, c, d, e, f]
theorem lx_load2 (p1 p2 p3 p4 p5 p6 p7 p8 : Int32) : f_L_load_mem2 mem2 p1 p2 p3 p4 p5 p6 p7 p8 = f_X4_load_mem2 mem2 p1 p2 p3 p4 p5 p6 p7 p8 := by
  unfold f_L_load_mem2 f_X4_load_t f_X4_load_mem2
  by_cases a : p1 < 0 <;> by_cases b : 1 < p1 <;> by_cases c : p2 < 0 <;> by_cases d : 65535 < p2 <;> by_cases e : p8 < 1 <;> by_cases f : p8 ≤ 20 <;> simp [a, b, c, d, e, f]
theorem rtL_load {p1 p2 p3 p4 p5 p6 p7 p8 : Int32} (h : RT ((fa1, fx1, fy1, fs1, fp1, fc1, fd1, fb1, fz1, mem1), (fa2, fx2, fy2, fs2, fp2, fc2, fd2, fb2, fz2, mem2), (ug, ud, lt, ct, hd, la, bt)) (gB, gA, gX, gY, gS, gP, gC, gD, gT, gR, gM, gL, un, ow, ln, mm)) : RT ((fa1, fx1, fy1, fs1, fp1, fc1, fd1, fb1, fz1, f_L_load_mem1 mem1 p1 p2 p3 p4 p5 p6 p7 p8), (fa2, fx2, fy2, fs2, fp2, fc2, fd2, fb2, fz2, f_L_load_mem2 mem2 p1 p2 p3 p4 p5 p6 p7 p8), (ug, ud, lt, ct, hd, la, bt)) (f_X5_load_gB gB p1 p2 p3 p4 p5 p6 p7 p8, gA, gX, gY, gS, gP, gC, gD, gT, gR, gM, gL, un, ow, ln, mm) := by
  rw [lx_load1, lx_load2]
  exact rt_load h
theorem lx_reset_fs1 (p1 : Int32) : f_L_reset_fs1 fs1 p1 = f_X4_reset_fs1 fs1 p1 := by
  unfold f_L_reset_fs1 f_X4_reset_t f_X4_reset_fs1
  by_cases a : p1 < 0 <;> by_cases b : 1 < p1 <;> simp [a, b]
theorem lx_reset_fp1 (p1 : Int32) : f_L_reset_fp1 fp1 p1 = f_X4_reset_fp1 fp1 p1 := by
  unfold f_L_reset_fp1 f_X4_reset_t f_X4_reset_fp1
  by_cases a : p1 < 0 <;> by_cases b : 1 < p1 <;> simp [a, b]
theorem lx_reset_fc1 (p1 : Int32) : f_L_reset_fc1 fc1 mem1 p1 = f_X4_reset_fc1 fc1 mem1 p1 := by
  unfold f_L_reset_fc1 f_X4_reset_t f_X4_reset_fc1
  by_cases a : p1 < 0 <;> by_cases b : 1 < p1 <;> simp [a, b]
theorem lx_reset_fd1 (p1 : Int32) : f_L_reset_fd1 fd1 p1 = f_X4_reset_fd1 fd1 p1 := by
  unfold f_L_reset_fd1 f_X4_reset_t f_X4_reset_fd1
  by_cases a : p1 < 0 <;> by_cases b : 1 < p1 <;> simp [a, b]
theorem lx_reset_fb1 (p1 : Int32) : f_L_reset_fb1 0 fb1 ug ct p1 = f_X4_reset_fb1 0 fb1 ug ct p1 := by
  unfold f_L_reset_fb1 f_X4_reset_t f_X4_reset_fb1
  by_cases a : p1 < 0 <;> by_cases b : 1 < p1 <;> simp [a, b]
theorem lx_reset_fs2 (p1 : Int32) : f_L_reset_fs2 fs2 p1 = f_X4_reset_fs2 fs2 p1 := by
  unfold f_L_reset_fs2 f_X4_reset_t f_X4_reset_fs2
  by_cases a : p1 < 0 <;> by_cases b : 1 < p1 <;> simp [a, b]
theorem lx_reset_fp2 (p1 : Int32) : f_L_reset_fp2 fp2 p1 = f_X4_reset_fp2 fp2 p1 := by
  unfold f_L_reset_fp2 f_X4_reset_t f_X4_reset_fp2
  by_cases a : p1 < 0 <;> by_cases b : 1 < p1 <;> simp [a, b]
theorem lx_reset_fc2 (p1 : Int32) : f_L_reset_fc2 fc2 mem2 p1 = f_X4_reset_fc2 fc2 mem2 p1 := by
  unfold f_L_reset_fc2 f_X4_reset_t f_X4_reset_fc2
  by_cases a : p1 < 0 <;> by_cases b : 1 < p1 <;> simp [a, b]
theorem lx_reset_fd2 (p1 : Int32) : f_L_reset_fd2 fd2 p1 = f_X4_reset_fd2 fd2 p1 := by
  unfold f_L_reset_fd2 f_X4_reset_t f_X4_reset_fd2
  by_cases a : p1 < 0 <;> by_cases b : 1 < p1 <;> simp [a, b]
theorem lx_reset_fb2 (p1 : Int32) : f_L_reset_fb2 1 fb2 ug ct p1 = f_X4_reset_fb2 1 fb2 ug ct p1 := by
  unfold f_L_reset_fb2 f_X4_reset_t f_X4_reset_fb2
  by_cases a : p1 < 0 <;> by_cases b : 1 < p1 <;> simp [a, b]
theorem rtL_reset {p1 : Int32} (h : RT ((fa1, fx1, fy1, fs1, fp1, fc1, fd1, fb1, fz1, mem1), (fa2, fx2, fy2, fs2, fp2, fc2, fd2, fb2, fz2, mem2), (ug, ud, lt, ct, hd, la, bt)) (gB, gA, gX, gY, gS, gP, gC, gD, gT, gR, gM, gL, un, ow, ln, mm)) : RT ((fa1, fx1, fy1, f_L_reset_fs1 fs1 p1, f_L_reset_fp1 fp1 p1, f_L_reset_fc1 fc1 mem1 p1, f_L_reset_fd1 fd1 p1, f_L_reset_fb1 0 fb1 ug ct p1, fz1, mem1), (fa2, fx2, fy2, f_L_reset_fs2 fs2 p1, f_L_reset_fp2 fp2 p1, f_L_reset_fc2 fc2 mem2 p1, f_L_reset_fd2 fd2 p1, f_L_reset_fb2 1 fb2 ug ct p1, fz2, mem2), (ug, ud, lt, ct, hd, la, bt)) (gB, gA, gX, gY, f_X5_reset_gS gS p1, f_X5_reset_gP gP p1, f_X5_reset_gC gB gC p1, f_X5_reset_gD gD p1, gT, gR, gM, gL, un, ow, f_X5_reset_ln un ln gM p1, f_X5_reset_mm mm p1) := by
  rw [lx_reset_fs1, lx_reset_fp1, lx_reset_fc1, lx_reset_fd1, lx_reset_fb1, lx_reset_fs2, lx_reset_fp2, lx_reset_fc2, lx_reset_fd2, lx_reset_fb2]
  exact rt_reset h
set_option maxRecDepth 100000 in
set_option maxHeartbeats 4000000 in
theorem rtL_run {p1 p2 : Int32} (h : RT ((fa1, fx1, fy1, fs1, fp1, fc1, fd1, fb1, fz1, mem1), (fa2, fx2, fy2, fs2, fp2, fc2, fd2, fb2, fz2, mem2), (ug, ud, lt, ct, hd, la, bt)) (gB, gA, gX, gY, gS, gP, gC, gD, gT, gR, gM, gL, un, ow, ln, mm)) : RT (((f_L_run1_fa1 0 65248 fa1 fx1 fy1 fs1 fp1 fc1 fd1 fb1 1 65272 fa2 fx2 fy2 fs2 fp2 fc2 fd2 fb2 fz1 fz2 mem1 mem2 ug ud lt ct hd la bt kindsF waysF p1 p2), (f_L_run1_fx1 0 65248 fa1 fx1 fy1 fs1 fp1 fc1 fd1 fb1 1 65272 fa2 fx2 fy2 fs2 fp2 fc2 fd2 fb2 fz1 fz2 mem1 mem2 ug ud lt ct hd la bt kindsF waysF p1 p2), (f_L_run1_fy1 0 65248 fa1 fx1 fy1 fs1 fp1 fc1 fd1 fb1 1 65272 fa2 fx2 fy2 fs2 fp2 fc2 fd2 fb2 fz1 fz2 mem1 mem2 ug ud lt ct hd la bt kindsF waysF p1 p2), (f_L_run1_fs1 0 65248 fa1 fx1 fy1 fs1 fp1 fc1 fd1 fb1 1 65272 fa2 fx2 fy2 fs2 fp2 fc2 fd2 fb2 fz1 fz2 mem1 mem2 ug ud lt ct hd la bt kindsF waysF p1 p2), (f_L_run1_fp1 0 65248 fa1 fx1 fy1 fs1 fp1 fc1 fd1 fb1 1 65272 fa2 fx2 fy2 fs2 fp2 fc2 fd2 fb2 fz1 fz2 mem1 mem2 ug ud lt ct hd la bt kindsF waysF p1 p2), (f_L_run1_fc1 0 65248 fa1 fx1 fy1 fs1 fp1 fc1 fd1 fb1 1 65272 fa2 fx2 fy2 fs2 fp2 fc2 fd2 fb2 fz1 fz2 mem1 mem2 ug ud lt ct hd la bt kindsF waysF p1 p2), (f_L_run1_fd1 0 65248 fa1 fx1 fy1 fs1 fp1 fc1 fd1 fb1 1 65272 fa2 fx2 fy2 fs2 fp2 fc2 fd2 fb2 fz1 fz2 mem1 mem2 ug ud lt ct hd la bt kindsF waysF p1 p2), (f_L_run1_fb1 0 65248 fa1 fx1 fy1 fs1 fp1 fc1 fd1 fb1 1 65272 fa2 fx2 fy2 fs2 fp2 fc2 fd2 fb2 fz1 fz2 mem1 mem2 ug ud lt ct hd la bt kindsF waysF p1 p2), (f_L_run1_fz1 0 65248 fa1 fx1 fy1 fs1 fp1 fc1 fd1 fb1 1 65272 fa2 fx2 fy2 fs2 fp2 fc2 fd2 fb2 fz1 fz2 mem1 mem2 ug ud lt ct hd la bt kindsF waysF p1 p2), (f_L_run1_mem1 0 65248 fa1 fx1 fy1 fs1 fp1 fc1 fd1 fb1 1 65272 fa2 fx2 fy2 fs2 fp2 fc2 fd2 fb2 fz1 fz2 mem1 mem2 ug ud lt ct hd la bt kindsF waysF p1 p2)), ((f_L_run1_fa2 0 65248 fa1 fx1 fy1 fs1 fp1 fc1 fd1 fb1 1 65272 fa2 fx2 fy2 fs2 fp2 fc2 fd2 fb2 fz1 fz2 mem1 mem2 ug ud lt ct hd la bt kindsF waysF p1 p2), (f_L_run1_fx2 0 65248 fa1 fx1 fy1 fs1 fp1 fc1 fd1 fb1 1 65272 fa2 fx2 fy2 fs2 fp2 fc2 fd2 fb2 fz1 fz2 mem1 mem2 ug ud lt ct hd la bt kindsF waysF p1 p2), (f_L_run1_fy2 0 65248 fa1 fx1 fy1 fs1 fp1 fc1 fd1 fb1 1 65272 fa2 fx2 fy2 fs2 fp2 fc2 fd2 fb2 fz1 fz2 mem1 mem2 ug ud lt ct hd la bt kindsF waysF p1 p2), (f_L_run1_fs2 0 65248 fa1 fx1 fy1 fs1 fp1 fc1 fd1 fb1 1 65272 fa2 fx2 fy2 fs2 fp2 fc2 fd2 fb2 fz1 fz2 mem1 mem2 ug ud lt ct hd la bt kindsF waysF p1 p2), (f_L_run1_fp2 0 65248 fa1 fx1 fy1 fs1 fp1 fc1 fd1 fb1 1 65272 fa2 fx2 fy2 fs2 fp2 fc2 fd2 fb2 fz1 fz2 mem1 mem2 ug ud lt ct hd la bt kindsF waysF p1 p2), (f_L_run1_fc2 0 65248 fa1 fx1 fy1 fs1 fp1 fc1 fd1 fb1 1 65272 fa2 fx2 fy2 fs2 fp2 fc2 fd2 fb2 fz1 fz2 mem1 mem2 ug ud lt ct hd la bt kindsF waysF p1 p2), (f_L_run1_fd2 0 65248 fa1 fx1 fy1 fs1 fp1 fc1 fd1 fb1 1 65272 fa2 fx2 fy2 fs2 fp2 fc2 fd2 fb2 fz1 fz2 mem1 mem2 ug ud lt ct hd la bt kindsF waysF p1 p2), (f_L_run1_fb2 0 65248 fa1 fx1 fy1 fs1 fp1 fc1 fd1 fb1 1 65272 fa2 fx2 fy2 fs2 fp2 fc2 fd2 fb2 fz1 fz2 mem1 mem2 ug ud lt ct hd la bt kindsF waysF p1 p2), (f_L_run1_fz2 0 65248 fa1 fx1 fy1 fs1 fp1 fc1 fd1 fb1 1 65272 fa2 fx2 fy2 fs2 fp2 fc2 fd2 fb2 fz1 fz2 mem1 mem2 ug ud lt ct hd la bt kindsF waysF p1 p2), (f_L_run1_mem2 0 65248 fa1 fx1 fy1 fs1 fp1 fc1 fd1 fb1 1 65272 fa2 fx2 fy2 fs2 fp2 fc2 fd2 fb2 fz1 fz2 mem1 mem2 ug ud lt ct hd la bt kindsF waysF p1 p2)), ((f_L_run1_ug 0 65248 fa1 fx1 fy1 fs1 fp1 fc1 fd1 fb1 1 65272 fa2 fx2 fy2 fs2 fp2 fc2 fd2 fb2 fz1 fz2 mem1 mem2 ug ud lt ct hd la bt kindsF waysF p1 p2), (f_L_run1_ud 0 65248 fa1 fx1 fy1 fs1 fp1 fc1 fd1 fb1 1 65272 fa2 fx2 fy2 fs2 fp2 fc2 fd2 fb2 fz1 fz2 mem1 mem2 ug ud lt ct hd la bt kindsF waysF p1 p2), (f_L_run1_lt 0 65248 fa1 fx1 fy1 fs1 fp1 fc1 fd1 fb1 1 65272 fa2 fx2 fy2 fs2 fp2 fc2 fd2 fb2 fz1 fz2 mem1 mem2 ug ud lt ct hd la bt kindsF waysF p1 p2), (f_L_run1_ct 0 65248 fa1 fx1 fy1 fs1 fp1 fc1 fd1 fb1 1 65272 fa2 fx2 fy2 fs2 fp2 fc2 fd2 fb2 fz1 fz2 mem1 mem2 ug ud lt ct hd la bt kindsF waysF p1 p2), (f_L_run1_hd 0 65248 fa1 fx1 fy1 fs1 fp1 fc1 fd1 fb1 1 65272 fa2 fx2 fy2 fs2 fp2 fc2 fd2 fb2 fz1 fz2 mem1 mem2 ug ud lt ct hd la bt kindsF waysF p1 p2), (f_L_run1_la 0 65248 fa1 fx1 fy1 fs1 fp1 fc1 fd1 fb1 1 65272 fa2 fx2 fy2 fs2 fp2 fc2 fd2 fb2 fz1 fz2 mem1 mem2 ug ud lt ct hd la bt kindsF waysF p1 p2), (f_L_run1_bt 0 65248 fa1 fx1 fy1 fs1 fp1 fc1 fd1 fb1 1 65272 fa2 fx2 fy2 fs2 fp2 fc2 fd2 fb2 fz1 fz2 mem1 mem2 ug ud lt ct hd la bt kindsF waysF p1 p2))) ((f_X5_run_gB un ow ln mm gB gA gX gY gS gP gC gD gT gR gM gL p1 p2), (f_X5_run_gA un ow ln mm gB gA gX gY gS gP gC gD gT gR gM gL p1 p2), (f_X5_run_gX un ow ln mm gB gA gX gY gS gP gC gD gT gR gM gL p1 p2), (f_X5_run_gY un ow ln mm gB gA gX gY gS gP gC gD gT gR gM gL p1 p2), (f_X5_run_gS un ow ln mm gB gA gX gY gS gP gC gD gT gR gM gL p1 p2), (f_X5_run_gP un ow ln mm gB gA gX gY gS gP gC gD gT gR gM gL p1 p2), (f_X5_run_gC un ow ln mm gB gA gX gY gS gP gC gD gT gR gM gL p1 p2), (f_X5_run_gD un ow ln mm gB gA gX gY gS gP gC gD gT gR gM gL p1 p2), (f_X5_run_gT un ow ln mm gB gA gX gY gS gP gC gD gT gR gM gL p1 p2), (f_X5_run_gR un ow ln mm gB gA gX gY gS gP gC gD gT gR gM gL p1 p2), (f_X5_run_gM un ow ln mm gB gA gX gY gS gP gC gD gT gR gM gL p1 p2), (f_X5_run_gL un ow ln mm gB gA gX gY gS gP gC gD gT gR gM gL p1 p2), (f_X5_run_un un ow ln mm gB gA gX gY gS gP gC gD gT gR gM gL p1 p2), (f_X5_run_ow un ow ln mm gB gA gX gY gS gP gC gD gT gR gM gL p1 p2), (f_X5_run_ln un ow ln mm gB gA gX gY gS gP gC gD gT gR gM gL p1 p2), (f_X5_run_mm un ow ln mm gB gA gX gY gS gP gC gD gT gR gM gL p1 p2)) := by
  have rr9 := rt_run p2.toNatClampNeg p1.toNatClampNeg h
  unfold f_L_run1_fa1 f_L_run1_fx1 f_L_run1_fy1 f_L_run1_fs1 f_L_run1_fp1 f_L_run1_fc1 f_L_run1_fd1 f_L_run1_fb1 f_L_run1_fz1 f_L_run1_mem1 f_L_run1_fa2 f_L_run1_fx2 f_L_run1_fy2 f_L_run1_fs2 f_L_run1_fp2 f_L_run1_fc2 f_L_run1_fd2 f_L_run1_fb2 f_L_run1_fz2 f_L_run1_mem2 f_L_run1_ug f_L_run1_ud f_L_run1_lt f_L_run1_ct f_L_run1_hd f_L_run1_la f_L_run1_bt f_X4_run_fa1 f_X4_run_fx1 f_X4_run_fy1 f_X4_run_fs1 f_X4_run_fp1 f_X4_run_fc1 f_X4_run_fd1 f_X4_run_fb1 f_X4_run_fz1 f_X4_run_mem1 f_X4_run_fa2 f_X4_run_fx2 f_X4_run_fy2 f_X4_run_fs2 f_X4_run_fp2 f_X4_run_fc2 f_X4_run_fd2 f_X4_run_fb2 f_X4_run_fz2 f_X4_run_mem2 f_X4_run_ug f_X4_run_ud f_X4_run_lt f_X4_run_ct f_X4_run_hd f_X4_run_la f_X4_run_bt f_X4_run_t f_X5_run_gB f_X5_run_gA f_X5_run_gX f_X5_run_gY f_X5_run_gS f_X5_run_gP f_X5_run_gC f_X5_run_gD f_X5_run_gT f_X5_run_gR f_X5_run_gM f_X5_run_gL f_X5_run_un f_X5_run_ow f_X5_run_ln f_X5_run_mm
  by_cases a : p1 < 0
  · simp only [a, if_true]
    exact h
  by_cases b : 4000 < p1
  · simp only [a, b, if_true, if_false]
    exact h
  by_cases c : p2 < 0
  · simp only [a, b, c, if_true, if_false]
    exact h
  by_cases d : p2 ≤ 4
  · simp only [a, b, c, d, if_true, if_false]
    exact rr9.2
  · simp only [a, b, c, d, if_true, if_false]
    exact h
theorem eq_run (p1 p2 : Int32) : f_X5_thrown_r (f_X5_run_th p1 p2) = f_L_run1_r p1 p2 := by
  unfold f_X5_thrown_r f_X5_run_th f_L_run1_r f_X4_run_t
  by_cases a : p1 < 0 <;> by_cases b : 4000 < p1 <;> by_cases c : p2 < 0 <;> by_cases d : p2 ≤ 4 <;> simp [a, b, c, d]
theorem cmp_self (x : Int64) : lg_cmp x x = 0 := by
  unfold lg_cmp
  simp
theorem lz_r {t : Int32} (h : (if t = 0 then (0 : Int32) else 1) = 0) : t = 0 := Classical.byContradiction fun c => by
  rw [if_neg c] at h
  exact absurd h (by decide)
theorem vl_byteAt {go : Nat → Int64} {p1 p2 : Int32} (h : RT ((fa1, fx1, fy1, fs1, fp1, fc1, fd1, fb1, fz1, mem1), (fa2, fx2, fy2, fs2, fp2, fc2, fd2, fb2, fz2, mem2), (ug, ud, lt, ct, hd, la, bt)) (gB, gA, gX, gY, gS, gP, gC, gD, gT, gR, gM, gL, un, ow, ln, mm)) (c : f_L_byteAt_r p1 p2 = 0) : lg_cmp ((f_L_byteAt_go mem1 mem2 go p1 p2) 0) ((f_X5_byteAt_r gB p1 p2).toInt64) = 0 := by
  unfold f_L_byteAt_go
  rw [if_pos (lz_r c), pk_uLs, an_byteAt h]
  exact cmp_self _
theorem vl_port {go : Nat → Int64} {p1 p2 : Int32} (h : RT ((fa1, fx1, fy1, fs1, fp1, fc1, fd1, fb1, fz1, mem1), (fa2, fx2, fy2, fs2, fp2, fc2, fd2, fb2, fz2, mem2), (ug, ud, lt, ct, hd, la, bt)) (gB, gA, gX, gY, gS, gP, gC, gD, gT, gR, gM, gL, un, ow, ln, mm)) (c : f_L_port_r p1 p2 = 0) : lg_cmp ((f_L_port_go ug lt ct hd la bt go p1 p2) 0) ((f_X5_port_r un gR gM gL p1 p2).toInt64) = 0 := by
  unfold f_L_port_go
  rw [if_pos (lz_r c), pk_uLs, an_port h]
  exact cmp_self _
theorem vl_waits {go : Nat → Int64} {p1 p2 : Int32} (h : RT ((fa1, fx1, fy1, fs1, fp1, fc1, fd1, fb1, fz1, mem1), (fa2, fx2, fy2, fs2, fp2, fc2, fd2, fb2, fz2, mem2), (ug, ud, lt, ct, hd, la, bt)) (gB, gA, gX, gY, gS, gP, gC, gD, gT, gR, gM, gL, un, ow, ln, mm)) (c : f_L_waits_r p1 p2 = 0) : lg_cmp ((f_L_waits_go ct go p1 p2) 0) ((f_X5_waits_r gM p1 p2).toInt64) = 0 := by
  unfold f_L_waits_go
  rw [if_pos (lz_r c), pk_uLs, an_waits h]
  exact cmp_self _
theorem vl_steps {go : Nat → Int64} {p1 : Int32} (h : RT ((fa1, fx1, fy1, fs1, fp1, fc1, fd1, fb1, fz1, mem1), (fa2, fx2, fy2, fs2, fp2, fc2, fd2, fb2, fz2, mem2), (ug, ud, lt, ct, hd, la, bt)) (gB, gA, gX, gY, gS, gP, gC, gD, gT, gR, gM, gL, un, ow, ln, mm)) (c : f_L_steps_r p1 = 0) : lg_cmp ((f_L_steps_go fz1 fz2 go p1) 0) (f_X5_steps_r gT p1) = 0 := by
  unfold f_L_steps_go
  rw [if_pos (lz_r c), pk_uLs, an_steps h]
  exact cmp_self _
set_option maxRecDepth 100000 in
theorem vl_run {go : Nat → Int64} {p1 p2 : Int32} (h : RT ((fa1, fx1, fy1, fs1, fp1, fc1, fd1, fb1, fz1, mem1), (fa2, fx2, fy2, fs2, fp2, fc2, fd2, fb2, fz2, mem2), (ug, ud, lt, ct, hd, la, bt)) (gB, gA, gX, gY, gS, gP, gC, gD, gT, gR, gM, gL, un, ow, ln, mm)) (c : f_L_run1_r p1 p2 = 0) : lg_cmp ((f_L_run1_go 0 65248 fa1 fx1 fy1 fs1 fp1 fc1 fd1 fb1 1 65272 fa2 fx2 fy2 fs2 fp2 fc2 fd2 fb2 fz1 fz2 mem1 mem2 ug ud lt ct hd la bt kindsF waysF go p1 p2) 0) ((f_X5_run_r un ow ln mm gB gA gX gY gS gP gC gD gT gR gM gL p1 p2).toInt64) = 0 := by
  have rr9 := rt_run p2.toNatClampNeg p1.toNatClampNeg h
  have e : f_X5_run_r un ow ln mm gB gA gX gY gS gP gC gD gT gR gM gL p1 p2 = f_X4_run_r 0 65248 fa1 fx1 fy1 fs1 fp1 fc1 fd1 fb1 1 65272 fa2 fx2 fy2 fs2 fp2 fc2 fd2 fb2 fz1 fz2 mem1 mem2 ug ud lt ct hd la bt kindsF waysF p1 p2 := by
    unfold f_X5_run_r f_X4_run_r
    rw [rr9.1]
  unfold f_L_run1_go
  rw [if_pos (lz_r c), pk_uLs, e]
  exact cmp_self _
end LK
