/-! What is true beside it (not a statement of the claim; evidence for REPORT.md S1): register(1, 6) is the only call at which the two can differ. -/
section ON
variable {fa1 fx1 fy1 fs1 fp1 fc1 fd1 fb1 fa2 fx2 fy2 fs2 fp2 fc2 fd2 fb2 ug ud un ow ln mm : Int32} {fz1 fz2 : Int64} {mem1 mem2 lt ct hd la gB gA gX gY gS gP gC gD gR gM gL : Nat → Int32} {gT : Nat → Int64} {bt : Nat → Nat → Int32}
theorem on_st (d : Int32) : (if (if d = 0 then (0 : Int32) else 1) = 0 then (0 : Int32) else 1) = if d = 0 then 0 else 1 := by
  by_cases c : d = 0 <;> simp [c]
theorem on_6 {p : Int32} (h0 : ¬ p < 0) (h7 : ¬ 6 < p) : p = 0 ∨ p = 1 ∨ p = 2 ∨ p = 3 ∨ p = 4 ∨ p = 5 ∨ p = 6 := by
  have a : 0 ≤ p.toInt := by
    have := Int32.not_lt.mp h0
    simpa [Int32.le_iff_toInt_le] using this
  have b : p.toInt ≤ 6 := by
    have := Int32.not_lt.mp h7
    simpa [Int32.le_iff_toInt_le] using this
  have e : ∀ v : Int32, p.toInt = v.toInt → p = v := fun v h => Int32.toInt_inj.mp h
  rcases (show p.toInt = 0 ∨ p.toInt = 1 ∨ p.toInt = 2 ∨ p.toInt = 3 ∨ p.toInt = 4 ∨ p.toInt = 5 ∨ p.toInt = 6 by omega) with h | h | h | h | h | h | h
  · exact Or.inl (e 0 h)
  · exact Or.inr (Or.inl (e 1 h))
  · exact Or.inr (Or.inr (Or.inl (e 2 h)))
  · exact Or.inr (Or.inr (Or.inr (Or.inl (e 3 h))))
  · exact Or.inr (Or.inr (Or.inr (Or.inr (Or.inl (e 4 h)))))
  · exact Or.inr (Or.inr (Or.inr (Or.inr (Or.inr (Or.inl (e 5 h))))))
  · exact Or.inr (Or.inr (Or.inr (Or.inr (Or.inr (Or.inr (e 6 h))))))
theorem on_lt7 {p : Int32} (h : ¬ 7 ≤ p) : ¬ 6 < p := fun c => h (by
  rw [Int32.lt_iff_toInt_lt] at c
  rw [Int32.le_iff_toInt_le]
  have a : (6 : Int32).toInt = 6 := rfl
  have b : (7 : Int32).toInt = 7 := rfl
  omega)
set_option maxRecDepth 100000 in
theorem an_register {p1 p2 : Int32} (h : RT ((fa1, fx1, fy1, fs1, fp1, fc1, fd1, fb1, fz1, mem1), (fa2, fx2, fy2, fs2, fp2, fc2, fd2, fb2, fz2, mem2), (ug, ud, lt, ct, hd, la, bt)) (gB, gA, gX, gY, gS, gP, gC, gD, gT, gR, gM, gL, un, ow, ln, mm)) (ht : f_X4_register_t p1 p2 = 0) (nb : ¬ (p1 = 1 ∧ p2 = 6)) :
    f_X5_register_r gA gX gY gS gP gC gD p1 p2 = f_X4_register_r 0 fa1 fx1 fy1 fs1 fp1 fc1 fd1 1 fa2 fx2 fy2 fs2 fp2 fc2 fd2 ug ud p1 p2 := by
  obtain ⟨h0, h1, hD, w1, w2, hT, hb1, hb2⟩ := h
  unfold f_X4_register_t at ht
  by_cases c1 : p1 < 0
  · rw [if_pos c1] at ht; exact absurd ht (by decide)
  rw [if_neg c1] at ht
  by_cases c2 : 1 < p1
  · rw [if_pos c2] at ht; exact absurd ht (by decide)
  rw [if_neg c2] at ht
  by_cases c3 : p2 < 0
  · rw [if_pos c3] at ht; exact absurd ht (by decide)
  rw [if_neg c3] at ht
  by_cases c4 : 7 ≤ p2
  · rw [if_pos c4] at ht; exact absurd ht (by decide)
  unfold f_X5_register_r f_X4_register_r
  rw [if_neg c1, if_neg c2, if_neg c3, if_neg c4]
  rcases m4' p1 with ⟨m1, m2, m3⟩ | hp1
  · rcases m2 with c | ⟨c, d⟩
    · exact absurd c c1
    · exact absurd d c2
  have a3 : ¬ f_X5_isMachine_r p1 = 0 := by rcases hp1 with rfl | rfl <;> decide
  rw [if_neg a3, if_neg c3, if_neg (on_lt7 c4)]
  have gA0 : gA 0 = fa1 := h0.2.1.1
  have gA1 : gA 1 = fa2 := h1.2.1.1
  have gX0 : gX 0 = fx1 := h0.2.2.1.1
  have gX1 : gX 1 = fx2 := h1.2.2.1.1
  have gY0 : gY 0 = fy1 := h0.2.2.2.1.1
  have gY1 : gY 1 = fy2 := h1.2.2.2.1.1
  have gS0 : gS 0 = fs1 := h0.2.2.2.2.1.1
  have gS1 : gS 1 = fs2 := h1.2.2.2.2.1.1
  have gP0 : gP 0 = fp1 := h0.2.2.2.2.2.1.1
  have gP1 : gP 1 = fp2 := h1.2.2.2.2.2.1.1
  have gC0 : gC 0 = fc1 := h0.2.2.2.2.2.2.1.1
  have gC1 : gC 1 = fc2 := h1.2.2.2.2.2.2.1.1
  have gD0 : gD 0 = fd1 := hD.1
  rcases hp1 with rfl | rfl
  · rw [if_pos (show (0 : Int32) = 0 from rfl), show (0 : Int32).toNatClampNeg = 0 from rfl, gA0, gX0, gY0, gS0, gP0, gC0, gD0]
    unfold f_X1_valueOf_r f_X1_countsAsStanding_r
    rw [s_rc0, if_pos (show (0 : Int32) = 0 from rfl), on_st]
  · rw [if_neg (show ¬ (1 : Int32) = 0 by decide), show (1 : Int32).toNatClampNeg = 1 from rfl, gA1, gX1, gY1, gS1, gP1, gC1]
    unfold f_X1_valueOf_r
    rcases on_6 c3 (on_lt7 c4) with rfl | rfl | rfl | rfl | rfl | rfl | rfl
    · rfl
    · rfl
    · rfl
    · rfl
    · rfl
    · rfl
    · exact absurd ⟨rfl, rfl⟩ nb
theorem vl_register {go : Nat → Int64} {p1 p2 : Int32} (h : RT ((fa1, fx1, fy1, fs1, fp1, fc1, fd1, fb1, fz1, mem1), (fa2, fx2, fy2, fs2, fp2, fc2, fd2, fb2, fz2, mem2), (ug, ud, lt, ct, hd, la, bt)) (gB, gA, gX, gY, gS, gP, gC, gD, gT, gR, gM, gL, un, ow, ln, mm)) (c : f_L_register_r p1 p2 = 0) (nb : ¬ (p1 = 1 ∧ p2 = 6)) : lg_cmp ((f_L_register_go 0 fa1 fx1 fy1 fs1 fp1 fc1 fd1 1 fa2 fx2 fy2 fs2 fp2 fc2 fd2 ug ud go p1 p2) 0) ((f_X5_register_r gA gX gY gS gP gC gD p1 p2).toInt64) = 0 := by
  unfold f_L_register_go
  rw [if_pos (lz_r c), pk_uLs, an_register h (lz_r c) nb]
  exact cmp_self _
end ON
def rf_asks (xs : Nat → Int32) (i : Nat) : Prop := (xs i) &&& 15 = 4 ∧ xs (i + 1) = 1 ∧ xs (i + 2) = 6
set_option maxRecDepth 100000 in
set_option maxHeartbeats 8000000 in
/-- where no call is register(1, 6), the law's answer is 1 -/
theorem lawF_one {xs : Nat → Int32} : ∀ (n i : Nat) (x : CS) (y : MS) (go : Nat → Int64), RT x y → (∀ k, k < n → ¬ rf_asks xs (i + 9 * k)) → lawF xs n i x y go = 1 := by
  intro n
  induction n with
  | zero => intro i x y go _ _; rfl
  | succ n ih =>
    intro i x y go hRT hk
    have hk9 : ∀ k, k < n → ¬ rf_asks xs (i + 9 + 9 * k) := fun k h => by
      have e : i + 9 * (k + 1) = i + 9 + 9 * k := by omega
      have h9 := hk (k + 1) (by omega)
      rw [e] at h9
      exact h9
    have hk0 : ¬ rf_asks xs i := hk 0 (by omega)
    obtain ⟨⟨fa1, fx1, fy1, fs1, fp1, fc1, fd1, fb1, fz1, mem1⟩, ⟨fa2, fx2, fy2, fs2, fp2, fc2, fd2, fb2, fz2, mem2⟩, ug, ud, lt, ct, hd, la, bt⟩ := x
    obtain ⟨gB, gA, gX, gY, gS, gP, gC, gD, gT, gR, gM, gL, un, ow, ln, mm⟩ := y
    show  (if ((xs i) &&& 15) = 0 then lawF xs n (i + 9) ((fa1, fx1, fy1, fs1, fp1, fc1, fd1, fb1, fz1, (f_L_load_mem1 mem1 (xs (i + 1)) (xs (i + 2)) (xs (i + 3)) (xs (i + 4)) (xs (i + 5)) (xs (i + 6)) (xs (i + 7)) (xs (i + 8)))), (fa2, fx2, fy2, fs2, fp2, fc2, fd2, fb2, fz2, (f_L_load_mem2 mem2 (xs (i + 1)) (xs (i + 2)) (xs (i + 3)) (xs (i + 4)) (xs (i + 5)) (xs (i + 6)) (xs (i + 7)) (xs (i + 8)))), (ug, ud, lt, ct, hd, la, bt)) ((f_X5_load_gB gB (xs (i + 1)) (xs (i + 2)) (xs (i + 3)) (xs (i + 4)) (xs (i + 5)) (xs (i + 6)) (xs (i + 7)) (xs (i + 8))), gA, gX, gY, gS, gP, gC, gD, gT, gR, gM, gL, un, ow, ln, mm) go else (if ((xs i) &&& 15) = 1 then (if (f_L_byteAt_r (xs (i + 1)) (xs (i + 2))) = 0 then lawF xs n (i + 9) ((fa1, fx1, fy1, fs1, fp1, fc1, fd1, fb1, fz1, mem1), (fa2, fx2, fy2, fs2, fp2, fc2, fd2, fb2, fz2, mem2), (ug, ud, lt, ct, hd, la, bt)) (gB, gA, gX, gY, gS, gP, gC, gD, gT, gR, gM, gL, un, ow, ln, mm) (f_L_byteAt_go mem1 mem2 go (xs (i + 1)) (xs (i + 2))) else lawF xs n (i + 9) ((fa1, fx1, fy1, fs1, fp1, fc1, fd1, fb1, fz1, mem1), (fa2, fx2, fy2, fs2, fp2, fc2, fd2, fb2, fz2, mem2), (ug, ud, lt, ct, hd, la, bt)) (gB, gA, gX, gY, gS, gP, gC, gD, gT, gR, gM, gL, un, ow, ln, mm) (f_L_byteAt_go mem1 mem2 go (xs (i + 1)) (xs (i + 2)))) else (if ((xs i) &&& 15) = 2 then lawF xs n (i + 9) ((fa1, fx1, fy1, (f_L_reset_fs1 fs1 (xs (i + 1))), (f_L_reset_fp1 fp1 (xs (i + 1))), (f_L_reset_fc1 fc1 mem1 (xs (i + 1))), (f_L_reset_fd1 fd1 (xs (i + 1))), (f_L_reset_fb1 0 fb1 ug ct (xs (i + 1))), fz1, mem1), (fa2, fx2, fy2, (f_L_reset_fs2 fs2 (xs (i + 1))), (f_L_reset_fp2 fp2 (xs (i + 1))), (f_L_reset_fc2 fc2 mem2 (xs (i + 1))), (f_L_reset_fd2 fd2 (xs (i + 1))), (f_L_reset_fb2 1 fb2 ug ct (xs (i + 1))), fz2, mem2), (ug, ud, lt, ct, hd, la, bt)) (gB, gA, gX, gY, (f_X5_reset_gS gS (xs (i + 1))), (f_X5_reset_gP gP (xs (i + 1))), (f_X5_reset_gC gB gC (xs (i + 1))), (f_X5_reset_gD gD (xs (i + 1))), gT, gR, gM, gL, un, ow, (f_X5_reset_ln un ln gM (xs (i + 1))), (f_X5_reset_mm mm (xs (i + 1)))) go else (if ((xs i) &&& 15) = 3 then (if (f_L_run1_r (xs (i + 1)) (xs (i + 2))) = 0 then lawF xs n (i + 9) (((f_L_run1_fa1 0 65248 fa1 fx1 fy1 fs1 fp1 fc1 fd1 fb1 1 65272 fa2 fx2 fy2 fs2 fp2 fc2 fd2 fb2 fz1 fz2 mem1 mem2 ug ud lt ct hd la bt kindsF waysF (xs (i + 1)) (xs (i + 2))), (f_L_run1_fx1 0 65248 fa1 fx1 fy1 fs1 fp1 fc1 fd1 fb1 1 65272 fa2 fx2 fy2 fs2 fp2 fc2 fd2 fb2 fz1 fz2 mem1 mem2 ug ud lt ct hd la bt kindsF waysF (xs (i + 1)) (xs (i + 2))), (f_L_run1_fy1 0 65248 fa1 fx1 fy1 fs1 fp1 fc1 fd1 fb1 1 65272 fa2 fx2 fy2 fs2 fp2 fc2 fd2 fb2 fz1 fz2 mem1 mem2 ug ud lt ct hd la bt kindsF waysF (xs (i + 1)) (xs (i + 2))), (f_L_run1_fs1 0 65248 fa1 fx1 fy1 fs1 fp1 fc1 fd1 fb1 1 65272 fa2 fx2 fy2 fs2 fp2 fc2 fd2 fb2 fz1 fz2 mem1 mem2 ug ud lt ct hd la bt kindsF waysF (xs (i + 1)) (xs (i + 2))), (f_L_run1_fp1 0 65248 fa1 fx1 fy1 fs1 fp1 fc1 fd1 fb1 1 65272 fa2 fx2 fy2 fs2 fp2 fc2 fd2 fb2 fz1 fz2 mem1 mem2 ug ud lt ct hd la bt kindsF waysF (xs (i + 1)) (xs (i + 2))), (f_L_run1_fc1 0 65248 fa1 fx1 fy1 fs1 fp1 fc1 fd1 fb1 1 65272 fa2 fx2 fy2 fs2 fp2 fc2 fd2 fb2 fz1 fz2 mem1 mem2 ug ud lt ct hd la bt kindsF waysF (xs (i + 1)) (xs (i + 2))), (f_L_run1_fd1 0 65248 fa1 fx1 fy1 fs1 fp1 fc1 fd1 fb1 1 65272 fa2 fx2 fy2 fs2 fp2 fc2 fd2 fb2 fz1 fz2 mem1 mem2 ug ud lt ct hd la bt kindsF waysF (xs (i + 1)) (xs (i + 2))), (f_L_run1_fb1 0 65248 fa1 fx1 fy1 fs1 fp1 fc1 fd1 fb1 1 65272 fa2 fx2 fy2 fs2 fp2 fc2 fd2 fb2 fz1 fz2 mem1 mem2 ug ud lt ct hd la bt kindsF waysF (xs (i + 1)) (xs (i + 2))), (f_L_run1_fz1 0 65248 fa1 fx1 fy1 fs1 fp1 fc1 fd1 fb1 1 65272 fa2 fx2 fy2 fs2 fp2 fc2 fd2 fb2 fz1 fz2 mem1 mem2 ug ud lt ct hd la bt kindsF waysF (xs (i + 1)) (xs (i + 2))), (f_L_run1_mem1 0 65248 fa1 fx1 fy1 fs1 fp1 fc1 fd1 fb1 1 65272 fa2 fx2 fy2 fs2 fp2 fc2 fd2 fb2 fz1 fz2 mem1 mem2 ug ud lt ct hd la bt kindsF waysF (xs (i + 1)) (xs (i + 2)))), ((f_L_run1_fa2 0 65248 fa1 fx1 fy1 fs1 fp1 fc1 fd1 fb1 1 65272 fa2 fx2 fy2 fs2 fp2 fc2 fd2 fb2 fz1 fz2 mem1 mem2 ug ud lt ct hd la bt kindsF waysF (xs (i + 1)) (xs (i + 2))), (f_L_run1_fx2 0 65248 fa1 fx1 fy1 fs1 fp1 fc1 fd1 fb1 1 65272 fa2 fx2 fy2 fs2 fp2 fc2 fd2 fb2 fz1 fz2 mem1 mem2 ug ud lt ct hd la bt kindsF waysF (xs (i + 1)) (xs (i + 2))), (f_L_run1_fy2 0 65248 fa1 fx1 fy1 fs1 fp1 fc1 fd1 fb1 1 65272 fa2 fx2 fy2 fs2 fp2 fc2 fd2 fb2 fz1 fz2 mem1 mem2 ug ud lt ct hd la bt kindsF waysF (xs (i + 1)) (xs (i + 2))), (f_L_run1_fs2 0 65248 fa1 fx1 fy1 fs1 fp1 fc1 fd1 fb1 1 65272 fa2 fx2 fy2 fs2 fp2 fc2 fd2 fb2 fz1 fz2 mem1 mem2 ug ud lt ct hd la bt kindsF waysF (xs (i + 1)) (xs (i + 2))), (f_L_run1_fp2 0 65248 fa1 fx1 fy1 fs1 fp1 fc1 fd1 fb1 1 65272 fa2 fx2 fy2 fs2 fp2 fc2 fd2 fb2 fz1 fz2 mem1 mem2 ug ud lt ct hd la bt kindsF waysF (xs (i + 1)) (xs (i + 2))), (f_L_run1_fc2 0 65248 fa1 fx1 fy1 fs1 fp1 fc1 fd1 fb1 1 65272 fa2 fx2 fy2 fs2 fp2 fc2 fd2 fb2 fz1 fz2 mem1 mem2 ug ud lt ct hd la bt kindsF waysF (xs (i + 1)) (xs (i + 2))), (f_L_run1_fd2 0 65248 fa1 fx1 fy1 fs1 fp1 fc1 fd1 fb1 1 65272 fa2 fx2 fy2 fs2 fp2 fc2 fd2 fb2 fz1 fz2 mem1 mem2 ug ud lt ct hd la bt kindsF waysF (xs (i + 1)) (xs (i + 2))), (f_L_run1_fb2 0 65248 fa1 fx1 fy1 fs1 fp1 fc1 fd1 fb1 1 65272 fa2 fx2 fy2 fs2 fp2 fc2 fd2 fb2 fz1 fz2 mem1 mem2 ug ud lt ct hd la bt kindsF waysF (xs (i + 1)) (xs (i + 2))), (f_L_run1_fz2 0 65248 fa1 fx1 fy1 fs1 fp1 fc1 fd1 fb1 1 65272 fa2 fx2 fy2 fs2 fp2 fc2 fd2 fb2 fz1 fz2 mem1 mem2 ug ud lt ct hd la bt kindsF waysF (xs (i + 1)) (xs (i + 2))), (f_L_run1_mem2 0 65248 fa1 fx1 fy1 fs1 fp1 fc1 fd1 fb1 1 65272 fa2 fx2 fy2 fs2 fp2 fc2 fd2 fb2 fz1 fz2 mem1 mem2 ug ud lt ct hd la bt kindsF waysF (xs (i + 1)) (xs (i + 2)))), ((f_L_run1_ug 0 65248 fa1 fx1 fy1 fs1 fp1 fc1 fd1 fb1 1 65272 fa2 fx2 fy2 fs2 fp2 fc2 fd2 fb2 fz1 fz2 mem1 mem2 ug ud lt ct hd la bt kindsF waysF (xs (i + 1)) (xs (i + 2))), (f_L_run1_ud 0 65248 fa1 fx1 fy1 fs1 fp1 fc1 fd1 fb1 1 65272 fa2 fx2 fy2 fs2 fp2 fc2 fd2 fb2 fz1 fz2 mem1 mem2 ug ud lt ct hd la bt kindsF waysF (xs (i + 1)) (xs (i + 2))), (f_L_run1_lt 0 65248 fa1 fx1 fy1 fs1 fp1 fc1 fd1 fb1 1 65272 fa2 fx2 fy2 fs2 fp2 fc2 fd2 fb2 fz1 fz2 mem1 mem2 ug ud lt ct hd la bt kindsF waysF (xs (i + 1)) (xs (i + 2))), (f_L_run1_ct 0 65248 fa1 fx1 fy1 fs1 fp1 fc1 fd1 fb1 1 65272 fa2 fx2 fy2 fs2 fp2 fc2 fd2 fb2 fz1 fz2 mem1 mem2 ug ud lt ct hd la bt kindsF waysF (xs (i + 1)) (xs (i + 2))), (f_L_run1_hd 0 65248 fa1 fx1 fy1 fs1 fp1 fc1 fd1 fb1 1 65272 fa2 fx2 fy2 fs2 fp2 fc2 fd2 fb2 fz1 fz2 mem1 mem2 ug ud lt ct hd la bt kindsF waysF (xs (i + 1)) (xs (i + 2))), (f_L_run1_la 0 65248 fa1 fx1 fy1 fs1 fp1 fc1 fd1 fb1 1 65272 fa2 fx2 fy2 fs2 fp2 fc2 fd2 fb2 fz1 fz2 mem1 mem2 ug ud lt ct hd la bt kindsF waysF (xs (i + 1)) (xs (i + 2))), (f_L_run1_bt 0 65248 fa1 fx1 fy1 fs1 fp1 fc1 fd1 fb1 1 65272 fa2 fx2 fy2 fs2 fp2 fc2 fd2 fb2 fz1 fz2 mem1 mem2 ug ud lt ct hd la bt kindsF waysF (xs (i + 1)) (xs (i + 2))))) ((f_X5_run_gB un ow ln mm gB gA gX gY gS gP gC gD gT gR gM gL (xs (i + 1)) (xs (i + 2))), (f_X5_run_gA un ow ln mm gB gA gX gY gS gP gC gD gT gR gM gL (xs (i + 1)) (xs (i + 2))), (f_X5_run_gX un ow ln mm gB gA gX gY gS gP gC gD gT gR gM gL (xs (i + 1)) (xs (i + 2))), (f_X5_run_gY un ow ln mm gB gA gX gY gS gP gC gD gT gR gM gL (xs (i + 1)) (xs (i + 2))), (f_X5_run_gS un ow ln mm gB gA gX gY gS gP gC gD gT gR gM gL (xs (i + 1)) (xs (i + 2))), (f_X5_run_gP un ow ln mm gB gA gX gY gS gP gC gD gT gR gM gL (xs (i + 1)) (xs (i + 2))), (f_X5_run_gC un ow ln mm gB gA gX gY gS gP gC gD gT gR gM gL (xs (i + 1)) (xs (i + 2))), (f_X5_run_gD un ow ln mm gB gA gX gY gS gP gC gD gT gR gM gL (xs (i + 1)) (xs (i + 2))), (f_X5_run_gT un ow ln mm gB gA gX gY gS gP gC gD gT gR gM gL (xs (i + 1)) (xs (i + 2))), (f_X5_run_gR un ow ln mm gB gA gX gY gS gP gC gD gT gR gM gL (xs (i + 1)) (xs (i + 2))), (f_X5_run_gM un ow ln mm gB gA gX gY gS gP gC gD gT gR gM gL (xs (i + 1)) (xs (i + 2))), (f_X5_run_gL un ow ln mm gB gA gX gY gS gP gC gD gT gR gM gL (xs (i + 1)) (xs (i + 2))), (f_X5_run_un un ow ln mm gB gA gX gY gS gP gC gD gT gR gM gL (xs (i + 1)) (xs (i + 2))), (f_X5_run_ow un ow ln mm gB gA gX gY gS gP gC gD gT gR gM gL (xs (i + 1)) (xs (i + 2))), (f_X5_run_ln un ow ln mm gB gA gX gY gS gP gC gD gT gR gM gL (xs (i + 1)) (xs (i + 2))), (f_X5_run_mm un ow ln mm gB gA gX gY gS gP gC gD gT gR gM gL (xs (i + 1)) (xs (i + 2)))) (f_L_run1_go 0 65248 fa1 fx1 fy1 fs1 fp1 fc1 fd1 fb1 1 65272 fa2 fx2 fy2 fs2 fp2 fc2 fd2 fb2 fz1 fz2 mem1 mem2 ug ud lt ct hd la bt kindsF waysF go (xs (i + 1)) (xs (i + 2))) else lawF xs n (i + 9) (((f_L_run1_fa1 0 65248 fa1 fx1 fy1 fs1 fp1 fc1 fd1 fb1 1 65272 fa2 fx2 fy2 fs2 fp2 fc2 fd2 fb2 fz1 fz2 mem1 mem2 ug ud lt ct hd la bt kindsF waysF (xs (i + 1)) (xs (i + 2))), (f_L_run1_fx1 0 65248 fa1 fx1 fy1 fs1 fp1 fc1 fd1 fb1 1 65272 fa2 fx2 fy2 fs2 fp2 fc2 fd2 fb2 fz1 fz2 mem1 mem2 ug ud lt ct hd la bt kindsF waysF (xs (i + 1)) (xs (i + 2))), (f_L_run1_fy1 0 65248 fa1 fx1 fy1 fs1 fp1 fc1 fd1 fb1 1 65272 fa2 fx2 fy2 fs2 fp2 fc2 fd2 fb2 fz1 fz2 mem1 mem2 ug ud lt ct hd la bt kindsF waysF (xs (i + 1)) (xs (i + 2))), (f_L_run1_fs1 0 65248 fa1 fx1 fy1 fs1 fp1 fc1 fd1 fb1 1 65272 fa2 fx2 fy2 fs2 fp2 fc2 fd2 fb2 fz1 fz2 mem1 mem2 ug ud lt ct hd la bt kindsF waysF (xs (i + 1)) (xs (i + 2))), (f_L_run1_fp1 0 65248 fa1 fx1 fy1 fs1 fp1 fc1 fd1 fb1 1 65272 fa2 fx2 fy2 fs2 fp2 fc2 fd2 fb2 fz1 fz2 mem1 mem2 ug ud lt ct hd la bt kindsF waysF (xs (i + 1)) (xs (i + 2))), (f_L_run1_fc1 0 65248 fa1 fx1 fy1 fs1 fp1 fc1 fd1 fb1 1 65272 fa2 fx2 fy2 fs2 fp2 fc2 fd2 fb2 fz1 fz2 mem1 mem2 ug ud lt ct hd la bt kindsF waysF (xs (i + 1)) (xs (i + 2))), (f_L_run1_fd1 0 65248 fa1 fx1 fy1 fs1 fp1 fc1 fd1 fb1 1 65272 fa2 fx2 fy2 fs2 fp2 fc2 fd2 fb2 fz1 fz2 mem1 mem2 ug ud lt ct hd la bt kindsF waysF (xs (i + 1)) (xs (i + 2))), (f_L_run1_fb1 0 65248 fa1 fx1 fy1 fs1 fp1 fc1 fd1 fb1 1 65272 fa2 fx2 fy2 fs2 fp2 fc2 fd2 fb2 fz1 fz2 mem1 mem2 ug ud lt ct hd la bt kindsF waysF (xs (i + 1)) (xs (i + 2))), (f_L_run1_fz1 0 65248 fa1 fx1 fy1 fs1 fp1 fc1 fd1 fb1 1 65272 fa2 fx2 fy2 fs2 fp2 fc2 fd2 fb2 fz1 fz2 mem1 mem2 ug ud lt ct hd la bt kindsF waysF (xs (i + 1)) (xs (i + 2))), (f_L_run1_mem1 0 65248 fa1 fx1 fy1 fs1 fp1 fc1 fd1 fb1 1 65272 fa2 fx2 fy2 fs2 fp2 fc2 fd2 fb2 fz1 fz2 mem1 mem2 ug ud lt ct hd la bt kindsF waysF (xs (i + 1)) (xs (i + 2)))), ((f_L_run1_fa2 0 65248 fa1 fx1 fy1 fs1 fp1 fc1 fd1 fb1 1 65272 fa2 fx2 fy2 fs2 fp2 fc2 fd2 fb2 fz1 fz2 mem1 mem2 ug ud lt ct hd la bt kindsF waysF (xs (i + 1)) (xs (i + 2))), (f_L_run1_fx2 0 65248 fa1 fx1 fy1 fs1 fp1 fc1 fd1 fb1 1 65272 fa2 fx2 fy2 fs2 fp2 fc2 fd2 fb2 fz1 fz2 mem1 mem2 ug ud lt ct hd la bt kindsF waysF (xs (i + 1)) (xs (i + 2))), (f_L_run1_fy2 0 65248 fa1 fx1 fy1 fs1 fp1 fc1 fd1 fb1 1 65272 fa2 fx2 fy2 fs2 fp2 fc2 fd2 fb2 fz1 fz2 mem1 mem2 ug ud lt ct hd la bt kindsF waysF (xs (i + 1)) (xs (i + 2))), (f_L_run1_fs2 0 65248 fa1 fx1 fy1 fs1 fp1 fc1 fd1 fb1 1 65272 fa2 fx2 fy2 fs2 fp2 fc2 fd2 fb2 fz1 fz2 mem1 mem2 ug ud lt ct hd la bt kindsF waysF (xs (i + 1)) (xs (i + 2))), (f_L_run1_fp2 0 65248 fa1 fx1 fy1 fs1 fp1 fc1 fd1 fb1 1 65272 fa2 fx2 fy2 fs2 fp2 fc2 fd2 fb2 fz1 fz2 mem1 mem2 ug ud lt ct hd la bt kindsF waysF (xs (i + 1)) (xs (i + 2))), (f_L_run1_fc2 0 65248 fa1 fx1 fy1 fs1 fp1 fc1 fd1 fb1 1 65272 fa2 fx2 fy2 fs2 fp2 fc2 fd2 fb2 fz1 fz2 mem1 mem2 ug ud lt ct hd la bt kindsF waysF (xs (i + 1)) (xs (i + 2))), (f_L_run1_fd2 0 65248 fa1 fx1 fy1 fs1 fp1 fc1 fd1 fb1 1 65272 fa2 fx2 fy2 fs2 fp2 fc2 fd2 fb2 fz1 fz2 mem1 mem2 ug ud lt ct hd la bt kindsF waysF (xs (i + 1)) (xs (i + 2))), (f_L_run1_fb2 0 65248 fa1 fx1 fy1 fs1 fp1 fc1 fd1 fb1 1 65272 fa2 fx2 fy2 fs2 fp2 fc2 fd2 fb2 fz1 fz2 mem1 mem2 ug ud lt ct hd la bt kindsF waysF (xs (i + 1)) (xs (i + 2))), (f_L_run1_fz2 0 65248 fa1 fx1 fy1 fs1 fp1 fc1 fd1 fb1 1 65272 fa2 fx2 fy2 fs2 fp2 fc2 fd2 fb2 fz1 fz2 mem1 mem2 ug ud lt ct hd la bt kindsF waysF (xs (i + 1)) (xs (i + 2))), (f_L_run1_mem2 0 65248 fa1 fx1 fy1 fs1 fp1 fc1 fd1 fb1 1 65272 fa2 fx2 fy2 fs2 fp2 fc2 fd2 fb2 fz1 fz2 mem1 mem2 ug ud lt ct hd la bt kindsF waysF (xs (i + 1)) (xs (i + 2)))), ((f_L_run1_ug 0 65248 fa1 fx1 fy1 fs1 fp1 fc1 fd1 fb1 1 65272 fa2 fx2 fy2 fs2 fp2 fc2 fd2 fb2 fz1 fz2 mem1 mem2 ug ud lt ct hd la bt kindsF waysF (xs (i + 1)) (xs (i + 2))), (f_L_run1_ud 0 65248 fa1 fx1 fy1 fs1 fp1 fc1 fd1 fb1 1 65272 fa2 fx2 fy2 fs2 fp2 fc2 fd2 fb2 fz1 fz2 mem1 mem2 ug ud lt ct hd la bt kindsF waysF (xs (i + 1)) (xs (i + 2))), (f_L_run1_lt 0 65248 fa1 fx1 fy1 fs1 fp1 fc1 fd1 fb1 1 65272 fa2 fx2 fy2 fs2 fp2 fc2 fd2 fb2 fz1 fz2 mem1 mem2 ug ud lt ct hd la bt kindsF waysF (xs (i + 1)) (xs (i + 2))), (f_L_run1_ct 0 65248 fa1 fx1 fy1 fs1 fp1 fc1 fd1 fb1 1 65272 fa2 fx2 fy2 fs2 fp2 fc2 fd2 fb2 fz1 fz2 mem1 mem2 ug ud lt ct hd la bt kindsF waysF (xs (i + 1)) (xs (i + 2))), (f_L_run1_hd 0 65248 fa1 fx1 fy1 fs1 fp1 fc1 fd1 fb1 1 65272 fa2 fx2 fy2 fs2 fp2 fc2 fd2 fb2 fz1 fz2 mem1 mem2 ug ud lt ct hd la bt kindsF waysF (xs (i + 1)) (xs (i + 2))), (f_L_run1_la 0 65248 fa1 fx1 fy1 fs1 fp1 fc1 fd1 fb1 1 65272 fa2 fx2 fy2 fs2 fp2 fc2 fd2 fb2 fz1 fz2 mem1 mem2 ug ud lt ct hd la bt kindsF waysF (xs (i + 1)) (xs (i + 2))), (f_L_run1_bt 0 65248 fa1 fx1 fy1 fs1 fp1 fc1 fd1 fb1 1 65272 fa2 fx2 fy2 fs2 fp2 fc2 fd2 fb2 fz1 fz2 mem1 mem2 ug ud lt ct hd la bt kindsF waysF (xs (i + 1)) (xs (i + 2))))) ((f_X5_run_gB un ow ln mm gB gA gX gY gS gP gC gD gT gR gM gL (xs (i + 1)) (xs (i + 2))), (f_X5_run_gA un ow ln mm gB gA gX gY gS gP gC gD gT gR gM gL (xs (i + 1)) (xs (i + 2))), (f_X5_run_gX un ow ln mm gB gA gX gY gS gP gC gD gT gR gM gL (xs (i + 1)) (xs (i + 2))), (f_X5_run_gY un ow ln mm gB gA gX gY gS gP gC gD gT gR gM gL (xs (i + 1)) (xs (i + 2))), (f_X5_run_gS un ow ln mm gB gA gX gY gS gP gC gD gT gR gM gL (xs (i + 1)) (xs (i + 2))), (f_X5_run_gP un ow ln mm gB gA gX gY gS gP gC gD gT gR gM gL (xs (i + 1)) (xs (i + 2))), (f_X5_run_gC un ow ln mm gB gA gX gY gS gP gC gD gT gR gM gL (xs (i + 1)) (xs (i + 2))), (f_X5_run_gD un ow ln mm gB gA gX gY gS gP gC gD gT gR gM gL (xs (i + 1)) (xs (i + 2))), (f_X5_run_gT un ow ln mm gB gA gX gY gS gP gC gD gT gR gM gL (xs (i + 1)) (xs (i + 2))), (f_X5_run_gR un ow ln mm gB gA gX gY gS gP gC gD gT gR gM gL (xs (i + 1)) (xs (i + 2))), (f_X5_run_gM un ow ln mm gB gA gX gY gS gP gC gD gT gR gM gL (xs (i + 1)) (xs (i + 2))), (f_X5_run_gL un ow ln mm gB gA gX gY gS gP gC gD gT gR gM gL (xs (i + 1)) (xs (i + 2))), (f_X5_run_un un ow ln mm gB gA gX gY gS gP gC gD gT gR gM gL (xs (i + 1)) (xs (i + 2))), (f_X5_run_ow un ow ln mm gB gA gX gY gS gP gC gD gT gR gM gL (xs (i + 1)) (xs (i + 2))), (f_X5_run_ln un ow ln mm gB gA gX gY gS gP gC gD gT gR gM gL (xs (i + 1)) (xs (i + 2))), (f_X5_run_mm un ow ln mm gB gA gX gY gS gP gC gD gT gR gM gL (xs (i + 1)) (xs (i + 2)))) (f_L_run1_go 0 65248 fa1 fx1 fy1 fs1 fp1 fc1 fd1 fb1 1 65272 fa2 fx2 fy2 fs2 fp2 fc2 fd2 fb2 fz1 fz2 mem1 mem2 ug ud lt ct hd la bt kindsF waysF go (xs (i + 1)) (xs (i + 2)))) else (if ((xs i) &&& 15) = 4 then (if (f_L_register_r (xs (i + 1)) (xs (i + 2))) = 0 then (if (lg_cmp ((f_L_register_go 0 fa1 fx1 fy1 fs1 fp1 fc1 fd1 1 fa2 fx2 fy2 fs2 fp2 fc2 fd2 ug ud go (xs (i + 1)) (xs (i + 2))) 0) ((f_X5_register_r gA gX gY gS gP gC gD (xs (i + 1)) (xs (i + 2))).toInt64)) = 0 then lawF xs n (i + 9) ((fa1, fx1, fy1, fs1, fp1, fc1, fd1, fb1, fz1, mem1), (fa2, fx2, fy2, fs2, fp2, fc2, fd2, fb2, fz2, mem2), (ug, ud, lt, ct, hd, la, bt)) (gB, gA, gX, gY, gS, gP, gC, gD, gT, gR, gM, gL, un, ow, ln, mm) (f_L_register_go 0 fa1 fx1 fy1 fs1 fp1 fc1 fd1 1 fa2 fx2 fy2 fs2 fp2 fc2 fd2 ug ud go (xs (i + 1)) (xs (i + 2))) else 0) else lawF xs n (i + 9) ((fa1, fx1, fy1, fs1, fp1, fc1, fd1, fb1, fz1, mem1), (fa2, fx2, fy2, fs2, fp2, fc2, fd2, fb2, fz2, mem2), (ug, ud, lt, ct, hd, la, bt)) (gB, gA, gX, gY, gS, gP, gC, gD, gT, gR, gM, gL, un, ow, ln, mm) (f_L_register_go 0 fa1 fx1 fy1 fs1 fp1 fc1 fd1 1 fa2 fx2 fy2 fs2 fp2 fc2 fd2 ug ud go (xs (i + 1)) (xs (i + 2)))) else (if ((xs i) &&& 15) = 5 then (if (f_L_port_r (xs (i + 1)) (xs (i + 2))) = 0 then lawF xs n (i + 9) ((fa1, fx1, fy1, fs1, fp1, fc1, fd1, fb1, fz1, mem1), (fa2, fx2, fy2, fs2, fp2, fc2, fd2, fb2, fz2, mem2), (ug, ud, lt, ct, hd, la, bt)) (gB, gA, gX, gY, gS, gP, gC, gD, gT, gR, gM, gL, un, ow, ln, mm) (f_L_port_go ug lt ct hd la bt go (xs (i + 1)) (xs (i + 2))) else lawF xs n (i + 9) ((fa1, fx1, fy1, fs1, fp1, fc1, fd1, fb1, fz1, mem1), (fa2, fx2, fy2, fs2, fp2, fc2, fd2, fb2, fz2, mem2), (ug, ud, lt, ct, hd, la, bt)) (gB, gA, gX, gY, gS, gP, gC, gD, gT, gR, gM, gL, un, ow, ln, mm) (f_L_port_go ug lt ct hd la bt go (xs (i + 1)) (xs (i + 2)))) else (if ((xs i) &&& 15) = 6 then (if (f_L_waits_r (xs (i + 1)) (xs (i + 2))) = 0 then lawF xs n (i + 9) ((fa1, fx1, fy1, fs1, fp1, fc1, fd1, fb1, fz1, mem1), (fa2, fx2, fy2, fs2, fp2, fc2, fd2, fb2, fz2, mem2), (ug, ud, lt, ct, hd, la, bt)) (gB, gA, gX, gY, gS, gP, gC, gD, gT, gR, gM, gL, un, ow, ln, mm) (f_L_waits_go ct go (xs (i + 1)) (xs (i + 2))) else lawF xs n (i + 9) ((fa1, fx1, fy1, fs1, fp1, fc1, fd1, fb1, fz1, mem1), (fa2, fx2, fy2, fs2, fp2, fc2, fd2, fb2, fz2, mem2), (ug, ud, lt, ct, hd, la, bt)) (gB, gA, gX, gY, gS, gP, gC, gD, gT, gR, gM, gL, un, ow, ln, mm) (f_L_waits_go ct go (xs (i + 1)) (xs (i + 2)))) else (if ((xs i) &&& 15) = 7 then (if (f_L_steps_r (xs (i + 1))) = 0 then lawF xs n (i + 9) ((fa1, fx1, fy1, fs1, fp1, fc1, fd1, fb1, fz1, mem1), (fa2, fx2, fy2, fs2, fp2, fc2, fd2, fb2, fz2, mem2), (ug, ud, lt, ct, hd, la, bt)) (gB, gA, gX, gY, gS, gP, gC, gD, gT, gR, gM, gL, un, ow, ln, mm) (f_L_steps_go fz1 fz2 go (xs (i + 1))) else lawF xs n (i + 9) ((fa1, fx1, fy1, fs1, fp1, fc1, fd1, fb1, fz1, mem1), (fa2, fx2, fy2, fs2, fp2, fc2, fd2, fb2, fz2, mem2), (ug, ud, lt, ct, hd, la, bt)) (gB, gA, gX, gY, gS, gP, gC, gD, gT, gR, gM, gL, un, ow, ln, mm) (f_L_steps_go fz1 fz2 go (xs (i + 1)))) else (if ((xs i) &&& 15) = 8 then lawF xs n (i + 9) ((f_X4_clear_fa1, f_X4_clear_fx1, f_X4_clear_fy1, f_X4_clear_fs1, f_X4_clear_fp1, f_X4_clear_fc1, f_X4_clear_fd1, f_X4_clear_fb1, f_X4_clear_fz1, f_X4_clear_mem1), (f_X4_clear_fa2, f_X4_clear_fx2, f_X4_clear_fy2, f_X4_clear_fs2, f_X4_clear_fp2, f_X4_clear_fc2, f_X4_clear_fd2, f_X4_clear_fb2, f_X4_clear_fz2, f_X4_clear_mem2), ((f_X4_clear_ug ug), f_X4_clear_ud, (f_X4_clear_lt ug lt), (f_X4_clear_ct ct), (f_X4_clear_hd hd), (f_X4_clear_la la), bt)) (f_X5_clear_gB, (f_X5_clear_gA gA), (f_X5_clear_gX gX), (f_X5_clear_gY gY), (f_X5_clear_gS gS), (f_X5_clear_gP gP), (f_X5_clear_gC gC), (f_X5_clear_gD gD), (f_X5_clear_gT gT), gR, (f_X5_clear_gM gM), (f_X5_clear_gL gL), f_X5_clear_un, f_X5_clear_ow, f_X5_clear_ln, mm) go else lawF xs n (i + 9) ((fa1, fx1, fy1, fs1, fp1, fc1, fd1, fb1, fz1, mem1), (fa2, fx2, fy2, fs2, fp2, fc2, fd2, fb2, fz2, mem2), (ug, ud, lt, ct, hd, la, bt)) (gB, gA, gX, gY, gS, gP, gC, gD, gT, gR, gM, gL, un, ow, ln, mm) go))))))))) = 1
    by_cases c0 : (xs i) &&& 15 = 0
    · rw [if_pos c0]; exact ih _ _ _ _ (rtL_load hRT) hk9
    rw [if_neg c0]
    by_cases c1 : (xs i) &&& 15 = 1
    · rw [if_pos c1]; split <;> exact ih _ _ _ _ hRT hk9
    rw [if_neg c1]
    by_cases c2 : (xs i) &&& 15 = 2
    · rw [if_pos c2]; exact ih _ _ _ _ (rtL_reset hRT) hk9
    rw [if_neg c2]
    by_cases c3 : (xs i) &&& 15 = 3
    · rw [if_pos c3]
      by_cases d : f_L_run1_r (xs (i + 1)) (xs (i + 2)) = 0
      · rw [if_pos d]; exact ih _ _ _ _ (rtL_run hRT) hk9
      · rw [if_neg d]; exact ih _ _ _ _ (rtL_run hRT) hk9
    rw [if_neg c3]
    by_cases c4 : (xs i) &&& 15 = 4
    · rw [if_pos c4]
      by_cases d : f_L_register_r (xs (i + 1)) (xs (i + 2)) = 0
      · rw [if_pos d, if_pos (vl_register hRT d (fun h => hk0 ⟨c4, h⟩))]; exact ih _ _ _ _ hRT hk9
      · rw [if_neg d]; exact ih _ _ _ _ hRT hk9
    rw [if_neg c4]
    by_cases c5 : (xs i) &&& 15 = 5
    · rw [if_pos c5]; split <;> exact ih _ _ _ _ hRT hk9
    rw [if_neg c5]
    by_cases c6 : (xs i) &&& 15 = 6
    · rw [if_pos c6]; split <;> exact ih _ _ _ _ hRT hk9
    rw [if_neg c6]
    by_cases c7 : (xs i) &&& 15 = 7
    · rw [if_pos c7]; split <;> exact ih _ _ _ _ hRT hk9
    rw [if_neg c7]
    by_cases c8 : (xs i) &&& 15 = 8
    · rw [if_pos c8]; exact ih _ _ _ _ (rt_clear hRT) hk9
    · rw [if_neg c8]; exact ih _ _ _ _ hRT hk9
theorem rf_only (l : Launch) (hnt : l.stackTraces = false) (b : Addr) (xs : List Int32) (hx : ∀ k, k < xs.length / 9 → ¬ rf_asks (fun j => xs.getD j 0) (9 * k)) : MetFree l x (headSpec (Jvm.Cond.code x code maxLocals ret :: tables_1) room_1) (lw_P b xs) (fun _ _ _ _ _ => True) (lw_Q 1) :=
  lw_walk l hnt b xs (lawF_one _ _ _ _ _ (rt_new lt0_l (fun _ _ => rfl)) (fun k h => by rw [Nat.zero_add]; exact hx k h))

