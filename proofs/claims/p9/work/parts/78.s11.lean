set_option maxRecDepth 100000 in
theorem SR_sw {mm mm' oa ox oy os op oc fa fx fy fs fp fc ug ud un ow : Int32} {om mem lt ct hd la gB gA gX gY gS gP gC gR gM gL : Nat → Int32} {bt : Nat → Nat → Int32} (k1 : mm'.toNatClampNeg = 1 - mm.toNatClampNeg) (k2 : mm.toNatClampNeg = 1 - mm'.toNatClampNeg)
    (h : SR mm oa ox oy os op oc om fa fx fy fs fp fc mem ug ud lt ct hd la bt gB gA gX gY gS gP gC gR gM gL un ow) (ba : s_b oa) (bx : s_b ox) (b_y : s_b oy) (bs : s_b os) (bp : s_p op) (bc : s_w oc) (bm : ∀ j, j < 4096 → s_b (om j)) :
    SR mm' fa fx fy fs fp fc mem oa ox oy os op oc om ug ud lt ct hd la bt gB gA gX gY gS gP gC gR gM gL un ow := by
  obtain ⟨hB, hA, hX, hY, hS, hP, hC, hF, hu⟩ := h
  refine ⟨fun j hj => ⟨by rw [k1]; exact (hB j hj).2.1, by rw [← k2]; exact (hB j hj).1, bm j hj⟩, ⟨by rw [k1]; exact hA.2.1, by rw [← k2]; exact hA.1, ba⟩, ⟨by rw [k1]; exact hX.2.1, by rw [← k2]; exact hX.1, bx⟩, ⟨by rw [k1]; exact hY.2.1, by rw [← k2]; exact hY.1, b_y⟩, ⟨by rw [k1]; exact hS.2.1, by rw [← k2]; exact hS.1, bs⟩, ⟨by rw [k1]; exact hP.2.1, by rw [← k2]; exact hP.1, bp⟩, ⟨by rw [k1]; exact hC.2.1, by rw [← k2]; exact hC.1, bc⟩, hF, hu⟩
set_option maxRecDepth 100000 in
theorem K0 : (0 : Int32).toNatClampNeg = 0 := by decide
set_option maxRecDepth 100000 in
theorem K1 : (1 : Int32).toNatClampNeg = 1 := by decide
set_option maxRecDepth 100000 in
/-- swapped: what is known of the other one comes from before -/
theorem SR_01 {oa ox oy os op oc fa fx fy fs fp fc ug ud un ow fa' fx' fy' fs' fp' fc' ug' ud' un' ow' : Int32} {om mem lt ct hd la gB gA gX gY gS gP gC gR gM gL mem' lt' ct' hd' la' gB' gA' gX' gY' gS' gP' gC' gR' gM' gL' : Nat → Int32} {bt bt' : Nat → Nat → Int32}
    (h : SR 0 oa ox oy os op oc om fa fx fy fs fp fc mem ug ud lt ct hd la bt gB gA gX gY gS gP gC gR gM gL un ow) (o : SR 1 fa' fx' fy' fs' fp' fc' mem' oa ox oy os op oc om ug' ud' lt' ct' hd' la' bt' gB' gA' gX' gY' gS' gP' gC' gR' gM' gL' un' ow') :
    SR 1 fa fx fy fs fp fc mem oa ox oy os op oc om ug ud lt ct hd la bt gB gA gX gY gS gP gC gR gM gL un ow :=
  SR_sw (by rw [K0, K1]) (by rw [K0, K1]) h o.2.1.2.2 o.2.2.1.2.2 o.2.2.2.1.2.2 o.2.2.2.2.1.2.2 o.2.2.2.2.2.1.2.2 o.2.2.2.2.2.2.1.2.2 (fun j hj => (o.1 j hj).2.2)
set_option maxRecDepth 100000 in
theorem SR_10 {oa ox oy os op oc fa fx fy fs fp fc ug ud un ow fa' fx' fy' fs' fp' fc' ug' ud' un' ow' : Int32} {om mem lt ct hd la gB gA gX gY gS gP gC gR gM gL mem' lt' ct' hd' la' gB' gA' gX' gY' gS' gP' gC' gR' gM' gL' : Nat → Int32} {bt bt' : Nat → Nat → Int32}
    (h : SR 1 oa ox oy os op oc om fa fx fy fs fp fc mem ug ud lt ct hd la bt gB gA gX gY gS gP gC gR gM gL un ow) (o : SR 0 fa' fx' fy' fs' fp' fc' mem' oa ox oy os op oc om ug' ud' lt' ct' hd' la' bt' gB' gA' gX' gY' gS' gP' gC' gR' gM' gL' un' ow') :
    SR 0 fa fx fy fs fp fc mem oa ox oy os op oc om ug ud lt ct hd la bt gB gA gX gY gS gP gC gR gM gL un ow :=
  SR_sw (by rw [K0, K1]) (by rw [K0, K1]) h o.2.1.2.2 o.2.2.1.2.2 o.2.2.2.1.2.2 o.2.2.2.2.1.2.2 o.2.2.2.2.2.1.2.2 o.2.2.2.2.2.2.1.2.2 (fun j hj => (o.1 j hj).2.2)
set_option maxRecDepth 100000 in
/-- the class's whole state and the reference's -/
def RT : CS → MS → Prop
  | ((fa1, fx1, fy1, fs1, fp1, fc1, fd1, fb1, fz1, mem1), (fa2, fx2, fy2, fs2, fp2, fc2, fd2, fb2, fz2, mem2), (ug, ud, lt, ct, hd, la, bt)), (gB, gA, gX, gY, gS, gP, gC, gD, gT, gR, gM, gL, un, ow, ln, mm) =>
    SR 0 fa2 fx2 fy2 fs2 fp2 fc2 mem2 fa1 fx1 fy1 fs1 fp1 fc1 mem1 ug ud lt ct hd la bt gB gA gX gY gS gP gC gR gM gL un ow ∧
    SR 1 fa1 fx1 fy1 fs1 fp1 fc1 mem1 fa2 fx2 fy2 fs2 fp2 fc2 mem2 ug ud lt ct hd la bt gB gA gX gY gS gP gC gR gM gL un ow ∧
    rr 0 gD fd1 fd2 ∧ wB fd1 ∧ wB fd2 ∧ rl 0 gT fz1 fz2 ∧ fb1 = 0 ∧ fb2 = ln
set_option maxRecDepth 100000 in
theorem sm0 : s_m 0 65248 := Or.inl ⟨rfl, rfl⟩
set_option maxRecDepth 100000 in
theorem sm1 : s_m 1 65272 := Or.inr ⟨rfl, rfl⟩
set_option maxRecDepth 100000 in
theorem rt_0 {x : CS} {y : MS} (h : RT x y) : RT (cs1 0 65248 kindsF waysF x) (mstep 0 y) := by
  obtain ⟨⟨fa1, fx1, fy1, fs1, fp1, fc1, fd1, fb1, fz1, mem1⟩, ⟨fa2, fx2, fy2, fs2, fp2, fc2, fd2, fb2, fz2, mem2⟩, ug, ud, lt, ct, hd, la, bt⟩ := x
  obtain ⟨gB, gA, gX, gY, gS, gP, gC, gD, gT, gR, gM, gL, un, ow, ln, mm⟩ := y
  obtain ⟨h0, h1, hD, w1, w2, hT, hb1, hb2⟩ := h
  have eu : un = ug := h0.2.2.2.2.2.2.2.1.1
  have eo : ow = ud := h0.2.2.2.2.2.2.2.1.2.1
  subst eu
  subst eo
  have st := st_0 (fz := fz1) (gT := gT) (ln := ln) sm0 rfl h0 hD w1 hT hb1
  obtain ⟨a1, a2, a3, a4, a5⟩ := st
  refine ⟨a1, SR_01 a1 h1, a2, a3, w2, a4, (a5.2 rfl).1, hb2.trans (a5.2 rfl).2.symm⟩
set_option maxRecDepth 100000 in
theorem rt_1 {x : CS} {y : MS} (h : RT x y) : RT (cs2 1 65272 kindsF waysF x) (mstep 1 y) := by
  obtain ⟨⟨fa1, fx1, fy1, fs1, fp1, fc1, fd1, fb1, fz1, mem1⟩, ⟨fa2, fx2, fy2, fs2, fp2, fc2, fd2, fb2, fz2, mem2⟩, ug, ud, lt, ct, hd, la, bt⟩ := x
  obtain ⟨gB, gA, gX, gY, gS, gP, gC, gD, gT, gR, gM, gL, un, ow, ln, mm⟩ := y
  obtain ⟨h0, h1, hD, w1, w2, hT, hb1, hb2⟩ := h
  have eu : un = ug := h0.2.2.2.2.2.2.2.1.1
  have eo : ow = ud := h0.2.2.2.2.2.2.2.1.2.1
  subst eu
  subst eo
  have hD1 : rr 1 gD fd2 fd1 := ⟨hD.2, hD.1⟩
  have hT1 : rl 1 gT fz2 fz1 := ⟨hT.2, hT.1⟩
  have st := st_1 (fz := fz2) (gT := gT) (ln := ln) sm1 rfl h1 hD1 w2 hT1 hb2
  obtain ⟨a1, a2, a3, a4, a5⟩ := st
  refine ⟨SR_10 a1 h0, a1, ⟨a2.2, a2.1⟩, w1, a3, ⟨a4.2, a4.1⟩, hb1, a5.1 rfl⟩
set_option maxRecDepth 100000 in
theorem rt_1n : ∀ (n : Nat) {x : CS} {y : MS}, RT x y → RT (cs2n 1 65272 kindsF waysF n x) (ms1n n y)
  | 0, _, _, h => h
  | n + 1, _, _, h => rt_1n n (rt_1 h)
set_option maxRecDepth 100000 in
/-- both stand, or not, in both -/
theorem rt_std {x : CS} {y : MS} (h : RT x y) : (¬ cstd 0 x.1 x.2.2 = 0 ∧ ¬ cstd 1 x.2.1 x.2.2 = 0) ↔ (¬ (y.2.2.2.2.2.2.2.1 0) = 0 ∧ ¬ (y.2.2.2.2.2.2.2.1 1) = 0 ∧ (y.2.2.2.2.2.2.2.2.2.2.2.2.2.1 = 0 ∨ ¬ (y.2.2.2.2.2.2.2.2.2.2.2.2.1 &&& 32) = 0)) := by
  obtain ⟨⟨fa1, fx1, fy1, fs1, fp1, fc1, fd1, fb1, fz1, mem1⟩, ⟨fa2, fx2, fy2, fs2, fp2, fc2, fd2, fb2, fz2, mem2⟩, ug, ud, lt, ct, hd, la, bt⟩ := x
  obtain ⟨gB, gA, gX, gY, gS, gP, gC, gD, gT, gR, gM, gL, un, ow, ln, mm⟩ := y
  obtain ⟨h0, h1, hD, w1, w2, hT, hb1, hb2⟩ := h
  have eu : un = ug := h0.2.2.2.2.2.2.2.1.1
  have eo : ow = ud := h0.2.2.2.2.2.2.2.1.2.1
  subst eu
  subst eo
  have d0 : gD 0 = fd1 := hD.1
  have d1 : gD 1 = fd2 := hD.2
  show (¬ f_X1_countsAsStanding_r 0 fd1 un ow = 0 ∧ ¬ f_X1_countsAsStanding_r 1 fd2 un ow = 0) ↔ (¬ gD 0 = 0 ∧ ¬ gD 1 = 0 ∧ (ow = 0 ∨ ¬ un &&& 32 = 0))
  rw [d0, d1]
  unfold f_X1_countsAsStanding_r
  rw [s_rc0, s_rc1, if_pos (show (0 : Int32) = 0 from rfl)]
  have n1 : ¬ (1 : Int32) = 0 := by decide
  by_cases c1 : fd1 = 0 <;> by_cases c2 : fd2 = 0 <;> by_cases c3 : ow = 0 <;> by_cases c4 : un &&& 32 = 0 <;> simp [c1, c2, c3, c4]
set_option maxRecDepth 100000 in
theorem rt_run (q : Nat) : ∀ (n : Nat) {x : CS} {y : MS}, RT x y → (crun 0 65248 1 65272 kindsF waysF q n x).1 = (mrun q n y).1 ∧ RT (crun 0 65248 1 65272 kindsF waysF q n x).2 (mrun q n y).2
  | 0, _, _, h => ⟨rfl, h⟩
  | n + 1, x, y, h => by
    have s := rt_std h
    unfold crun mrun
    by_cases c : ¬ cstd 0 x.1 x.2.2 = 0 ∧ ¬ cstd 1 x.2.1 x.2.2 = 0
    · rw [if_pos c, if_pos (s.mp c)]; exact ⟨rfl, h⟩
    · rw [if_neg c, if_neg (fun z => c (s.mpr z))]
      obtain ⟨a, b⟩ := rt_run q n (rt_1n q (rt_0 h))
      exact ⟨congrArg (· + 1) a, b⟩
