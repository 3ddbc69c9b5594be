/-! A step. -/
section LINES
variable {ug : Int32} {lt ct hd la : Nat → Int32} {bt : Nat → Nat → Int32} {gR gM gL : Nat → Int32}
set_option maxRecDepth 100000 in
theorem w_03 : f_X3_waiting_r ct 0 4 = ct 3 := by
  unfold f_X3_waiting_r
  rw [if_neg (show ¬ ((((0 : Int32) &&& 1) * 4) + (((4 : Int32) - 1) &&& 3)) = 0 by decide), if_neg (show ¬ ((((0 : Int32) &&& 1) * 4) + (((4 : Int32) - 1) &&& 3)) = 1 by decide), if_neg (show ¬ ((((0 : Int32) &&& 1) * 4) + (((4 : Int32) - 1) &&& 3)) = 2 by decide), if_pos (show ((((0 : Int32) &&& 1) * 4) + (((4 : Int32) - 1) &&& 3)) = 3 by decide)]
set_option maxRecDepth 100000 in
theorem w_14 : f_X3_waiting_r ct 1 1 = ct 4 := by
  unfold f_X3_waiting_r
  rw [if_neg (show ¬ ((((1 : Int32) &&& 1) * 4) + (((1 : Int32) - 1) &&& 3)) = 0 by decide), if_neg (show ¬ ((((1 : Int32) &&& 1) * 4) + (((1 : Int32) - 1) &&& 3)) = 1 by decide), if_neg (show ¬ ((((1 : Int32) &&& 1) * 4) + (((1 : Int32) - 1) &&& 3)) = 2 by decide), if_neg (show ¬ ((((1 : Int32) &&& 1) * 4) + (((1 : Int32) - 1) &&& 3)) = 3 by decide), if_pos (show ((((1 : Int32) &&& 1) * 4) + (((1 : Int32) - 1) &&& 3)) = 4 by decide)]
set_option maxRecDepth 100000 in
theorem w_16 : f_X3_waiting_r ct 1 3 = ct 6 := by
  unfold f_X3_waiting_r
  rw [if_neg (show ¬ ((((1 : Int32) &&& 1) * 4) + (((3 : Int32) - 1) &&& 3)) = 0 by decide), if_neg (show ¬ ((((1 : Int32) &&& 1) * 4) + (((3 : Int32) - 1) &&& 3)) = 1 by decide), if_neg (show ¬ ((((1 : Int32) &&& 1) * 4) + (((3 : Int32) - 1) &&& 3)) = 2 by decide), if_neg (show ¬ ((((1 : Int32) &&& 1) * 4) + (((3 : Int32) - 1) &&& 3)) = 3 by decide), if_neg (show ¬ ((((1 : Int32) &&& 1) * 4) + (((3 : Int32) - 1) &&& 3)) = 4 by decide), if_neg (show ¬ ((((1 : Int32) &&& 1) * 4) + (((3 : Int32) - 1) &&& 3)) = 5 by decide), if_pos (show ((((1 : Int32) &&& 1) * 4) + (((3 : Int32) - 1) &&& 3)) = 6 by decide)]
set_option maxRecDepth 100000 in
theorem w_17 : f_X3_waiting_r ct 1 4 = ct 7 := by
  unfold f_X3_waiting_r
  rw [if_neg (show ¬ ((((1 : Int32) &&& 1) * 4) + (((4 : Int32) - 1) &&& 3)) = 0 by decide), if_neg (show ¬ ((((1 : Int32) &&& 1) * 4) + (((4 : Int32) - 1) &&& 3)) = 1 by decide), if_neg (show ¬ ((((1 : Int32) &&& 1) * 4) + (((4 : Int32) - 1) &&& 3)) = 2 by decide), if_neg (show ¬ ((((1 : Int32) &&& 1) * 4) + (((4 : Int32) - 1) &&& 3)) = 3 by decide), if_neg (show ¬ ((((1 : Int32) &&& 1) * 4) + (((4 : Int32) - 1) &&& 3)) = 4 by decide), if_neg (show ¬ ((((1 : Int32) &&& 1) * 4) + (((4 : Int32) - 1) &&& 3)) = 5 by decide), if_neg (show ¬ ((((1 : Int32) &&& 1) * 4) + (((4 : Int32) - 1) &&& 3)) = 6 by decide)]
set_option maxRecDepth 100000 in
theorem s_on (u F : Int32) : (f_X3_isOn_r u F = 0) = (u &&& F = 0) := by
  unfold f_X3_isOn_r
  by_cases c : u &&& F = 0
  · rw [if_pos c]; exact propext ⟨fun _ => c, fun _ => rfl⟩
  · rw [if_neg c]; exact propext ⟨fun x => absurd x (by decide), fun x => absurd x c⟩
set_option maxRecDepth 100000 in
theorem s_nmi1 (h : ru ug lt ct hd la bt gR gM gL) : f_X3_nmi_r ug ct 1 = f_X5_hasSharpLine_r ug gM := by
  have e := (ru_c h (r := 6) (by decide)).1
  unfold f_X3_nmi_r f_X5_hasSharpLine_r
  simp only [s_on, w_16, e, if_true]
set_option maxRecDepth 100000 in
theorem s_nmi0 : f_X3_nmi_r ug ct 0 = 0 := by
  unfold f_X3_nmi_r
  rw [if_neg (show ¬ (0 : Int32) = 1 by decide)]
set_option maxRecDepth 100000 in
theorem s_irq {mm fo : Int32} (hm : s_m mm fo) (h : ru ug lt ct hd la bt gR gM gL) : f_X3_irq_r ug ct mm = f_X5_hasLine_r ug gM mm := by
  have e3 := (ru_c h (r := 3) (by decide)).1
  have e4 := (ru_c h (r := 4) (by decide)).1
  have e7 := (ru_c h (r := 7) (by decide)).1
  unfold f_X3_irq_r f_X5_hasLine_r
  simp only [s_on, w_03, w_14, w_17, e3, e4, e7]
end LINES
section BI
variable {fn fs fp fc fb ug : Int32} {mem ct : Nat → Int32}
set_option maxRecDepth 100000 in
theorem bi_A (h1 : ¬ f_X3_nmi_r ug ct fn = 0) (h2 : fb = 0) : f_X1_breaksIn_r fn fp fb ug ct = 1 ∧ f_X1_breaksIn_fs fn fs fp fb ug ct = f_X1_breakTo_fs fs ∧ f_X1_breaksIn_fp fn fp fb ug ct = f_X1_breakTo_fp fp ∧ f_X1_breaksIn_fc fn fs fp fc fb mem ug ct = f_X1_breakTo_fc fs mem 65530 fc fp ∧ f_X1_breaksIn_mem fn fs fp fc fb mem ug ct = f_X1_breakTo_mem fs mem fc fp := by
  unfold f_X1_breaksIn_r f_X1_breaksIn_fs f_X1_breaksIn_fp f_X1_breaksIn_fc f_X1_breaksIn_mem
  simp only [h1, h2, if_true, if_false]
  exact ⟨trivial, trivial, trivial, trivial, trivial⟩
set_option maxRecDepth 100000 in
theorem bi_B (h1 : f_X3_nmi_r ug ct fn = 0 ∨ ¬ fb = 0) (h2 : fp &&& 4 = 0) (h3 : ¬ f_X3_irq_r ug ct fn = 0) : f_X1_breaksIn_r fn fp fb ug ct = 1 ∧ f_X1_breaksIn_fs fn fs fp fb ug ct = f_X1_breakTo_fs fs ∧ f_X1_breaksIn_fp fn fp fb ug ct = f_X1_breakTo_fp fp ∧ f_X1_breaksIn_fc fn fs fp fc fb mem ug ct = f_X1_breakTo_fc fs mem 65534 fc fp ∧ f_X1_breaksIn_mem fn fs fp fc fb mem ug ct = f_X1_breakTo_mem fs mem fc fp := by
  unfold f_X1_breaksIn_r f_X1_breaksIn_fs f_X1_breaksIn_fp f_X1_breaksIn_fc f_X1_breaksIn_mem
  by_cases c : f_X3_nmi_r ug ct fn = 0
  · simp only [c, h2, h3, if_true, if_false]
    exact ⟨trivial, trivial, trivial, trivial, trivial⟩
  · have c2 : ¬ fb = 0 := h1.elim (fun x => absurd x c) id
    simp only [c, c2, h2, h3, if_true, if_false]
    exact ⟨trivial, trivial, trivial, trivial, trivial⟩
set_option maxRecDepth 100000 in
theorem bi_C (h1 : f_X3_nmi_r ug ct fn = 0 ∨ ¬ fb = 0) (h2 : ¬ fp &&& 4 = 0 ∨ f_X3_irq_r ug ct fn = 0) : f_X1_breaksIn_r fn fp fb ug ct = 0 ∧ f_X1_breaksIn_fs fn fs fp fb ug ct = fs ∧ f_X1_breaksIn_fp fn fp fb ug ct = fp ∧ f_X1_breaksIn_fc fn fs fp fc fb mem ug ct = fc ∧ f_X1_breaksIn_mem fn fs fp fc fb mem ug ct = mem := by
  unfold f_X1_breaksIn_r f_X1_breaksIn_fs f_X1_breaksIn_fp f_X1_breaksIn_fc f_X1_breaksIn_mem
  by_cases c : f_X3_nmi_r ug ct fn = 0 <;> by_cases d : fp &&& 4 = 0
  · have e : f_X3_irq_r ug ct fn = 0 := h2.elim (fun x => absurd d x) id
    simp only [c, d, e, if_true, if_false]
    exact ⟨trivial, trivial, trivial, trivial, trivial⟩
  · simp only [c, d, if_true, if_false]
    exact ⟨trivial, trivial, trivial, trivial, trivial⟩
  · have c2 : ¬ fb = 0 := h1.elim (fun x => absurd x c) id
    have e : f_X3_irq_r ug ct fn = 0 := h2.elim (fun x => absurd d x) id
    simp only [c, c2, d, e, if_true, if_false]
    exact ⟨trivial, trivial, trivial, trivial, trivial⟩
  · have c2 : ¬ fb = 0 := h1.elim (fun x => absurd x c) id
    simp only [c, c2, d, if_true, if_false]
    exact ⟨trivial, trivial, trivial, trivial, trivial⟩
end BI
set_option maxRecDepth 100000 in
theorem cs_reset_fa {fn fo fa fx fy fs fp fc fd fb ug ud : Int32} {mem lt ct hd la kf wf : Nat → Int32} {bt : Nat → Nat → Int32} (h1 : ¬ (f_X3_resetComes_r ug ud fn) = 0) : f_X1_step_fa fn fo fa fx fy fs fp fc fd fb mem ug ud lt ct hd la bt kf wf = fa := by unfold f_X1_step_fa; rw [if_neg h1]
set_option maxRecDepth 100000 in
theorem cs_reset_fx {fn fo fa fx fy fs fp fc fd fb ug ud : Int32} {mem lt ct hd la kf wf : Nat → Int32} {bt : Nat → Nat → Int32} (h1 : ¬ (f_X3_resetComes_r ug ud fn) = 0) : f_X1_step_fx fn fo fa fx fy fs fp fc fd fb mem ug ud lt ct hd la bt kf wf = fx := by unfold f_X1_step_fx; rw [if_neg h1]
set_option maxRecDepth 100000 in
theorem cs_reset_fy {fn fo fa fx fy fs fp fc fd fb ug ud : Int32} {mem lt ct hd la kf wf : Nat → Int32} {bt : Nat → Nat → Int32} (h1 : ¬ (f_X3_resetComes_r ug ud fn) = 0) : f_X1_step_fy fn fo fa fx fy fs fp fc fd fb mem ug ud lt ct hd la bt kf wf = fy := by unfold f_X1_step_fy; rw [if_neg h1]
set_option maxRecDepth 100000 in
theorem cs_reset_fs {fn fo fx fs fp fc fd fb ug ud : Int32} {mem lt ct hd la kf : Nat → Int32} {bt : Nat → Nat → Int32} (h1 : ¬ (f_X3_resetComes_r ug ud fn) = 0) : f_X1_step_fs fn fo fx fs fp fc fd fb mem ug ud lt ct hd la bt kf = f_X1_restart_fs := by unfold f_X1_step_fs; rw [if_neg h1]
set_option maxRecDepth 100000 in
theorem cs_reset_fp {fn fo fa fx fy fs fp fc fd fb ug ud : Int32} {mem lt ct hd la kf wf : Nat → Int32} {bt : Nat → Nat → Int32} (h1 : ¬ (f_X3_resetComes_r ug ud fn) = 0) : f_X1_step_fp fn fo fa fx fy fs fp fc fd fb mem ug ud lt ct hd la bt kf wf = (f_X1_restart_fp fp) := by unfold f_X1_step_fp; rw [if_neg h1]
set_option maxRecDepth 100000 in
theorem cs_reset_fc {fn fo fx fy fs fp fc fd fb ug ud : Int32} {mem lt ct hd la kf wf : Nat → Int32} {bt : Nat → Nat → Int32} (h1 : ¬ (f_X3_resetComes_r ug ud fn) = 0) : f_X1_step_fc fn fo fx fy fs fp fc fd fb mem ug ud lt ct hd la bt kf wf = (f_X1_restart_fc mem) := by unfold f_X1_step_fc; rw [if_neg h1]
set_option maxRecDepth 100000 in
theorem cs_reset_fd {fn fo fs fp fc fd fb ug ud : Int32} {mem lt ct hd la kf : Nat → Int32} {bt : Nat → Nat → Int32} (h1 : ¬ (f_X3_resetComes_r ug ud fn) = 0) : f_X1_step_fd fn fo fs fp fc fd fb mem ug ud lt ct hd la bt kf = f_X1_restart_fd := by unfold f_X1_step_fd; rw [if_neg h1]
set_option maxRecDepth 100000 in
theorem cs_reset_fb {fn fd fb ug ud : Int32} {ct : Nat → Int32} (h1 : ¬ (f_X3_resetComes_r ug ud fn) = 0) : f_X1_step_fb fn fd fb ug ud ct = (f_X1_restart_fb fn ug ct) := by unfold f_X1_step_fb; rw [if_neg h1]
set_option maxRecDepth 100000 in
theorem cs_reset_fz {fn fd ug ud : Int32} {fz : Int64} (h1 : ¬ (f_X3_resetComes_r ug ud fn) = 0) : f_X1_step_fz fn fd fz ug ud = (fz + 1) := by unfold f_X1_step_fz; rw [if_neg h1]
set_option maxRecDepth 100000 in
theorem cs_reset_mem {fn fo fa fx fy fs fp fc fd fb ug ud : Int32} {mem lt ct hd la kf wf : Nat → Int32} {bt : Nat → Nat → Int32} (h1 : ¬ (f_X3_resetComes_r ug ud fn) = 0) : f_X1_step_mem fn fo fa fx fy fs fp fc fd fb mem ug ud lt ct hd la bt kf wf = mem := by unfold f_X1_step_mem; rw [if_neg h1]
set_option maxRecDepth 100000 in
theorem cs_reset_ug {fn fo fa fx fy fs fp fc fd fb ug ud : Int32} {mem lt ct hd la kf wf : Nat → Int32} {bt : Nat → Nat → Int32} (h1 : ¬ (f_X3_resetComes_r ug ud fn) = 0) : f_X1_step_ug fn fo fa fx fy fs fp fc fd fb mem ug ud lt ct hd la bt kf wf = ug := by unfold f_X1_step_ug; rw [if_neg h1]
set_option maxRecDepth 100000 in
theorem cs_reset_ud {fn fo fa fx fy fs fp fc fd fb ug ud : Int32} {mem lt ct hd la kf wf : Nat → Int32} {bt : Nat → Nat → Int32} (h1 : ¬ (f_X3_resetComes_r ug ud fn) = 0) : f_X1_step_ud fn fo fa fx fy fs fp fc fd fb mem ug ud lt ct hd la bt kf wf = f_X3_endReset_ud := by unfold f_X1_step_ud; rw [if_neg h1]
set_option maxRecDepth 100000 in
theorem cs_reset_lt {fn fo fa fx fy fs fp fc fd fb ug ud : Int32} {mem lt ct hd la kf wf : Nat → Int32} {bt : Nat → Nat → Int32} (h1 : ¬ (f_X3_resetComes_r ug ud fn) = 0) : f_X1_step_lt fn fo fa fx fy fs fp fc fd fb mem ug ud lt ct hd la bt kf wf = lt := by unfold f_X1_step_lt; rw [if_neg h1]
set_option maxRecDepth 100000 in
theorem cs_reset_ct {fn fo fx fy fs fp fc fd fb ug ud : Int32} {mem lt ct hd la kf wf : Nat → Int32} {bt : Nat → Nat → Int32} (h1 : ¬ (f_X3_resetComes_r ug ud fn) = 0) : f_X1_step_ct fn fo fx fy fs fp fc fd fb mem ug ud lt ct hd la bt kf wf = ct := by unfold f_X1_step_ct; rw [if_neg h1]
set_option maxRecDepth 100000 in
theorem cs_reset_hd {fn fo fx fy fs fp fc fd fb ug ud : Int32} {mem lt ct hd la kf wf : Nat → Int32} {bt : Nat → Nat → Int32} (h1 : ¬ (f_X3_resetComes_r ug ud fn) = 0) : f_X1_step_hd fn fo fx fy fs fp fc fd fb mem ug ud lt ct hd la bt kf wf = hd := by unfold f_X1_step_hd; rw [if_neg h1]
set_option maxRecDepth 100000 in
theorem cs_reset_la {fn fo fx fy fs fp fc fd fb ug ud : Int32} {mem lt ct hd la kf wf : Nat → Int32} {bt : Nat → Nat → Int32} (h1 : ¬ (f_X3_resetComes_r ug ud fn) = 0) : f_X1_step_la fn fo fx fy fs fp fc fd fb mem ug ud lt ct hd la bt kf wf = la := by unfold f_X1_step_la; rw [if_neg h1]
set_option maxRecDepth 100000 in
theorem cs_reset_bt {fn fo fa fx fy fs fp fc fd fb ug ud : Int32} {mem lt ct hd la kf wf : Nat → Int32} {bt : Nat → Nat → Int32} (h1 : ¬ (f_X3_resetComes_r ug ud fn) = 0) : f_X1_step_bt fn fo fa fx fy fs fp fc fd fb mem ug ud lt ct hd la bt kf wf = bt := by unfold f_X1_step_bt; rw [if_neg h1]
set_option maxRecDepth 100000 in
theorem cs_stay_fa {fn fo fa fx fy fs fp fc fd fb ug ud : Int32} {mem lt ct hd la kf wf : Nat → Int32} {bt : Nat → Nat → Int32} (h1 : (f_X3_resetComes_r ug ud fn) = 0) (h2 : ¬ fd = 0) : f_X1_step_fa fn fo fa fx fy fs fp fc fd fb mem ug ud lt ct hd la bt kf wf = fa := by unfold f_X1_step_fa; rw [if_pos h1, if_neg h2]
set_option maxRecDepth 100000 in
theorem cs_stay_fx {fn fo fa fx fy fs fp fc fd fb ug ud : Int32} {mem lt ct hd la kf wf : Nat → Int32} {bt : Nat → Nat → Int32} (h1 : (f_X3_resetComes_r ug ud fn) = 0) (h2 : ¬ fd = 0) : f_X1_step_fx fn fo fa fx fy fs fp fc fd fb mem ug ud lt ct hd la bt kf wf = fx := by unfold f_X1_step_fx; rw [if_pos h1, if_neg h2]
set_option maxRecDepth 100000 in
theorem cs_stay_fy {fn fo fa fx fy fs fp fc fd fb ug ud : Int32} {mem lt ct hd la kf wf : Nat → Int32} {bt : Nat → Nat → Int32} (h1 : (f_X3_resetComes_r ug ud fn) = 0) (h2 : ¬ fd = 0) : f_X1_step_fy fn fo fa fx fy fs fp fc fd fb mem ug ud lt ct hd la bt kf wf = fy := by unfold f_X1_step_fy; rw [if_pos h1, if_neg h2]
set_option maxRecDepth 100000 in
theorem cs_stay_fs {fn fo fx fs fp fc fd fb ug ud : Int32} {mem lt ct hd la kf : Nat → Int32} {bt : Nat → Nat → Int32} (h1 : (f_X3_resetComes_r ug ud fn) = 0) (h2 : ¬ fd = 0) : f_X1_step_fs fn fo fx fs fp fc fd fb mem ug ud lt ct hd la bt kf = fs := by unfold f_X1_step_fs; rw [if_pos h1, if_neg h2]
set_option maxRecDepth 100000 in
theorem cs_stay_fp {fn fo fa fx fy fs fp fc fd fb ug ud : Int32} {mem lt ct hd la kf wf : Nat → Int32} {bt : Nat → Nat → Int32} (h1 : (f_X3_resetComes_r ug ud fn) = 0) (h2 : ¬ fd = 0) : f_X1_step_fp fn fo fa fx fy fs fp fc fd fb mem ug ud lt ct hd la bt kf wf = fp := by unfold f_X1_step_fp; rw [if_pos h1, if_neg h2]
set_option maxRecDepth 100000 in
theorem cs_stay_fc {fn fo fx fy fs fp fc fd fb ug ud : Int32} {mem lt ct hd la kf wf : Nat → Int32} {bt : Nat → Nat → Int32} (h1 : (f_X3_resetComes_r ug ud fn) = 0) (h2 : ¬ fd = 0) : f_X1_step_fc fn fo fx fy fs fp fc fd fb mem ug ud lt ct hd la bt kf wf = fc := by unfold f_X1_step_fc; rw [if_pos h1, if_neg h2]
set_option maxRecDepth 100000 in
theorem cs_stay_fd {fn fo fs fp fc fd fb ug ud : Int32} {mem lt ct hd la kf : Nat → Int32} {bt : Nat → Nat → Int32} (h1 : (f_X3_resetComes_r ug ud fn) = 0) (h2 : ¬ fd = 0) : f_X1_step_fd fn fo fs fp fc fd fb mem ug ud lt ct hd la bt kf = fd := by unfold f_X1_step_fd; rw [if_pos h1, if_neg h2]
set_option maxRecDepth 100000 in
theorem cs_stay_fb {fn fd fb ug ud : Int32} {ct : Nat → Int32} (h1 : (f_X3_resetComes_r ug ud fn) = 0) (h2 : ¬ fd = 0) : f_X1_step_fb fn fd fb ug ud ct = fb := by unfold f_X1_step_fb; rw [if_pos h1, if_neg h2]
set_option maxRecDepth 100000 in
theorem cs_stay_fz {fn fd ug ud : Int32} {fz : Int64} (h1 : (f_X3_resetComes_r ug ud fn) = 0) (h2 : ¬ fd = 0) : f_X1_step_fz fn fd fz ug ud = fz := by unfold f_X1_step_fz; rw [if_pos h1, if_neg h2]
set_option maxRecDepth 100000 in
theorem cs_stay_mem {fn fo fa fx fy fs fp fc fd fb ug ud : Int32} {mem lt ct hd la kf wf : Nat → Int32} {bt : Nat → Nat → Int32} (h1 : (f_X3_resetComes_r ug ud fn) = 0) (h2 : ¬ fd = 0) : f_X1_step_mem fn fo fa fx fy fs fp fc fd fb mem ug ud lt ct hd la bt kf wf = mem := by unfold f_X1_step_mem; rw [if_pos h1, if_neg h2]
set_option maxRecDepth 100000 in
theorem cs_stay_ug {fn fo fa fx fy fs fp fc fd fb ug ud : Int32} {mem lt ct hd la kf wf : Nat → Int32} {bt : Nat → Nat → Int32} (h1 : (f_X3_resetComes_r ug ud fn) = 0) (h2 : ¬ fd = 0) : f_X1_step_ug fn fo fa fx fy fs fp fc fd fb mem ug ud lt ct hd la bt kf wf = ug := by unfold f_X1_step_ug; rw [if_pos h1, if_neg h2]
set_option maxRecDepth 100000 in
theorem cs_stay_ud {fn fo fa fx fy fs fp fc fd fb ug ud : Int32} {mem lt ct hd la kf wf : Nat → Int32} {bt : Nat → Nat → Int32} (h1 : (f_X3_resetComes_r ug ud fn) = 0) (h2 : ¬ fd = 0) : f_X1_step_ud fn fo fa fx fy fs fp fc fd fb mem ug ud lt ct hd la bt kf wf = ud := by unfold f_X1_step_ud; rw [if_pos h1, if_neg h2]
set_option maxRecDepth 100000 in
theorem cs_stay_lt {fn fo fa fx fy fs fp fc fd fb ug ud : Int32} {mem lt ct hd la kf wf : Nat → Int32} {bt : Nat → Nat → Int32} (h1 : (f_X3_resetComes_r ug ud fn) = 0) (h2 : ¬ fd = 0) : f_X1_step_lt fn fo fa fx fy fs fp fc fd fb mem ug ud lt ct hd la bt kf wf = lt := by unfold f_X1_step_lt; rw [if_pos h1, if_neg h2]
set_option maxRecDepth 100000 in
theorem cs_stay_ct {fn fo fx fy fs fp fc fd fb ug ud : Int32} {mem lt ct hd la kf wf : Nat → Int32} {bt : Nat → Nat → Int32} (h1 : (f_X3_resetComes_r ug ud fn) = 0) (h2 : ¬ fd = 0) : f_X1_step_ct fn fo fx fy fs fp fc fd fb mem ug ud lt ct hd la bt kf wf = ct := by unfold f_X1_step_ct; rw [if_pos h1, if_neg h2]
set_option maxRecDepth 100000 in
theorem cs_stay_hd {fn fo fx fy fs fp fc fd fb ug ud : Int32} {mem lt ct hd la kf wf : Nat → Int32} {bt : Nat → Nat → Int32} (h1 : (f_X3_resetComes_r ug ud fn) = 0) (h2 : ¬ fd = 0) : f_X1_step_hd fn fo fx fy fs fp fc fd fb mem ug ud lt ct hd la bt kf wf = hd := by unfold f_X1_step_hd; rw [if_pos h1, if_neg h2]
set_option maxRecDepth 100000 in
theorem cs_stay_la {fn fo fx fy fs fp fc fd fb ug ud : Int32} {mem lt ct hd la kf wf : Nat → Int32} {bt : Nat → Nat → Int32} (h1 : (f_X3_resetComes_r ug ud fn) = 0) (h2 : ¬ fd = 0) : f_X1_step_la fn fo fx fy fs fp fc fd fb mem ug ud lt ct hd la bt kf wf = la := by unfold f_X1_step_la; rw [if_pos h1, if_neg h2]
set_option maxRecDepth 100000 in
theorem cs_stay_bt {fn fo fa fx fy fs fp fc fd fb ug ud : Int32} {mem lt ct hd la kf wf : Nat → Int32} {bt : Nat → Nat → Int32} (h1 : (f_X3_resetComes_r ug ud fn) = 0) (h2 : ¬ fd = 0) : f_X1_step_bt fn fo fa fx fy fs fp fc fd fb mem ug ud lt ct hd la bt kf wf = bt := by unfold f_X1_step_bt; rw [if_pos h1, if_neg h2]
set_option maxRecDepth 100000 in
theorem cs_held_fa {fn fo fa fx fy fs fp fc fd fb ug ud : Int32} {mem lt ct hd la kf wf : Nat → Int32} {bt : Nat → Nat → Int32} (h1 : (f_X3_resetComes_r ug ud fn) = 0) (h2 : fd = 0) (h3 : ¬ (f_X3_holds_r ug fn) = 0) : f_X1_step_fa fn fo fa fx fy fs fp fc fd fb mem ug ud lt ct hd la bt kf wf = fa := by unfold f_X1_step_fa; rw [if_pos h1, if_pos h2, if_neg h3]
set_option maxRecDepth 100000 in
theorem cs_held_fx {fn fo fa fx fy fs fp fc fd fb ug ud : Int32} {mem lt ct hd la kf wf : Nat → Int32} {bt : Nat → Nat → Int32} (h1 : (f_X3_resetComes_r ug ud fn) = 0) (h2 : fd = 0) (h3 : ¬ (f_X3_holds_r ug fn) = 0) : f_X1_step_fx fn fo fa fx fy fs fp fc fd fb mem ug ud lt ct hd la bt kf wf = fx := by unfold f_X1_step_fx; rw [if_pos h1, if_pos h2, if_neg h3]
set_option maxRecDepth 100000 in
theorem cs_held_fy {fn fo fa fx fy fs fp fc fd fb ug ud : Int32} {mem lt ct hd la kf wf : Nat → Int32} {bt : Nat → Nat → Int32} (h1 : (f_X3_resetComes_r ug ud fn) = 0) (h2 : fd = 0) (h3 : ¬ (f_X3_holds_r ug fn) = 0) : f_X1_step_fy fn fo fa fx fy fs fp fc fd fb mem ug ud lt ct hd la bt kf wf = fy := by unfold f_X1_step_fy; rw [if_pos h1, if_pos h2, if_neg h3]
set_option maxRecDepth 100000 in
theorem cs_held_fs {fn fo fx fs fp fc fd fb ug ud : Int32} {mem lt ct hd la kf : Nat → Int32} {bt : Nat → Nat → Int32} (h1 : (f_X3_resetComes_r ug ud fn) = 0) (h2 : fd = 0) (h3 : ¬ (f_X3_holds_r ug fn) = 0) : f_X1_step_fs fn fo fx fs fp fc fd fb mem ug ud lt ct hd la bt kf = fs := by unfold f_X1_step_fs; rw [if_pos h1, if_pos h2, if_neg h3]
set_option maxRecDepth 100000 in
theorem cs_held_fp {fn fo fa fx fy fs fp fc fd fb ug ud : Int32} {mem lt ct hd la kf wf : Nat → Int32} {bt : Nat → Nat → Int32} (h1 : (f_X3_resetComes_r ug ud fn) = 0) (h2 : fd = 0) (h3 : ¬ (f_X3_holds_r ug fn) = 0) : f_X1_step_fp fn fo fa fx fy fs fp fc fd fb mem ug ud lt ct hd la bt kf wf = fp := by unfold f_X1_step_fp; rw [if_pos h1, if_pos h2, if_neg h3]
set_option maxRecDepth 100000 in
theorem cs_held_fc {fn fo fx fy fs fp fc fd fb ug ud : Int32} {mem lt ct hd la kf wf : Nat → Int32} {bt : Nat → Nat → Int32} (h1 : (f_X3_resetComes_r ug ud fn) = 0) (h2 : fd = 0) (h3 : ¬ (f_X3_holds_r ug fn) = 0) : f_X1_step_fc fn fo fx fy fs fp fc fd fb mem ug ud lt ct hd la bt kf wf = fc := by unfold f_X1_step_fc; rw [if_pos h1, if_pos h2, if_neg h3]
set_option maxRecDepth 100000 in
theorem cs_held_fd {fn fo fs fp fc fd fb ug ud : Int32} {mem lt ct hd la kf : Nat → Int32} {bt : Nat → Nat → Int32} (h1 : (f_X3_resetComes_r ug ud fn) = 0) (h2 : fd = 0) (h3 : ¬ (f_X3_holds_r ug fn) = 0) : f_X1_step_fd fn fo fs fp fc fd fb mem ug ud lt ct hd la bt kf = fd := by unfold f_X1_step_fd; rw [if_pos h1, if_pos h2, if_neg h3]
set_option maxRecDepth 100000 in
theorem cs_held_fb {fn fd fb ug ud : Int32} {ct : Nat → Int32} (h1 : (f_X3_resetComes_r ug ud fn) = 0) (h2 : fd = 0) (h3 : ¬ (f_X3_holds_r ug fn) = 0) : f_X1_step_fb fn fd fb ug ud ct = fb := by unfold f_X1_step_fb; rw [if_pos h1, if_pos h2, if_neg h3]
set_option maxRecDepth 100000 in
theorem cs_held_fz {fn fd ug ud : Int32} {fz : Int64} (h1 : (f_X3_resetComes_r ug ud fn) = 0) (h2 : fd = 0) (h3 : ¬ (f_X3_holds_r ug fn) = 0) : f_X1_step_fz fn fd fz ug ud = fz := by unfold f_X1_step_fz; rw [if_pos h1, if_pos h2, if_neg h3]
set_option maxRecDepth 100000 in
theorem cs_held_mem {fn fo fa fx fy fs fp fc fd fb ug ud : Int32} {mem lt ct hd la kf wf : Nat → Int32} {bt : Nat → Nat → Int32} (h1 : (f_X3_resetComes_r ug ud fn) = 0) (h2 : fd = 0) (h3 : ¬ (f_X3_holds_r ug fn) = 0) : f_X1_step_mem fn fo fa fx fy fs fp fc fd fb mem ug ud lt ct hd la bt kf wf = mem := by unfold f_X1_step_mem; rw [if_pos h1, if_pos h2, if_neg h3]
set_option maxRecDepth 100000 in
theorem cs_held_ug {fn fo fa fx fy fs fp fc fd fb ug ud : Int32} {mem lt ct hd la kf wf : Nat → Int32} {bt : Nat → Nat → Int32} (h1 : (f_X3_resetComes_r ug ud fn) = 0) (h2 : fd = 0) (h3 : ¬ (f_X3_holds_r ug fn) = 0) : f_X1_step_ug fn fo fa fx fy fs fp fc fd fb mem ug ud lt ct hd la bt kf wf = ug := by unfold f_X1_step_ug; rw [if_pos h1, if_pos h2, if_neg h3]
set_option maxRecDepth 100000 in
theorem cs_held_ud {fn fo fa fx fy fs fp fc fd fb ug ud : Int32} {mem lt ct hd la kf wf : Nat → Int32} {bt : Nat → Nat → Int32} (h1 : (f_X3_resetComes_r ug ud fn) = 0) (h2 : fd = 0) (h3 : ¬ (f_X3_holds_r ug fn) = 0) : f_X1_step_ud fn fo fa fx fy fs fp fc fd fb mem ug ud lt ct hd la bt kf wf = ud := by unfold f_X1_step_ud; rw [if_pos h1, if_pos h2, if_neg h3]
set_option maxRecDepth 100000 in
theorem cs_held_lt {fn fo fa fx fy fs fp fc fd fb ug ud : Int32} {mem lt ct hd la kf wf : Nat → Int32} {bt : Nat → Nat → Int32} (h1 : (f_X3_resetComes_r ug ud fn) = 0) (h2 : fd = 0) (h3 : ¬ (f_X3_holds_r ug fn) = 0) : f_X1_step_lt fn fo fa fx fy fs fp fc fd fb mem ug ud lt ct hd la bt kf wf = lt := by unfold f_X1_step_lt; rw [if_pos h1, if_pos h2, if_neg h3]
set_option maxRecDepth 100000 in
theorem cs_held_ct {fn fo fx fy fs fp fc fd fb ug ud : Int32} {mem lt ct hd la kf wf : Nat → Int32} {bt : Nat → Nat → Int32} (h1 : (f_X3_resetComes_r ug ud fn) = 0) (h2 : fd = 0) (h3 : ¬ (f_X3_holds_r ug fn) = 0) : f_X1_step_ct fn fo fx fy fs fp fc fd fb mem ug ud lt ct hd la bt kf wf = ct := by unfold f_X1_step_ct; rw [if_pos h1, if_pos h2, if_neg h3]
set_option maxRecDepth 100000 in
theorem cs_held_hd {fn fo fx fy fs fp fc fd fb ug ud : Int32} {mem lt ct hd la kf wf : Nat → Int32} {bt : Nat → Nat → Int32} (h1 : (f_X3_resetComes_r ug ud fn) = 0) (h2 : fd = 0) (h3 : ¬ (f_X3_holds_r ug fn) = 0) : f_X1_step_hd fn fo fx fy fs fp fc fd fb mem ug ud lt ct hd la bt kf wf = hd := by unfold f_X1_step_hd; rw [if_pos h1, if_pos h2, if_neg h3]
set_option maxRecDepth 100000 in
theorem cs_held_la {fn fo fx fy fs fp fc fd fb ug ud : Int32} {mem lt ct hd la kf wf : Nat → Int32} {bt : Nat → Nat → Int32} (h1 : (f_X3_resetComes_r ug ud fn) = 0) (h2 : fd = 0) (h3 : ¬ (f_X3_holds_r ug fn) = 0) : f_X1_step_la fn fo fx fy fs fp fc fd fb mem ug ud lt ct hd la bt kf wf = la := by unfold f_X1_step_la; rw [if_pos h1, if_pos h2, if_neg h3]
set_option maxRecDepth 100000 in
theorem cs_held_bt {fn fo fa fx fy fs fp fc fd fb ug ud : Int32} {mem lt ct hd la kf wf : Nat → Int32} {bt : Nat → Nat → Int32} (h1 : (f_X3_resetComes_r ug ud fn) = 0) (h2 : fd = 0) (h3 : ¬ (f_X3_holds_r ug fn) = 0) : f_X1_step_bt fn fo fa fx fy fs fp fc fd fb mem ug ud lt ct hd la bt kf wf = bt := by unfold f_X1_step_bt; rw [if_pos h1, if_pos h2, if_neg h3]
set_option maxRecDepth 100000 in
theorem cs_brk_fa {fn fo fa fx fy fs fp fc fd fb ug ud : Int32} {mem lt ct hd la kf wf : Nat → Int32} {bt : Nat → Nat → Int32} (h1 : (f_X3_resetComes_r ug ud fn) = 0) (h2 : fd = 0) (h3 : (f_X3_holds_r ug fn) = 0) (h4 : ¬ (f_X1_breaksIn_r fn fp fb ug ct) = 0) : f_X1_step_fa fn fo fa fx fy fs fp fc fd fb mem ug ud lt ct hd la bt kf wf = fa := by unfold f_X1_step_fa; rw [if_pos h1, if_pos h2, if_pos h3, if_neg h4]
set_option maxRecDepth 100000 in
theorem cs_brk_fx {fn fo fa fx fy fs fp fc fd fb ug ud : Int32} {mem lt ct hd la kf wf : Nat → Int32} {bt : Nat → Nat → Int32} (h1 : (f_X3_resetComes_r ug ud fn) = 0) (h2 : fd = 0) (h3 : (f_X3_holds_r ug fn) = 0) (h4 : ¬ (f_X1_breaksIn_r fn fp fb ug ct) = 0) : f_X1_step_fx fn fo fa fx fy fs fp fc fd fb mem ug ud lt ct hd la bt kf wf = fx := by unfold f_X1_step_fx; rw [if_pos h1, if_pos h2, if_pos h3, if_neg h4]
set_option maxRecDepth 100000 in
theorem cs_brk_fy {fn fo fa fx fy fs fp fc fd fb ug ud : Int32} {mem lt ct hd la kf wf : Nat → Int32} {bt : Nat → Nat → Int32} (h1 : (f_X3_resetComes_r ug ud fn) = 0) (h2 : fd = 0) (h3 : (f_X3_holds_r ug fn) = 0) (h4 : ¬ (f_X1_breaksIn_r fn fp fb ug ct) = 0) : f_X1_step_fy fn fo fa fx fy fs fp fc fd fb mem ug ud lt ct hd la bt kf wf = fy := by unfold f_X1_step_fy; rw [if_pos h1, if_pos h2, if_pos h3, if_neg h4]
set_option maxRecDepth 100000 in
theorem cs_brk_fs {fn fo fx fs fp fc fd fb ug ud : Int32} {mem lt ct hd la kf : Nat → Int32} {bt : Nat → Nat → Int32} (h1 : (f_X3_resetComes_r ug ud fn) = 0) (h2 : fd = 0) (h3 : (f_X3_holds_r ug fn) = 0) (h4 : ¬ (f_X1_breaksIn_r fn fp fb ug ct) = 0) : f_X1_step_fs fn fo fx fs fp fc fd fb mem ug ud lt ct hd la bt kf = (f_X1_breaksIn_fs fn fs fp fb ug ct) := by unfold f_X1_step_fs; rw [if_pos h1, if_pos h2, if_pos h3, if_neg h4]
set_option maxRecDepth 100000 in
theorem cs_brk_fp {fn fo fa fx fy fs fp fc fd fb ug ud : Int32} {mem lt ct hd la kf wf : Nat → Int32} {bt : Nat → Nat → Int32} (h1 : (f_X3_resetComes_r ug ud fn) = 0) (h2 : fd = 0) (h3 : (f_X3_holds_r ug fn) = 0) (h4 : ¬ (f_X1_breaksIn_r fn fp fb ug ct) = 0) : f_X1_step_fp fn fo fa fx fy fs fp fc fd fb mem ug ud lt ct hd la bt kf wf = (f_X1_breaksIn_fp fn fp fb ug ct) := by unfold f_X1_step_fp; rw [if_pos h1, if_pos h2, if_pos h3, if_neg h4]
set_option maxRecDepth 100000 in
theorem cs_brk_fc {fn fo fx fy fs fp fc fd fb ug ud : Int32} {mem lt ct hd la kf wf : Nat → Int32} {bt : Nat → Nat → Int32} (h1 : (f_X3_resetComes_r ug ud fn) = 0) (h2 : fd = 0) (h3 : (f_X3_holds_r ug fn) = 0) (h4 : ¬ (f_X1_breaksIn_r fn fp fb ug ct) = 0) : f_X1_step_fc fn fo fx fy fs fp fc fd fb mem ug ud lt ct hd la bt kf wf = (f_X1_breaksIn_fc fn fs fp fc fb mem ug ct) := by unfold f_X1_step_fc; rw [if_pos h1, if_pos h2, if_pos h3, if_neg h4]
set_option maxRecDepth 100000 in
theorem cs_brk_fd {fn fo fs fp fc fd fb ug ud : Int32} {mem lt ct hd la kf : Nat → Int32} {bt : Nat → Nat → Int32} (h1 : (f_X3_resetComes_r ug ud fn) = 0) (h2 : fd = 0) (h3 : (f_X3_holds_r ug fn) = 0) (h4 : ¬ (f_X1_breaksIn_r fn fp fb ug ct) = 0) : f_X1_step_fd fn fo fs fp fc fd fb mem ug ud lt ct hd la bt kf = fd := by unfold f_X1_step_fd; rw [if_pos h1, if_pos h2, if_pos h3, if_neg h4]
set_option maxRecDepth 100000 in
theorem cs_brk_fb {fn fd fb ug ud : Int32} {ct : Nat → Int32} (h1 : (f_X3_resetComes_r ug ud fn) = 0) (h2 : fd = 0) (h3 : (f_X3_holds_r ug fn) = 0) : f_X1_step_fb fn fd fb ug ud ct = (f_X1_breaksIn_fb fn ug ct) := by unfold f_X1_step_fb; rw [if_pos h1, if_pos h2, if_pos h3]
set_option maxRecDepth 100000 in
theorem cs_brk_fz {fn fd ug ud : Int32} {fz : Int64} (h1 : (f_X3_resetComes_r ug ud fn) = 0) (h2 : fd = 0) (h3 : (f_X3_holds_r ug fn) = 0) : f_X1_step_fz fn fd fz ug ud = (fz + 1) := by unfold f_X1_step_fz; rw [if_pos h1, if_pos h2, if_pos h3]
set_option maxRecDepth 100000 in
theorem cs_brk_mem {fn fo fa fx fy fs fp fc fd fb ug ud : Int32} {mem lt ct hd la kf wf : Nat → Int32} {bt : Nat → Nat → Int32} (h1 : (f_X3_resetComes_r ug ud fn) = 0) (h2 : fd = 0) (h3 : (f_X3_holds_r ug fn) = 0) (h4 : ¬ (f_X1_breaksIn_r fn fp fb ug ct) = 0) : f_X1_step_mem fn fo fa fx fy fs fp fc fd fb mem ug ud lt ct hd la bt kf wf = (f_X1_breaksIn_mem fn fs fp fc fb mem ug ct) := by unfold f_X1_step_mem; rw [if_pos h1, if_pos h2, if_pos h3, if_neg h4]
set_option maxRecDepth 100000 in
theorem cs_brk_ug {fn fo fa fx fy fs fp fc fd fb ug ud : Int32} {mem lt ct hd la kf wf : Nat → Int32} {bt : Nat → Nat → Int32} (h1 : (f_X3_resetComes_r ug ud fn) = 0) (h2 : fd = 0) (h3 : (f_X3_holds_r ug fn) = 0) (h4 : ¬ (f_X1_breaksIn_r fn fp fb ug ct) = 0) : f_X1_step_ug fn fo fa fx fy fs fp fc fd fb mem ug ud lt ct hd la bt kf wf = ug := by unfold f_X1_step_ug; rw [if_pos h1, if_pos h2, if_pos h3, if_neg h4]
set_option maxRecDepth 100000 in
theorem cs_brk_ud {fn fo fa fx fy fs fp fc fd fb ug ud : Int32} {mem lt ct hd la kf wf : Nat → Int32} {bt : Nat → Nat → Int32} (h1 : (f_X3_resetComes_r ug ud fn) = 0) (h2 : fd = 0) (h3 : (f_X3_holds_r ug fn) = 0) (h4 : ¬ (f_X1_breaksIn_r fn fp fb ug ct) = 0) : f_X1_step_ud fn fo fa fx fy fs fp fc fd fb mem ug ud lt ct hd la bt kf wf = ud := by unfold f_X1_step_ud; rw [if_pos h1, if_pos h2, if_pos h3, if_neg h4]
set_option maxRecDepth 100000 in
theorem cs_brk_lt {fn fo fa fx fy fs fp fc fd fb ug ud : Int32} {mem lt ct hd la kf wf : Nat → Int32} {bt : Nat → Nat → Int32} (h1 : (f_X3_resetComes_r ug ud fn) = 0) (h2 : fd = 0) (h3 : (f_X3_holds_r ug fn) = 0) (h4 : ¬ (f_X1_breaksIn_r fn fp fb ug ct) = 0) : f_X1_step_lt fn fo fa fx fy fs fp fc fd fb mem ug ud lt ct hd la bt kf wf = lt := by unfold f_X1_step_lt; rw [if_pos h1, if_pos h2, if_pos h3, if_neg h4]
set_option maxRecDepth 100000 in
theorem cs_brk_ct {fn fo fx fy fs fp fc fd fb ug ud : Int32} {mem lt ct hd la kf wf : Nat → Int32} {bt : Nat → Nat → Int32} (h1 : (f_X3_resetComes_r ug ud fn) = 0) (h2 : fd = 0) (h3 : (f_X3_holds_r ug fn) = 0) (h4 : ¬ (f_X1_breaksIn_r fn fp fb ug ct) = 0) : f_X1_step_ct fn fo fx fy fs fp fc fd fb mem ug ud lt ct hd la bt kf wf = ct := by unfold f_X1_step_ct; rw [if_pos h1, if_pos h2, if_pos h3, if_neg h4]
set_option maxRecDepth 100000 in
theorem cs_brk_hd {fn fo fx fy fs fp fc fd fb ug ud : Int32} {mem lt ct hd la kf wf : Nat → Int32} {bt : Nat → Nat → Int32} (h1 : (f_X3_resetComes_r ug ud fn) = 0) (h2 : fd = 0) (h3 : (f_X3_holds_r ug fn) = 0) (h4 : ¬ (f_X1_breaksIn_r fn fp fb ug ct) = 0) : f_X1_step_hd fn fo fx fy fs fp fc fd fb mem ug ud lt ct hd la bt kf wf = hd := by unfold f_X1_step_hd; rw [if_pos h1, if_pos h2, if_pos h3, if_neg h4]
set_option maxRecDepth 100000 in
theorem cs_brk_la {fn fo fx fy fs fp fc fd fb ug ud : Int32} {mem lt ct hd la kf wf : Nat → Int32} {bt : Nat → Nat → Int32} (h1 : (f_X3_resetComes_r ug ud fn) = 0) (h2 : fd = 0) (h3 : (f_X3_holds_r ug fn) = 0) (h4 : ¬ (f_X1_breaksIn_r fn fp fb ug ct) = 0) : f_X1_step_la fn fo fx fy fs fp fc fd fb mem ug ud lt ct hd la bt kf wf = la := by unfold f_X1_step_la; rw [if_pos h1, if_pos h2, if_pos h3, if_neg h4]
set_option maxRecDepth 100000 in
theorem cs_brk_bt {fn fo fa fx fy fs fp fc fd fb ug ud : Int32} {mem lt ct hd la kf wf : Nat → Int32} {bt : Nat → Nat → Int32} (h1 : (f_X3_resetComes_r ug ud fn) = 0) (h2 : fd = 0) (h3 : (f_X3_holds_r ug fn) = 0) (h4 : ¬ (f_X1_breaksIn_r fn fp fb ug ct) = 0) : f_X1_step_bt fn fo fa fx fy fs fp fc fd fb mem ug ud lt ct hd la bt kf wf = bt := by unfold f_X1_step_bt; rw [if_pos h1, if_pos h2, if_pos h3, if_neg h4]
set_option maxRecDepth 100000 in
theorem cs_ins_fa {fn fo fa fx fy fs fp fc fd fb ug ud : Int32} {mem lt ct hd la kf wf : Nat → Int32} {bt : Nat → Nat → Int32} (h1 : (f_X3_resetComes_r ug ud fn) = 0) (h2 : fd = 0) (h3 : (f_X3_holds_r ug fn) = 0) (h4 : (f_X1_breaksIn_r fn fp fb ug ct) = 0) : f_X1_step_fa fn fo fa fx fy fs fp fc fd fb mem ug ud lt ct hd la bt kf wf = (f_X1_instruction_fa fn fo fa fx fy (f_X1_breaksIn_fs fn fs fp fb ug ct) (f_X1_breaksIn_fp fn fp fb ug ct) (f_X1_breaksIn_fc fn fs fp fc fb mem ug ct) (f_X1_breaksIn_mem fn fs fp fc fb mem ug ct) ug lt ct hd la bt kf wf) := by unfold f_X1_step_fa; rw [if_pos h1, if_pos h2, if_pos h3, if_pos h4]
set_option maxRecDepth 100000 in
theorem cs_ins_fx {fn fo fa fx fy fs fp fc fd fb ug ud : Int32} {mem lt ct hd la kf wf : Nat → Int32} {bt : Nat → Nat → Int32} (h1 : (f_X3_resetComes_r ug ud fn) = 0) (h2 : fd = 0) (h3 : (f_X3_holds_r ug fn) = 0) (h4 : (f_X1_breaksIn_r fn fp fb ug ct) = 0) : f_X1_step_fx fn fo fa fx fy fs fp fc fd fb mem ug ud lt ct hd la bt kf wf = (f_X1_instruction_fx fn fo fa fx fy (f_X1_breaksIn_fs fn fs fp fb ug ct) (f_X1_breaksIn_fc fn fs fp fc fb mem ug ct) (f_X1_breaksIn_mem fn fs fp fc fb mem ug ct) ug lt ct hd la bt kf wf) := by unfold f_X1_step_fx; rw [if_pos h1, if_pos h2, if_pos h3, if_pos h4]
set_option maxRecDepth 100000 in
theorem cs_ins_fy {fn fo fa fx fy fs fp fc fd fb ug ud : Int32} {mem lt ct hd la kf wf : Nat → Int32} {bt : Nat → Nat → Int32} (h1 : (f_X3_resetComes_r ug ud fn) = 0) (h2 : fd = 0) (h3 : (f_X3_holds_r ug fn) = 0) (h4 : (f_X1_breaksIn_r fn fp fb ug ct) = 0) : f_X1_step_fy fn fo fa fx fy fs fp fc fd fb mem ug ud lt ct hd la bt kf wf = (f_X1_instruction_fy fn fo fa fx fy (f_X1_breaksIn_fc fn fs fp fc fb mem ug ct) (f_X1_breaksIn_mem fn fs fp fc fb mem ug ct) ug lt ct hd la bt kf wf) := by unfold f_X1_step_fy; rw [if_pos h1, if_pos h2, if_pos h3, if_pos h4]
set_option maxRecDepth 100000 in
theorem cs_ins_fs {fn fo fx fs fp fc fd fb ug ud : Int32} {mem lt ct hd la kf : Nat → Int32} {bt : Nat → Nat → Int32} (h1 : (f_X3_resetComes_r ug ud fn) = 0) (h2 : fd = 0) (h3 : (f_X3_holds_r ug fn) = 0) (h4 : (f_X1_breaksIn_r fn fp fb ug ct) = 0) : f_X1_step_fs fn fo fx fs fp fc fd fb mem ug ud lt ct hd la bt kf = (f_X1_instruction_fs fn fo fx (f_X1_breaksIn_fs fn fs fp fb ug ct) (f_X1_breaksIn_fc fn fs fp fc fb mem ug ct) (f_X1_breaksIn_mem fn fs fp fc fb mem ug ct) ug lt ct hd la bt kf) := by unfold f_X1_step_fs; rw [if_pos h1, if_pos h2, if_pos h3, if_pos h4]
set_option maxRecDepth 100000 in
theorem cs_ins_fp {fn fo fa fx fy fs fp fc fd fb ug ud : Int32} {mem lt ct hd la kf wf : Nat → Int32} {bt : Nat → Nat → Int32} (h1 : (f_X3_resetComes_r ug ud fn) = 0) (h2 : fd = 0) (h3 : (f_X3_holds_r ug fn) = 0) (h4 : (f_X1_breaksIn_r fn fp fb ug ct) = 0) : f_X1_step_fp fn fo fa fx fy fs fp fc fd fb mem ug ud lt ct hd la bt kf wf = (f_X1_instruction_fp fn fo fa fx fy (f_X1_breaksIn_fs fn fs fp fb ug ct) (f_X1_breaksIn_fp fn fp fb ug ct) (f_X1_breaksIn_fc fn fs fp fc fb mem ug ct) (f_X1_breaksIn_mem fn fs fp fc fb mem ug ct) ug lt ct hd la bt kf wf) := by unfold f_X1_step_fp; rw [if_pos h1, if_pos h2, if_pos h3, if_pos h4]
set_option maxRecDepth 100000 in
theorem cs_ins_fc {fn fo fx fy fs fp fc fd fb ug ud : Int32} {mem lt ct hd la kf wf : Nat → Int32} {bt : Nat → Nat → Int32} (h1 : (f_X3_resetComes_r ug ud fn) = 0) (h2 : fd = 0) (h3 : (f_X3_holds_r ug fn) = 0) (h4 : (f_X1_breaksIn_r fn fp fb ug ct) = 0) : f_X1_step_fc fn fo fx fy fs fp fc fd fb mem ug ud lt ct hd la bt kf wf = (f_X1_instruction_fc fn fo fx fy (f_X1_breaksIn_fs fn fs fp fb ug ct) (f_X1_breaksIn_fp fn fp fb ug ct) (f_X1_breaksIn_fc fn fs fp fc fb mem ug ct) (f_X1_breaksIn_mem fn fs fp fc fb mem ug ct) ug lt ct hd la bt kf wf) := by unfold f_X1_step_fc; rw [if_pos h1, if_pos h2, if_pos h3, if_pos h4]
set_option maxRecDepth 100000 in
theorem cs_ins_fd {fn fo fs fp fc fd fb ug ud : Int32} {mem lt ct hd la kf : Nat → Int32} {bt : Nat → Nat → Int32} (h1 : (f_X3_resetComes_r ug ud fn) = 0) (h2 : fd = 0) (h3 : (f_X3_holds_r ug fn) = 0) (h4 : (f_X1_breaksIn_r fn fp fb ug ct) = 0) : f_X1_step_fd fn fo fs fp fc fd fb mem ug ud lt ct hd la bt kf = (f_X1_instruction_fd fn fo (f_X1_breaksIn_fc fn fs fp fc fb mem ug ct) fd (f_X1_breaksIn_mem fn fs fp fc fb mem ug ct) ug lt ct hd la bt kf) := by unfold f_X1_step_fd; rw [if_pos h1, if_pos h2, if_pos h3, if_pos h4]
set_option maxRecDepth 100000 in
theorem cs_ins_fb {fn fd fb ug ud : Int32} {ct : Nat → Int32} (h1 : (f_X3_resetComes_r ug ud fn) = 0) (h2 : fd = 0) (h3 : (f_X3_holds_r ug fn) = 0) : f_X1_step_fb fn fd fb ug ud ct = (f_X1_breaksIn_fb fn ug ct) := by unfold f_X1_step_fb; rw [if_pos h1, if_pos h2, if_pos h3]
set_option maxRecDepth 100000 in
theorem cs_ins_fz {fn fd ug ud : Int32} {fz : Int64} (h1 : (f_X3_resetComes_r ug ud fn) = 0) (h2 : fd = 0) (h3 : (f_X3_holds_r ug fn) = 0) : f_X1_step_fz fn fd fz ug ud = (fz + 1) := by unfold f_X1_step_fz; rw [if_pos h1, if_pos h2, if_pos h3]
set_option maxRecDepth 100000 in
theorem cs_ins_mem {fn fo fa fx fy fs fp fc fd fb ug ud : Int32} {mem lt ct hd la kf wf : Nat → Int32} {bt : Nat → Nat → Int32} (h1 : (f_X3_resetComes_r ug ud fn) = 0) (h2 : fd = 0) (h3 : (f_X3_holds_r ug fn) = 0) (h4 : (f_X1_breaksIn_r fn fp fb ug ct) = 0) : f_X1_step_mem fn fo fa fx fy fs fp fc fd fb mem ug ud lt ct hd la bt kf wf = (f_X1_instruction_mem fn fo fa fx fy (f_X1_breaksIn_fs fn fs fp fb ug ct) (f_X1_breaksIn_fp fn fp fb ug ct) (f_X1_breaksIn_fc fn fs fp fc fb mem ug ct) (f_X1_breaksIn_mem fn fs fp fc fb mem ug ct) ug lt ct hd la bt kf wf) := by unfold f_X1_step_mem; rw [if_pos h1, if_pos h2, if_pos h3, if_pos h4]
set_option maxRecDepth 100000 in
theorem cs_ins_ug {fn fo fa fx fy fs fp fc fd fb ug ud : Int32} {mem lt ct hd la kf wf : Nat → Int32} {bt : Nat → Nat → Int32} (h1 : (f_X3_resetComes_r ug ud fn) = 0) (h2 : fd = 0) (h3 : (f_X3_holds_r ug fn) = 0) (h4 : (f_X1_breaksIn_r fn fp fb ug ct) = 0) : f_X1_step_ug fn fo fa fx fy fs fp fc fd fb mem ug ud lt ct hd la bt kf wf = (f_X1_instruction_ug fn fo fa fx fy (f_X1_breaksIn_fp fn fp fb ug ct) (f_X1_breaksIn_fc fn fs fp fc fb mem ug ct) (f_X1_breaksIn_mem fn fs fp fc fb mem ug ct) ug lt ct hd la bt kf wf) := by unfold f_X1_step_ug; rw [if_pos h1, if_pos h2, if_pos h3, if_pos h4]
set_option maxRecDepth 100000 in
theorem cs_ins_ud {fn fo fa fx fy fs fp fc fd fb ug ud : Int32} {mem lt ct hd la kf wf : Nat → Int32} {bt : Nat → Nat → Int32} (h1 : (f_X3_resetComes_r ug ud fn) = 0) (h2 : fd = 0) (h3 : (f_X3_holds_r ug fn) = 0) (h4 : (f_X1_breaksIn_r fn fp fb ug ct) = 0) : f_X1_step_ud fn fo fa fx fy fs fp fc fd fb mem ug ud lt ct hd la bt kf wf = (f_X1_instruction_ud fn fo fa fx fy (f_X1_breaksIn_fp fn fp fb ug ct) (f_X1_breaksIn_fc fn fs fp fc fb mem ug ct) (f_X1_breaksIn_mem fn fs fp fc fb mem ug ct) ug ud lt ct hd la bt kf wf) := by unfold f_X1_step_ud; rw [if_pos h1, if_pos h2, if_pos h3, if_pos h4]
set_option maxRecDepth 100000 in
theorem cs_ins_lt {fn fo fa fx fy fs fp fc fd fb ug ud : Int32} {mem lt ct hd la kf wf : Nat → Int32} {bt : Nat → Nat → Int32} (h1 : (f_X3_resetComes_r ug ud fn) = 0) (h2 : fd = 0) (h3 : (f_X3_holds_r ug fn) = 0) (h4 : (f_X1_breaksIn_r fn fp fb ug ct) = 0) : f_X1_step_lt fn fo fa fx fy fs fp fc fd fb mem ug ud lt ct hd la bt kf wf = (f_X1_instruction_lt fn fo fa fx fy (f_X1_breaksIn_fp fn fp fb ug ct) (f_X1_breaksIn_fc fn fs fp fc fb mem ug ct) (f_X1_breaksIn_mem fn fs fp fc fb mem ug ct) ug lt ct hd la bt kf wf) := by unfold f_X1_step_lt; rw [if_pos h1, if_pos h2, if_pos h3, if_pos h4]
set_option maxRecDepth 100000 in
theorem cs_ins_ct {fn fo fx fy fs fp fc fd fb ug ud : Int32} {mem lt ct hd la kf wf : Nat → Int32} {bt : Nat → Nat → Int32} (h1 : (f_X3_resetComes_r ug ud fn) = 0) (h2 : fd = 0) (h3 : (f_X3_holds_r ug fn) = 0) (h4 : (f_X1_breaksIn_r fn fp fb ug ct) = 0) : f_X1_step_ct fn fo fx fy fs fp fc fd fb mem ug ud lt ct hd la bt kf wf = (f_X1_instruction_ct fn fo fx fy (f_X1_breaksIn_fc fn fs fp fc fb mem ug ct) (f_X1_breaksIn_mem fn fs fp fc fb mem ug ct) ug lt ct hd la bt kf wf) := by unfold f_X1_step_ct; rw [if_pos h1, if_pos h2, if_pos h3, if_pos h4]
set_option maxRecDepth 100000 in
theorem cs_ins_hd {fn fo fx fy fs fp fc fd fb ug ud : Int32} {mem lt ct hd la kf wf : Nat → Int32} {bt : Nat → Nat → Int32} (h1 : (f_X3_resetComes_r ug ud fn) = 0) (h2 : fd = 0) (h3 : (f_X3_holds_r ug fn) = 0) (h4 : (f_X1_breaksIn_r fn fp fb ug ct) = 0) : f_X1_step_hd fn fo fx fy fs fp fc fd fb mem ug ud lt ct hd la bt kf wf = (f_X1_instruction_hd fn fo fx fy (f_X1_breaksIn_fc fn fs fp fc fb mem ug ct) (f_X1_breaksIn_mem fn fs fp fc fb mem ug ct) ug lt ct hd la bt kf wf) := by unfold f_X1_step_hd; rw [if_pos h1, if_pos h2, if_pos h3, if_pos h4]
set_option maxRecDepth 100000 in
theorem cs_ins_la {fn fo fx fy fs fp fc fd fb ug ud : Int32} {mem lt ct hd la kf wf : Nat → Int32} {bt : Nat → Nat → Int32} (h1 : (f_X3_resetComes_r ug ud fn) = 0) (h2 : fd = 0) (h3 : (f_X3_holds_r ug fn) = 0) (h4 : (f_X1_breaksIn_r fn fp fb ug ct) = 0) : f_X1_step_la fn fo fx fy fs fp fc fd fb mem ug ud lt ct hd la bt kf wf = (f_X1_instruction_la fn fo fx fy (f_X1_breaksIn_fc fn fs fp fc fb mem ug ct) (f_X1_breaksIn_mem fn fs fp fc fb mem ug ct) ug lt ct hd la bt kf wf) := by unfold f_X1_step_la; rw [if_pos h1, if_pos h2, if_pos h3, if_pos h4]
set_option maxRecDepth 100000 in
theorem cs_ins_bt {fn fo fa fx fy fs fp fc fd fb ug ud : Int32} {mem lt ct hd la kf wf : Nat → Int32} {bt : Nat → Nat → Int32} (h1 : (f_X3_resetComes_r ug ud fn) = 0) (h2 : fd = 0) (h3 : (f_X3_holds_r ug fn) = 0) (h4 : (f_X1_breaksIn_r fn fp fb ug ct) = 0) : f_X1_step_bt fn fo fa fx fy fs fp fc fd fb mem ug ud lt ct hd la bt kf wf = (f_X1_instruction_bt fn fo fa fx fy (f_X1_breaksIn_fp fn fp fb ug ct) (f_X1_breaksIn_fc fn fs fp fc fb mem ug ct) (f_X1_breaksIn_mem fn fs fp fc fb mem ug ct) ug lt ct hd la bt kf wf) := by unfold f_X1_step_bt; rw [if_pos h1, if_pos h2, if_pos h3, if_pos h4]
set_option maxRecDepth 100000 in
theorem ms_hold1_gB {un ow ln p1 : Int32} {gB gA gX gY gS gP gC gD gR gM gL : Nat → Int32} (k1 : p1 = 1) (k2 : ¬ (un &&& 32) = 0) : f_X5_step_gB un ow ln gB gA gX gY gS gP gC gD gR gM gL p1 = gB := by unfold f_X5_step_gB; rw [if_pos k1, if_neg k2]
set_option maxRecDepth 100000 in
theorem ms_hold1_gA {un ow ln p1 : Int32} {gB gA gX gY gS gP gC gD gR gM gL : Nat → Int32} (k1 : p1 = 1) (k2 : ¬ (un &&& 32) = 0) : f_X5_step_gA un ow ln gB gA gX gY gS gP gC gD gR gM gL p1 = gA := by unfold f_X5_step_gA; rw [if_pos k1, if_neg k2]
set_option maxRecDepth 100000 in
theorem ms_hold1_gX {un ow ln p1 : Int32} {gB gA gX gY gS gP gC gD gR gM gL : Nat → Int32} (k1 : p1 = 1) (k2 : ¬ (un &&& 32) = 0) : f_X5_step_gX un ow ln gB gA gX gY gS gP gC gD gR gM gL p1 = gX := by unfold f_X5_step_gX; rw [if_pos k1, if_neg k2]
set_option maxRecDepth 100000 in
theorem ms_hold1_gY {un ow ln p1 : Int32} {gB gA gX gY gP gC gD gR gM gL : Nat → Int32} (k1 : p1 = 1) (k2 : ¬ (un &&& 32) = 0) : f_X5_step_gY un ow ln gB gA gX gY gP gC gD gR gM gL p1 = gY := by unfold f_X5_step_gY; rw [if_pos k1, if_neg k2]
set_option maxRecDepth 100000 in
theorem ms_hold1_gS {un ow ln p1 : Int32} {gB gX gS gP gC gD gR gM gL : Nat → Int32} (k1 : p1 = 1) (k2 : ¬ (un &&& 32) = 0) : f_X5_step_gS un ow ln gB gX gS gP gC gD gR gM gL p1 = gS := by unfold f_X5_step_gS; rw [if_pos k1, if_neg k2]
set_option maxRecDepth 100000 in
theorem ms_hold1_gP {un ow ln p1 : Int32} {gB gA gX gY gS gP gC gD gR gM gL : Nat → Int32} (k1 : p1 = 1) (k2 : ¬ (un &&& 32) = 0) : f_X5_step_gP un ow ln gB gA gX gY gS gP gC gD gR gM gL p1 = gP := by unfold f_X5_step_gP; rw [if_pos k1, if_neg k2]
set_option maxRecDepth 100000 in
theorem ms_hold1_gC {un ow ln p1 : Int32} {gB gS gP gC gD gR gM gL : Nat → Int32} (k1 : p1 = 1) (k2 : ¬ (un &&& 32) = 0) : f_X5_step_gC un ow ln gB gS gP gC gD gR gM gL p1 = gC := by unfold f_X5_step_gC; rw [if_pos k1, if_neg k2]
set_option maxRecDepth 100000 in
theorem ms_hold1_gR {un ow ln p1 : Int32} {gB gA gX gY gP gC gD gR gM gL : Nat → Int32} (k1 : p1 = 1) (k2 : ¬ (un &&& 32) = 0) : f_X5_step_gR un ow ln gB gA gX gY gP gC gD gR gM gL p1 = gR := by unfold f_X5_step_gR; rw [if_pos k1, if_neg k2]
set_option maxRecDepth 100000 in
theorem ms_hold1_gM {un ow ln p1 : Int32} {gB gX gY gP gC gD gR gM gL : Nat → Int32} (k1 : p1 = 1) (k2 : ¬ (un &&& 32) = 0) : f_X5_step_gM un ow ln gB gX gY gP gC gD gR gM gL p1 = gM := by unfold f_X5_step_gM; rw [if_pos k1, if_neg k2]
set_option maxRecDepth 100000 in
theorem ms_hold1_gL {un ow ln p1 : Int32} {gB gX gY gP gC gD gR gM gL : Nat → Int32} (k1 : p1 = 1) (k2 : ¬ (un &&& 32) = 0) : f_X5_step_gL un ow ln gB gX gY gP gC gD gR gM gL p1 = gL := by unfold f_X5_step_gL; rw [if_pos k1, if_neg k2]
set_option maxRecDepth 100000 in
theorem ms_hold1_un {un ow ln p1 : Int32} {gB gA gX gY gP gC gD gR gM gL : Nat → Int32} (k1 : p1 = 1) (k2 : ¬ (un &&& 32) = 0) : f_X5_step_un un ow ln gB gA gX gY gP gC gD gR gM gL p1 = un := by unfold f_X5_step_un; rw [if_pos k1, if_neg k2]
set_option maxRecDepth 100000 in
theorem ms_hold1_ow {un ow ln p1 : Int32} {gB gA gX gY gP gC gD gR gM gL : Nat → Int32} (k1 : p1 = 1) (k2 : ¬ (un &&& 32) = 0) : f_X5_step_ow un ow ln gB gA gX gY gP gC gD gR gM gL p1 = ow := by unfold f_X5_step_ow; rw [if_pos k1, if_neg k2]
set_option maxRecDepth 100000 in
theorem ms_hold1_gD {un ow ln p1 : Int32} {gB gP gC gD gR gM gL : Nat → Int32} (k1 : p1 = 1) (k2 : ¬ (un &&& 32) = 0) : f_X5_step_gD un ow ln gB gP gC gD gR gM gL p1 = gD := by unfold f_X5_step_gD; rw [if_pos k1, if_neg k2]
set_option maxRecDepth 100000 in
theorem ms_hold1_gT {un ow p1 : Int32} {gD : Nat → Int32} {gT : Nat → Int64} (k1 : p1 = 1) (k2 : ¬ (un &&& 32) = 0) : f_X5_step_gT un ow gD gT p1 = gT := by unfold f_X5_step_gT; rw [if_pos k1, if_neg k2]
set_option maxRecDepth 100000 in
theorem ms_hold1_ln {un ow ln p1 : Int32} {gD gM : Nat → Int32} (k1 : p1 = 1) (k2 : ¬ (un &&& 32) = 0) : f_X5_step_ln un ow ln gD gM p1 = ln := by unfold f_X5_step_ln; rw [if_pos k1, if_neg k2]
set_option maxRecDepth 100000 in
theorem ms_reset1_gB {un ow ln p1 : Int32} {gB gA gX gY gS gP gC gD gR gM gL : Nat → Int32} (k1 : p1 = 1) (k2 : (un &&& 32) = 0) (k3 : ¬ ow = 0) : f_X5_step_gB un ow ln gB gA gX gY gS gP gC gD gR gM gL p1 = gB := by unfold f_X5_step_gB; rw [if_pos k1, if_pos k2, if_neg k3]
set_option maxRecDepth 100000 in
theorem ms_reset1_gA {un ow ln p1 : Int32} {gB gA gX gY gS gP gC gD gR gM gL : Nat → Int32} (k1 : p1 = 1) (k2 : (un &&& 32) = 0) (k3 : ¬ ow = 0) : f_X5_step_gA un ow ln gB gA gX gY gS gP gC gD gR gM gL p1 = gA := by unfold f_X5_step_gA; rw [if_pos k1, if_pos k2, if_neg k3]
set_option maxRecDepth 100000 in
theorem ms_reset1_gX {un ow ln p1 : Int32} {gB gA gX gY gS gP gC gD gR gM gL : Nat → Int32} (k1 : p1 = 1) (k2 : (un &&& 32) = 0) (k3 : ¬ ow = 0) : f_X5_step_gX un ow ln gB gA gX gY gS gP gC gD gR gM gL p1 = gX := by unfold f_X5_step_gX; rw [if_pos k1, if_pos k2, if_neg k3]
set_option maxRecDepth 100000 in
theorem ms_reset1_gY {un ow ln p1 : Int32} {gB gA gX gY gP gC gD gR gM gL : Nat → Int32} (k1 : p1 = 1) (k2 : (un &&& 32) = 0) (k3 : ¬ ow = 0) : f_X5_step_gY un ow ln gB gA gX gY gP gC gD gR gM gL p1 = gY := by unfold f_X5_step_gY; rw [if_pos k1, if_pos k2, if_neg k3]
set_option maxRecDepth 100000 in
theorem ms_reset1_gS {un ow ln p1 : Int32} {gB gX gS gP gC gD gR gM gL : Nat → Int32} (k1 : p1 = 1) (k2 : (un &&& 32) = 0) (k3 : ¬ ow = 0) : f_X5_step_gS un ow ln gB gX gS gP gC gD gR gM gL p1 = (f_X5_doReset_gS gS 1) := by unfold f_X5_step_gS; rw [if_pos k1, if_pos k2, if_neg k3]
set_option maxRecDepth 100000 in
theorem ms_reset1_gP {un ow ln p1 : Int32} {gB gA gX gY gS gP gC gD gR gM gL : Nat → Int32} (k1 : p1 = 1) (k2 : (un &&& 32) = 0) (k3 : ¬ ow = 0) : f_X5_step_gP un ow ln gB gA gX gY gS gP gC gD gR gM gL p1 = (f_X5_doReset_gP gP 1) := by unfold f_X5_step_gP; rw [if_pos k1, if_pos k2, if_neg k3]
set_option maxRecDepth 100000 in
theorem ms_reset1_gC {un ow ln p1 : Int32} {gB gS gP gC gD gR gM gL : Nat → Int32} (k1 : p1 = 1) (k2 : (un &&& 32) = 0) (k3 : ¬ ow = 0) : f_X5_step_gC un ow ln gB gS gP gC gD gR gM gL p1 = (f_X5_doReset_gC gB gC 1) := by unfold f_X5_step_gC; rw [if_pos k1, if_pos k2, if_neg k3]
set_option maxRecDepth 100000 in
theorem ms_reset1_gR {un ow ln p1 : Int32} {gB gA gX gY gP gC gD gR gM gL : Nat → Int32} (k1 : p1 = 1) (k2 : (un &&& 32) = 0) (k3 : ¬ ow = 0) : f_X5_step_gR un ow ln gB gA gX gY gP gC gD gR gM gL p1 = gR := by unfold f_X5_step_gR; rw [if_pos k1, if_pos k2, if_neg k3]
set_option maxRecDepth 100000 in
theorem ms_reset1_gM {un ow ln p1 : Int32} {gB gX gY gP gC gD gR gM gL : Nat → Int32} (k1 : p1 = 1) (k2 : (un &&& 32) = 0) (k3 : ¬ ow = 0) : f_X5_step_gM un ow ln gB gX gY gP gC gD gR gM gL p1 = gM := by unfold f_X5_step_gM; rw [if_pos k1, if_pos k2, if_neg k3]
set_option maxRecDepth 100000 in
theorem ms_reset1_gL {un ow ln p1 : Int32} {gB gX gY gP gC gD gR gM gL : Nat → Int32} (k1 : p1 = 1) (k2 : (un &&& 32) = 0) (k3 : ¬ ow = 0) : f_X5_step_gL un ow ln gB gX gY gP gC gD gR gM gL p1 = gL := by unfold f_X5_step_gL; rw [if_pos k1, if_pos k2, if_neg k3]
set_option maxRecDepth 100000 in
theorem ms_reset1_un {un ow ln p1 : Int32} {gB gA gX gY gP gC gD gR gM gL : Nat → Int32} (k1 : p1 = 1) (k2 : (un &&& 32) = 0) (k3 : ¬ ow = 0) : f_X5_step_un un ow ln gB gA gX gY gP gC gD gR gM gL p1 = un := by unfold f_X5_step_un; rw [if_pos k1, if_pos k2, if_neg k3]
set_option maxRecDepth 100000 in
theorem ms_reset1_ow {un ow ln p1 : Int32} {gB gA gX gY gP gC gD gR gM gL : Nat → Int32} (k1 : p1 = 1) (k2 : (un &&& 32) = 0) (k3 : ¬ ow = 0) : f_X5_step_ow un ow ln gB gA gX gY gP gC gD gR gM gL p1 = 0 := by unfold f_X5_step_ow; rw [if_pos k1, if_pos k2, if_neg k3]
set_option maxRecDepth 100000 in
theorem ms_reset1_gD {un ow ln p1 : Int32} {gB gP gC gD gR gM gL : Nat → Int32} (k1 : p1 = 1) (k2 : (un &&& 32) = 0) (k3 : ¬ ow = 0) : f_X5_step_gD un ow ln gB gP gC gD gR gM gL p1 = (f_X5_doReset_gD gD 1) := by unfold f_X5_step_gD; rw [if_pos k1, if_pos k2, if_neg k3]
set_option maxRecDepth 100000 in
theorem ms_reset1_gT {un ow p1 : Int32} {gD : Nat → Int32} {gT : Nat → Int64} (k1 : p1 = 1) (k2 : (un &&& 32) = 0) (k3 : ¬ ow = 0) : f_X5_step_gT un ow gD gT p1 = (vp_updL gT 1 ((gT 1) + 1)) := by unfold f_X5_step_gT; rw [if_pos k1, if_pos k2, if_neg k3]
set_option maxRecDepth 100000 in
theorem ms_reset1_ln {un ow ln p1 : Int32} {gD gM : Nat → Int32} (k1 : p1 = 1) (k2 : (un &&& 32) = 0) (k3 : ¬ ow = 0) : f_X5_step_ln un ow ln gD gM p1 = (f_X5_doReset_ln un ln gM 1) := by unfold f_X5_step_ln; rw [if_pos k1, if_pos k2, if_neg k3]
set_option maxRecDepth 100000 in
theorem ms_stay1_gB {un ow ln p1 : Int32} {gB gA gX gY gS gP gC gD gR gM gL : Nat → Int32} (k1 : p1 = 1) (k2 : (un &&& 32) = 0) (k3 : ow = 0) (k4 : ¬ (gD p1.toNatClampNeg) = 0) : f_X5_step_gB un ow ln gB gA gX gY gS gP gC gD gR gM gL p1 = gB := by unfold f_X5_step_gB; rw [if_pos k1, if_pos k2, if_pos k3, if_neg k4]
set_option maxRecDepth 100000 in
theorem ms_stay1_gA {un ow ln p1 : Int32} {gB gA gX gY gS gP gC gD gR gM gL : Nat → Int32} (k1 : p1 = 1) (k2 : (un &&& 32) = 0) (k3 : ow = 0) (k4 : ¬ (gD p1.toNatClampNeg) = 0) : f_X5_step_gA un ow ln gB gA gX gY gS gP gC gD gR gM gL p1 = gA := by unfold f_X5_step_gA; rw [if_pos k1, if_pos k2, if_pos k3, if_neg k4]
set_option maxRecDepth 100000 in
theorem ms_stay1_gX {un ow ln p1 : Int32} {gB gA gX gY gS gP gC gD gR gM gL : Nat → Int32} (k1 : p1 = 1) (k2 : (un &&& 32) = 0) (k3 : ow = 0) (k4 : ¬ (gD p1.toNatClampNeg) = 0) : f_X5_step_gX un ow ln gB gA gX gY gS gP gC gD gR gM gL p1 = gX := by unfold f_X5_step_gX; rw [if_pos k1, if_pos k2, if_pos k3, if_neg k4]
set_option maxRecDepth 100000 in
theorem ms_stay1_gY {un ow ln p1 : Int32} {gB gA gX gY gP gC gD gR gM gL : Nat → Int32} (k1 : p1 = 1) (k2 : (un &&& 32) = 0) (k3 : ow = 0) (k4 : ¬ (gD p1.toNatClampNeg) = 0) : f_X5_step_gY un ow ln gB gA gX gY gP gC gD gR gM gL p1 = gY := by unfold f_X5_step_gY; rw [if_pos k1, if_pos k2, if_pos k3, if_neg k4]
set_option maxRecDepth 100000 in
theorem ms_stay1_gS {un ow ln p1 : Int32} {gB gX gS gP gC gD gR gM gL : Nat → Int32} (k1 : p1 = 1) (k2 : (un &&& 32) = 0) (k3 : ow = 0) (k4 : ¬ (gD p1.toNatClampNeg) = 0) : f_X5_step_gS un ow ln gB gX gS gP gC gD gR gM gL p1 = gS := by unfold f_X5_step_gS; rw [if_pos k1, if_pos k2, if_pos k3, if_neg k4]
set_option maxRecDepth 100000 in
theorem ms_stay1_gP {un ow ln p1 : Int32} {gB gA gX gY gS gP gC gD gR gM gL : Nat → Int32} (k1 : p1 = 1) (k2 : (un &&& 32) = 0) (k3 : ow = 0) (k4 : ¬ (gD p1.toNatClampNeg) = 0) : f_X5_step_gP un ow ln gB gA gX gY gS gP gC gD gR gM gL p1 = gP := by unfold f_X5_step_gP; rw [if_pos k1, if_pos k2, if_pos k3, if_neg k4]
set_option maxRecDepth 100000 in
theorem ms_stay1_gC {un ow ln p1 : Int32} {gB gS gP gC gD gR gM gL : Nat → Int32} (k1 : p1 = 1) (k2 : (un &&& 32) = 0) (k3 : ow = 0) (k4 : ¬ (gD p1.toNatClampNeg) = 0) : f_X5_step_gC un ow ln gB gS gP gC gD gR gM gL p1 = gC := by unfold f_X5_step_gC; rw [if_pos k1, if_pos k2, if_pos k3, if_neg k4]
set_option maxRecDepth 100000 in
theorem ms_stay1_gR {un ow ln p1 : Int32} {gB gA gX gY gP gC gD gR gM gL : Nat → Int32} (k1 : p1 = 1) (k2 : (un &&& 32) = 0) (k3 : ow = 0) (k4 : ¬ (gD p1.toNatClampNeg) = 0) : f_X5_step_gR un ow ln gB gA gX gY gP gC gD gR gM gL p1 = gR := by unfold f_X5_step_gR; rw [if_pos k1, if_pos k2, if_pos k3, if_neg k4]
set_option maxRecDepth 100000 in
theorem ms_stay1_gM {un ow ln p1 : Int32} {gB gX gY gP gC gD gR gM gL : Nat → Int32} (k1 : p1 = 1) (k2 : (un &&& 32) = 0) (k3 : ow = 0) (k4 : ¬ (gD p1.toNatClampNeg) = 0) : f_X5_step_gM un ow ln gB gX gY gP gC gD gR gM gL p1 = gM := by unfold f_X5_step_gM; rw [if_pos k1, if_pos k2, if_pos k3, if_neg k4]
set_option maxRecDepth 100000 in
theorem ms_stay1_gL {un ow ln p1 : Int32} {gB gX gY gP gC gD gR gM gL : Nat → Int32} (k1 : p1 = 1) (k2 : (un &&& 32) = 0) (k3 : ow = 0) (k4 : ¬ (gD p1.toNatClampNeg) = 0) : f_X5_step_gL un ow ln gB gX gY gP gC gD gR gM gL p1 = gL := by unfold f_X5_step_gL; rw [if_pos k1, if_pos k2, if_pos k3, if_neg k4]
set_option maxRecDepth 100000 in
theorem ms_stay1_un {un ow ln p1 : Int32} {gB gA gX gY gP gC gD gR gM gL : Nat → Int32} (k1 : p1 = 1) (k2 : (un &&& 32) = 0) (k3 : ow = 0) (k4 : ¬ (gD p1.toNatClampNeg) = 0) : f_X5_step_un un ow ln gB gA gX gY gP gC gD gR gM gL p1 = un := by unfold f_X5_step_un; rw [if_pos k1, if_pos k2, if_pos k3, if_neg k4]
set_option maxRecDepth 100000 in
theorem ms_stay1_ow {un ow ln p1 : Int32} {gB gA gX gY gP gC gD gR gM gL : Nat → Int32} (k1 : p1 = 1) (k2 : (un &&& 32) = 0) (k3 : ow = 0) (k4 : ¬ (gD p1.toNatClampNeg) = 0) : f_X5_step_ow un ow ln gB gA gX gY gP gC gD gR gM gL p1 = ow := by unfold f_X5_step_ow; rw [if_pos k1, if_pos k2, if_pos k3, if_neg k4]
set_option maxRecDepth 100000 in
theorem ms_stay1_gD {un ow ln p1 : Int32} {gB gP gC gD gR gM gL : Nat → Int32} (k1 : p1 = 1) (k2 : (un &&& 32) = 0) (k3 : ow = 0) (k4 : ¬ (gD p1.toNatClampNeg) = 0) : f_X5_step_gD un ow ln gB gP gC gD gR gM gL p1 = gD := by unfold f_X5_step_gD; rw [if_pos k1, if_pos k2, if_pos k3, if_neg k4]
set_option maxRecDepth 100000 in
theorem ms_stay1_gT {un ow p1 : Int32} {gD : Nat → Int32} {gT : Nat → Int64} (k1 : p1 = 1) (k2 : (un &&& 32) = 0) (k3 : ow = 0) (k4 : ¬ (gD p1.toNatClampNeg) = 0) : f_X5_step_gT un ow gD gT p1 = gT := by unfold f_X5_step_gT; rw [if_pos k1, if_pos k2, if_pos k3, if_neg k4]
set_option maxRecDepth 100000 in
theorem ms_stay1_ln {un ow ln p1 : Int32} {gD gM : Nat → Int32} (k1 : p1 = 1) (k2 : (un &&& 32) = 0) (k3 : ow = 0) (k4 : ¬ (gD p1.toNatClampNeg) = 0) : f_X5_step_ln un ow ln gD gM p1 = ln := by unfold f_X5_step_ln; rw [if_pos k1, if_pos k2, if_pos k3, if_neg k4]
set_option maxRecDepth 100000 in
theorem ms_stay0_gB {un ow ln p1 : Int32} {gB gA gX gY gS gP gC gD gR gM gL : Nat → Int32} (k1 : ¬ p1 = 1) (k4 : ¬ (gD p1.toNatClampNeg) = 0) : f_X5_step_gB un ow ln gB gA gX gY gS gP gC gD gR gM gL p1 = gB := by unfold f_X5_step_gB; rw [if_neg k1, if_neg k4]
set_option maxRecDepth 100000 in
theorem ms_stay0_gA {un ow ln p1 : Int32} {gB gA gX gY gS gP gC gD gR gM gL : Nat → Int32} (k1 : ¬ p1 = 1) (k4 : ¬ (gD p1.toNatClampNeg) = 0) : f_X5_step_gA un ow ln gB gA gX gY gS gP gC gD gR gM gL p1 = gA := by unfold f_X5_step_gA; rw [if_neg k1, if_neg k4]
set_option maxRecDepth 100000 in
theorem ms_stay0_gX {un ow ln p1 : Int32} {gB gA gX gY gS gP gC gD gR gM gL : Nat → Int32} (k1 : ¬ p1 = 1) (k4 : ¬ (gD p1.toNatClampNeg) = 0) : f_X5_step_gX un ow ln gB gA gX gY gS gP gC gD gR gM gL p1 = gX := by unfold f_X5_step_gX; rw [if_neg k1, if_neg k4]
set_option maxRecDepth 100000 in
theorem ms_stay0_gY {un ow ln p1 : Int32} {gB gA gX gY gP gC gD gR gM gL : Nat → Int32} (k1 : ¬ p1 = 1) (k4 : ¬ (gD p1.toNatClampNeg) = 0) : f_X5_step_gY un ow ln gB gA gX gY gP gC gD gR gM gL p1 = gY := by unfold f_X5_step_gY; rw [if_neg k1, if_neg k4]
set_option maxRecDepth 100000 in
theorem ms_stay0_gS {un ow ln p1 : Int32} {gB gX gS gP gC gD gR gM gL : Nat → Int32} (k1 : ¬ p1 = 1) (k4 : ¬ (gD p1.toNatClampNeg) = 0) : f_X5_step_gS un ow ln gB gX gS gP gC gD gR gM gL p1 = gS := by unfold f_X5_step_gS; rw [if_neg k1, if_neg k4]
set_option maxRecDepth 100000 in
theorem ms_stay0_gP {un ow ln p1 : Int32} {gB gA gX gY gS gP gC gD gR gM gL : Nat → Int32} (k1 : ¬ p1 = 1) (k4 : ¬ (gD p1.toNatClampNeg) = 0) : f_X5_step_gP un ow ln gB gA gX gY gS gP gC gD gR gM gL p1 = gP := by unfold f_X5_step_gP; rw [if_neg k1, if_neg k4]
set_option maxRecDepth 100000 in
theorem ms_stay0_gC {un ow ln p1 : Int32} {gB gS gP gC gD gR gM gL : Nat → Int32} (k1 : ¬ p1 = 1) (k4 : ¬ (gD p1.toNatClampNeg) = 0) : f_X5_step_gC un ow ln gB gS gP gC gD gR gM gL p1 = gC := by unfold f_X5_step_gC; rw [if_neg k1, if_neg k4]
set_option maxRecDepth 100000 in
theorem ms_stay0_gR {un ow ln p1 : Int32} {gB gA gX gY gP gC gD gR gM gL : Nat → Int32} (k1 : ¬ p1 = 1) (k4 : ¬ (gD p1.toNatClampNeg) = 0) : f_X5_step_gR un ow ln gB gA gX gY gP gC gD gR gM gL p1 = gR := by unfold f_X5_step_gR; rw [if_neg k1, if_neg k4]
set_option maxRecDepth 100000 in
theorem ms_stay0_gM {un ow ln p1 : Int32} {gB gX gY gP gC gD gR gM gL : Nat → Int32} (k1 : ¬ p1 = 1) (k4 : ¬ (gD p1.toNatClampNeg) = 0) : f_X5_step_gM un ow ln gB gX gY gP gC gD gR gM gL p1 = gM := by unfold f_X5_step_gM; rw [if_neg k1, if_neg k4]
set_option maxRecDepth 100000 in
theorem ms_stay0_gL {un ow ln p1 : Int32} {gB gX gY gP gC gD gR gM gL : Nat → Int32} (k1 : ¬ p1 = 1) (k4 : ¬ (gD p1.toNatClampNeg) = 0) : f_X5_step_gL un ow ln gB gX gY gP gC gD gR gM gL p1 = gL := by unfold f_X5_step_gL; rw [if_neg k1, if_neg k4]
set_option maxRecDepth 100000 in
theorem ms_stay0_un {un ow ln p1 : Int32} {gB gA gX gY gP gC gD gR gM gL : Nat → Int32} (k1 : ¬ p1 = 1) (k4 : ¬ (gD p1.toNatClampNeg) = 0) : f_X5_step_un un ow ln gB gA gX gY gP gC gD gR gM gL p1 = un := by unfold f_X5_step_un; rw [if_neg k1, if_neg k4]
set_option maxRecDepth 100000 in
theorem ms_stay0_ow {un ow ln p1 : Int32} {gB gA gX gY gP gC gD gR gM gL : Nat → Int32} (k1 : ¬ p1 = 1) (k4 : ¬ (gD p1.toNatClampNeg) = 0) : f_X5_step_ow un ow ln gB gA gX gY gP gC gD gR gM gL p1 = ow := by unfold f_X5_step_ow; rw [if_neg k1, if_neg k4]
set_option maxRecDepth 100000 in
theorem ms_stay0_gD {un ow ln p1 : Int32} {gB gP gC gD gR gM gL : Nat → Int32} (k1 : ¬ p1 = 1) (k4 : ¬ (gD p1.toNatClampNeg) = 0) : f_X5_step_gD un ow ln gB gP gC gD gR gM gL p1 = gD := by unfold f_X5_step_gD; rw [if_neg k1, if_neg k4]
set_option maxRecDepth 100000 in
theorem ms_stay0_gT {un ow p1 : Int32} {gD : Nat → Int32} {gT : Nat → Int64} (k1 : ¬ p1 = 1) (k4 : ¬ (gD p1.toNatClampNeg) = 0) : f_X5_step_gT un ow gD gT p1 = gT := by unfold f_X5_step_gT; rw [if_neg k1, if_neg k4]
set_option maxRecDepth 100000 in
theorem ms_stay0_ln {un ow ln p1 : Int32} {gD gM : Nat → Int32} (k1 : ¬ p1 = 1) : f_X5_step_ln un ow ln gD gM p1 = ln := by unfold f_X5_step_ln; rw [if_neg k1]
set_option maxRecDepth 100000 in
theorem ms_A_gB {un ow ln p1 : Int32} {gB gA gX gY gS gP gC gD gR gM gL : Nat → Int32} (k1 : p1 = 1) (k2 : (un &&& 32) = 0) (k3 : ow = 0) (k4 : (gD p1.toNatClampNeg) = 0) (kS : ¬ (f_X5_hasSharpLine_r un gM) = 0) (kN : ln = 0) : f_X5_step_gB un ow ln gB gA gX gY gS gP gC gD gR gM gL p1 = (f_X5_breakTo_gB p1 gB gS gP gC) := by unfold f_X5_step_gB; rw [if_pos k1, if_pos k2, if_pos k3, if_pos k4, if_neg kS, if_pos kN]
set_option maxRecDepth 100000 in
theorem ms_A_gA {un ow ln p1 : Int32} {gB gA gX gY gS gP gC gD gR gM gL : Nat → Int32} (k1 : p1 = 1) (k2 : (un &&& 32) = 0) (k3 : ow = 0) (k4 : (gD p1.toNatClampNeg) = 0) (kS : ¬ (f_X5_hasSharpLine_r un gM) = 0) (kN : ln = 0) : f_X5_step_gA un ow ln gB gA gX gY gS gP gC gD gR gM gL p1 = gA := by unfold f_X5_step_gA; rw [if_pos k1, if_pos k2, if_pos k3, if_pos k4, if_neg kS, if_pos kN]
set_option maxRecDepth 100000 in
theorem ms_A_gX {un ow ln p1 : Int32} {gB gA gX gY gS gP gC gD gR gM gL : Nat → Int32} (k1 : p1 = 1) (k2 : (un &&& 32) = 0) (k3 : ow = 0) (k4 : (gD p1.toNatClampNeg) = 0) (kS : ¬ (f_X5_hasSharpLine_r un gM) = 0) (kN : ln = 0) : f_X5_step_gX un ow ln gB gA gX gY gS gP gC gD gR gM gL p1 = gX := by unfold f_X5_step_gX; rw [if_pos k1, if_pos k2, if_pos k3, if_pos k4, if_neg kS, if_pos kN]
set_option maxRecDepth 100000 in
theorem ms_A_gY {un ow ln p1 : Int32} {gB gA gX gY gP gC gD gR gM gL : Nat → Int32} (k1 : p1 = 1) (k2 : (un &&& 32) = 0) (k3 : ow = 0) (k4 : (gD p1.toNatClampNeg) = 0) (kS : ¬ (f_X5_hasSharpLine_r un gM) = 0) (kN : ln = 0) : f_X5_step_gY un ow ln gB gA gX gY gP gC gD gR gM gL p1 = gY := by unfold f_X5_step_gY; rw [if_pos k1, if_pos k2, if_pos k3, if_pos k4, if_neg kS, if_pos kN]
set_option maxRecDepth 100000 in
theorem ms_A_gS {un ow ln p1 : Int32} {gB gX gS gP gC gD gR gM gL : Nat → Int32} (k1 : p1 = 1) (k2 : (un &&& 32) = 0) (k3 : ow = 0) (k4 : (gD p1.toNatClampNeg) = 0) (kS : ¬ (f_X5_hasSharpLine_r un gM) = 0) (kN : ln = 0) : f_X5_step_gS un ow ln gB gX gS gP gC gD gR gM gL p1 = (f_X5_breakTo_gS p1 gS) := by unfold f_X5_step_gS; rw [if_pos k1, if_pos k2, if_pos k3, if_pos k4, if_neg kS, if_pos kN]
set_option maxRecDepth 100000 in
theorem ms_A_gP {un ow ln p1 : Int32} {gB gA gX gY gS gP gC gD gR gM gL : Nat → Int32} (k1 : p1 = 1) (k2 : (un &&& 32) = 0) (k3 : ow = 0) (k4 : (gD p1.toNatClampNeg) = 0) (kS : ¬ (f_X5_hasSharpLine_r un gM) = 0) (kN : ln = 0) : f_X5_step_gP un ow ln gB gA gX gY gS gP gC gD gR gM gL p1 = (f_X5_breakTo_gP p1 gP) := by unfold f_X5_step_gP; rw [if_pos k1, if_pos k2, if_pos k3, if_pos k4, if_neg kS, if_pos kN]
set_option maxRecDepth 100000 in
theorem ms_A_gC {un ow ln p1 : Int32} {gB gS gP gC gD gR gM gL : Nat → Int32} (k1 : p1 = 1) (k2 : (un &&& 32) = 0) (k3 : ow = 0) (k4 : (gD p1.toNatClampNeg) = 0) (kS : ¬ (f_X5_hasSharpLine_r un gM) = 0) (kN : ln = 0) : f_X5_step_gC un ow ln gB gS gP gC gD gR gM gL p1 = (f_X5_breakTo_gC p1 gB gS gP gC 4090) := by unfold f_X5_step_gC; rw [if_pos k1, if_pos k2, if_pos k3, if_pos k4, if_neg kS, if_pos kN]
set_option maxRecDepth 100000 in
theorem ms_A_gR {un ow ln p1 : Int32} {gB gA gX gY gP gC gD gR gM gL : Nat → Int32} (k1 : p1 = 1) (k2 : (un &&& 32) = 0) (k3 : ow = 0) (k4 : (gD p1.toNatClampNeg) = 0) (kS : ¬ (f_X5_hasSharpLine_r un gM) = 0) (kN : ln = 0) : f_X5_step_gR un ow ln gB gA gX gY gP gC gD gR gM gL p1 = gR := by unfold f_X5_step_gR; rw [if_pos k1, if_pos k2, if_pos k3, if_pos k4, if_neg kS, if_pos kN]
set_option maxRecDepth 100000 in
theorem ms_A_gM {un ow ln p1 : Int32} {gB gX gY gP gC gD gR gM gL : Nat → Int32} (k1 : p1 = 1) (k2 : (un &&& 32) = 0) (k3 : ow = 0) (k4 : (gD p1.toNatClampNeg) = 0) (kS : ¬ (f_X5_hasSharpLine_r un gM) = 0) (kN : ln = 0) : f_X5_step_gM un ow ln gB gX gY gP gC gD gR gM gL p1 = gM := by unfold f_X5_step_gM; rw [if_pos k1, if_pos k2, if_pos k3, if_pos k4, if_neg kS, if_pos kN]
set_option maxRecDepth 100000 in
theorem ms_A_gL {un ow ln p1 : Int32} {gB gX gY gP gC gD gR gM gL : Nat → Int32} (k1 : p1 = 1) (k2 : (un &&& 32) = 0) (k3 : ow = 0) (k4 : (gD p1.toNatClampNeg) = 0) (kS : ¬ (f_X5_hasSharpLine_r un gM) = 0) (kN : ln = 0) : f_X5_step_gL un ow ln gB gX gY gP gC gD gR gM gL p1 = gL := by unfold f_X5_step_gL; rw [if_pos k1, if_pos k2, if_pos k3, if_pos k4, if_neg kS, if_pos kN]
set_option maxRecDepth 100000 in
theorem ms_A_un {un ow ln p1 : Int32} {gB gA gX gY gP gC gD gR gM gL : Nat → Int32} (k1 : p1 = 1) (k2 : (un &&& 32) = 0) (k3 : ow = 0) (k4 : (gD p1.toNatClampNeg) = 0) (kS : ¬ (f_X5_hasSharpLine_r un gM) = 0) (kN : ln = 0) : f_X5_step_un un ow ln gB gA gX gY gP gC gD gR gM gL p1 = un := by unfold f_X5_step_un; rw [if_pos k1, if_pos k2, if_pos k3, if_pos k4, if_neg kS, if_pos kN]
set_option maxRecDepth 100000 in
theorem ms_A_ow {un ow ln p1 : Int32} {gB gA gX gY gP gC gD gR gM gL : Nat → Int32} (k1 : p1 = 1) (k2 : (un &&& 32) = 0) (k3 : ow = 0) (k4 : (gD p1.toNatClampNeg) = 0) (kS : ¬ (f_X5_hasSharpLine_r un gM) = 0) (kN : ln = 0) : f_X5_step_ow un ow ln gB gA gX gY gP gC gD gR gM gL p1 = ow := by unfold f_X5_step_ow; rw [if_pos k1, if_pos k2, if_pos k3, if_pos k4, if_neg kS, if_pos kN]
set_option maxRecDepth 100000 in
theorem ms_A_gD {un ow ln p1 : Int32} {gB gP gC gD gR gM gL : Nat → Int32} (k1 : p1 = 1) (k2 : (un &&& 32) = 0) (k3 : ow = 0) (k4 : (gD p1.toNatClampNeg) = 0) (kS : ¬ (f_X5_hasSharpLine_r un gM) = 0) (kN : ln = 0) : f_X5_step_gD un ow ln gB gP gC gD gR gM gL p1 = gD := by unfold f_X5_step_gD; rw [if_pos k1, if_pos k2, if_pos k3, if_pos k4, if_neg kS, if_pos kN]
set_option maxRecDepth 100000 in
theorem ms_A_gT {un ow p1 : Int32} {gD : Nat → Int32} {gT : Nat → Int64} (k1 : p1 = 1) (k2 : (un &&& 32) = 0) (k3 : ow = 0) (k4 : (gD p1.toNatClampNeg) = 0) : f_X5_step_gT un ow gD gT p1 = (vp_updL gT p1.toNatClampNeg ((gT p1.toNatClampNeg) + 1)) := by unfold f_X5_step_gT; rw [if_pos k1, if_pos k2, if_pos k3, if_pos k4]
set_option maxRecDepth 100000 in
theorem ms_A_ln {un ow ln p1 : Int32} {gD gM : Nat → Int32} (k1 : p1 = 1) (k2 : (un &&& 32) = 0) (k3 : ow = 0) (k4 : (gD p1.toNatClampNeg) = 0) (kS : ¬ (f_X5_hasSharpLine_r un gM) = 0) : f_X5_step_ln un ow ln gD gM p1 = 1 := by unfold f_X5_step_ln; rw [if_pos k1, if_pos k2, if_pos k3, if_pos k4, if_neg kS]
set_option maxRecDepth 100000 in
theorem ms_B1_gB {un ow ln p1 : Int32} {gB gA gX gY gS gP gC gD gR gM gL : Nat → Int32} (k1 : p1 = 1) (k2 : (un &&& 32) = 0) (k3 : ow = 0) (k4 : (gD p1.toNatClampNeg) = 0) (kS : (f_X5_hasSharpLine_r un gM) = 0) (kL : ¬ (f_X5_hasLine_r un gM p1) = 0) (kH : (f_X5_has_r p1 gP 4) = 0) : f_X5_step_gB un ow ln gB gA gX gY gS gP gC gD gR gM gL p1 = (f_X5_breakTo_gB p1 gB gS gP gC) := by unfold f_X5_step_gB; rw [if_pos k1, if_pos k2, if_pos k3, if_pos k4, if_pos kS, if_neg kL, if_pos kH]
set_option maxRecDepth 100000 in
theorem ms_B1_gA {un ow ln p1 : Int32} {gB gA gX gY gS gP gC gD gR gM gL : Nat → Int32} (k1 : p1 = 1) (k2 : (un &&& 32) = 0) (k3 : ow = 0) (k4 : (gD p1.toNatClampNeg) = 0) (kS : (f_X5_hasSharpLine_r un gM) = 0) (kL : ¬ (f_X5_hasLine_r un gM p1) = 0) (kH : (f_X5_has_r p1 gP 4) = 0) : f_X5_step_gA un ow ln gB gA gX gY gS gP gC gD gR gM gL p1 = gA := by unfold f_X5_step_gA; rw [if_pos k1, if_pos k2, if_pos k3, if_pos k4, if_pos kS, if_neg kL, if_pos kH]
set_option maxRecDepth 100000 in
theorem ms_B1_gX {un ow ln p1 : Int32} {gB gA gX gY gS gP gC gD gR gM gL : Nat → Int32} (k1 : p1 = 1) (k2 : (un &&& 32) = 0) (k3 : ow = 0) (k4 : (gD p1.toNatClampNeg) = 0) (kS : (f_X5_hasSharpLine_r un gM) = 0) (kL : ¬ (f_X5_hasLine_r un gM p1) = 0) (kH : (f_X5_has_r p1 gP 4) = 0) : f_X5_step_gX un ow ln gB gA gX gY gS gP gC gD gR gM gL p1 = gX := by unfold f_X5_step_gX; rw [if_pos k1, if_pos k2, if_pos k3, if_pos k4, if_pos kS, if_neg kL, if_pos kH]
set_option maxRecDepth 100000 in
theorem ms_B1_gY {un ow ln p1 : Int32} {gB gA gX gY gP gC gD gR gM gL : Nat → Int32} (k1 : p1 = 1) (k2 : (un &&& 32) = 0) (k3 : ow = 0) (k4 : (gD p1.toNatClampNeg) = 0) (kS : (f_X5_hasSharpLine_r un gM) = 0) (kL : ¬ (f_X5_hasLine_r un gM p1) = 0) (kH : (f_X5_has_r p1 gP 4) = 0) : f_X5_step_gY un ow ln gB gA gX gY gP gC gD gR gM gL p1 = gY := by unfold f_X5_step_gY; rw [if_pos k1, if_pos k2, if_pos k3, if_pos k4, if_pos kS, if_neg kL, if_pos kH]
set_option maxRecDepth 100000 in
theorem ms_B1_gS {un ow ln p1 : Int32} {gB gX gS gP gC gD gR gM gL : Nat → Int32} (k1 : p1 = 1) (k2 : (un &&& 32) = 0) (k3 : ow = 0) (k4 : (gD p1.toNatClampNeg) = 0) (kS : (f_X5_hasSharpLine_r un gM) = 0) (kL : ¬ (f_X5_hasLine_r un gM p1) = 0) (kH : (f_X5_has_r p1 gP 4) = 0) : f_X5_step_gS un ow ln gB gX gS gP gC gD gR gM gL p1 = (f_X5_breakTo_gS p1 gS) := by unfold f_X5_step_gS; rw [if_pos k1, if_pos k2, if_pos k3, if_pos k4, if_pos kS, if_neg kL, if_pos kH]
set_option maxRecDepth 100000 in
theorem ms_B1_gP {un ow ln p1 : Int32} {gB gA gX gY gS gP gC gD gR gM gL : Nat → Int32} (k1 : p1 = 1) (k2 : (un &&& 32) = 0) (k3 : ow = 0) (k4 : (gD p1.toNatClampNeg) = 0) (kS : (f_X5_hasSharpLine_r un gM) = 0) (kL : ¬ (f_X5_hasLine_r un gM p1) = 0) (kH : (f_X5_has_r p1 gP 4) = 0) : f_X5_step_gP un ow ln gB gA gX gY gS gP gC gD gR gM gL p1 = (f_X5_breakTo_gP p1 gP) := by unfold f_X5_step_gP; rw [if_pos k1, if_pos k2, if_pos k3, if_pos k4, if_pos kS, if_neg kL, if_pos kH]
set_option maxRecDepth 100000 in
theorem ms_B1_gC {un ow ln p1 : Int32} {gB gS gP gC gD gR gM gL : Nat → Int32} (k1 : p1 = 1) (k2 : (un &&& 32) = 0) (k3 : ow = 0) (k4 : (gD p1.toNatClampNeg) = 0) (kS : (f_X5_hasSharpLine_r un gM) = 0) (kL : ¬ (f_X5_hasLine_r un gM p1) = 0) (kH : (f_X5_has_r p1 gP 4) = 0) : f_X5_step_gC un ow ln gB gS gP gC gD gR gM gL p1 = (f_X5_breakTo_gC p1 gB gS gP gC 4094) := by unfold f_X5_step_gC; rw [if_pos k1, if_pos k2, if_pos k3, if_pos k4, if_pos kS, if_neg kL, if_pos kH]
set_option maxRecDepth 100000 in
theorem ms_B1_gR {un ow ln p1 : Int32} {gB gA gX gY gP gC gD gR gM gL : Nat → Int32} (k1 : p1 = 1) (k2 : (un &&& 32) = 0) (k3 : ow = 0) (k4 : (gD p1.toNatClampNeg) = 0) (kS : (f_X5_hasSharpLine_r un gM) = 0) (kL : ¬ (f_X5_hasLine_r un gM p1) = 0) (kH : (f_X5_has_r p1 gP 4) = 0) : f_X5_step_gR un ow ln gB gA gX gY gP gC gD gR gM gL p1 = gR := by unfold f_X5_step_gR; rw [if_pos k1, if_pos k2, if_pos k3, if_pos k4, if_pos kS, if_neg kL, if_pos kH]
set_option maxRecDepth 100000 in
theorem ms_B1_gM {un ow ln p1 : Int32} {gB gX gY gP gC gD gR gM gL : Nat → Int32} (k1 : p1 = 1) (k2 : (un &&& 32) = 0) (k3 : ow = 0) (k4 : (gD p1.toNatClampNeg) = 0) (kS : (f_X5_hasSharpLine_r un gM) = 0) (kL : ¬ (f_X5_hasLine_r un gM p1) = 0) (kH : (f_X5_has_r p1 gP 4) = 0) : f_X5_step_gM un ow ln gB gX gY gP gC gD gR gM gL p1 = gM := by unfold f_X5_step_gM; rw [if_pos k1, if_pos k2, if_pos k3, if_pos k4, if_pos kS, if_neg kL, if_pos kH]
set_option maxRecDepth 100000 in
theorem ms_B1_gL {un ow ln p1 : Int32} {gB gX gY gP gC gD gR gM gL : Nat → Int32} (k1 : p1 = 1) (k2 : (un &&& 32) = 0) (k3 : ow = 0) (k4 : (gD p1.toNatClampNeg) = 0) (kS : (f_X5_hasSharpLine_r un gM) = 0) (kL : ¬ (f_X5_hasLine_r un gM p1) = 0) (kH : (f_X5_has_r p1 gP 4) = 0) : f_X5_step_gL un ow ln gB gX gY gP gC gD gR gM gL p1 = gL := by unfold f_X5_step_gL; rw [if_pos k1, if_pos k2, if_pos k3, if_pos k4, if_pos kS, if_neg kL, if_pos kH]
set_option maxRecDepth 100000 in
theorem ms_B1_un {un ow ln p1 : Int32} {gB gA gX gY gP gC gD gR gM gL : Nat → Int32} (k1 : p1 = 1) (k2 : (un &&& 32) = 0) (k3 : ow = 0) (k4 : (gD p1.toNatClampNeg) = 0) (kS : (f_X5_hasSharpLine_r un gM) = 0) (kL : ¬ (f_X5_hasLine_r un gM p1) = 0) (kH : (f_X5_has_r p1 gP 4) = 0) : f_X5_step_un un ow ln gB gA gX gY gP gC gD gR gM gL p1 = un := by unfold f_X5_step_un; rw [if_pos k1, if_pos k2, if_pos k3, if_pos k4, if_pos kS, if_neg kL, if_pos kH]
set_option maxRecDepth 100000 in
theorem ms_B1_ow {un ow ln p1 : Int32} {gB gA gX gY gP gC gD gR gM gL : Nat → Int32} (k1 : p1 = 1) (k2 : (un &&& 32) = 0) (k3 : ow = 0) (k4 : (gD p1.toNatClampNeg) = 0) (kS : (f_X5_hasSharpLine_r un gM) = 0) (kL : ¬ (f_X5_hasLine_r un gM p1) = 0) (kH : (f_X5_has_r p1 gP 4) = 0) : f_X5_step_ow un ow ln gB gA gX gY gP gC gD gR gM gL p1 = ow := by unfold f_X5_step_ow; rw [if_pos k1, if_pos k2, if_pos k3, if_pos k4, if_pos kS, if_neg kL, if_pos kH]
set_option maxRecDepth 100000 in
theorem ms_B1_gD {un ow ln p1 : Int32} {gB gP gC gD gR gM gL : Nat → Int32} (k1 : p1 = 1) (k2 : (un &&& 32) = 0) (k3 : ow = 0) (k4 : (gD p1.toNatClampNeg) = 0) (kS : (f_X5_hasSharpLine_r un gM) = 0) (kL : ¬ (f_X5_hasLine_r un gM p1) = 0) (kH : (f_X5_has_r p1 gP 4) = 0) : f_X5_step_gD un ow ln gB gP gC gD gR gM gL p1 = gD := by unfold f_X5_step_gD; rw [if_pos k1, if_pos k2, if_pos k3, if_pos k4, if_pos kS, if_neg kL, if_pos kH]
set_option maxRecDepth 100000 in
theorem ms_B1_gT {un ow p1 : Int32} {gD : Nat → Int32} {gT : Nat → Int64} (k1 : p1 = 1) (k2 : (un &&& 32) = 0) (k3 : ow = 0) (k4 : (gD p1.toNatClampNeg) = 0) : f_X5_step_gT un ow gD gT p1 = (vp_updL gT p1.toNatClampNeg ((gT p1.toNatClampNeg) + 1)) := by unfold f_X5_step_gT; rw [if_pos k1, if_pos k2, if_pos k3, if_pos k4]
set_option maxRecDepth 100000 in
theorem ms_B1_ln {un ow ln p1 : Int32} {gD gM : Nat → Int32} (k1 : p1 = 1) (k2 : (un &&& 32) = 0) (k3 : ow = 0) (k4 : (gD p1.toNatClampNeg) = 0) (kS : (f_X5_hasSharpLine_r un gM) = 0) : f_X5_step_ln un ow ln gD gM p1 = 0 := by unfold f_X5_step_ln; rw [if_pos k1, if_pos k2, if_pos k3, if_pos k4, if_pos kS]
set_option maxRecDepth 100000 in
theorem ms_B2_gB {un ow ln p1 : Int32} {gB gA gX gY gS gP gC gD gR gM gL : Nat → Int32} (k1 : p1 = 1) (k2 : (un &&& 32) = 0) (k3 : ow = 0) (k4 : (gD p1.toNatClampNeg) = 0) (kS : ¬ (f_X5_hasSharpLine_r un gM) = 0) (kN : ¬ ln = 0) (kL : ¬ (f_X5_hasLine_r un gM p1) = 0) (kH : (f_X5_has_r p1 gP 4) = 0) : f_X5_step_gB un ow ln gB gA gX gY gS gP gC gD gR gM gL p1 = (f_X5_breakTo_gB p1 gB gS gP gC) := by unfold f_X5_step_gB; rw [if_pos k1, if_pos k2, if_pos k3, if_pos k4, if_neg kS, if_neg kN, if_neg kL, if_pos kH]
set_option maxRecDepth 100000 in
theorem ms_B2_gA {un ow ln p1 : Int32} {gB gA gX gY gS gP gC gD gR gM gL : Nat → Int32} (k1 : p1 = 1) (k2 : (un &&& 32) = 0) (k3 : ow = 0) (k4 : (gD p1.toNatClampNeg) = 0) (kS : ¬ (f_X5_hasSharpLine_r un gM) = 0) (kN : ¬ ln = 0) (kL : ¬ (f_X5_hasLine_r un gM p1) = 0) (kH : (f_X5_has_r p1 gP 4) = 0) : f_X5_step_gA un ow ln gB gA gX gY gS gP gC gD gR gM gL p1 = gA := by unfold f_X5_step_gA; rw [if_pos k1, if_pos k2, if_pos k3, if_pos k4, if_neg kS, if_neg kN, if_neg kL, if_pos kH]
set_option maxRecDepth 100000 in
theorem ms_B2_gX {un ow ln p1 : Int32} {gB gA gX gY gS gP gC gD gR gM gL : Nat → Int32} (k1 : p1 = 1) (k2 : (un &&& 32) = 0) (k3 : ow = 0) (k4 : (gD p1.toNatClampNeg) = 0) (kS : ¬ (f_X5_hasSharpLine_r un gM) = 0) (kN : ¬ ln = 0) (kL : ¬ (f_X5_hasLine_r un gM p1) = 0) (kH : (f_X5_has_r p1 gP 4) = 0) : f_X5_step_gX un ow ln gB gA gX gY gS gP gC gD gR gM gL p1 = gX := by unfold f_X5_step_gX; rw [if_pos k1, if_pos k2, if_pos k3, if_pos k4, if_neg kS, if_neg kN, if_neg kL, if_pos kH]
set_option maxRecDepth 100000 in
theorem ms_B2_gY {un ow ln p1 : Int32} {gB gA gX gY gP gC gD gR gM gL : Nat → Int32} (k1 : p1 = 1) (k2 : (un &&& 32) = 0) (k3 : ow = 0) (k4 : (gD p1.toNatClampNeg) = 0) (kS : ¬ (f_X5_hasSharpLine_r un gM) = 0) (kN : ¬ ln = 0) (kL : ¬ (f_X5_hasLine_r un gM p1) = 0) (kH : (f_X5_has_r p1 gP 4) = 0) : f_X5_step_gY un ow ln gB gA gX gY gP gC gD gR gM gL p1 = gY := by unfold f_X5_step_gY; rw [if_pos k1, if_pos k2, if_pos k3, if_pos k4, if_neg kS, if_neg kN, if_neg kL, if_pos kH]
set_option maxRecDepth 100000 in
theorem ms_B2_gS {un ow ln p1 : Int32} {gB gX gS gP gC gD gR gM gL : Nat → Int32} (k1 : p1 = 1) (k2 : (un &&& 32) = 0) (k3 : ow = 0) (k4 : (gD p1.toNatClampNeg) = 0) (kS : ¬ (f_X5_hasSharpLine_r un gM) = 0) (kN : ¬ ln = 0) (kL : ¬ (f_X5_hasLine_r un gM p1) = 0) (kH : (f_X5_has_r p1 gP 4) = 0) : f_X5_step_gS un ow ln gB gX gS gP gC gD gR gM gL p1 = (f_X5_breakTo_gS p1 gS) := by unfold f_X5_step_gS; rw [if_pos k1, if_pos k2, if_pos k3, if_pos k4, if_neg kS, if_neg kN, if_neg kL, if_pos kH]
set_option maxRecDepth 100000 in
theorem ms_B2_gP {un ow ln p1 : Int32} {gB gA gX gY gS gP gC gD gR gM gL : Nat → Int32} (k1 : p1 = 1) (k2 : (un &&& 32) = 0) (k3 : ow = 0) (k4 : (gD p1.toNatClampNeg) = 0) (kS : ¬ (f_X5_hasSharpLine_r un gM) = 0) (kN : ¬ ln = 0) (kL : ¬ (f_X5_hasLine_r un gM p1) = 0) (kH : (f_X5_has_r p1 gP 4) = 0) : f_X5_step_gP un ow ln gB gA gX gY gS gP gC gD gR gM gL p1 = (f_X5_breakTo_gP p1 gP) := by unfold f_X5_step_gP; rw [if_pos k1, if_pos k2, if_pos k3, if_pos k4, if_neg kS, if_neg kN, if_neg kL, if_pos kH]
set_option maxRecDepth 100000 in
theorem ms_B2_gC {un ow ln p1 : Int32} {gB gS gP gC gD gR gM gL : Nat → Int32} (k1 : p1 = 1) (k2 : (un &&& 32) = 0) (k3 : ow = 0) (k4 : (gD p1.toNatClampNeg) = 0) (kS : ¬ (f_X5_hasSharpLine_r un gM) = 0) (kN : ¬ ln = 0) (kL : ¬ (f_X5_hasLine_r un gM p1) = 0) (kH : (f_X5_has_r p1 gP 4) = 0) : f_X5_step_gC un ow ln gB gS gP gC gD gR gM gL p1 = (f_X5_breakTo_gC p1 gB gS gP gC 4094) := by unfold f_X5_step_gC; rw [if_pos k1, if_pos k2, if_pos k3, if_pos k4, if_neg kS, if_neg kN, if_neg kL, if_pos kH]
set_option maxRecDepth 100000 in
theorem ms_B2_gR {un ow ln p1 : Int32} {gB gA gX gY gP gC gD gR gM gL : Nat → Int32} (k1 : p1 = 1) (k2 : (un &&& 32) = 0) (k3 : ow = 0) (k4 : (gD p1.toNatClampNeg) = 0) (kS : ¬ (f_X5_hasSharpLine_r un gM) = 0) (kN : ¬ ln = 0) (kL : ¬ (f_X5_hasLine_r un gM p1) = 0) (kH : (f_X5_has_r p1 gP 4) = 0) : f_X5_step_gR un ow ln gB gA gX gY gP gC gD gR gM gL p1 = gR := by unfold f_X5_step_gR; rw [if_pos k1, if_pos k2, if_pos k3, if_pos k4, if_neg kS, if_neg kN, if_neg kL, if_pos kH]
set_option maxRecDepth 100000 in
theorem ms_B2_gM {un ow ln p1 : Int32} {gB gX gY gP gC gD gR gM gL : Nat → Int32} (k1 : p1 = 1) (k2 : (un &&& 32) = 0) (k3 : ow = 0) (k4 : (gD p1.toNatClampNeg) = 0) (kS : ¬ (f_X5_hasSharpLine_r un gM) = 0) (kN : ¬ ln = 0) (kL : ¬ (f_X5_hasLine_r un gM p1) = 0) (kH : (f_X5_has_r p1 gP 4) = 0) : f_X5_step_gM un ow ln gB gX gY gP gC gD gR gM gL p1 = gM := by unfold f_X5_step_gM; rw [if_pos k1, if_pos k2, if_pos k3, if_pos k4, if_neg kS, if_neg kN, if_neg kL, if_pos kH]
set_option maxRecDepth 100000 in
theorem ms_B2_gL {un ow ln p1 : Int32} {gB gX gY gP gC gD gR gM gL : Nat → Int32} (k1 : p1 = 1) (k2 : (un &&& 32) = 0) (k3 : ow = 0) (k4 : (gD p1.toNatClampNeg) = 0) (kS : ¬ (f_X5_hasSharpLine_r un gM) = 0) (kN : ¬ ln = 0) (kL : ¬ (f_X5_hasLine_r un gM p1) = 0) (kH : (f_X5_has_r p1 gP 4) = 0) : f_X5_step_gL un ow ln gB gX gY gP gC gD gR gM gL p1 = gL := by unfold f_X5_step_gL; rw [if_pos k1, if_pos k2, if_pos k3, if_pos k4, if_neg kS, if_neg kN, if_neg kL, if_pos kH]
set_option maxRecDepth 100000 in
theorem ms_B2_un {un ow ln p1 : Int32} {gB gA gX gY gP gC gD gR gM gL : Nat → Int32} (k1 : p1 = 1) (k2 : (un &&& 32) = 0) (k3 : ow = 0) (k4 : (gD p1.toNatClampNeg) = 0) (kS : ¬ (f_X5_hasSharpLine_r un gM) = 0) (kN : ¬ ln = 0) (kL : ¬ (f_X5_hasLine_r un gM p1) = 0) (kH : (f_X5_has_r p1 gP 4) = 0) : f_X5_step_un un ow ln gB gA gX gY gP gC gD gR gM gL p1 = un := by unfold f_X5_step_un; rw [if_pos k1, if_pos k2, if_pos k3, if_pos k4, if_neg kS, if_neg kN, if_neg kL, if_pos kH]
set_option maxRecDepth 100000 in
theorem ms_B2_ow {un ow ln p1 : Int32} {gB gA gX gY gP gC gD gR gM gL : Nat → Int32} (k1 : p1 = 1) (k2 : (un &&& 32) = 0) (k3 : ow = 0) (k4 : (gD p1.toNatClampNeg) = 0) (kS : ¬ (f_X5_hasSharpLine_r un gM) = 0) (kN : ¬ ln = 0) (kL : ¬ (f_X5_hasLine_r un gM p1) = 0) (kH : (f_X5_has_r p1 gP 4) = 0) : f_X5_step_ow un ow ln gB gA gX gY gP gC gD gR gM gL p1 = ow := by unfold f_X5_step_ow; rw [if_pos k1, if_pos k2, if_pos k3, if_pos k4, if_neg kS, if_neg kN, if_neg kL, if_pos kH]
set_option maxRecDepth 100000 in
theorem ms_B2_gD {un ow ln p1 : Int32} {gB gP gC gD gR gM gL : Nat → Int32} (k1 : p1 = 1) (k2 : (un &&& 32) = 0) (k3 : ow = 0) (k4 : (gD p1.toNatClampNeg) = 0) (kS : ¬ (f_X5_hasSharpLine_r un gM) = 0) (kN : ¬ ln = 0) (kL : ¬ (f_X5_hasLine_r un gM p1) = 0) (kH : (f_X5_has_r p1 gP 4) = 0) : f_X5_step_gD un ow ln gB gP gC gD gR gM gL p1 = gD := by unfold f_X5_step_gD; rw [if_pos k1, if_pos k2, if_pos k3, if_pos k4, if_neg kS, if_neg kN, if_neg kL, if_pos kH]
set_option maxRecDepth 100000 in
theorem ms_B2_gT {un ow p1 : Int32} {gD : Nat → Int32} {gT : Nat → Int64} (k1 : p1 = 1) (k2 : (un &&& 32) = 0) (k3 : ow = 0) (k4 : (gD p1.toNatClampNeg) = 0) : f_X5_step_gT un ow gD gT p1 = (vp_updL gT p1.toNatClampNeg ((gT p1.toNatClampNeg) + 1)) := by unfold f_X5_step_gT; rw [if_pos k1, if_pos k2, if_pos k3, if_pos k4]
set_option maxRecDepth 100000 in
theorem ms_B2_ln {un ow ln p1 : Int32} {gD gM : Nat → Int32} (k1 : p1 = 1) (k2 : (un &&& 32) = 0) (k3 : ow = 0) (k4 : (gD p1.toNatClampNeg) = 0) (kS : ¬ (f_X5_hasSharpLine_r un gM) = 0) : f_X5_step_ln un ow ln gD gM p1 = 1 := by unfold f_X5_step_ln; rw [if_pos k1, if_pos k2, if_pos k3, if_pos k4, if_neg kS]
set_option maxRecDepth 100000 in
theorem ms_B0_gB {un ow ln p1 : Int32} {gB gA gX gY gS gP gC gD gR gM gL : Nat → Int32} (k1 : ¬ p1 = 1) (k4 : (gD p1.toNatClampNeg) = 0) (kL : ¬ (f_X5_hasLine_r un gM p1) = 0) (kH : (f_X5_has_r p1 gP 4) = 0) : f_X5_step_gB un ow ln gB gA gX gY gS gP gC gD gR gM gL p1 = (f_X5_breakTo_gB p1 gB gS gP gC) := by unfold f_X5_step_gB; rw [if_neg k1, if_pos k4, if_neg kL, if_pos kH]
set_option maxRecDepth 100000 in
theorem ms_B0_gA {un ow ln p1 : Int32} {gB gA gX gY gS gP gC gD gR gM gL : Nat → Int32} (k1 : ¬ p1 = 1) (k4 : (gD p1.toNatClampNeg) = 0) (kL : ¬ (f_X5_hasLine_r un gM p1) = 0) (kH : (f_X5_has_r p1 gP 4) = 0) : f_X5_step_gA un ow ln gB gA gX gY gS gP gC gD gR gM gL p1 = gA := by unfold f_X5_step_gA; rw [if_neg k1, if_pos k4, if_neg kL, if_pos kH]
set_option maxRecDepth 100000 in
theorem ms_B0_gX {un ow ln p1 : Int32} {gB gA gX gY gS gP gC gD gR gM gL : Nat → Int32} (k1 : ¬ p1 = 1) (k4 : (gD p1.toNatClampNeg) = 0) (kL : ¬ (f_X5_hasLine_r un gM p1) = 0) (kH : (f_X5_has_r p1 gP 4) = 0) : f_X5_step_gX un ow ln gB gA gX gY gS gP gC gD gR gM gL p1 = gX := by unfold f_X5_step_gX; rw [if_neg k1, if_pos k4, if_neg kL, if_pos kH]
set_option maxRecDepth 100000 in
theorem ms_B0_gY {un ow ln p1 : Int32} {gB gA gX gY gP gC gD gR gM gL : Nat → Int32} (k1 : ¬ p1 = 1) (k4 : (gD p1.toNatClampNeg) = 0) (kL : ¬ (f_X5_hasLine_r un gM p1) = 0) (kH : (f_X5_has_r p1 gP 4) = 0) : f_X5_step_gY un ow ln gB gA gX gY gP gC gD gR gM gL p1 = gY := by unfold f_X5_step_gY; rw [if_neg k1, if_pos k4, if_neg kL, if_pos kH]
set_option maxRecDepth 100000 in
theorem ms_B0_gS {un ow ln p1 : Int32} {gB gX gS gP gC gD gR gM gL : Nat → Int32} (k1 : ¬ p1 = 1) (k4 : (gD p1.toNatClampNeg) = 0) (kL : ¬ (f_X5_hasLine_r un gM p1) = 0) (kH : (f_X5_has_r p1 gP 4) = 0) : f_X5_step_gS un ow ln gB gX gS gP gC gD gR gM gL p1 = (f_X5_breakTo_gS p1 gS) := by unfold f_X5_step_gS; rw [if_neg k1, if_pos k4, if_neg kL, if_pos kH]
set_option maxRecDepth 100000 in
theorem ms_B0_gP {un ow ln p1 : Int32} {gB gA gX gY gS gP gC gD gR gM gL : Nat → Int32} (k1 : ¬ p1 = 1) (k4 : (gD p1.toNatClampNeg) = 0) (kL : ¬ (f_X5_hasLine_r un gM p1) = 0) (kH : (f_X5_has_r p1 gP 4) = 0) : f_X5_step_gP un ow ln gB gA gX gY gS gP gC gD gR gM gL p1 = (f_X5_breakTo_gP p1 gP) := by unfold f_X5_step_gP; rw [if_neg k1, if_pos k4, if_neg kL, if_pos kH]
set_option maxRecDepth 100000 in
theorem ms_B0_gC {un ow ln p1 : Int32} {gB gS gP gC gD gR gM gL : Nat → Int32} (k1 : ¬ p1 = 1) (k4 : (gD p1.toNatClampNeg) = 0) (kL : ¬ (f_X5_hasLine_r un gM p1) = 0) (kH : (f_X5_has_r p1 gP 4) = 0) : f_X5_step_gC un ow ln gB gS gP gC gD gR gM gL p1 = (f_X5_breakTo_gC p1 gB gS gP gC 4094) := by unfold f_X5_step_gC; rw [if_neg k1, if_pos k4, if_neg kL, if_pos kH]
set_option maxRecDepth 100000 in
theorem ms_B0_gR {un ow ln p1 : Int32} {gB gA gX gY gP gC gD gR gM gL : Nat → Int32} (k1 : ¬ p1 = 1) (k4 : (gD p1.toNatClampNeg) = 0) (kL : ¬ (f_X5_hasLine_r un gM p1) = 0) (kH : (f_X5_has_r p1 gP 4) = 0) : f_X5_step_gR un ow ln gB gA gX gY gP gC gD gR gM gL p1 = gR := by unfold f_X5_step_gR; rw [if_neg k1, if_pos k4, if_neg kL, if_pos kH]
set_option maxRecDepth 100000 in
theorem ms_B0_gM {un ow ln p1 : Int32} {gB gX gY gP gC gD gR gM gL : Nat → Int32} (k1 : ¬ p1 = 1) (k4 : (gD p1.toNatClampNeg) = 0) (kL : ¬ (f_X5_hasLine_r un gM p1) = 0) (kH : (f_X5_has_r p1 gP 4) = 0) : f_X5_step_gM un ow ln gB gX gY gP gC gD gR gM gL p1 = gM := by unfold f_X5_step_gM; rw [if_neg k1, if_pos k4, if_neg kL, if_pos kH]
set_option maxRecDepth 100000 in
theorem ms_B0_gL {un ow ln p1 : Int32} {gB gX gY gP gC gD gR gM gL : Nat → Int32} (k1 : ¬ p1 = 1) (k4 : (gD p1.toNatClampNeg) = 0) (kL : ¬ (f_X5_hasLine_r un gM p1) = 0) (kH : (f_X5_has_r p1 gP 4) = 0) : f_X5_step_gL un ow ln gB gX gY gP gC gD gR gM gL p1 = gL := by unfold f_X5_step_gL; rw [if_neg k1, if_pos k4, if_neg kL, if_pos kH]
set_option maxRecDepth 100000 in
theorem ms_B0_un {un ow ln p1 : Int32} {gB gA gX gY gP gC gD gR gM gL : Nat → Int32} (k1 : ¬ p1 = 1) (k4 : (gD p1.toNatClampNeg) = 0) (kL : ¬ (f_X5_hasLine_r un gM p1) = 0) (kH : (f_X5_has_r p1 gP 4) = 0) : f_X5_step_un un ow ln gB gA gX gY gP gC gD gR gM gL p1 = un := by unfold f_X5_step_un; rw [if_neg k1, if_pos k4, if_neg kL, if_pos kH]
set_option maxRecDepth 100000 in
theorem ms_B0_ow {un ow ln p1 : Int32} {gB gA gX gY gP gC gD gR gM gL : Nat → Int32} (k1 : ¬ p1 = 1) (k4 : (gD p1.toNatClampNeg) = 0) (kL : ¬ (f_X5_hasLine_r un gM p1) = 0) (kH : (f_X5_has_r p1 gP 4) = 0) : f_X5_step_ow un ow ln gB gA gX gY gP gC gD gR gM gL p1 = ow := by unfold f_X5_step_ow; rw [if_neg k1, if_pos k4, if_neg kL, if_pos kH]
set_option maxRecDepth 100000 in
theorem ms_B0_gD {un ow ln p1 : Int32} {gB gP gC gD gR gM gL : Nat → Int32} (k1 : ¬ p1 = 1) (k4 : (gD p1.toNatClampNeg) = 0) (kL : ¬ (f_X5_hasLine_r un gM p1) = 0) (kH : (f_X5_has_r p1 gP 4) = 0) : f_X5_step_gD un ow ln gB gP gC gD gR gM gL p1 = gD := by unfold f_X5_step_gD; rw [if_neg k1, if_pos k4, if_neg kL, if_pos kH]
set_option maxRecDepth 100000 in
theorem ms_B0_gT {un ow p1 : Int32} {gD : Nat → Int32} {gT : Nat → Int64} (k1 : ¬ p1 = 1) (k4 : (gD p1.toNatClampNeg) = 0) : f_X5_step_gT un ow gD gT p1 = (vp_updL gT p1.toNatClampNeg ((gT p1.toNatClampNeg) + 1)) := by unfold f_X5_step_gT; rw [if_neg k1, if_pos k4]
set_option maxRecDepth 100000 in
theorem ms_B0_ln {un ow ln p1 : Int32} {gD gM : Nat → Int32} (k1 : ¬ p1 = 1) : f_X5_step_ln un ow ln gD gM p1 = ln := by unfold f_X5_step_ln; rw [if_neg k1]
set_option maxRecDepth 100000 in
theorem ms_C1_gB {un ow ln p1 : Int32} {gB gA gX gY gS gP gC gD gR gM gL : Nat → Int32} (k1 : p1 = 1) (k2 : (un &&& 32) = 0) (k3 : ow = 0) (k4 : (gD p1.toNatClampNeg) = 0) (kS : (f_X5_hasSharpLine_r un gM) = 0) (kL : (f_X5_hasLine_r un gM p1) = 0) : f_X5_step_gB un ow ln gB gA gX gY gS gP gC gD gR gM gL p1 = (b_gB un p1 gB gA gX gY gS gP gC gR gM gL) := by unfold f_X5_step_gB; rw [if_pos k1, if_pos k2, if_pos k3, if_pos k4, if_pos kS, if_pos kL]; (try rfl)
set_option maxRecDepth 100000 in
theorem ms_C1_gA {un ow ln p1 : Int32} {gB gA gX gY gS gP gC gD gR gM gL : Nat → Int32} (k1 : p1 = 1) (k2 : (un &&& 32) = 0) (k3 : ow = 0) (k4 : (gD p1.toNatClampNeg) = 0) (kS : (f_X5_hasSharpLine_r un gM) = 0) (kL : (f_X5_hasLine_r un gM p1) = 0) : f_X5_step_gA un ow ln gB gA gX gY gS gP gC gD gR gM gL p1 = (b_gA un p1 gB gA gX gY gS gP gC gR gM gL) := by unfold f_X5_step_gA; rw [if_pos k1, if_pos k2, if_pos k3, if_pos k4, if_pos kS, if_pos kL]; (try rfl)
set_option maxRecDepth 100000 in
theorem ms_C1_gX {un ow ln p1 : Int32} {gB gA gX gY gS gP gC gD gR gM gL : Nat → Int32} (k1 : p1 = 1) (k2 : (un &&& 32) = 0) (k3 : ow = 0) (k4 : (gD p1.toNatClampNeg) = 0) (kS : (f_X5_hasSharpLine_r un gM) = 0) (kL : (f_X5_hasLine_r un gM p1) = 0) : f_X5_step_gX un ow ln gB gA gX gY gS gP gC gD gR gM gL p1 = (b_gX un p1 gB gA gX gY gS gC gR gM gL) := by unfold f_X5_step_gX; rw [if_pos k1, if_pos k2, if_pos k3, if_pos k4, if_pos kS, if_pos kL]; (try rfl)
set_option maxRecDepth 100000 in
theorem ms_C1_gY {un ow ln p1 : Int32} {gB gA gX gY gP gC gD gR gM gL : Nat → Int32} (k1 : p1 = 1) (k2 : (un &&& 32) = 0) (k3 : ow = 0) (k4 : (gD p1.toNatClampNeg) = 0) (kS : (f_X5_hasSharpLine_r un gM) = 0) (kL : (f_X5_hasLine_r un gM p1) = 0) : f_X5_step_gY un ow ln gB gA gX gY gP gC gD gR gM gL p1 = (b_gY un p1 gB gA gX gY gC gR gM gL) := by unfold f_X5_step_gY; rw [if_pos k1, if_pos k2, if_pos k3, if_pos k4, if_pos kS, if_pos kL]; (try rfl)
set_option maxRecDepth 100000 in
theorem ms_C1_gS {un ow ln p1 : Int32} {gB gX gS gP gC gD gR gM gL : Nat → Int32} (k1 : p1 = 1) (k2 : (un &&& 32) = 0) (k3 : ow = 0) (k4 : (gD p1.toNatClampNeg) = 0) (kS : (f_X5_hasSharpLine_r un gM) = 0) (kL : (f_X5_hasLine_r un gM p1) = 0) : f_X5_step_gS un ow ln gB gX gS gP gC gD gR gM gL p1 = (b_gS un p1 gB gX gS gC gR gM gL) := by unfold f_X5_step_gS; rw [if_pos k1, if_pos k2, if_pos k3, if_pos k4, if_pos kS, if_pos kL]; (try rfl)
set_option maxRecDepth 100000 in
theorem ms_C1_gP {un ow ln p1 : Int32} {gB gA gX gY gS gP gC gD gR gM gL : Nat → Int32} (k1 : p1 = 1) (k2 : (un &&& 32) = 0) (k3 : ow = 0) (k4 : (gD p1.toNatClampNeg) = 0) (kS : (f_X5_hasSharpLine_r un gM) = 0) (kL : (f_X5_hasLine_r un gM p1) = 0) : f_X5_step_gP un ow ln gB gA gX gY gS gP gC gD gR gM gL p1 = (b_gP un p1 gB gA gX gY gS gP gC gR gM gL) := by unfold f_X5_step_gP; rw [if_pos k1, if_pos k2, if_pos k3, if_pos k4, if_pos kS, if_pos kL]; (try rfl)
set_option maxRecDepth 100000 in
theorem ms_C1_gC {un ow ln p1 : Int32} {gB gS gP gC gD gR gM gL : Nat → Int32} (k1 : p1 = 1) (k2 : (un &&& 32) = 0) (k3 : ow = 0) (k4 : (gD p1.toNatClampNeg) = 0) (kS : (f_X5_hasSharpLine_r un gM) = 0) (kL : (f_X5_hasLine_r un gM p1) = 0) : f_X5_step_gC un ow ln gB gS gP gC gD gR gM gL p1 = (b_gC un p1 gB gS gP gC gR gM gL) := by unfold f_X5_step_gC; rw [if_pos k1, if_pos k2, if_pos k3, if_pos k4, if_pos kS, if_pos kL]; (try rfl)
set_option maxRecDepth 100000 in
theorem ms_C1_gR {un ow ln p1 : Int32} {gB gA gX gY gP gC gD gR gM gL : Nat → Int32} (k1 : p1 = 1) (k2 : (un &&& 32) = 0) (k3 : ow = 0) (k4 : (gD p1.toNatClampNeg) = 0) (kS : (f_X5_hasSharpLine_r un gM) = 0) (kL : (f_X5_hasLine_r un gM p1) = 0) : f_X5_step_gR un ow ln gB gA gX gY gP gC gD gR gM gL p1 = (b_gR un p1 gB gA gX gY gP gC gR gM gL) := by unfold f_X5_step_gR; rw [if_pos k1, if_pos k2, if_pos k3, if_pos k4, if_pos kS, if_pos kL]; (try rfl)
set_option maxRecDepth 100000 in
theorem ms_C1_gM {un ow ln p1 : Int32} {gB gX gY gP gC gD gR gM gL : Nat → Int32} (k1 : p1 = 1) (k2 : (un &&& 32) = 0) (k3 : ow = 0) (k4 : (gD p1.toNatClampNeg) = 0) (kS : (f_X5_hasSharpLine_r un gM) = 0) (kL : (f_X5_hasLine_r un gM p1) = 0) : f_X5_step_gM un ow ln gB gX gY gP gC gD gR gM gL p1 = (b_gM un p1 gB gX gY gC gR gM gL) := by unfold f_X5_step_gM; rw [if_pos k1, if_pos k2, if_pos k3, if_pos k4, if_pos kS, if_pos kL]; (try rfl)
set_option maxRecDepth 100000 in
theorem ms_C1_gL {un ow ln p1 : Int32} {gB gX gY gP gC gD gR gM gL : Nat → Int32} (k1 : p1 = 1) (k2 : (un &&& 32) = 0) (k3 : ow = 0) (k4 : (gD p1.toNatClampNeg) = 0) (kS : (f_X5_hasSharpLine_r un gM) = 0) (kL : (f_X5_hasLine_r un gM p1) = 0) : f_X5_step_gL un ow ln gB gX gY gP gC gD gR gM gL p1 = (b_gL un p1 gB gX gY gC gR gM gL) := by unfold f_X5_step_gL; rw [if_pos k1, if_pos k2, if_pos k3, if_pos k4, if_pos kS, if_pos kL]; (try rfl)
set_option maxRecDepth 100000 in
theorem ms_C1_un {un ow ln p1 : Int32} {gB gA gX gY gP gC gD gR gM gL : Nat → Int32} (k1 : p1 = 1) (k2 : (un &&& 32) = 0) (k3 : ow = 0) (k4 : (gD p1.toNatClampNeg) = 0) (kS : (f_X5_hasSharpLine_r un gM) = 0) (kL : (f_X5_hasLine_r un gM p1) = 0) : f_X5_step_un un ow ln gB gA gX gY gP gC gD gR gM gL p1 = (b_un un p1 gB gA gX gY gP gC gR gM gL) := by unfold f_X5_step_un; rw [if_pos k1, if_pos k2, if_pos k3, if_pos k4, if_pos kS, if_pos kL]; (try rfl)
set_option maxRecDepth 100000 in
theorem ms_C1_ow {un ow ln p1 : Int32} {gB gA gX gY gP gC gD gR gM gL : Nat → Int32} (k1 : p1 = 1) (k2 : (un &&& 32) = 0) (k3 : ow = 0) (k4 : (gD p1.toNatClampNeg) = 0) (kS : (f_X5_hasSharpLine_r un gM) = 0) (kL : (f_X5_hasLine_r un gM p1) = 0) : f_X5_step_ow un ow ln gB gA gX gY gP gC gD gR gM gL p1 = (b_ow un ow p1 gB gA gX gY gP gC gR gM gL) := by unfold f_X5_step_ow; rw [if_pos k1, if_pos k2, if_pos k3, if_pos k4, if_pos kS, if_pos kL]; (try rfl)
set_option maxRecDepth 100000 in
theorem ms_C1_gD {un ow ln p1 : Int32} {gB gP gC gD gR gM gL : Nat → Int32} (k1 : p1 = 1) (k2 : (un &&& 32) = 0) (k3 : ow = 0) (k4 : (gD p1.toNatClampNeg) = 0) (kS : (f_X5_hasSharpLine_r un gM) = 0) (kL : (f_X5_hasLine_r un gM p1) = 0) : f_X5_step_gD un ow ln gB gP gC gD gR gM gL p1 = (b_gD un p1 gB gC gD gR gM gL) := by unfold f_X5_step_gD; rw [if_pos k1, if_pos k2, if_pos k3, if_pos k4, if_pos kS, if_pos kL]; (try rfl)
set_option maxRecDepth 100000 in
theorem ms_C1_gT {un ow p1 : Int32} {gD : Nat → Int32} {gT : Nat → Int64} (k1 : p1 = 1) (k2 : (un &&& 32) = 0) (k3 : ow = 0) (k4 : (gD p1.toNatClampNeg) = 0) : f_X5_step_gT un ow gD gT p1 = (vp_updL gT p1.toNatClampNeg ((gT p1.toNatClampNeg) + 1)) := by unfold f_X5_step_gT; rw [if_pos k1, if_pos k2, if_pos k3, if_pos k4]
set_option maxRecDepth 100000 in
theorem ms_C1_ln {un ow ln p1 : Int32} {gD gM : Nat → Int32} (k1 : p1 = 1) (k2 : (un &&& 32) = 0) (k3 : ow = 0) (k4 : (gD p1.toNatClampNeg) = 0) (kS : (f_X5_hasSharpLine_r un gM) = 0) : f_X5_step_ln un ow ln gD gM p1 = 0 := by unfold f_X5_step_ln; rw [if_pos k1, if_pos k2, if_pos k3, if_pos k4, if_pos kS]
set_option maxRecDepth 100000 in
theorem ms_C2_gB {un ow ln p1 : Int32} {gB gA gX gY gS gP gC gD gR gM gL : Nat → Int32} (k1 : p1 = 1) (k2 : (un &&& 32) = 0) (k3 : ow = 0) (k4 : (gD p1.toNatClampNeg) = 0) (kS : (f_X5_hasSharpLine_r un gM) = 0) (kL : ¬ (f_X5_hasLine_r un gM p1) = 0) (kH : ¬ (f_X5_has_r p1 gP 4) = 0) : f_X5_step_gB un ow ln gB gA gX gY gS gP gC gD gR gM gL p1 = (b_gB un p1 gB gA gX gY gS gP gC gR gM gL) := by unfold f_X5_step_gB; rw [if_pos k1, if_pos k2, if_pos k3, if_pos k4, if_pos kS, if_neg kL, if_neg kH]; (try rfl)
set_option maxRecDepth 100000 in
theorem ms_C2_gA {un ow ln p1 : Int32} {gB gA gX gY gS gP gC gD gR gM gL : Nat → Int32} (k1 : p1 = 1) (k2 : (un &&& 32) = 0) (k3 : ow = 0) (k4 : (gD p1.toNatClampNeg) = 0) (kS : (f_X5_hasSharpLine_r un gM) = 0) (kL : ¬ (f_X5_hasLine_r un gM p1) = 0) (kH : ¬ (f_X5_has_r p1 gP 4) = 0) : f_X5_step_gA un ow ln gB gA gX gY gS gP gC gD gR gM gL p1 = (b_gA un p1 gB gA gX gY gS gP gC gR gM gL) := by unfold f_X5_step_gA; rw [if_pos k1, if_pos k2, if_pos k3, if_pos k4, if_pos kS, if_neg kL, if_neg kH]; (try rfl)
set_option maxRecDepth 100000 in
theorem ms_C2_gX {un ow ln p1 : Int32} {gB gA gX gY gS gP gC gD gR gM gL : Nat → Int32} (k1 : p1 = 1) (k2 : (un &&& 32) = 0) (k3 : ow = 0) (k4 : (gD p1.toNatClampNeg) = 0) (kS : (f_X5_hasSharpLine_r un gM) = 0) (kL : ¬ (f_X5_hasLine_r un gM p1) = 0) (kH : ¬ (f_X5_has_r p1 gP 4) = 0) : f_X5_step_gX un ow ln gB gA gX gY gS gP gC gD gR gM gL p1 = (b_gX un p1 gB gA gX gY gS gC gR gM gL) := by unfold f_X5_step_gX; rw [if_pos k1, if_pos k2, if_pos k3, if_pos k4, if_pos kS, if_neg kL, if_neg kH]; (try rfl)
set_option maxRecDepth 100000 in
theorem ms_C2_gY {un ow ln p1 : Int32} {gB gA gX gY gP gC gD gR gM gL : Nat → Int32} (k1 : p1 = 1) (k2 : (un &&& 32) = 0) (k3 : ow = 0) (k4 : (gD p1.toNatClampNeg) = 0) (kS : (f_X5_hasSharpLine_r un gM) = 0) (kL : ¬ (f_X5_hasLine_r un gM p1) = 0) (kH : ¬ (f_X5_has_r p1 gP 4) = 0) : f_X5_step_gY un ow ln gB gA gX gY gP gC gD gR gM gL p1 = (b_gY un p1 gB gA gX gY gC gR gM gL) := by unfold f_X5_step_gY; rw [if_pos k1, if_pos k2, if_pos k3, if_pos k4, if_pos kS, if_neg kL, if_neg kH]; (try rfl)
set_option maxRecDepth 100000 in
theorem ms_C2_gS {un ow ln p1 : Int32} {gB gX gS gP gC gD gR gM gL : Nat → Int32} (k1 : p1 = 1) (k2 : (un &&& 32) = 0) (k3 : ow = 0) (k4 : (gD p1.toNatClampNeg) = 0) (kS : (f_X5_hasSharpLine_r un gM) = 0) (kL : ¬ (f_X5_hasLine_r un gM p1) = 0) (kH : ¬ (f_X5_has_r p1 gP 4) = 0) : f_X5_step_gS un ow ln gB gX gS gP gC gD gR gM gL p1 = (b_gS un p1 gB gX gS gC gR gM gL) := by unfold f_X5_step_gS; rw [if_pos k1, if_pos k2, if_pos k3, if_pos k4, if_pos kS, if_neg kL, if_neg kH]; (try rfl)
set_option maxRecDepth 100000 in
theorem ms_C2_gP {un ow ln p1 : Int32} {gB gA gX gY gS gP gC gD gR gM gL : Nat → Int32} (k1 : p1 = 1) (k2 : (un &&& 32) = 0) (k3 : ow = 0) (k4 : (gD p1.toNatClampNeg) = 0) (kS : (f_X5_hasSharpLine_r un gM) = 0) (kL : ¬ (f_X5_hasLine_r un gM p1) = 0) (kH : ¬ (f_X5_has_r p1 gP 4) = 0) : f_X5_step_gP un ow ln gB gA gX gY gS gP gC gD gR gM gL p1 = (b_gP un p1 gB gA gX gY gS gP gC gR gM gL) := by unfold f_X5_step_gP; rw [if_pos k1, if_pos k2, if_pos k3, if_pos k4, if_pos kS, if_neg kL, if_neg kH]; (try rfl)
set_option maxRecDepth 100000 in
theorem ms_C2_gC {un ow ln p1 : Int32} {gB gS gP gC gD gR gM gL : Nat → Int32} (k1 : p1 = 1) (k2 : (un &&& 32) = 0) (k3 : ow = 0) (k4 : (gD p1.toNatClampNeg) = 0) (kS : (f_X5_hasSharpLine_r un gM) = 0) (kL : ¬ (f_X5_hasLine_r un gM p1) = 0) (kH : ¬ (f_X5_has_r p1 gP 4) = 0) : f_X5_step_gC un ow ln gB gS gP gC gD gR gM gL p1 = (b_gC un p1 gB gS gP gC gR gM gL) := by unfold f_X5_step_gC; rw [if_pos k1, if_pos k2, if_pos k3, if_pos k4, if_pos kS, if_neg kL, if_neg kH]; (try rfl)
set_option maxRecDepth 100000 in
theorem ms_C2_gR {un ow ln p1 : Int32} {gB gA gX gY gP gC gD gR gM gL : Nat → Int32} (k1 : p1 = 1) (k2 : (un &&& 32) = 0) (k3 : ow = 0) (k4 : (gD p1.toNatClampNeg) = 0) (kS : (f_X5_hasSharpLine_r un gM) = 0) (kL : ¬ (f_X5_hasLine_r un gM p1) = 0) (kH : ¬ (f_X5_has_r p1 gP 4) = 0) : f_X5_step_gR un ow ln gB gA gX gY gP gC gD gR gM gL p1 = (b_gR un p1 gB gA gX gY gP gC gR gM gL) := by unfold f_X5_step_gR; rw [if_pos k1, if_pos k2, if_pos k3, if_pos k4, if_pos kS, if_neg kL, if_neg kH]; (try rfl)
set_option maxRecDepth 100000 in
theorem ms_C2_gM {un ow ln p1 : Int32} {gB gX gY gP gC gD gR gM gL : Nat → Int32} (k1 : p1 = 1) (k2 : (un &&& 32) = 0) (k3 : ow = 0) (k4 : (gD p1.toNatClampNeg) = 0) (kS : (f_X5_hasSharpLine_r un gM) = 0) (kL : ¬ (f_X5_hasLine_r un gM p1) = 0) (kH : ¬ (f_X5_has_r p1 gP 4) = 0) : f_X5_step_gM un ow ln gB gX gY gP gC gD gR gM gL p1 = (b_gM un p1 gB gX gY gC gR gM gL) := by unfold f_X5_step_gM; rw [if_pos k1, if_pos k2, if_pos k3, if_pos k4, if_pos kS, if_neg kL, if_neg kH]; (try rfl)
set_option maxRecDepth 100000 in
theorem ms_C2_gL {un ow ln p1 : Int32} {gB gX gY gP gC gD gR gM gL : Nat → Int32} (k1 : p1 = 1) (k2 : (un &&& 32) = 0) (k3 : ow = 0) (k4 : (gD p1.toNatClampNeg) = 0) (kS : (f_X5_hasSharpLine_r un gM) = 0) (kL : ¬ (f_X5_hasLine_r un gM p1) = 0) (kH : ¬ (f_X5_has_r p1 gP 4) = 0) : f_X5_step_gL un ow ln gB gX gY gP gC gD gR gM gL p1 = (b_gL un p1 gB gX gY gC gR gM gL) := by unfold f_X5_step_gL; rw [if_pos k1, if_pos k2, if_pos k3, if_pos k4, if_pos kS, if_neg kL, if_neg kH]; (try rfl)
set_option maxRecDepth 100000 in
theorem ms_C2_un {un ow ln p1 : Int32} {gB gA gX gY gP gC gD gR gM gL : Nat → Int32} (k1 : p1 = 1) (k2 : (un &&& 32) = 0) (k3 : ow = 0) (k4 : (gD p1.toNatClampNeg) = 0) (kS : (f_X5_hasSharpLine_r un gM) = 0) (kL : ¬ (f_X5_hasLine_r un gM p1) = 0) (kH : ¬ (f_X5_has_r p1 gP 4) = 0) : f_X5_step_un un ow ln gB gA gX gY gP gC gD gR gM gL p1 = (b_un un p1 gB gA gX gY gP gC gR gM gL) := by unfold f_X5_step_un; rw [if_pos k1, if_pos k2, if_pos k3, if_pos k4, if_pos kS, if_neg kL, if_neg kH]; (try rfl)
set_option maxRecDepth 100000 in
theorem ms_C2_ow {un ow ln p1 : Int32} {gB gA gX gY gP gC gD gR gM gL : Nat → Int32} (k1 : p1 = 1) (k2 : (un &&& 32) = 0) (k3 : ow = 0) (k4 : (gD p1.toNatClampNeg) = 0) (kS : (f_X5_hasSharpLine_r un gM) = 0) (kL : ¬ (f_X5_hasLine_r un gM p1) = 0) (kH : ¬ (f_X5_has_r p1 gP 4) = 0) : f_X5_step_ow un ow ln gB gA gX gY gP gC gD gR gM gL p1 = (b_ow un ow p1 gB gA gX gY gP gC gR gM gL) := by unfold f_X5_step_ow; rw [if_pos k1, if_pos k2, if_pos k3, if_pos k4, if_pos kS, if_neg kL, if_neg kH]; (try rfl)
set_option maxRecDepth 100000 in
theorem ms_C2_gD {un ow ln p1 : Int32} {gB gP gC gD gR gM gL : Nat → Int32} (k1 : p1 = 1) (k2 : (un &&& 32) = 0) (k3 : ow = 0) (k4 : (gD p1.toNatClampNeg) = 0) (kS : (f_X5_hasSharpLine_r un gM) = 0) (kL : ¬ (f_X5_hasLine_r un gM p1) = 0) (kH : ¬ (f_X5_has_r p1 gP 4) = 0) : f_X5_step_gD un ow ln gB gP gC gD gR gM gL p1 = (b_gD un p1 gB gC gD gR gM gL) := by unfold f_X5_step_gD; rw [if_pos k1, if_pos k2, if_pos k3, if_pos k4, if_pos kS, if_neg kL, if_neg kH]; (try rfl)
set_option maxRecDepth 100000 in
theorem ms_C2_gT {un ow p1 : Int32} {gD : Nat → Int32} {gT : Nat → Int64} (k1 : p1 = 1) (k2 : (un &&& 32) = 0) (k3 : ow = 0) (k4 : (gD p1.toNatClampNeg) = 0) : f_X5_step_gT un ow gD gT p1 = (vp_updL gT p1.toNatClampNeg ((gT p1.toNatClampNeg) + 1)) := by unfold f_X5_step_gT; rw [if_pos k1, if_pos k2, if_pos k3, if_pos k4]
set_option maxRecDepth 100000 in
theorem ms_C2_ln {un ow ln p1 : Int32} {gD gM : Nat → Int32} (k1 : p1 = 1) (k2 : (un &&& 32) = 0) (k3 : ow = 0) (k4 : (gD p1.toNatClampNeg) = 0) (kS : (f_X5_hasSharpLine_r un gM) = 0) : f_X5_step_ln un ow ln gD gM p1 = 0 := by unfold f_X5_step_ln; rw [if_pos k1, if_pos k2, if_pos k3, if_pos k4, if_pos kS]
set_option maxRecDepth 100000 in
theorem ms_C3_gB {un ow ln p1 : Int32} {gB gA gX gY gS gP gC gD gR gM gL : Nat → Int32} (k1 : p1 = 1) (k2 : (un &&& 32) = 0) (k3 : ow = 0) (k4 : (gD p1.toNatClampNeg) = 0) (kS : ¬ (f_X5_hasSharpLine_r un gM) = 0) (kN : ¬ ln = 0) (kL : (f_X5_hasLine_r un gM p1) = 0) : f_X5_step_gB un ow ln gB gA gX gY gS gP gC gD gR gM gL p1 = (b_gB un p1 gB gA gX gY gS gP gC gR gM gL) := by unfold f_X5_step_gB; rw [if_pos k1, if_pos k2, if_pos k3, if_pos k4, if_neg kS, if_neg kN, if_pos kL]; (try rfl)
set_option maxRecDepth 100000 in
theorem ms_C3_gA {un ow ln p1 : Int32} {gB gA gX gY gS gP gC gD gR gM gL : Nat → Int32} (k1 : p1 = 1) (k2 : (un &&& 32) = 0) (k3 : ow = 0) (k4 : (gD p1.toNatClampNeg) = 0) (kS : ¬ (f_X5_hasSharpLine_r un gM) = 0) (kN : ¬ ln = 0) (kL : (f_X5_hasLine_r un gM p1) = 0) : f_X5_step_gA un ow ln gB gA gX gY gS gP gC gD gR gM gL p1 = (b_gA un p1 gB gA gX gY gS gP gC gR gM gL) := by unfold f_X5_step_gA; rw [if_pos k1, if_pos k2, if_pos k3, if_pos k4, if_neg kS, if_neg kN, if_pos kL]; (try rfl)
set_option maxRecDepth 100000 in
theorem ms_C3_gX {un ow ln p1 : Int32} {gB gA gX gY gS gP gC gD gR gM gL : Nat → Int32} (k1 : p1 = 1) (k2 : (un &&& 32) = 0) (k3 : ow = 0) (k4 : (gD p1.toNatClampNeg) = 0) (kS : ¬ (f_X5_hasSharpLine_r un gM) = 0) (kN : ¬ ln = 0) (kL : (f_X5_hasLine_r un gM p1) = 0) : f_X5_step_gX un ow ln gB gA gX gY gS gP gC gD gR gM gL p1 = (b_gX un p1 gB gA gX gY gS gC gR gM gL) := by unfold f_X5_step_gX; rw [if_pos k1, if_pos k2, if_pos k3, if_pos k4, if_neg kS, if_neg kN, if_pos kL]; (try rfl)
set_option maxRecDepth 100000 in
theorem ms_C3_gY {un ow ln p1 : Int32} {gB gA gX gY gP gC gD gR gM gL : Nat → Int32} (k1 : p1 = 1) (k2 : (un &&& 32) = 0) (k3 : ow = 0) (k4 : (gD p1.toNatClampNeg) = 0) (kS : ¬ (f_X5_hasSharpLine_r un gM) = 0) (kN : ¬ ln = 0) (kL : (f_X5_hasLine_r un gM p1) = 0) : f_X5_step_gY un ow ln gB gA gX gY gP gC gD gR gM gL p1 = (b_gY un p1 gB gA gX gY gC gR gM gL) := by unfold f_X5_step_gY; rw [if_pos k1, if_pos k2, if_pos k3, if_pos k4, if_neg kS, if_neg kN, if_pos kL]; (try rfl)
set_option maxRecDepth 100000 in
theorem ms_C3_gS {un ow ln p1 : Int32} {gB gX gS gP gC gD gR gM gL : Nat → Int32} (k1 : p1 = 1) (k2 : (un &&& 32) = 0) (k3 : ow = 0) (k4 : (gD p1.toNatClampNeg) = 0) (kS : ¬ (f_X5_hasSharpLine_r un gM) = 0) (kN : ¬ ln = 0) (kL : (f_X5_hasLine_r un gM p1) = 0) : f_X5_step_gS un ow ln gB gX gS gP gC gD gR gM gL p1 = (b_gS un p1 gB gX gS gC gR gM gL) := by unfold f_X5_step_gS; rw [if_pos k1, if_pos k2, if_pos k3, if_pos k4, if_neg kS, if_neg kN, if_pos kL]; (try rfl)
set_option maxRecDepth 100000 in
theorem ms_C3_gP {un ow ln p1 : Int32} {gB gA gX gY gS gP gC gD gR gM gL : Nat → Int32} (k1 : p1 = 1) (k2 : (un &&& 32) = 0) (k3 : ow = 0) (k4 : (gD p1.toNatClampNeg) = 0) (kS : ¬ (f_X5_hasSharpLine_r un gM) = 0) (kN : ¬ ln = 0) (kL : (f_X5_hasLine_r un gM p1) = 0) : f_X5_step_gP un ow ln gB gA gX gY gS gP gC gD gR gM gL p1 = (b_gP un p1 gB gA gX gY gS gP gC gR gM gL) := by unfold f_X5_step_gP; rw [if_pos k1, if_pos k2, if_pos k3, if_pos k4, if_neg kS, if_neg kN, if_pos kL]; (try rfl)
set_option maxRecDepth 100000 in
theorem ms_C3_gC {un ow ln p1 : Int32} {gB gS gP gC gD gR gM gL : Nat → Int32} (k1 : p1 = 1) (k2 : (un &&& 32) = 0) (k3 : ow = 0) (k4 : (gD p1.toNatClampNeg) = 0) (kS : ¬ (f_X5_hasSharpLine_r un gM) = 0) (kN : ¬ ln = 0) (kL : (f_X5_hasLine_r un gM p1) = 0) : f_X5_step_gC un ow ln gB gS gP gC gD gR gM gL p1 = (b_gC un p1 gB gS gP gC gR gM gL) := by unfold f_X5_step_gC; rw [if_pos k1, if_pos k2, if_pos k3, if_pos k4, if_neg kS, if_neg kN, if_pos kL]; (try rfl)
set_option maxRecDepth 100000 in
theorem ms_C3_gR {un ow ln p1 : Int32} {gB gA gX gY gP gC gD gR gM gL : Nat → Int32} (k1 : p1 = 1) (k2 : (un &&& 32) = 0) (k3 : ow = 0) (k4 : (gD p1.toNatClampNeg) = 0) (kS : ¬ (f_X5_hasSharpLine_r un gM) = 0) (kN : ¬ ln = 0) (kL : (f_X5_hasLine_r un gM p1) = 0) : f_X5_step_gR un ow ln gB gA gX gY gP gC gD gR gM gL p1 = (b_gR un p1 gB gA gX gY gP gC gR gM gL) := by unfold f_X5_step_gR; rw [if_pos k1, if_pos k2, if_pos k3, if_pos k4, if_neg kS, if_neg kN, if_pos kL]; (try rfl)
set_option maxRecDepth 100000 in
theorem ms_C3_gM {un ow ln p1 : Int32} {gB gX gY gP gC gD gR gM gL : Nat → Int32} (k1 : p1 = 1) (k2 : (un &&& 32) = 0) (k3 : ow = 0) (k4 : (gD p1.toNatClampNeg) = 0) (kS : ¬ (f_X5_hasSharpLine_r un gM) = 0) (kN : ¬ ln = 0) (kL : (f_X5_hasLine_r un gM p1) = 0) : f_X5_step_gM un ow ln gB gX gY gP gC gD gR gM gL p1 = (b_gM un p1 gB gX gY gC gR gM gL) := by unfold f_X5_step_gM; rw [if_pos k1, if_pos k2, if_pos k3, if_pos k4, if_neg kS, if_neg kN, if_pos kL]; (try rfl)
set_option maxRecDepth 100000 in
theorem ms_C3_gL {un ow ln p1 : Int32} {gB gX gY gP gC gD gR gM gL : Nat → Int32} (k1 : p1 = 1) (k2 : (un &&& 32) = 0) (k3 : ow = 0) (k4 : (gD p1.toNatClampNeg) = 0) (kS : ¬ (f_X5_hasSharpLine_r un gM) = 0) (kN : ¬ ln = 0) (kL : (f_X5_hasLine_r un gM p1) = 0) : f_X5_step_gL un ow ln gB gX gY gP gC gD gR gM gL p1 = (b_gL un p1 gB gX gY gC gR gM gL) := by unfold f_X5_step_gL; rw [if_pos k1, if_pos k2, if_pos k3, if_pos k4, if_neg kS, if_neg kN, if_pos kL]; (try rfl)
set_option maxRecDepth 100000 in
theorem ms_C3_un {un ow ln p1 : Int32} {gB gA gX gY gP gC gD gR gM gL : Nat → Int32} (k1 : p1 = 1) (k2 : (un &&& 32) = 0) (k3 : ow = 0) (k4 : (gD p1.toNatClampNeg) = 0) (kS : ¬ (f_X5_hasSharpLine_r un gM) = 0) (kN : ¬ ln = 0) (kL : (f_X5_hasLine_r un gM p1) = 0) : f_X5_step_un un ow ln gB gA gX gY gP gC gD gR gM gL p1 = (b_un un p1 gB gA gX gY gP gC gR gM gL) := by unfold f_X5_step_un; rw [if_pos k1, if_pos k2, if_pos k3, if_pos k4, if_neg kS, if_neg kN, if_pos kL]; (try rfl)
set_option maxRecDepth 100000 in
theorem ms_C3_ow {un ow ln p1 : Int32} {gB gA gX gY gP gC gD gR gM gL : Nat → Int32} (k1 : p1 = 1) (k2 : (un &&& 32) = 0) (k3 : ow = 0) (k4 : (gD p1.toNatClampNeg) = 0) (kS : ¬ (f_X5_hasSharpLine_r un gM) = 0) (kN : ¬ ln = 0) (kL : (f_X5_hasLine_r un gM p1) = 0) : f_X5_step_ow un ow ln gB gA gX gY gP gC gD gR gM gL p1 = (b_ow un ow p1 gB gA gX gY gP gC gR gM gL) := by unfold f_X5_step_ow; rw [if_pos k1, if_pos k2, if_pos k3, if_pos k4, if_neg kS, if_neg kN, if_pos kL]; (try rfl)
set_option maxRecDepth 100000 in
theorem ms_C3_gD {un ow ln p1 : Int32} {gB gP gC gD gR gM gL : Nat → Int32} (k1 : p1 = 1) (k2 : (un &&& 32) = 0) (k3 : ow = 0) (k4 : (gD p1.toNatClampNeg) = 0) (kS : ¬ (f_X5_hasSharpLine_r un gM) = 0) (kN : ¬ ln = 0) (kL : (f_X5_hasLine_r un gM p1) = 0) : f_X5_step_gD un ow ln gB gP gC gD gR gM gL p1 = (b_gD un p1 gB gC gD gR gM gL) := by unfold f_X5_step_gD; rw [if_pos k1, if_pos k2, if_pos k3, if_pos k4, if_neg kS, if_neg kN, if_pos kL]; (try rfl)
set_option maxRecDepth 100000 in
theorem ms_C3_gT {un ow p1 : Int32} {gD : Nat → Int32} {gT : Nat → Int64} (k1 : p1 = 1) (k2 : (un &&& 32) = 0) (k3 : ow = 0) (k4 : (gD p1.toNatClampNeg) = 0) : f_X5_step_gT un ow gD gT p1 = (vp_updL gT p1.toNatClampNeg ((gT p1.toNatClampNeg) + 1)) := by unfold f_X5_step_gT; rw [if_pos k1, if_pos k2, if_pos k3, if_pos k4]
set_option maxRecDepth 100000 in
theorem ms_C3_ln {un ow ln p1 : Int32} {gD gM : Nat → Int32} (k1 : p1 = 1) (k2 : (un &&& 32) = 0) (k3 : ow = 0) (k4 : (gD p1.toNatClampNeg) = 0) (kS : ¬ (f_X5_hasSharpLine_r un gM) = 0) : f_X5_step_ln un ow ln gD gM p1 = 1 := by unfold f_X5_step_ln; rw [if_pos k1, if_pos k2, if_pos k3, if_pos k4, if_neg kS]
set_option maxRecDepth 100000 in
theorem ms_C4_gB {un ow ln p1 : Int32} {gB gA gX gY gS gP gC gD gR gM gL : Nat → Int32} (k1 : p1 = 1) (k2 : (un &&& 32) = 0) (k3 : ow = 0) (k4 : (gD p1.toNatClampNeg) = 0) (kS : ¬ (f_X5_hasSharpLine_r un gM) = 0) (kN : ¬ ln = 0) (kL : ¬ (f_X5_hasLine_r un gM p1) = 0) (kH : ¬ (f_X5_has_r p1 gP 4) = 0) : f_X5_step_gB un ow ln gB gA gX gY gS gP gC gD gR gM gL p1 = (b_gB un p1 gB gA gX gY gS gP gC gR gM gL) := by unfold f_X5_step_gB; rw [if_pos k1, if_pos k2, if_pos k3, if_pos k4, if_neg kS, if_neg kN, if_neg kL, if_neg kH]; (try rfl)
set_option maxRecDepth 100000 in
theorem ms_C4_gA {un ow ln p1 : Int32} {gB gA gX gY gS gP gC gD gR gM gL : Nat → Int32} (k1 : p1 = 1) (k2 : (un &&& 32) = 0) (k3 : ow = 0) (k4 : (gD p1.toNatClampNeg) = 0) (kS : ¬ (f_X5_hasSharpLine_r un gM) = 0) (kN : ¬ ln = 0) (kL : ¬ (f_X5_hasLine_r un gM p1) = 0) (kH : ¬ (f_X5_has_r p1 gP 4) = 0) : f_X5_step_gA un ow ln gB gA gX gY gS gP gC gD gR gM gL p1 = (b_gA un p1 gB gA gX gY gS gP gC gR gM gL) := by unfold f_X5_step_gA; rw [if_pos k1, if_pos k2, if_pos k3, if_pos k4, if_neg kS, if_neg kN, if_neg kL, if_neg kH]; (try rfl)
set_option maxRecDepth 100000 in
theorem ms_C4_gX {un ow ln p1 : Int32} {gB gA gX gY gS gP gC gD gR gM gL : Nat → Int32} (k1 : p1 = 1) (k2 : (un &&& 32) = 0) (k3 : ow = 0) (k4 : (gD p1.toNatClampNeg) = 0) (kS : ¬ (f_X5_hasSharpLine_r un gM) = 0) (kN : ¬ ln = 0) (kL : ¬ (f_X5_hasLine_r un gM p1) = 0) (kH : ¬ (f_X5_has_r p1 gP 4) = 0) : f_X5_step_gX un ow ln gB gA gX gY gS gP gC gD gR gM gL p1 = (b_gX un p1 gB gA gX gY gS gC gR gM gL) := by unfold f_X5_step_gX; rw [if_pos k1, if_pos k2, if_pos k3, if_pos k4, if_neg kS, if_neg kN, if_neg kL, if_neg kH]; (try rfl)
set_option maxRecDepth 100000 in
theorem ms_C4_gY {un ow ln p1 : Int32} {gB gA gX gY gP gC gD gR gM gL : Nat → Int32} (k1 : p1 = 1) (k2 : (un &&& 32) = 0) (k3 : ow = 0) (k4 : (gD p1.toNatClampNeg) = 0) (kS : ¬ (f_X5_hasSharpLine_r un gM) = 0) (kN : ¬ ln = 0) (kL : ¬ (f_X5_hasLine_r un gM p1) = 0) (kH : ¬ (f_X5_has_r p1 gP 4) = 0) : f_X5_step_gY un ow ln gB gA gX gY gP gC gD gR gM gL p1 = (b_gY un p1 gB gA gX gY gC gR gM gL) := by unfold f_X5_step_gY; rw [if_pos k1, if_pos k2, if_pos k3, if_pos k4, if_neg kS, if_neg kN, if_neg kL, if_neg kH]; (try rfl)
set_option maxRecDepth 100000 in
theorem ms_C4_gS {un ow ln p1 : Int32} {gB gX gS gP gC gD gR gM gL : Nat → Int32} (k1 : p1 = 1) (k2 : (un &&& 32) = 0) (k3 : ow = 0) (k4 : (gD p1.toNatClampNeg) = 0) (kS : ¬ (f_X5_hasSharpLine_r un gM) = 0) (kN : ¬ ln = 0) (kL : ¬ (f_X5_hasLine_r un gM p1) = 0) (kH : ¬ (f_X5_has_r p1 gP 4) = 0) : f_X5_step_gS un ow ln gB gX gS gP gC gD gR gM gL p1 = (b_gS un p1 gB gX gS gC gR gM gL) := by unfold f_X5_step_gS; rw [if_pos k1, if_pos k2, if_pos k3, if_pos k4, if_neg kS, if_neg kN, if_neg kL, if_neg kH]; (try rfl)
set_option maxRecDepth 100000 in
theorem ms_C4_gP {un ow ln p1 : Int32} {gB gA gX gY gS gP gC gD gR gM gL : Nat → Int32} (k1 : p1 = 1) (k2 : (un &&& 32) = 0) (k3 : ow = 0) (k4 : (gD p1.toNatClampNeg) = 0) (kS : ¬ (f_X5_hasSharpLine_r un gM) = 0) (kN : ¬ ln = 0) (kL : ¬ (f_X5_hasLine_r un gM p1) = 0) (kH : ¬ (f_X5_has_r p1 gP 4) = 0) : f_X5_step_gP un ow ln gB gA gX gY gS gP gC gD gR gM gL p1 = (b_gP un p1 gB gA gX gY gS gP gC gR gM gL) := by unfold f_X5_step_gP; rw [if_pos k1, if_pos k2, if_pos k3, if_pos k4, if_neg kS, if_neg kN, if_neg kL, if_neg kH]; (try rfl)
set_option maxRecDepth 100000 in
theorem ms_C4_gC {un ow ln p1 : Int32} {gB gS gP gC gD gR gM gL : Nat → Int32} (k1 : p1 = 1) (k2 : (un &&& 32) = 0) (k3 : ow = 0) (k4 : (gD p1.toNatClampNeg) = 0) (kS : ¬ (f_X5_hasSharpLine_r un gM) = 0) (kN : ¬ ln = 0) (kL : ¬ (f_X5_hasLine_r un gM p1) = 0) (kH : ¬ (f_X5_has_r p1 gP 4) = 0) : f_X5_step_gC un ow ln gB gS gP gC gD gR gM gL p1 = (b_gC un p1 gB gS gP gC gR gM gL) := by unfold f_X5_step_gC; rw [if_pos k1, if_pos k2, if_pos k3, if_pos k4, if_neg kS, if_neg kN, if_neg kL, if_neg kH]; (try rfl)
set_option maxRecDepth 100000 in
theorem ms_C4_gR {un ow ln p1 : Int32} {gB gA gX gY gP gC gD gR gM gL : Nat → Int32} (k1 : p1 = 1) (k2 : (un &&& 32) = 0) (k3 : ow = 0) (k4 : (gD p1.toNatClampNeg) = 0) (kS : ¬ (f_X5_hasSharpLine_r un gM) = 0) (kN : ¬ ln = 0) (kL : ¬ (f_X5_hasLine_r un gM p1) = 0) (kH : ¬ (f_X5_has_r p1 gP 4) = 0) : f_X5_step_gR un ow ln gB gA gX gY gP gC gD gR gM gL p1 = (b_gR un p1 gB gA gX gY gP gC gR gM gL) := by unfold f_X5_step_gR; rw [if_pos k1, if_pos k2, if_pos k3, if_pos k4, if_neg kS, if_neg kN, if_neg kL, if_neg kH]; (try rfl)
set_option maxRecDepth 100000 in
theorem ms_C4_gM {un ow ln p1 : Int32} {gB gX gY gP gC gD gR gM gL : Nat → Int32} (k1 : p1 = 1) (k2 : (un &&& 32) = 0) (k3 : ow = 0) (k4 : (gD p1.toNatClampNeg) = 0) (kS : ¬ (f_X5_hasSharpLine_r un gM) = 0) (kN : ¬ ln = 0) (kL : ¬ (f_X5_hasLine_r un gM p1) = 0) (kH : ¬ (f_X5_has_r p1 gP 4) = 0) : f_X5_step_gM un ow ln gB gX gY gP gC gD gR gM gL p1 = (b_gM un p1 gB gX gY gC gR gM gL) := by unfold f_X5_step_gM; rw [if_pos k1, if_pos k2, if_pos k3, if_pos k4, if_neg kS, if_neg kN, if_neg kL, if_neg kH]; (try rfl)
set_option maxRecDepth 100000 in
theorem ms_C4_gL {un ow ln p1 : Int32} {gB gX gY gP gC gD gR gM gL : Nat → Int32} (k1 : p1 = 1) (k2 : (un &&& 32) = 0) (k3 : ow = 0) (k4 : (gD p1.toNatClampNeg) = 0) (kS : ¬ (f_X5_hasSharpLine_r un gM) = 0) (kN : ¬ ln = 0) (kL : ¬ (f_X5_hasLine_r un gM p1) = 0) (kH : ¬ (f_X5_has_r p1 gP 4) = 0) : f_X5_step_gL un ow ln gB gX gY gP gC gD gR gM gL p1 = (b_gL un p1 gB gX gY gC gR gM gL) := by unfold f_X5_step_gL; rw [if_pos k1, if_pos k2, if_pos k3, if_pos k4, if_neg kS, if_neg kN, if_neg kL, if_neg kH]; (try rfl)
set_option maxRecDepth 100000 in
theorem ms_C4_un {un ow ln p1 : Int32} {gB gA gX gY gP gC gD gR gM gL : Nat → Int32} (k1 : p1 = 1) (k2 : (un &&& 32) = 0) (k3 : ow = 0) (k4 : (gD p1.toNatClampNeg) = 0) (kS : ¬ (f_X5_hasSharpLine_r un gM) = 0) (kN : ¬ ln = 0) (kL : ¬ (f_X5_hasLine_r un gM p1) = 0) (kH : ¬ (f_X5_has_r p1 gP 4) = 0) : f_X5_step_un un ow ln gB gA gX gY gP gC gD gR gM gL p1 = (b_un un p1 gB gA gX gY gP gC gR gM gL) := by unfold f_X5_step_un; rw [if_pos k1, if_pos k2, if_pos k3, if_pos k4, if_neg kS, if_neg kN, if_neg kL, if_neg kH]; (try rfl)
set_option maxRecDepth 100000 in
theorem ms_C4_ow {un ow ln p1 : Int32} {gB gA gX gY gP gC gD gR gM gL : Nat → Int32} (k1 : p1 = 1) (k2 : (un &&& 32) = 0) (k3 : ow = 0) (k4 : (gD p1.toNatClampNeg) = 0) (kS : ¬ (f_X5_hasSharpLine_r un gM) = 0) (kN : ¬ ln = 0) (kL : ¬ (f_X5_hasLine_r un gM p1) = 0) (kH : ¬ (f_X5_has_r p1 gP 4) = 0) : f_X5_step_ow un ow ln gB gA gX gY gP gC gD gR gM gL p1 = (b_ow un ow p1 gB gA gX gY gP gC gR gM gL) := by unfold f_X5_step_ow; rw [if_pos k1, if_pos k2, if_pos k3, if_pos k4, if_neg kS, if_neg kN, if_neg kL, if_neg kH]; (try rfl)
set_option maxRecDepth 100000 in
theorem ms_C4_gD {un ow ln p1 : Int32} {gB gP gC gD gR gM gL : Nat → Int32} (k1 : p1 = 1) (k2 : (un &&& 32) = 0) (k3 : ow = 0) (k4 : (gD p1.toNatClampNeg) = 0) (kS : ¬ (f_X5_hasSharpLine_r un gM) = 0) (kN : ¬ ln = 0) (kL : ¬ (f_X5_hasLine_r un gM p1) = 0) (kH : ¬ (f_X5_has_r p1 gP 4) = 0) : f_X5_step_gD un ow ln gB gP gC gD gR gM gL p1 = (b_gD un p1 gB gC gD gR gM gL) := by unfold f_X5_step_gD; rw [if_pos k1, if_pos k2, if_pos k3, if_pos k4, if_neg kS, if_neg kN, if_neg kL, if_neg kH]; (try rfl)
set_option maxRecDepth 100000 in
theorem ms_C4_gT {un ow p1 : Int32} {gD : Nat → Int32} {gT : Nat → Int64} (k1 : p1 = 1) (k2 : (un &&& 32) = 0) (k3 : ow = 0) (k4 : (gD p1.toNatClampNeg) = 0) : f_X5_step_gT un ow gD gT p1 = (vp_updL gT p1.toNatClampNeg ((gT p1.toNatClampNeg) + 1)) := by unfold f_X5_step_gT; rw [if_pos k1, if_pos k2, if_pos k3, if_pos k4]
set_option maxRecDepth 100000 in
theorem ms_C4_ln {un ow ln p1 : Int32} {gD gM : Nat → Int32} (k1 : p1 = 1) (k2 : (un &&& 32) = 0) (k3 : ow = 0) (k4 : (gD p1.toNatClampNeg) = 0) (kS : ¬ (f_X5_hasSharpLine_r un gM) = 0) : f_X5_step_ln un ow ln gD gM p1 = 1 := by unfold f_X5_step_ln; rw [if_pos k1, if_pos k2, if_pos k3, if_pos k4, if_neg kS]
set_option maxRecDepth 100000 in
theorem ms_C5_gB {un ow ln p1 : Int32} {gB gA gX gY gS gP gC gD gR gM gL : Nat → Int32} (k1 : ¬ p1 = 1) (k4 : (gD p1.toNatClampNeg) = 0) (kL : (f_X5_hasLine_r un gM p1) = 0) : f_X5_step_gB un ow ln gB gA gX gY gS gP gC gD gR gM gL p1 = (b_gB un p1 gB gA gX gY gS gP gC gR gM gL) := by unfold f_X5_step_gB; rw [if_neg k1, if_pos k4, if_pos kL]; (try rfl)
set_option maxRecDepth 100000 in
theorem ms_C5_gA {un ow ln p1 : Int32} {gB gA gX gY gS gP gC gD gR gM gL : Nat → Int32} (k1 : ¬ p1 = 1) (k4 : (gD p1.toNatClampNeg) = 0) (kL : (f_X5_hasLine_r un gM p1) = 0) : f_X5_step_gA un ow ln gB gA gX gY gS gP gC gD gR gM gL p1 = (b_gA un p1 gB gA gX gY gS gP gC gR gM gL) := by unfold f_X5_step_gA; rw [if_neg k1, if_pos k4, if_pos kL]; (try rfl)
set_option maxRecDepth 100000 in
theorem ms_C5_gX {un ow ln p1 : Int32} {gB gA gX gY gS gP gC gD gR gM gL : Nat → Int32} (k1 : ¬ p1 = 1) (k4 : (gD p1.toNatClampNeg) = 0) (kL : (f_X5_hasLine_r un gM p1) = 0) : f_X5_step_gX un ow ln gB gA gX gY gS gP gC gD gR gM gL p1 = (b_gX un p1 gB gA gX gY gS gC gR gM gL) := by unfold f_X5_step_gX; rw [if_neg k1, if_pos k4, if_pos kL]; (try rfl)
set_option maxRecDepth 100000 in
theorem ms_C5_gY {un ow ln p1 : Int32} {gB gA gX gY gP gC gD gR gM gL : Nat → Int32} (k1 : ¬ p1 = 1) (k4 : (gD p1.toNatClampNeg) = 0) (kL : (f_X5_hasLine_r un gM p1) = 0) : f_X5_step_gY un ow ln gB gA gX gY gP gC gD gR gM gL p1 = (b_gY un p1 gB gA gX gY gC gR gM gL) := by unfold f_X5_step_gY; rw [if_neg k1, if_pos k4, if_pos kL]; (try rfl)
set_option maxRecDepth 100000 in
theorem ms_C5_gS {un ow ln p1 : Int32} {gB gX gS gP gC gD gR gM gL : Nat → Int32} (k1 : ¬ p1 = 1) (k4 : (gD p1.toNatClampNeg) = 0) (kL : (f_X5_hasLine_r un gM p1) = 0) : f_X5_step_gS un ow ln gB gX gS gP gC gD gR gM gL p1 = (b_gS un p1 gB gX gS gC gR gM gL) := by unfold f_X5_step_gS; rw [if_neg k1, if_pos k4, if_pos kL]; (try rfl)
set_option maxRecDepth 100000 in
theorem ms_C5_gP {un ow ln p1 : Int32} {gB gA gX gY gS gP gC gD gR gM gL : Nat → Int32} (k1 : ¬ p1 = 1) (k4 : (gD p1.toNatClampNeg) = 0) (kL : (f_X5_hasLine_r un gM p1) = 0) : f_X5_step_gP un ow ln gB gA gX gY gS gP gC gD gR gM gL p1 = (b_gP un p1 gB gA gX gY gS gP gC gR gM gL) := by unfold f_X5_step_gP; rw [if_neg k1, if_pos k4, if_pos kL]; (try rfl)
set_option maxRecDepth 100000 in
theorem ms_C5_gC {un ow ln p1 : Int32} {gB gS gP gC gD gR gM gL : Nat → Int32} (k1 : ¬ p1 = 1) (k4 : (gD p1.toNatClampNeg) = 0) (kL : (f_X5_hasLine_r un gM p1) = 0) : f_X5_step_gC un ow ln gB gS gP gC gD gR gM gL p1 = (b_gC un p1 gB gS gP gC gR gM gL) := by unfold f_X5_step_gC; rw [if_neg k1, if_pos k4, if_pos kL]; (try rfl)
set_option maxRecDepth 100000 in
theorem ms_C5_gR {un ow ln p1 : Int32} {gB gA gX gY gP gC gD gR gM gL : Nat → Int32} (k1 : ¬ p1 = 1) (k4 : (gD p1.toNatClampNeg) = 0) (kL : (f_X5_hasLine_r un gM p1) = 0) : f_X5_step_gR un ow ln gB gA gX gY gP gC gD gR gM gL p1 = (b_gR un p1 gB gA gX gY gP gC gR gM gL) := by unfold f_X5_step_gR; rw [if_neg k1, if_pos k4, if_pos kL]; (try rfl)
set_option maxRecDepth 100000 in
theorem ms_C5_gM {un ow ln p1 : Int32} {gB gX gY gP gC gD gR gM gL : Nat → Int32} (k1 : ¬ p1 = 1) (k4 : (gD p1.toNatClampNeg) = 0) (kL : (f_X5_hasLine_r un gM p1) = 0) : f_X5_step_gM un ow ln gB gX gY gP gC gD gR gM gL p1 = (b_gM un p1 gB gX gY gC gR gM gL) := by unfold f_X5_step_gM; rw [if_neg k1, if_pos k4, if_pos kL]; (try rfl)
set_option maxRecDepth 100000 in
theorem ms_C5_gL {un ow ln p1 : Int32} {gB gX gY gP gC gD gR gM gL : Nat → Int32} (k1 : ¬ p1 = 1) (k4 : (gD p1.toNatClampNeg) = 0) (kL : (f_X5_hasLine_r un gM p1) = 0) : f_X5_step_gL un ow ln gB gX gY gP gC gD gR gM gL p1 = (b_gL un p1 gB gX gY gC gR gM gL) := by unfold f_X5_step_gL; rw [if_neg k1, if_pos k4, if_pos kL]; (try rfl)
set_option maxRecDepth 100000 in
theorem ms_C5_un {un ow ln p1 : Int32} {gB gA gX gY gP gC gD gR gM gL : Nat → Int32} (k1 : ¬ p1 = 1) (k4 : (gD p1.toNatClampNeg) = 0) (kL : (f_X5_hasLine_r un gM p1) = 0) : f_X5_step_un un ow ln gB gA gX gY gP gC gD gR gM gL p1 = (b_un un p1 gB gA gX gY gP gC gR gM gL) := by unfold f_X5_step_un; rw [if_neg k1, if_pos k4, if_pos kL]; (try rfl)
set_option maxRecDepth 100000 in
theorem ms_C5_ow {un ow ln p1 : Int32} {gB gA gX gY gP gC gD gR gM gL : Nat → Int32} (k1 : ¬ p1 = 1) (k4 : (gD p1.toNatClampNeg) = 0) (kL : (f_X5_hasLine_r un gM p1) = 0) : f_X5_step_ow un ow ln gB gA gX gY gP gC gD gR gM gL p1 = (b_ow un ow p1 gB gA gX gY gP gC gR gM gL) := by unfold f_X5_step_ow; rw [if_neg k1, if_pos k4, if_pos kL]; (try rfl)
set_option maxRecDepth 100000 in
theorem ms_C5_gD {un ow ln p1 : Int32} {gB gP gC gD gR gM gL : Nat → Int32} (k1 : ¬ p1 = 1) (k4 : (gD p1.toNatClampNeg) = 0) (kL : (f_X5_hasLine_r un gM p1) = 0) : f_X5_step_gD un ow ln gB gP gC gD gR gM gL p1 = (b_gD un p1 gB gC gD gR gM gL) := by unfold f_X5_step_gD; rw [if_neg k1, if_pos k4, if_pos kL]; (try rfl)
set_option maxRecDepth 100000 in
theorem ms_C5_gT {un ow p1 : Int32} {gD : Nat → Int32} {gT : Nat → Int64} (k1 : ¬ p1 = 1) (k4 : (gD p1.toNatClampNeg) = 0) : f_X5_step_gT un ow gD gT p1 = (vp_updL gT p1.toNatClampNeg ((gT p1.toNatClampNeg) + 1)) := by unfold f_X5_step_gT; rw [if_neg k1, if_pos k4]
set_option maxRecDepth 100000 in
theorem ms_C5_ln {un ow ln p1 : Int32} {gD gM : Nat → Int32} (k1 : ¬ p1 = 1) : f_X5_step_ln un ow ln gD gM p1 = ln := by unfold f_X5_step_ln; rw [if_neg k1]
set_option maxRecDepth 100000 in
theorem ms_C6_gB {un ow ln p1 : Int32} {gB gA gX gY gS gP gC gD gR gM gL : Nat → Int32} (k1 : ¬ p1 = 1) (k4 : (gD p1.toNatClampNeg) = 0) (kL : ¬ (f_X5_hasLine_r un gM p1) = 0) (kH : ¬ (f_X5_has_r p1 gP 4) = 0) : f_X5_step_gB un ow ln gB gA gX gY gS gP gC gD gR gM gL p1 = (b_gB un p1 gB gA gX gY gS gP gC gR gM gL) := by unfold f_X5_step_gB; rw [if_neg k1, if_pos k4, if_neg kL, if_neg kH]; (try rfl)
set_option maxRecDepth 100000 in
theorem ms_C6_gA {un ow ln p1 : Int32} {gB gA gX gY gS gP gC gD gR gM gL : Nat → Int32} (k1 : ¬ p1 = 1) (k4 : (gD p1.toNatClampNeg) = 0) (kL : ¬ (f_X5_hasLine_r un gM p1) = 0) (kH : ¬ (f_X5_has_r p1 gP 4) = 0) : f_X5_step_gA un ow ln gB gA gX gY gS gP gC gD gR gM gL p1 = (b_gA un p1 gB gA gX gY gS gP gC gR gM gL) := by unfold f_X5_step_gA; rw [if_neg k1, if_pos k4, if_neg kL, if_neg kH]; (try rfl)
set_option maxRecDepth 100000 in
theorem ms_C6_gX {un ow ln p1 : Int32} {gB gA gX gY gS gP gC gD gR gM gL : Nat → Int32} (k1 : ¬ p1 = 1) (k4 : (gD p1.toNatClampNeg) = 0) (kL : ¬ (f_X5_hasLine_r un gM p1) = 0) (kH : ¬ (f_X5_has_r p1 gP 4) = 0) : f_X5_step_gX un ow ln gB gA gX gY gS gP gC gD gR gM gL p1 = (b_gX un p1 gB gA gX gY gS gC gR gM gL) := by unfold f_X5_step_gX; rw [if_neg k1, if_pos k4, if_neg kL, if_neg kH]; (try rfl)
set_option maxRecDepth 100000 in
theorem ms_C6_gY {un ow ln p1 : Int32} {gB gA gX gY gP gC gD gR gM gL : Nat → Int32} (k1 : ¬ p1 = 1) (k4 : (gD p1.toNatClampNeg) = 0) (kL : ¬ (f_X5_hasLine_r un gM p1) = 0) (kH : ¬ (f_X5_has_r p1 gP 4) = 0) : f_X5_step_gY un ow ln gB gA gX gY gP gC gD gR gM gL p1 = (b_gY un p1 gB gA gX gY gC gR gM gL) := by unfold f_X5_step_gY; rw [if_neg k1, if_pos k4, if_neg kL, if_neg kH]; (try rfl)
set_option maxRecDepth 100000 in
theorem ms_C6_gS {un ow ln p1 : Int32} {gB gX gS gP gC gD gR gM gL : Nat → Int32} (k1 : ¬ p1 = 1) (k4 : (gD p1.toNatClampNeg) = 0) (kL : ¬ (f_X5_hasLine_r un gM p1) = 0) (kH : ¬ (f_X5_has_r p1 gP 4) = 0) : f_X5_step_gS un ow ln gB gX gS gP gC gD gR gM gL p1 = (b_gS un p1 gB gX gS gC gR gM gL) := by unfold f_X5_step_gS; rw [if_neg k1, if_pos k4, if_neg kL, if_neg kH]; (try rfl)
set_option maxRecDepth 100000 in
theorem ms_C6_gP {un ow ln p1 : Int32} {gB gA gX gY gS gP gC gD gR gM gL : Nat → Int32} (k1 : ¬ p1 = 1) (k4 : (gD p1.toNatClampNeg) = 0) (kL : ¬ (f_X5_hasLine_r un gM p1) = 0) (kH : ¬ (f_X5_has_r p1 gP 4) = 0) : f_X5_step_gP un ow ln gB gA gX gY gS gP gC gD gR gM gL p1 = (b_gP un p1 gB gA gX gY gS gP gC gR gM gL) := by unfold f_X5_step_gP; rw [if_neg k1, if_pos k4, if_neg kL, if_neg kH]; (try rfl)
set_option maxRecDepth 100000 in
theorem ms_C6_gC {un ow ln p1 : Int32} {gB gS gP gC gD gR gM gL : Nat → Int32} (k1 : ¬ p1 = 1) (k4 : (gD p1.toNatClampNeg) = 0) (kL : ¬ (f_X5_hasLine_r un gM p1) = 0) (kH : ¬ (f_X5_has_r p1 gP 4) = 0) : f_X5_step_gC un ow ln gB gS gP gC gD gR gM gL p1 = (b_gC un p1 gB gS gP gC gR gM gL) := by unfold f_X5_step_gC; rw [if_neg k1, if_pos k4, if_neg kL, if_neg kH]; (try rfl)
set_option maxRecDepth 100000 in
theorem ms_C6_gR {un ow ln p1 : Int32} {gB gA gX gY gP gC gD gR gM gL : Nat → Int32} (k1 : ¬ p1 = 1) (k4 : (gD p1.toNatClampNeg) = 0) (kL : ¬ (f_X5_hasLine_r un gM p1) = 0) (kH : ¬ (f_X5_has_r p1 gP 4) = 0) : f_X5_step_gR un ow ln gB gA gX gY gP gC gD gR gM gL p1 = (b_gR un p1 gB gA gX gY gP gC gR gM gL) := by unfold f_X5_step_gR; rw [if_neg k1, if_pos k4, if_neg kL, if_neg kH]; (try rfl)
set_option maxRecDepth 100000 in
theorem ms_C6_gM {un ow ln p1 : Int32} {gB gX gY gP gC gD gR gM gL : Nat → Int32} (k1 : ¬ p1 = 1) (k4 : (gD p1.toNatClampNeg) = 0) (kL : ¬ (f_X5_hasLine_r un gM p1) = 0) (kH : ¬ (f_X5_has_r p1 gP 4) = 0) : f_X5_step_gM un ow ln gB gX gY gP gC gD gR gM gL p1 = (b_gM un p1 gB gX gY gC gR gM gL) := by unfold f_X5_step_gM; rw [if_neg k1, if_pos k4, if_neg kL, if_neg kH]; (try rfl)
set_option maxRecDepth 100000 in
theorem ms_C6_gL {un ow ln p1 : Int32} {gB gX gY gP gC gD gR gM gL : Nat → Int32} (k1 : ¬ p1 = 1) (k4 : (gD p1.toNatClampNeg) = 0) (kL : ¬ (f_X5_hasLine_r un gM p1) = 0) (kH : ¬ (f_X5_has_r p1 gP 4) = 0) : f_X5_step_gL un ow ln gB gX gY gP gC gD gR gM gL p1 = (b_gL un p1 gB gX gY gC gR gM gL) := by unfold f_X5_step_gL; rw [if_neg k1, if_pos k4, if_neg kL, if_neg kH]; (try rfl)
set_option maxRecDepth 100000 in
theorem ms_C6_un {un ow ln p1 : Int32} {gB gA gX gY gP gC gD gR gM gL : Nat → Int32} (k1 : ¬ p1 = 1) (k4 : (gD p1.toNatClampNeg) = 0) (kL : ¬ (f_X5_hasLine_r un gM p1) = 0) (kH : ¬ (f_X5_has_r p1 gP 4) = 0) : f_X5_step_un un ow ln gB gA gX gY gP gC gD gR gM gL p1 = (b_un un p1 gB gA gX gY gP gC gR gM gL) := by unfold f_X5_step_un; rw [if_neg k1, if_pos k4, if_neg kL, if_neg kH]; (try rfl)
set_option maxRecDepth 100000 in
theorem ms_C6_ow {un ow ln p1 : Int32} {gB gA gX gY gP gC gD gR gM gL : Nat → Int32} (k1 : ¬ p1 = 1) (k4 : (gD p1.toNatClampNeg) = 0) (kL : ¬ (f_X5_hasLine_r un gM p1) = 0) (kH : ¬ (f_X5_has_r p1 gP 4) = 0) : f_X5_step_ow un ow ln gB gA gX gY gP gC gD gR gM gL p1 = (b_ow un ow p1 gB gA gX gY gP gC gR gM gL) := by unfold f_X5_step_ow; rw [if_neg k1, if_pos k4, if_neg kL, if_neg kH]; (try rfl)
set_option maxRecDepth 100000 in
theorem ms_C6_gD {un ow ln p1 : Int32} {gB gP gC gD gR gM gL : Nat → Int32} (k1 : ¬ p1 = 1) (k4 : (gD p1.toNatClampNeg) = 0) (kL : ¬ (f_X5_hasLine_r un gM p1) = 0) (kH : ¬ (f_X5_has_r p1 gP 4) = 0) : f_X5_step_gD un ow ln gB gP gC gD gR gM gL p1 = (b_gD un p1 gB gC gD gR gM gL) := by unfold f_X5_step_gD; rw [if_neg k1, if_pos k4, if_neg kL, if_neg kH]; (try rfl)
set_option maxRecDepth 100000 in
theorem ms_C6_gT {un ow p1 : Int32} {gD : Nat → Int32} {gT : Nat → Int64} (k1 : ¬ p1 = 1) (k4 : (gD p1.toNatClampNeg) = 0) : f_X5_step_gT un ow gD gT p1 = (vp_updL gT p1.toNatClampNeg ((gT p1.toNatClampNeg) + 1)) := by unfold f_X5_step_gT; rw [if_neg k1, if_pos k4]
set_option maxRecDepth 100000 in
theorem ms_C6_ln {un ow ln p1 : Int32} {gD gM : Nat → Int32} (k1 : ¬ p1 = 1) : f_X5_step_ln un ow ln gD gM p1 = ln := by unfold f_X5_step_ln; rw [if_neg k1]
set_option maxRecDepth 100000 in
def rl (mm : Int32) (g : Nat → Int64) (v o : Int64) : Prop := g mm.toNatClampNeg = v ∧ g (1 - mm.toNatClampNeg) = o
set_option maxRecDepth 100000 in
theorem rl_u {mm : Int32} {g : Nat → Int64} {v o : Int64} (h : rl mm g v o) : rl mm (vp_updL g mm.toNatClampNeg (g mm.toNatClampNeg + 1)) (v + 1) o := ⟨by rw [pk_uLs, h.1], (pk_uLn s_kk).trans h.2⟩
set_option maxRecDepth 100000 in
theorem s_rc0 {ug ud : Int32} : f_X3_resetComes_r ug ud 0 = 0 := by unfold f_X3_resetComes_r; rw [if_neg (show ¬ (0 : Int32) = 1 by decide)]
set_option maxRecDepth 100000 in
theorem s_ho0 {ug : Int32} : f_X3_holds_r ug 0 = 0 := by unfold f_X3_holds_r; rw [if_neg (show ¬ (0 : Int32) = 1 by decide)]
set_option maxRecDepth 100000 in
theorem s_rc1 {ug ud : Int32} : f_X3_resetComes_r ug ud 1 = if ud = 0 then 0 else if ug &&& 32 = 0 then 1 else 0 := by
  unfold f_X3_resetComes_r
  simp only [s_on, if_true]
set_option maxRecDepth 100000 in
theorem s_ho1 {ug : Int32} : f_X3_holds_r ug 1 = if ug &&& 32 = 0 then 0 else 1 := by
  unfold f_X3_holds_r
  simp only [s_on, if_true]
set_option maxRecDepth 100000 in
theorem s_has4 {mm fp op : Int32} {gP : Nat → Int32} (hP : rp mm gP fp op) : (f_X5_has_r mm gP 4 = 0) = (fp &&& 4 = 0) := by
  unfold f_X5_has_r
  rw [hP.1]
  by_cases c : fp &&& 4 = 0
  · rw [if_pos c]; exact propext ⟨fun _ => c, fun _ => rfl⟩
  · rw [if_neg c]; exact propext ⟨fun x => absurd x (by decide), fun x => absurd x c⟩
set_option maxRecDepth 100000 in
theorem sl_break {mm fo oa ox oy os op oc fa fx fy fs fp fc ug ud vc vi : Int32} {om mem lt ct hd la gB gA gX gY gS gP gC gR gM gL : Nat → Int32} {bt : Nat → Nat → Int32} (hm : s_m mm fo) (hB : rm mm gB mem om) (hA : ra mm gA fa oa) (hX : ra mm gX fx ox) (hY : ra mm gY fy oy) (hS : ra mm gS fs os) (hP : rp mm gP fp op) (hC : rc mm gC fc oc) (hu : ru ug lt ct hd la bt gR gM gL) (hf : ∃ j : Nat, j < 64 ∧ ug = nI j) (hw : wB ud) {vr : Nat} (hv : vr < 4096) (ev : vc = nI (61440 + vr)) (ei : vi = nI vr) :
    SR mm oa ox oy os op oc om fa fx fy (f_X1_breakTo_fs fs) (f_X1_breakTo_fp fp) (f_X1_breakTo_fc fs mem vc fc fp) (f_X1_breakTo_mem fs mem fc fp) ug ud lt ct hd la bt (f_X5_breakTo_gB mm gB gS gP gC) gA gX gY (f_X5_breakTo_gS mm gS) (f_X5_breakTo_gP mm gP) (f_X5_breakTo_gC mm gB gS gP gC vi) gR gM gL ug ud := by
  have hF : rf ug ud ug ud := ⟨rfl, rfl, hf, hw⟩
  have bk := sr_break (s_mB hm) hB hS hP hC hv (back := fc) (back' := fc) (st := fp) (st' := fp) rfl rfl rfl ev
  unfold f_X5_breakTo_gB f_X5_breakTo_gS f_X5_breakTo_gP f_X5_breakTo_gC
  rw [hC.1, hP.1, s_brkp hP.2.2, ei]
  exact ⟨bk.1, hA, hX, hY, bk.2.1, bk.2.2.1, bk.2.2.2, hF, hu⟩
set_option maxRecDepth 100000 in
theorem sl_reset {oa ox oy os op oc fa fx fy fs fp fc ug ud : Int32} {om mem lt ct hd la gB gA gX gY gS gP gC gR gM gL : Nat → Int32} {bt : Nat → Nat → Int32} {mm fo : Int32} (hm : s_m mm fo) (hB : rm mm gB mem om) (hA : ra mm gA fa oa) (hX : ra mm gX fx ox) (hY : ra mm gY fy oy) (hS : ra mm gS fs os) (hP : rp mm gP fp op) (hC : rc mm gC fc oc) (hu : ru ug lt ct hd la bt gR gM gL) (hf : ∃ j : Nat, j < 64 ∧ ug = nI j) (hw : wB ud) :
    SR mm oa ox oy os op oc om fa fx fy f_X1_restart_fs (f_X1_restart_fp fp) (f_X1_restart_fc mem) mem ug ud lt ct hd la bt gB gA gX gY (f_X5_doReset_gS gS mm) (f_X5_doReset_gP gP mm) (f_X5_doReset_gC gB gC mm) gR gM gL ug ud := by
  have hF : rf ug ud ug ud := ⟨rfl, rfl, hf, hw⟩
  unfold f_X5_doReset_gS f_X5_doReset_gP f_X5_doReset_gC f_X1_restart_fs f_X1_restart_fp f_X1_restart_fc
  obtain ⟨w1, w2⟩ := rm_word (s_mB hm) hB (i := 4092) (j := 65532) (by decide) (by decide) (by decide)
  have w1' : f_X5_plainWord_r mm gB 4092 = f_X1_keptWord_r mem 65532 := w1
  have w2' : s_w (f_X1_keptWord_r mem 65532) := w2
  rw [w1']
  have hp4 : rp mm (f_X5_set_gP mm gP 4 1) (fp ||| 4) op := rp_set (on := 1) hP F4
  exact ⟨hB, hA, hX, hY, ra_u hS ⟨253, by decide, rfl⟩, hp4, rc_u hC w2', hF, hu⟩
set_option maxRecDepth 100000 in
theorem st_0 {mm fo oa ox oy os op oc od fa fx fy fs fp fc fd fb ug ud ln : Int32} {fz oz : Int64} {om mem lt ct hd la gB gA gX gY gS gP gC gR gM gL gD : Nat → Int32} {gT : Nat → Int64} {bt : Nat → Nat → Int32} (hm : s_m mm fo) (h0 : mm = 0) (h : SR mm oa ox oy os op oc om fa fx fy fs fp fc mem ug ud lt ct hd la bt gB gA gX gY gS gP gC gR gM gL ug ud) (hD : rr mm gD fd od) (hwd : wB fd) (hT : rl mm gT fz oz) (hb : fb = 0) :
    (SR mm oa ox oy os op oc om (f_X1_step_fa mm fo fa fx fy fs fp fc fd fb mem ug ud lt ct hd la bt kindsF waysF) (f_X1_step_fx mm fo fa fx fy fs fp fc fd fb mem ug ud lt ct hd la bt kindsF waysF) (f_X1_step_fy mm fo fa fx fy fs fp fc fd fb mem ug ud lt ct hd la bt kindsF waysF) (f_X1_step_fs mm fo fx fs fp fc fd fb mem ug ud lt ct hd la bt kindsF) (f_X1_step_fp mm fo fa fx fy fs fp fc fd fb mem ug ud lt ct hd la bt kindsF waysF) (f_X1_step_fc mm fo fx fy fs fp fc fd fb mem ug ud lt ct hd la bt kindsF waysF) (f_X1_step_mem mm fo fa fx fy fs fp fc fd fb mem ug ud lt ct hd la bt kindsF waysF) (f_X1_step_ug mm fo fa fx fy fs fp fc fd fb mem ug ud lt ct hd la bt kindsF waysF) (f_X1_step_ud mm fo fa fx fy fs fp fc fd fb mem ug ud lt ct hd la bt kindsF waysF) (f_X1_step_lt mm fo fa fx fy fs fp fc fd fb mem ug ud lt ct hd la bt kindsF waysF) (f_X1_step_ct mm fo fx fy fs fp fc fd fb mem ug ud lt ct hd la bt kindsF waysF) (f_X1_step_hd mm fo fx fy fs fp fc fd fb mem ug ud lt ct hd la bt kindsF waysF) (f_X1_step_la mm fo fx fy fs fp fc fd fb mem ug ud lt ct hd la bt kindsF waysF) (f_X1_step_bt mm fo fa fx fy fs fp fc fd fb mem ug ud lt ct hd la bt kindsF waysF) (f_X5_step_gB ug ud ln gB gA gX gY gS gP gC gD gR gM gL mm) (f_X5_step_gA ug ud ln gB gA gX gY gS gP gC gD gR gM gL mm) (f_X5_step_gX ug ud ln gB gA gX gY gS gP gC gD gR gM gL mm) (f_X5_step_gY ug ud ln gB gA gX gY gP gC gD gR gM gL mm) (f_X5_step_gS ug ud ln gB gX gS gP gC gD gR gM gL mm) (f_X5_step_gP ug ud ln gB gA gX gY gS gP gC gD gR gM gL mm) (f_X5_step_gC ug ud ln gB gS gP gC gD gR gM gL mm) (f_X5_step_gR ug ud ln gB gA gX gY gP gC gD gR gM gL mm) (f_X5_step_gM ug ud ln gB gX gY gP gC gD gR gM gL mm) (f_X5_step_gL ug ud ln gB gX gY gP gC gD gR gM gL mm) (f_X5_step_un ug ud ln gB gA gX gY gP gC gD gR gM gL mm) (f_X5_step_ow ug ud ln gB gA gX gY gP gC gD gR gM gL mm)) ∧ rr mm (f_X5_step_gD ug ud ln gB gP gC gD gR gM gL mm) (f_X1_step_fd mm fo fs fp fc fd fb mem ug ud lt ct hd la bt kindsF) od ∧ wB (f_X1_step_fd mm fo fs fp fc fd fb mem ug ud lt ct hd la bt kindsF) ∧ rl mm (f_X5_step_gT ug ud gD gT mm) (f_X1_step_fz mm fd fz ug ud) oz ∧ ((mm = 1 → (f_X1_step_fb mm fd fb ug ud ct) = (f_X5_step_ln ug ud ln gD gM mm)) ∧ (mm = 0 → (f_X1_step_fb mm fd fb ug ud ct) = 0 ∧ (f_X5_step_ln ug ud ln gD gM mm) = ln)) := by
  obtain ⟨hB, hA, hX, hY, hS, hP, hC, ⟨-, -, hf, hw⟩, hu⟩ := h
  have hF : rf ug ud ug ud := ⟨rfl, rfl, hf, hw⟩
  have r0 : f_X3_resetComes_r ug ud mm = 0 := by rw [h0]; exact s_rc0
  have ho : f_X3_holds_r ug mm = 0 := by rw [h0]; exact s_ho0
  have n0 : f_X3_nmi_r ug ct mm = 0 := by rw [h0]; exact s_nmi0
  have k1 : ¬ mm = 1 := by rw [h0]; decide
  have fbz : f_X1_breaksIn_fb mm ug ct = 0 := n0
  by_cases hd0 : fd = 0
  · have k4 : gD mm.toNatClampNeg = 0 := by rw [hD.1]; exact hd0
    by_cases cI : fp &&& 4 = 0 ∧ ¬ f_X3_irq_r ug ct mm = 0
    · have bi := bi_B (fs := fs) (fc := fc) (mem := mem) (fb := fb) (Or.inl n0) cI.1 cI.2
      have h4 : ¬ f_X1_breaksIn_r mm fp fb ug ct = 0 := by rw [bi.1]; decide
      have kL : ¬ f_X5_hasLine_r ug gM mm = 0 := by rw [← s_irq hm hu]; exact cI.2
      have kH : f_X5_has_r mm gP 4 = 0 := by rw [s_has4 hP]; exact cI.1
      rw [cs_brk_fa r0 hd0 ho h4, cs_brk_fx r0 hd0 ho h4, cs_brk_fy r0 hd0 ho h4, cs_brk_fs r0 hd0 ho h4, cs_brk_fp r0 hd0 ho h4, cs_brk_fc r0 hd0 ho h4, cs_brk_fd r0 hd0 ho h4, cs_brk_fb r0 hd0 ho, cs_brk_fz r0 hd0 ho, cs_brk_mem r0 hd0 ho h4, cs_brk_ug r0 hd0 ho h4, cs_brk_ud r0 hd0 ho h4, cs_brk_lt r0 hd0 ho h4, cs_brk_ct r0 hd0 ho h4, cs_brk_hd r0 hd0 ho h4, cs_brk_la r0 hd0 ho h4, cs_brk_bt r0 hd0 ho h4, ms_B0_gB k1 k4 kL kH, ms_B0_gA k1 k4 kL kH, ms_B0_gX k1 k4 kL kH, ms_B0_gY k1 k4 kL kH, ms_B0_gS k1 k4 kL kH, ms_B0_gP k1 k4 kL kH, ms_B0_gC k1 k4 kL kH, ms_B0_gR k1 k4 kL kH, ms_B0_gM k1 k4 kL kH, ms_B0_gL k1 k4 kL kH, ms_B0_un k1 k4 kL kH, ms_B0_ow k1 k4 kL kH, ms_B0_gD k1 k4 kL kH, ms_B0_gT k1 k4, ms_B0_ln k1]
      rw [bi.2.1, bi.2.2.1, bi.2.2.2.1, bi.2.2.2.2, fbz]
      exact ⟨sl_break hm hB hA hX hY hS hP hC hu hf hw (vr := 4094) (by decide) rfl rfl, hD, hwd, rl_u hT, fun x => absurd x k1, fun _ => ⟨rfl, rfl⟩⟩
    · have cI2 : ¬ fp &&& 4 = 0 ∨ f_X3_irq_r ug ct mm = 0 := by
        by_cases a : fp &&& 4 = 0
        · exact Or.inr (Classical.byContradiction fun b => cI ⟨a, b⟩)
        · exact Or.inl a
      have bi := bi_C (fs := fs) (fc := fc) (mem := mem) (fb := fb) (Or.inl n0) cI2
      have sI := sr_instr hm hB hA hX hY hS hP hC hu hf hw
      have sD := sr_instrD hm hB hA hX hY hS hP hC hu hf hw hD hwd
      by_cases kL : f_X5_hasLine_r ug gM mm = 0
      · rw [cs_ins_fa r0 hd0 ho bi.1, cs_ins_fx r0 hd0 ho bi.1, cs_ins_fy r0 hd0 ho bi.1, cs_ins_fs r0 hd0 ho bi.1, cs_ins_fp r0 hd0 ho bi.1, cs_ins_fc r0 hd0 ho bi.1, cs_ins_fd r0 hd0 ho bi.1, cs_ins_fb r0 hd0 ho, cs_ins_fz r0 hd0 ho, cs_ins_mem r0 hd0 ho bi.1, cs_ins_ug r0 hd0 ho bi.1, cs_ins_ud r0 hd0 ho bi.1, cs_ins_lt r0 hd0 ho bi.1, cs_ins_ct r0 hd0 ho bi.1, cs_ins_hd r0 hd0 ho bi.1, cs_ins_la r0 hd0 ho bi.1, cs_ins_bt r0 hd0 ho bi.1, ms_C5_gB k1 k4 kL, ms_C5_gA k1 k4 kL, ms_C5_gX k1 k4 kL, ms_C5_gY k1 k4 kL, ms_C5_gS k1 k4 kL, ms_C5_gP k1 k4 kL, ms_C5_gC k1 k4 kL, ms_C5_gR k1 k4 kL, ms_C5_gM k1 k4 kL, ms_C5_gL k1 k4 kL, ms_C5_un k1 k4 kL, ms_C5_ow k1 k4 kL, ms_C5_gD k1 k4 kL, ms_C5_gT k1 k4, ms_C5_ln k1]
        rw [bi.2.1, bi.2.2.1, bi.2.2.2.1, bi.2.2.2.2, fbz]
        exact ⟨sI, sD.1, sD.2, rl_u hT, fun x => absurd x k1, fun _ => ⟨rfl, rfl⟩⟩
      · have kH : ¬ f_X5_has_r mm gP 4 = 0 := by
          rw [s_has4 hP]
          exact cI2.elim id (fun x => absurd (by rw [← s_irq hm hu]; exact x) kL)
        rw [cs_ins_fa r0 hd0 ho bi.1, cs_ins_fx r0 hd0 ho bi.1, cs_ins_fy r0 hd0 ho bi.1, cs_ins_fs r0 hd0 ho bi.1, cs_ins_fp r0 hd0 ho bi.1, cs_ins_fc r0 hd0 ho bi.1, cs_ins_fd r0 hd0 ho bi.1, cs_ins_fb r0 hd0 ho, cs_ins_fz r0 hd0 ho, cs_ins_mem r0 hd0 ho bi.1, cs_ins_ug r0 hd0 ho bi.1, cs_ins_ud r0 hd0 ho bi.1, cs_ins_lt r0 hd0 ho bi.1, cs_ins_ct r0 hd0 ho bi.1, cs_ins_hd r0 hd0 ho bi.1, cs_ins_la r0 hd0 ho bi.1, cs_ins_bt r0 hd0 ho bi.1, ms_C6_gB k1 k4 kL kH, ms_C6_gA k1 k4 kL kH, ms_C6_gX k1 k4 kL kH, ms_C6_gY k1 k4 kL kH, ms_C6_gS k1 k4 kL kH, ms_C6_gP k1 k4 kL kH, ms_C6_gC k1 k4 kL kH, ms_C6_gR k1 k4 kL kH, ms_C6_gM k1 k4 kL kH, ms_C6_gL k1 k4 kL kH, ms_C6_un k1 k4 kL kH, ms_C6_ow k1 k4 kL kH, ms_C6_gD k1 k4 kL kH, ms_C6_gT k1 k4, ms_C6_ln k1]
        rw [bi.2.1, bi.2.2.1, bi.2.2.2.1, bi.2.2.2.2, fbz]
        exact ⟨sI, sD.1, sD.2, rl_u hT, fun x => absurd x k1, fun _ => ⟨rfl, rfl⟩⟩
  · have k4 : ¬ gD mm.toNatClampNeg = 0 := by rw [hD.1]; exact hd0
    rw [cs_stay_fa r0 hd0, cs_stay_fx r0 hd0, cs_stay_fy r0 hd0, cs_stay_fs r0 hd0, cs_stay_fp r0 hd0, cs_stay_fc r0 hd0, cs_stay_fd r0 hd0, cs_stay_fb r0 hd0, cs_stay_fz r0 hd0, cs_stay_mem r0 hd0, cs_stay_ug r0 hd0, cs_stay_ud r0 hd0, cs_stay_lt r0 hd0, cs_stay_ct r0 hd0, cs_stay_hd r0 hd0, cs_stay_la r0 hd0, cs_stay_bt r0 hd0, ms_stay0_gB k1 k4, ms_stay0_gA k1 k4, ms_stay0_gX k1 k4, ms_stay0_gY k1 k4, ms_stay0_gS k1 k4, ms_stay0_gP k1 k4, ms_stay0_gC k1 k4, ms_stay0_gR k1 k4, ms_stay0_gM k1 k4, ms_stay0_gL k1 k4, ms_stay0_un k1 k4, ms_stay0_ow k1 k4, ms_stay0_gD k1 k4, ms_stay0_gT k1 k4, ms_stay0_ln k1]
    exact ⟨⟨hB, hA, hX, hY, hS, hP, hC, hF, hu⟩, hD, hwd, hT, fun x => absurd x k1, fun _ => ⟨hb, rfl⟩⟩
set_option maxRecDepth 100000 in
theorem st_1 {mm fo oa ox oy os op oc od fa fx fy fs fp fc fd fb ug ud ln : Int32} {fz oz : Int64} {om mem lt ct hd la gB gA gX gY gS gP gC gR gM gL gD : Nat → Int32} {gT : Nat → Int64} {bt : Nat → Nat → Int32} (hm : s_m mm fo) (h1 : mm = 1) (h : SR mm oa ox oy os op oc om fa fx fy fs fp fc mem ug ud lt ct hd la bt gB gA gX gY gS gP gC gR gM gL ug ud) (hD : rr mm gD fd od) (hwd : wB fd) (hT : rl mm gT fz oz) (hb : fb = ln) :
    (SR mm oa ox oy os op oc om (f_X1_step_fa mm fo fa fx fy fs fp fc fd fb mem ug ud lt ct hd la bt kindsF waysF) (f_X1_step_fx mm fo fa fx fy fs fp fc fd fb mem ug ud lt ct hd la bt kindsF waysF) (f_X1_step_fy mm fo fa fx fy fs fp fc fd fb mem ug ud lt ct hd la bt kindsF waysF) (f_X1_step_fs mm fo fx fs fp fc fd fb mem ug ud lt ct hd la bt kindsF) (f_X1_step_fp mm fo fa fx fy fs fp fc fd fb mem ug ud lt ct hd la bt kindsF waysF) (f_X1_step_fc mm fo fx fy fs fp fc fd fb mem ug ud lt ct hd la bt kindsF waysF) (f_X1_step_mem mm fo fa fx fy fs fp fc fd fb mem ug ud lt ct hd la bt kindsF waysF) (f_X1_step_ug mm fo fa fx fy fs fp fc fd fb mem ug ud lt ct hd la bt kindsF waysF) (f_X1_step_ud mm fo fa fx fy fs fp fc fd fb mem ug ud lt ct hd la bt kindsF waysF) (f_X1_step_lt mm fo fa fx fy fs fp fc fd fb mem ug ud lt ct hd la bt kindsF waysF) (f_X1_step_ct mm fo fx fy fs fp fc fd fb mem ug ud lt ct hd la bt kindsF waysF) (f_X1_step_hd mm fo fx fy fs fp fc fd fb mem ug ud lt ct hd la bt kindsF waysF) (f_X1_step_la mm fo fx fy fs fp fc fd fb mem ug ud lt ct hd la bt kindsF waysF) (f_X1_step_bt mm fo fa fx fy fs fp fc fd fb mem ug ud lt ct hd la bt kindsF waysF) (f_X5_step_gB ug ud ln gB gA gX gY gS gP gC gD gR gM gL mm) (f_X5_step_gA ug ud ln gB gA gX gY gS gP gC gD gR gM gL mm) (f_X5_step_gX ug ud ln gB gA gX gY gS gP gC gD gR gM gL mm) (f_X5_step_gY ug ud ln gB gA gX gY gP gC gD gR gM gL mm) (f_X5_step_gS ug ud ln gB gX gS gP gC gD gR gM gL mm) (f_X5_step_gP ug ud ln gB gA gX gY gS gP gC gD gR gM gL mm) (f_X5_step_gC ug ud ln gB gS gP gC gD gR gM gL mm) (f_X5_step_gR ug ud ln gB gA gX gY gP gC gD gR gM gL mm) (f_X5_step_gM ug ud ln gB gX gY gP gC gD gR gM gL mm) (f_X5_step_gL ug ud ln gB gX gY gP gC gD gR gM gL mm) (f_X5_step_un ug ud ln gB gA gX gY gP gC gD gR gM gL mm) (f_X5_step_ow ug ud ln gB gA gX gY gP gC gD gR gM gL mm)) ∧ rr mm (f_X5_step_gD ug ud ln gB gP gC gD gR gM gL mm) (f_X1_step_fd mm fo fs fp fc fd fb mem ug ud lt ct hd la bt kindsF) od ∧ wB (f_X1_step_fd mm fo fs fp fc fd fb mem ug ud lt ct hd la bt kindsF) ∧ rl mm (f_X5_step_gT ug ud gD gT mm) (f_X1_step_fz mm fd fz ug ud) oz ∧ ((mm = 1 → (f_X1_step_fb mm fd fb ug ud ct) = (f_X5_step_ln ug ud ln gD gM mm)) ∧ (mm = 0 → (f_X1_step_fb mm fd fb ug ud ct) = 0 ∧ (f_X5_step_ln ug ud ln gD gM mm) = ln)) := by
  obtain ⟨hB, hA, hX, hY, hS, hP, hC, ⟨-, -, hf, hw⟩, hu⟩ := h
  have hF : rf ug ud ug ud := ⟨rfl, rfl, hf, hw⟩
  have rc : f_X3_resetComes_r ug ud mm = if ud = 0 then 0 else if ug &&& 32 = 0 then 1 else 0 := by rw [h1]; exact s_rc1
  have hh : f_X3_holds_r ug mm = if ug &&& 32 = 0 then 0 else 1 := by rw [h1]; exact s_ho1
  have n1 : f_X3_nmi_r ug ct mm = f_X5_hasSharpLine_r ug gM := by rw [h1]; exact s_nmi1 hu
  have k0 : ¬ mm = 0 := by rw [h1]; decide
  have fbz : f_X1_breaksIn_fb mm ug ct = f_X5_hasSharpLine_r ug gM := n1
  by_cases k2 : ug &&& 32 = 0
  · have ho : f_X3_holds_r ug mm = 0 := by rw [hh, if_pos k2]
    by_cases k3 : ud = 0
    · have r0 : f_X3_resetComes_r ug ud mm = 0 := by rw [rc, if_pos k3]
      by_cases hd0 : fd = 0
      · have k4 : gD mm.toNatClampNeg = 0 := by rw [hD.1]; exact hd0
        have sv : f_X5_hasSharpLine_r ug gM = 0 ∨ f_X5_hasSharpLine_r ug gM = 1 := by
          unfold f_X5_hasSharpLine_r
          repeat' split
          all_goals first | exact Or.inl rfl | exact Or.inr rfl
        by_cases cN : ¬ f_X5_hasSharpLine_r ug gM = 0 ∧ ln = 0
        · have kS := cN.1
          have kN := cN.2
          have bi := bi_A (fs := fs) (fp := fp) (fc := fc) (mem := mem) (fb := fb) (show ¬ f_X3_nmi_r ug ct mm = 0 by rw [n1]; exact kS) (by rw [hb]; exact kN)
          have h4 : ¬ f_X1_breaksIn_r mm fp fb ug ct = 0 := by rw [bi.1]; decide
          rw [cs_brk_fa r0 hd0 ho h4, cs_brk_fx r0 hd0 ho h4, cs_brk_fy r0 hd0 ho h4, cs_brk_fs r0 hd0 ho h4, cs_brk_fp r0 hd0 ho h4, cs_brk_fc r0 hd0 ho h4, cs_brk_fd r0 hd0 ho h4, cs_brk_fb r0 hd0 ho, cs_brk_fz r0 hd0 ho, cs_brk_mem r0 hd0 ho h4, cs_brk_ug r0 hd0 ho h4, cs_brk_ud r0 hd0 ho h4, cs_brk_lt r0 hd0 ho h4, cs_brk_ct r0 hd0 ho h4, cs_brk_hd r0 hd0 ho h4, cs_brk_la r0 hd0 ho h4, cs_brk_bt r0 hd0 ho h4, ms_A_gB h1 k2 k3 k4 kS kN, ms_A_gA h1 k2 k3 k4 kS kN, ms_A_gX h1 k2 k3 k4 kS kN, ms_A_gY h1 k2 k3 k4 kS kN, ms_A_gS h1 k2 k3 k4 kS kN, ms_A_gP h1 k2 k3 k4 kS kN, ms_A_gC h1 k2 k3 k4 kS kN, ms_A_gR h1 k2 k3 k4 kS kN, ms_A_gM h1 k2 k3 k4 kS kN, ms_A_gL h1 k2 k3 k4 kS kN, ms_A_un h1 k2 k3 k4 kS kN, ms_A_ow h1 k2 k3 k4 kS kN, ms_A_gD h1 k2 k3 k4 kS kN, ms_A_gT h1 k2 k3 k4, ms_A_ln h1 k2 k3 k4 kS]
          rw [bi.2.1, bi.2.2.1, bi.2.2.2.1, bi.2.2.2.2, fbz]
          exact ⟨sl_break hm hB hA hX hY hS hP hC hu hf hw (vr := 4090) (by decide) rfl rfl, hD, hwd, rl_u hT, fun _ => sv.resolve_left kS, fun x => absurd x k0⟩
        · have cN2 : f_X3_nmi_r ug ct mm = 0 ∨ ¬ fb = 0 := by
            rw [n1, hb]
            by_cases a : f_X5_hasSharpLine_r ug gM = 0
            · exact Or.inl a
            · exact Or.inr fun b => cN ⟨a, b⟩
          by_cases cI : fp &&& 4 = 0 ∧ ¬ f_X3_irq_r ug ct mm = 0
          · have bi := bi_B (fs := fs) (fc := fc) (mem := mem) cN2 cI.1 cI.2
            have h4 : ¬ f_X1_breaksIn_r mm fp fb ug ct = 0 := by rw [bi.1]; decide
            have kL : ¬ f_X5_hasLine_r ug gM mm = 0 := by rw [← s_irq hm hu]; exact cI.2
            have kH : f_X5_has_r mm gP 4 = 0 := by rw [s_has4 hP]; exact cI.1
            have sB := sl_break hm hB hA hX hY hS hP hC hu hf hw (vr := 4094) (vc := 65534) (vi := 4094) (by decide) rfl rfl
            by_cases kS : f_X5_hasSharpLine_r ug gM = 0
            · rw [cs_brk_fa r0 hd0 ho h4, cs_brk_fx r0 hd0 ho h4, cs_brk_fy r0 hd0 ho h4, cs_brk_fs r0 hd0 ho h4, cs_brk_fp r0 hd0 ho h4, cs_brk_fc r0 hd0 ho h4, cs_brk_fd r0 hd0 ho h4, cs_brk_fb r0 hd0 ho, cs_brk_fz r0 hd0 ho, cs_brk_mem r0 hd0 ho h4, cs_brk_ug r0 hd0 ho h4, cs_brk_ud r0 hd0 ho h4, cs_brk_lt r0 hd0 ho h4, cs_brk_ct r0 hd0 ho h4, cs_brk_hd r0 hd0 ho h4, cs_brk_la r0 hd0 ho h4, cs_brk_bt r0 hd0 ho h4, ms_B1_gB h1 k2 k3 k4 kS kL kH, ms_B1_gA h1 k2 k3 k4 kS kL kH, ms_B1_gX h1 k2 k3 k4 kS kL kH, ms_B1_gY h1 k2 k3 k4 kS kL kH, ms_B1_gS h1 k2 k3 k4 kS kL kH, ms_B1_gP h1 k2 k3 k4 kS kL kH, ms_B1_gC h1 k2 k3 k4 kS kL kH, ms_B1_gR h1 k2 k3 k4 kS kL kH, ms_B1_gM h1 k2 k3 k4 kS kL kH, ms_B1_gL h1 k2 k3 k4 kS kL kH, ms_B1_un h1 k2 k3 k4 kS kL kH, ms_B1_ow h1 k2 k3 k4 kS kL kH, ms_B1_gD h1 k2 k3 k4 kS kL kH, ms_B1_gT h1 k2 k3 k4, ms_B1_ln h1 k2 k3 k4 kS]
              rw [bi.2.1, bi.2.2.1, bi.2.2.2.1, bi.2.2.2.2, fbz]
              exact ⟨sB, hD, hwd, rl_u hT, fun _ => kS, fun x => absurd x k0⟩
            · have kN : ¬ ln = 0 := fun b => cN ⟨kS, b⟩
              rw [cs_brk_fa r0 hd0 ho h4, cs_brk_fx r0 hd0 ho h4, cs_brk_fy r0 hd0 ho h4, cs_brk_fs r0 hd0 ho h4, cs_brk_fp r0 hd0 ho h4, cs_brk_fc r0 hd0 ho h4, cs_brk_fd r0 hd0 ho h4, cs_brk_fb r0 hd0 ho, cs_brk_fz r0 hd0 ho, cs_brk_mem r0 hd0 ho h4, cs_brk_ug r0 hd0 ho h4, cs_brk_ud r0 hd0 ho h4, cs_brk_lt r0 hd0 ho h4, cs_brk_ct r0 hd0 ho h4, cs_brk_hd r0 hd0 ho h4, cs_brk_la r0 hd0 ho h4, cs_brk_bt r0 hd0 ho h4, ms_B2_gB h1 k2 k3 k4 kS kN kL kH, ms_B2_gA h1 k2 k3 k4 kS kN kL kH, ms_B2_gX h1 k2 k3 k4 kS kN kL kH, ms_B2_gY h1 k2 k3 k4 kS kN kL kH, ms_B2_gS h1 k2 k3 k4 kS kN kL kH, ms_B2_gP h1 k2 k3 k4 kS kN kL kH, ms_B2_gC h1 k2 k3 k4 kS kN kL kH, ms_B2_gR h1 k2 k3 k4 kS kN kL kH, ms_B2_gM h1 k2 k3 k4 kS kN kL kH, ms_B2_gL h1 k2 k3 k4 kS kN kL kH, ms_B2_un h1 k2 k3 k4 kS kN kL kH, ms_B2_ow h1 k2 k3 k4 kS kN kL kH, ms_B2_gD h1 k2 k3 k4 kS kN kL kH, ms_B2_gT h1 k2 k3 k4, ms_B2_ln h1 k2 k3 k4 kS]
              rw [bi.2.1, bi.2.2.1, bi.2.2.2.1, bi.2.2.2.2, fbz]
              exact ⟨sB, hD, hwd, rl_u hT, fun _ => sv.resolve_left kS, fun x => absurd x k0⟩
          · have cI2 : ¬ fp &&& 4 = 0 ∨ f_X3_irq_r ug ct mm = 0 := by
              by_cases a : fp &&& 4 = 0
              · exact Or.inr (Classical.byContradiction fun b => cI ⟨a, b⟩)
              · exact Or.inl a
            have bi := bi_C (fs := fs) (fc := fc) (mem := mem) cN2 cI2
            have sI := sr_instr hm hB hA hX hY hS hP hC hu hf hw
            have sD := sr_instrD hm hB hA hX hY hS hP hC hu hf hw hD hwd
            have kH : ¬ f_X5_hasLine_r ug gM mm = 0 → ¬ f_X5_has_r mm gP 4 = 0 := fun kL => by
              rw [s_has4 hP]
              exact cI2.elim id (fun x => absurd (by rw [← s_irq hm hu]; exact x) kL)
            by_cases kS : f_X5_hasSharpLine_r ug gM = 0
            · by_cases kL : f_X5_hasLine_r ug gM mm = 0
              · rw [cs_ins_fa r0 hd0 ho bi.1, cs_ins_fx r0 hd0 ho bi.1, cs_ins_fy r0 hd0 ho bi.1, cs_ins_fs r0 hd0 ho bi.1, cs_ins_fp r0 hd0 ho bi.1, cs_ins_fc r0 hd0 ho bi.1, cs_ins_fd r0 hd0 ho bi.1, cs_ins_fb r0 hd0 ho, cs_ins_fz r0 hd0 ho, cs_ins_mem r0 hd0 ho bi.1, cs_ins_ug r0 hd0 ho bi.1, cs_ins_ud r0 hd0 ho bi.1, cs_ins_lt r0 hd0 ho bi.1, cs_ins_ct r0 hd0 ho bi.1, cs_ins_hd r0 hd0 ho bi.1, cs_ins_la r0 hd0 ho bi.1, cs_ins_bt r0 hd0 ho bi.1, ms_C1_gB h1 k2 k3 k4 kS kL, ms_C1_gA h1 k2 k3 k4 kS kL, ms_C1_gX h1 k2 k3 k4 kS kL, ms_C1_gY h1 k2 k3 k4 kS kL, ms_C1_gS h1 k2 k3 k4 kS kL, ms_C1_gP h1 k2 k3 k4 kS kL, ms_C1_gC h1 k2 k3 k4 kS kL, ms_C1_gR h1 k2 k3 k4 kS kL, ms_C1_gM h1 k2 k3 k4 kS kL, ms_C1_gL h1 k2 k3 k4 kS kL, ms_C1_un h1 k2 k3 k4 kS kL, ms_C1_ow h1 k2 k3 k4 kS kL, ms_C1_gD h1 k2 k3 k4 kS kL, ms_C1_gT h1 k2 k3 k4, ms_C1_ln h1 k2 k3 k4 kS]
                rw [bi.2.1, bi.2.2.1, bi.2.2.2.1, bi.2.2.2.2, fbz]
                exact ⟨sI, sD.1, sD.2, rl_u hT, fun _ => kS, fun x => absurd x k0⟩
              · rw [cs_ins_fa r0 hd0 ho bi.1, cs_ins_fx r0 hd0 ho bi.1, cs_ins_fy r0 hd0 ho bi.1, cs_ins_fs r0 hd0 ho bi.1, cs_ins_fp r0 hd0 ho bi.1, cs_ins_fc r0 hd0 ho bi.1, cs_ins_fd r0 hd0 ho bi.1, cs_ins_fb r0 hd0 ho, cs_ins_fz r0 hd0 ho, cs_ins_mem r0 hd0 ho bi.1, cs_ins_ug r0 hd0 ho bi.1, cs_ins_ud r0 hd0 ho bi.1, cs_ins_lt r0 hd0 ho bi.1, cs_ins_ct r0 hd0 ho bi.1, cs_ins_hd r0 hd0 ho bi.1, cs_ins_la r0 hd0 ho bi.1, cs_ins_bt r0 hd0 ho bi.1, ms_C2_gB h1 k2 k3 k4 kS kL (kH kL), ms_C2_gA h1 k2 k3 k4 kS kL (kH kL), ms_C2_gX h1 k2 k3 k4 kS kL (kH kL), ms_C2_gY h1 k2 k3 k4 kS kL (kH kL), ms_C2_gS h1 k2 k3 k4 kS kL (kH kL), ms_C2_gP h1 k2 k3 k4 kS kL (kH kL), ms_C2_gC h1 k2 k3 k4 kS kL (kH kL), ms_C2_gR h1 k2 k3 k4 kS kL (kH kL), ms_C2_gM h1 k2 k3 k4 kS kL (kH kL), ms_C2_gL h1 k2 k3 k4 kS kL (kH kL), ms_C2_un h1 k2 k3 k4 kS kL (kH kL), ms_C2_ow h1 k2 k3 k4 kS kL (kH kL), ms_C2_gD h1 k2 k3 k4 kS kL (kH kL), ms_C2_gT h1 k2 k3 k4, ms_C2_ln h1 k2 k3 k4 kS]
                rw [bi.2.1, bi.2.2.1, bi.2.2.2.1, bi.2.2.2.2, fbz]
                exact ⟨sI, sD.1, sD.2, rl_u hT, fun _ => kS, fun x => absurd x k0⟩
            · have kN : ¬ ln = 0 := fun b => cN ⟨kS, b⟩
              by_cases kL : f_X5_hasLine_r ug gM mm = 0
              · rw [cs_ins_fa r0 hd0 ho bi.1, cs_ins_fx r0 hd0 ho bi.1, cs_ins_fy r0 hd0 ho bi.1, cs_ins_fs r0 hd0 ho bi.1, cs_ins_fp r0 hd0 ho bi.1, cs_ins_fc r0 hd0 ho bi.1, cs_ins_fd r0 hd0 ho bi.1, cs_ins_fb r0 hd0 ho, cs_ins_fz r0 hd0 ho, cs_ins_mem r0 hd0 ho bi.1, cs_ins_ug r0 hd0 ho bi.1, cs_ins_ud r0 hd0 ho bi.1, cs_ins_lt r0 hd0 ho bi.1, cs_ins_ct r0 hd0 ho bi.1, cs_ins_hd r0 hd0 ho bi.1, cs_ins_la r0 hd0 ho bi.1, cs_ins_bt r0 hd0 ho bi.1, ms_C3_gB h1 k2 k3 k4 kS kN kL, ms_C3_gA h1 k2 k3 k4 kS kN kL, ms_C3_gX h1 k2 k3 k4 kS kN kL, ms_C3_gY h1 k2 k3 k4 kS kN kL, ms_C3_gS h1 k2 k3 k4 kS kN kL, ms_C3_gP h1 k2 k3 k4 kS kN kL, ms_C3_gC h1 k2 k3 k4 kS kN kL, ms_C3_gR h1 k2 k3 k4 kS kN kL, ms_C3_gM h1 k2 k3 k4 kS kN kL, ms_C3_gL h1 k2 k3 k4 kS kN kL, ms_C3_un h1 k2 k3 k4 kS kN kL, ms_C3_ow h1 k2 k3 k4 kS kN kL, ms_C3_gD h1 k2 k3 k4 kS kN kL, ms_C3_gT h1 k2 k3 k4, ms_C3_ln h1 k2 k3 k4 kS]
                rw [bi.2.1, bi.2.2.1, bi.2.2.2.1, bi.2.2.2.2, fbz]
                exact ⟨sI, sD.1, sD.2, rl_u hT, fun _ => sv.resolve_left kS, fun x => absurd x k0⟩
              · rw [cs_ins_fa r0 hd0 ho bi.1, cs_ins_fx r0 hd0 ho bi.1, cs_ins_fy r0 hd0 ho bi.1, cs_ins_fs r0 hd0 ho bi.1, cs_ins_fp r0 hd0 ho bi.1, cs_ins_fc r0 hd0 ho bi.1, cs_ins_fd r0 hd0 ho bi.1, cs_ins_fb r0 hd0 ho, cs_ins_fz r0 hd0 ho, cs_ins_mem r0 hd0 ho bi.1, cs_ins_ug r0 hd0 ho bi.1, cs_ins_ud r0 hd0 ho bi.1, cs_ins_lt r0 hd0 ho bi.1, cs_ins_ct r0 hd0 ho bi.1, cs_ins_hd r0 hd0 ho bi.1, cs_ins_la r0 hd0 ho bi.1, cs_ins_bt r0 hd0 ho bi.1, ms_C4_gB h1 k2 k3 k4 kS kN kL (kH kL), ms_C4_gA h1 k2 k3 k4 kS kN kL (kH kL), ms_C4_gX h1 k2 k3 k4 kS kN kL (kH kL), ms_C4_gY h1 k2 k3 k4 kS kN kL (kH kL), ms_C4_gS h1 k2 k3 k4 kS kN kL (kH kL), ms_C4_gP h1 k2 k3 k4 kS kN kL (kH kL), ms_C4_gC h1 k2 k3 k4 kS kN kL (kH kL), ms_C4_gR h1 k2 k3 k4 kS kN kL (kH kL), ms_C4_gM h1 k2 k3 k4 kS kN kL (kH kL), ms_C4_gL h1 k2 k3 k4 kS kN kL (kH kL), ms_C4_un h1 k2 k3 k4 kS kN kL (kH kL), ms_C4_ow h1 k2 k3 k4 kS kN kL (kH kL), ms_C4_gD h1 k2 k3 k4 kS kN kL (kH kL), ms_C4_gT h1 k2 k3 k4, ms_C4_ln h1 k2 k3 k4 kS]
                rw [bi.2.1, bi.2.2.1, bi.2.2.2.1, bi.2.2.2.2, fbz]
                exact ⟨sI, sD.1, sD.2, rl_u hT, fun _ => sv.resolve_left kS, fun x => absurd x k0⟩
      · have k4 : ¬ gD mm.toNatClampNeg = 0 := by rw [hD.1]; exact hd0
        rw [cs_stay_fa r0 hd0, cs_stay_fx r0 hd0, cs_stay_fy r0 hd0, cs_stay_fs r0 hd0, cs_stay_fp r0 hd0, cs_stay_fc r0 hd0, cs_stay_fd r0 hd0, cs_stay_fb r0 hd0, cs_stay_fz r0 hd0, cs_stay_mem r0 hd0, cs_stay_ug r0 hd0, cs_stay_ud r0 hd0, cs_stay_lt r0 hd0, cs_stay_ct r0 hd0, cs_stay_hd r0 hd0, cs_stay_la r0 hd0, cs_stay_bt r0 hd0, ms_stay1_gB h1 k2 k3 k4, ms_stay1_gA h1 k2 k3 k4, ms_stay1_gX h1 k2 k3 k4, ms_stay1_gY h1 k2 k3 k4, ms_stay1_gS h1 k2 k3 k4, ms_stay1_gP h1 k2 k3 k4, ms_stay1_gC h1 k2 k3 k4, ms_stay1_gR h1 k2 k3 k4, ms_stay1_gM h1 k2 k3 k4, ms_stay1_gL h1 k2 k3 k4, ms_stay1_un h1 k2 k3 k4, ms_stay1_ow h1 k2 k3 k4, ms_stay1_gD h1 k2 k3 k4, ms_stay1_gT h1 k2 k3 k4, ms_stay1_ln h1 k2 k3 k4]
        exact ⟨⟨hB, hA, hX, hY, hS, hP, hC, hF, hu⟩, hD, hwd, hT, fun _ => hb, fun x => absurd x k0⟩
    · have r1 : ¬ f_X3_resetComes_r ug ud mm = 0 := by rw [rc, if_neg k3, if_pos k2]; decide
      have fbr : f_X1_restart_fb mm ug ct = f_X5_hasSharpLine_r ug gM := n1
      have lnr : f_X5_doReset_ln ug ln gM 1 = f_X5_hasSharpLine_r ug gM := by unfold f_X5_doReset_ln; rw [if_pos rfl]
      obtain ⟨q1, q2, q3, q4, q5, q6, q7, q8, q9⟩ := sl_reset hm hB hA hX hY hS hP hC hu hf hw
      rw [cs_reset_fa r1, cs_reset_fx r1, cs_reset_fy r1, cs_reset_fs r1, cs_reset_fp r1, cs_reset_fc r1, cs_reset_fd r1, cs_reset_fb r1, cs_reset_fz r1, cs_reset_mem r1, cs_reset_ug r1, cs_reset_ud r1, cs_reset_lt r1, cs_reset_ct r1, cs_reset_hd r1, cs_reset_la r1, cs_reset_bt r1, ms_reset1_gB h1 k2 k3, ms_reset1_gA h1 k2 k3, ms_reset1_gX h1 k2 k3, ms_reset1_gY h1 k2 k3, ms_reset1_gS h1 k2 k3, ms_reset1_gP h1 k2 k3, ms_reset1_gC h1 k2 k3, ms_reset1_gR h1 k2 k3, ms_reset1_gM h1 k2 k3, ms_reset1_gL h1 k2 k3, ms_reset1_un h1 k2 k3, ms_reset1_ow h1 k2 k3, ms_reset1_gD h1 k2 k3, ms_reset1_gT h1 k2 k3, ms_reset1_ln h1 k2 k3]
      rw [fbr, lnr]
      subst h1
      refine ⟨⟨q1, q2, q3, q4, q5, q6, q7, ⟨rfl, rfl, hf, Or.inl rfl⟩, q9⟩, ⟨pk_us, (pk_un s_kk).trans hD.2⟩, Or.inl rfl, rl_u hT, fun _ => rfl, fun x => absurd x k0⟩
  · have r0 : f_X3_resetComes_r ug ud mm = 0 := by
      rw [rc]
      by_cases a : ud = 0
      · rw [if_pos a]
      · rw [if_neg a, if_neg k2]
    have ho : ¬ f_X3_holds_r ug mm = 0 := by rw [hh, if_neg k2]; decide
    by_cases hd0 : fd = 0
    · rw [cs_held_fa r0 hd0 ho, cs_held_fx r0 hd0 ho, cs_held_fy r0 hd0 ho, cs_held_fs r0 hd0 ho, cs_held_fp r0 hd0 ho, cs_held_fc r0 hd0 ho, cs_held_fd r0 hd0 ho, cs_held_fb r0 hd0 ho, cs_held_fz r0 hd0 ho, cs_held_mem r0 hd0 ho, cs_held_ug r0 hd0 ho, cs_held_ud r0 hd0 ho, cs_held_lt r0 hd0 ho, cs_held_ct r0 hd0 ho, cs_held_hd r0 hd0 ho, cs_held_la r0 hd0 ho, cs_held_bt r0 hd0 ho, ms_hold1_gB h1 k2, ms_hold1_gA h1 k2, ms_hold1_gX h1 k2, ms_hold1_gY h1 k2, ms_hold1_gS h1 k2, ms_hold1_gP h1 k2, ms_hold1_gC h1 k2, ms_hold1_gR h1 k2, ms_hold1_gM h1 k2, ms_hold1_gL h1 k2, ms_hold1_un h1 k2, ms_hold1_ow h1 k2, ms_hold1_gD h1 k2, ms_hold1_gT h1 k2, ms_hold1_ln h1 k2]
      exact ⟨⟨hB, hA, hX, hY, hS, hP, hC, hF, hu⟩, hD, hwd, hT, fun _ => hb, fun x => absurd x k0⟩
    · rw [cs_stay_fa r0 hd0, cs_stay_fx r0 hd0, cs_stay_fy r0 hd0, cs_stay_fs r0 hd0, cs_stay_fp r0 hd0, cs_stay_fc r0 hd0, cs_stay_fd r0 hd0, cs_stay_fb r0 hd0, cs_stay_fz r0 hd0, cs_stay_mem r0 hd0, cs_stay_ug r0 hd0, cs_stay_ud r0 hd0, cs_stay_lt r0 hd0, cs_stay_ct r0 hd0, cs_stay_hd r0 hd0, cs_stay_la r0 hd0, cs_stay_bt r0 hd0, ms_hold1_gB h1 k2, ms_hold1_gA h1 k2, ms_hold1_gX h1 k2, ms_hold1_gY h1 k2, ms_hold1_gS h1 k2, ms_hold1_gP h1 k2, ms_hold1_gC h1 k2, ms_hold1_gR h1 k2, ms_hold1_gM h1 k2, ms_hold1_gL h1 k2, ms_hold1_un h1 k2, ms_hold1_ow h1 k2, ms_hold1_gD h1 k2, ms_hold1_gT h1 k2, ms_hold1_ln h1 k2]
      exact ⟨⟨hB, hA, hX, hY, hS, hP, hC, hF, hu⟩, hD, hwd, hT, fun _ => hb, fun x => absurd x k0⟩
