set_option maxRecDepth 100000 in
def s_wb (w : Int32) : Bool := w == 1 || w == 2 || w == 3 || w == 4 || w == 5 || w == 6 || w == 7 || w == 8 || w == 9
set_option maxRecDepth 100000 in
theorem s_wayb {w : Int32} (h : s_wb w = true) : s_way w := by
  unfold s_wb at h
  simp only [Bool.or_eq_true, beq_iff_eq] at h
  rcases h with ((((((((h | h) | h) | h) | h) | h) | h) | h) | h)
  · exact Or.inl h
  · exact Or.inr (Or.inl h)
  · exact Or.inr (Or.inr (Or.inl h))
  · exact Or.inr (Or.inr (Or.inr (Or.inl h)))
  · exact Or.inr (Or.inr (Or.inr (Or.inr (Or.inl h))))
  · exact Or.inr (Or.inr (Or.inr (Or.inr (Or.inr (Or.inl h)))))
  · exact Or.inr (Or.inr (Or.inr (Or.inr (Or.inr (Or.inr (Or.inl h))))))
  · exact Or.inr (Or.inr (Or.inr (Or.inr (Or.inr (Or.inr (Or.inr (Or.inl h)))))))
  · exact Or.inr (Or.inr (Or.inr (Or.inr (Or.inr (Or.inr (Or.inr (Or.inr h)))))))
section AS
variable {mm fo oa ox oy os op oc fa fx fy fs fp fc ug ud : Int32} {om mem lt ct hd la gB gA gX gY gS gP gC gR gM gL : Nat → Int32} {bt : Nat → Nat → Int32} {j : Nat}
set_option maxRecDepth 100000 in
theorem as_ORA (hm : s_m mm fo) (hB : rm mm gB mem om) (hA : ra mm gA fa oa) (hX : ra mm gX fx ox) (hY : ra mm gY fy oy) (hS : ra mm gS fs os) (hP : rp mm gP fp op) (hC : rc mm gC fc oc) (hu : ru ug lt ct hd la bt gR gM gL) (hf : ∃ j : Nat, j < 64 ∧ ug = nI j) (hw : wB ud) (hj : j < 256) (hop : f_X1_read_r mm fo mem ug lt ct hd la bt fc = nI j) (hc : clsF j = 1) : SR mm oa ox oy os op oc om (f_X1_instruction_fa mm fo fa fx fy fs fp fc mem ug lt ct hd la bt kindsF waysF) (f_X1_instruction_fx mm fo fa fx fy fs fc mem ug lt ct hd la bt kindsF waysF) (f_X1_instruction_fy mm fo fa fx fy fc mem ug lt ct hd la bt kindsF waysF) (f_X1_instruction_fs mm fo fx fs fc mem ug lt ct hd la bt kindsF) (f_X1_instruction_fp mm fo fa fx fy fs fp fc mem ug lt ct hd la bt kindsF waysF) (f_X1_instruction_fc mm fo fx fy fs fp fc mem ug lt ct hd la bt kindsF waysF) (f_X1_instruction_mem mm fo fa fx fy fs fp fc mem ug lt ct hd la bt kindsF waysF) (f_X1_instruction_ug mm fo fa fx fy fp fc mem ug lt ct hd la bt kindsF waysF) (f_X1_instruction_ud mm fo fa fx fy fp fc mem ug ud lt ct hd la bt kindsF waysF) (f_X1_instruction_lt mm fo fa fx fy fp fc mem ug lt ct hd la bt kindsF waysF) (f_X1_instruction_ct mm fo fx fy fc mem ug lt ct hd la bt kindsF waysF) (f_X1_instruction_hd mm fo fx fy fc mem ug lt ct hd la bt kindsF waysF) (f_X1_instruction_la mm fo fx fy fc mem ug lt ct hd la bt kindsF waysF) (f_X1_instruction_bt mm fo fa fx fy fp fc mem ug lt ct hd la bt kindsF waysF) (b_gB ug mm gB gA gX gY gS gP gC gR gM gL) (b_gA ug mm gB gA gX gY gS gP gC gR gM gL) (b_gX ug mm gB gA gX gY gS gC gR gM gL) (b_gY ug mm gB gA gX gY gC gR gM gL) (b_gS ug mm gB gX gS gC gR gM gL) (b_gP ug mm gB gA gX gY gS gP gC gR gM gL) (b_gC ug mm gB gS gP gC gR gM gL) (b_gR ug mm gB gA gX gY gP gC gR gM gL) (b_gM ug mm gB gX gY gC gR gM gL) (b_gL ug mm gB gX gY gC gR gM gL) (b_un ug mm gB gA gX gY gP gC gR gM gL) (b_ow ug ud mm gB gA gX gY gP gC gR gM gL) := by
  have fe := sr_fetch hm hB hf hu hC
  obtain ⟨fv, fb, fu, fC⟩ := fe
  obtain ⟨hkn, h4, hq, hk⟩ := (show ∀ j : Nat, j < 256 → clsF j = 1 → ¬ f_X5_isKnown_r (nI j) = 0 ∧ nI j - nI j / 4 * 4 = 1 ∧ nI j / 32 = 0 ∧ kindsF j = 19 by decide +kernel) j hj hc
  obtain ⟨hwy, hw10, hw0⟩ := (show ∀ j : Nat, j < 256 → clsF j = 1 → f_X5_way_r (nI j) = waysF j ∧ ¬ waysF j = 10 ∧ ¬ waysF j = 0 by decide +kernel) j hj hc
  have hway := s_wayb ((show ∀ j : Nat, j < 256 → clsF j = 1 → s_wb (waysF j) = true by decide +kernel) j hj hc)
  have ho : f_X5_fetch_r ug mm gB gC gR gM gL = nI j := fv.trans hop
  have hww : waysF j = waysF j := rfl
  obtain ⟨pe, pw, pu, pC⟩ := sr_place hway hm hB hf fu fC hX hY
  have hpl := s_wn pw
  have e_fa : f_X1_instruction_fa mm fo fa fx fy fs fp fc mem ug lt ct hd la bt kindsF waysF = _ := (Lw_fa hop hj hk hww).trans (n_i_fa_ORA)
  have e_fx : f_X1_instruction_fx mm fo fa fx fy fs fc mem ug lt ct hd la bt kindsF waysF = _ := (Lw_fx hop hj hk hww).trans (n_i_fx_ORA)
  have e_fy : f_X1_instruction_fy mm fo fa fx fy fc mem ug lt ct hd la bt kindsF waysF = _ := (Lw_fy hop hj hk hww).trans (n_i_fy_ORA)
  have e_fs : f_X1_instruction_fs mm fo fx fs fc mem ug lt ct hd la bt kindsF = _ := (Lw_fs hop hj hk).trans (n_i_fs_ORA)
  have e_fp : f_X1_instruction_fp mm fo fa fx fy fs fp fc mem ug lt ct hd la bt kindsF waysF = _ := (Lw_fp hop hj hk hww).trans (n_i_fp_ORA)
  have e_fc : f_X1_instruction_fc mm fo fx fy fs fp fc mem ug lt ct hd la bt kindsF waysF = _ := (Lw_fc hop hj hk hww).trans (n_i_fc_ORA)
  have e_mem : f_X1_instruction_mem mm fo fa fx fy fs fp fc mem ug lt ct hd la bt kindsF waysF = _ := (Lw_mem hop hj hk hww).trans (n_i_mem_ORA)
  have e_ug : f_X1_instruction_ug mm fo fa fx fy fp fc mem ug lt ct hd la bt kindsF waysF = _ := (Lw_ug hop hj hk hww).trans (n_i_ug_ORA)
  have e_ud : f_X1_instruction_ud mm fo fa fx fy fp fc mem ug ud lt ct hd la bt kindsF waysF = _ := (Lw_ud hop hj hk hww).trans (n_i_ud_ORA)
  have e_lt : f_X1_instruction_lt mm fo fa fx fy fp fc mem ug lt ct hd la bt kindsF waysF = _ := (Lw_lt hop hj hk hww).trans (n_i_lt_ORA)
  have e_ct : f_X1_instruction_ct mm fo fx fy fc mem ug lt ct hd la bt kindsF waysF = _ := (Lw_ct hop hj hk hww).trans (n_i_ct_ORA)
  have e_hd : f_X1_instruction_hd mm fo fx fy fc mem ug lt ct hd la bt kindsF waysF = _ := (Lw_hd hop hj hk hww).trans (n_i_hd_ORA)
  have e_la : f_X1_instruction_la mm fo fx fy fc mem ug lt ct hd la bt kindsF waysF = _ := (Lw_la hop hj hk hww).trans (n_i_la_ORA)
  have e_bt : f_X1_instruction_bt mm fo fa fx fy fp fc mem ug lt ct hd la bt kindsF waysF = _ := (Lw_bt hop hj hk hww).trans (n_i_bt_ORA)
  have g_gB : b_gB ug mm gB gA gX gY gS gP gC gR gM gL = _ := (B_wa_gB ho hkn h4 hwy pe hq).trans (n_wa_gB_ORA)
  have g_gA : b_gA ug mm gB gA gX gY gS gP gC gR gM gL = _ := (B_wa_gA ho hkn h4 hwy pe hq).trans (n_wa_gA_ORA)
  have g_gX : b_gX ug mm gB gA gX gY gS gC gR gM gL = _ := B_wa_gX ho hkn h4
  have g_gY : b_gY ug mm gB gA gX gY gC gR gM gL = _ := B_wa_gY ho hkn h4
  have g_gS : b_gS ug mm gB gX gS gC gR gM gL = _ := B_wa_gS ho hkn h4
  have g_gP : b_gP ug mm gB gA gX gY gS gP gC gR gM gL = _ := (B_wa_gP ho hkn h4 hwy pe hq).trans (n_wa_gP_ORA)
  have g_gC : b_gC ug mm gB gS gP gC gR gM gL = _ := (B_wa_gC ho hkn h4 hwy).trans (n_wa_gC_ORA)
  have g_gR : b_gR ug mm gB gA gX gY gP gC gR gM gL = _ := (B_wa_gR ho hkn h4 hwy pe hq).trans (n_wa_gR_ORA)
  have g_gM : b_gM ug mm gB gX gY gC gR gM gL = _ := (B_wa_gM ho hkn h4 hwy pe hq).trans (n_wa_gM_ORA)
  have g_gL : b_gL ug mm gB gX gY gC gR gM gL = _ := (B_wa_gL ho hkn h4 hwy pe hq).trans (n_wa_gL_ORA)
  have g_un : b_un ug mm gB gA gX gY gP gC gR gM gL = _ := (B_wa_un ho hkn h4 hwy pe hq).trans (n_wa_un_ORA)
  have g_ow : b_ow ug ud mm gB gA gX gY gP gC gR gM gL = _ := (B_wa_ow ho hkn h4 hwy pe hq).trans (n_wa_ow_ORA)
  rw [e_fa, e_fx, e_fy, e_fs, e_fp, e_fc, e_mem, e_ug, e_ud, e_lt, e_ct, e_hd, e_la, e_bt, g_gB, g_gA, g_gX, g_gY, g_gS, g_gP, g_gC, g_gR, g_gM, g_gL, g_un, g_ow]
  exact op_ORA hm hB hA hX hY hS hP pC pu pw hf hw
set_option maxRecDepth 100000 in
theorem as_AND (hm : s_m mm fo) (hB : rm mm gB mem om) (hA : ra mm gA fa oa) (hX : ra mm gX fx ox) (hY : ra mm gY fy oy) (hS : ra mm gS fs os) (hP : rp mm gP fp op) (hC : rc mm gC fc oc) (hu : ru ug lt ct hd la bt gR gM gL) (hf : ∃ j : Nat, j < 64 ∧ ug = nI j) (hw : wB ud) (hj : j < 256) (hop : f_X1_read_r mm fo mem ug lt ct hd la bt fc = nI j) (hc : clsF j = 2) : SR mm oa ox oy os op oc om (f_X1_instruction_fa mm fo fa fx fy fs fp fc mem ug lt ct hd la bt kindsF waysF) (f_X1_instruction_fx mm fo fa fx fy fs fc mem ug lt ct hd la bt kindsF waysF) (f_X1_instruction_fy mm fo fa fx fy fc mem ug lt ct hd la bt kindsF waysF) (f_X1_instruction_fs mm fo fx fs fc mem ug lt ct hd la bt kindsF) (f_X1_instruction_fp mm fo fa fx fy fs fp fc mem ug lt ct hd la bt kindsF waysF) (f_X1_instruction_fc mm fo fx fy fs fp fc mem ug lt ct hd la bt kindsF waysF) (f_X1_instruction_mem mm fo fa fx fy fs fp fc mem ug lt ct hd la bt kindsF waysF) (f_X1_instruction_ug mm fo fa fx fy fp fc mem ug lt ct hd la bt kindsF waysF) (f_X1_instruction_ud mm fo fa fx fy fp fc mem ug ud lt ct hd la bt kindsF waysF) (f_X1_instruction_lt mm fo fa fx fy fp fc mem ug lt ct hd la bt kindsF waysF) (f_X1_instruction_ct mm fo fx fy fc mem ug lt ct hd la bt kindsF waysF) (f_X1_instruction_hd mm fo fx fy fc mem ug lt ct hd la bt kindsF waysF) (f_X1_instruction_la mm fo fx fy fc mem ug lt ct hd la bt kindsF waysF) (f_X1_instruction_bt mm fo fa fx fy fp fc mem ug lt ct hd la bt kindsF waysF) (b_gB ug mm gB gA gX gY gS gP gC gR gM gL) (b_gA ug mm gB gA gX gY gS gP gC gR gM gL) (b_gX ug mm gB gA gX gY gS gC gR gM gL) (b_gY ug mm gB gA gX gY gC gR gM gL) (b_gS ug mm gB gX gS gC gR gM gL) (b_gP ug mm gB gA gX gY gS gP gC gR gM gL) (b_gC ug mm gB gS gP gC gR gM gL) (b_gR ug mm gB gA gX gY gP gC gR gM gL) (b_gM ug mm gB gX gY gC gR gM gL) (b_gL ug mm gB gX gY gC gR gM gL) (b_un ug mm gB gA gX gY gP gC gR gM gL) (b_ow ug ud mm gB gA gX gY gP gC gR gM gL) := by
  have fe := sr_fetch hm hB hf hu hC
  obtain ⟨fv, fb, fu, fC⟩ := fe
  obtain ⟨hkn, h4, hq, hk⟩ := (show ∀ j : Nat, j < 256 → clsF j = 2 → ¬ f_X5_isKnown_r (nI j) = 0 ∧ nI j - nI j / 4 * 4 = 1 ∧ nI j / 32 = 1 ∧ kindsF j = 20 by decide +kernel) j hj hc
  obtain ⟨hwy, hw10, hw0⟩ := (show ∀ j : Nat, j < 256 → clsF j = 2 → f_X5_way_r (nI j) = waysF j ∧ ¬ waysF j = 10 ∧ ¬ waysF j = 0 by decide +kernel) j hj hc
  have hway := s_wayb ((show ∀ j : Nat, j < 256 → clsF j = 2 → s_wb (waysF j) = true by decide +kernel) j hj hc)
  have ho : f_X5_fetch_r ug mm gB gC gR gM gL = nI j := fv.trans hop
  have hww : waysF j = waysF j := rfl
  obtain ⟨pe, pw, pu, pC⟩ := sr_place hway hm hB hf fu fC hX hY
  have hpl := s_wn pw
  have e_fa : f_X1_instruction_fa mm fo fa fx fy fs fp fc mem ug lt ct hd la bt kindsF waysF = _ := (Lw_fa hop hj hk hww).trans (n_i_fa_AND)
  have e_fx : f_X1_instruction_fx mm fo fa fx fy fs fc mem ug lt ct hd la bt kindsF waysF = _ := (Lw_fx hop hj hk hww).trans (n_i_fx_AND)
  have e_fy : f_X1_instruction_fy mm fo fa fx fy fc mem ug lt ct hd la bt kindsF waysF = _ := (Lw_fy hop hj hk hww).trans (n_i_fy_AND)
  have e_fs : f_X1_instruction_fs mm fo fx fs fc mem ug lt ct hd la bt kindsF = _ := (Lw_fs hop hj hk).trans (n_i_fs_AND)
  have e_fp : f_X1_instruction_fp mm fo fa fx fy fs fp fc mem ug lt ct hd la bt kindsF waysF = _ := (Lw_fp hop hj hk hww).trans (n_i_fp_AND)
  have e_fc : f_X1_instruction_fc mm fo fx fy fs fp fc mem ug lt ct hd la bt kindsF waysF = _ := (Lw_fc hop hj hk hww).trans (n_i_fc_AND)
  have e_mem : f_X1_instruction_mem mm fo fa fx fy fs fp fc mem ug lt ct hd la bt kindsF waysF = _ := (Lw_mem hop hj hk hww).trans (n_i_mem_AND)
  have e_ug : f_X1_instruction_ug mm fo fa fx fy fp fc mem ug lt ct hd la bt kindsF waysF = _ := (Lw_ug hop hj hk hww).trans (n_i_ug_AND)
  have e_ud : f_X1_instruction_ud mm fo fa fx fy fp fc mem ug ud lt ct hd la bt kindsF waysF = _ := (Lw_ud hop hj hk hww).trans (n_i_ud_AND)
  have e_lt : f_X1_instruction_lt mm fo fa fx fy fp fc mem ug lt ct hd la bt kindsF waysF = _ := (Lw_lt hop hj hk hww).trans (n_i_lt_AND)
  have e_ct : f_X1_instruction_ct mm fo fx fy fc mem ug lt ct hd la bt kindsF waysF = _ := (Lw_ct hop hj hk hww).trans (n_i_ct_AND)
  have e_hd : f_X1_instruction_hd mm fo fx fy fc mem ug lt ct hd la bt kindsF waysF = _ := (Lw_hd hop hj hk hww).trans (n_i_hd_AND)
  have e_la : f_X1_instruction_la mm fo fx fy fc mem ug lt ct hd la bt kindsF waysF = _ := (Lw_la hop hj hk hww).trans (n_i_la_AND)
  have e_bt : f_X1_instruction_bt mm fo fa fx fy fp fc mem ug lt ct hd la bt kindsF waysF = _ := (Lw_bt hop hj hk hww).trans (n_i_bt_AND)
  have g_gB : b_gB ug mm gB gA gX gY gS gP gC gR gM gL = _ := (B_wa_gB ho hkn h4 hwy pe hq).trans (n_wa_gB_AND)
  have g_gA : b_gA ug mm gB gA gX gY gS gP gC gR gM gL = _ := (B_wa_gA ho hkn h4 hwy pe hq).trans (n_wa_gA_AND)
  have g_gX : b_gX ug mm gB gA gX gY gS gC gR gM gL = _ := B_wa_gX ho hkn h4
  have g_gY : b_gY ug mm gB gA gX gY gC gR gM gL = _ := B_wa_gY ho hkn h4
  have g_gS : b_gS ug mm gB gX gS gC gR gM gL = _ := B_wa_gS ho hkn h4
  have g_gP : b_gP ug mm gB gA gX gY gS gP gC gR gM gL = _ := (B_wa_gP ho hkn h4 hwy pe hq).trans (n_wa_gP_AND)
  have g_gC : b_gC ug mm gB gS gP gC gR gM gL = _ := (B_wa_gC ho hkn h4 hwy).trans (n_wa_gC_ORA)
  have g_gR : b_gR ug mm gB gA gX gY gP gC gR gM gL = _ := (B_wa_gR ho hkn h4 hwy pe hq).trans (n_wa_gR_AND)
  have g_gM : b_gM ug mm gB gX gY gC gR gM gL = _ := (B_wa_gM ho hkn h4 hwy pe hq).trans (n_wa_gM_AND)
  have g_gL : b_gL ug mm gB gX gY gC gR gM gL = _ := (B_wa_gL ho hkn h4 hwy pe hq).trans (n_wa_gL_AND)
  have g_un : b_un ug mm gB gA gX gY gP gC gR gM gL = _ := (B_wa_un ho hkn h4 hwy pe hq).trans (n_wa_un_AND)
  have g_ow : b_ow ug ud mm gB gA gX gY gP gC gR gM gL = _ := (B_wa_ow ho hkn h4 hwy pe hq).trans (n_wa_ow_AND)
  rw [e_fa, e_fx, e_fy, e_fs, e_fp, e_fc, e_mem, e_ug, e_ud, e_lt, e_ct, e_hd, e_la, e_bt, g_gB, g_gA, g_gX, g_gY, g_gS, g_gP, g_gC, g_gR, g_gM, g_gL, g_un, g_ow]
  exact op_AND hm hB hA hX hY hS hP pC pu pw hf hw
set_option maxRecDepth 100000 in
theorem as_EOR (hm : s_m mm fo) (hB : rm mm gB mem om) (hA : ra mm gA fa oa) (hX : ra mm gX fx ox) (hY : ra mm gY fy oy) (hS : ra mm gS fs os) (hP : rp mm gP fp op) (hC : rc mm gC fc oc) (hu : ru ug lt ct hd la bt gR gM gL) (hf : ∃ j : Nat, j < 64 ∧ ug = nI j) (hw : wB ud) (hj : j < 256) (hop : f_X1_read_r mm fo mem ug lt ct hd la bt fc = nI j) (hc : clsF j = 3) : SR mm oa ox oy os op oc om (f_X1_instruction_fa mm fo fa fx fy fs fp fc mem ug lt ct hd la bt kindsF waysF) (f_X1_instruction_fx mm fo fa fx fy fs fc mem ug lt ct hd la bt kindsF waysF) (f_X1_instruction_fy mm fo fa fx fy fc mem ug lt ct hd la bt kindsF waysF) (f_X1_instruction_fs mm fo fx fs fc mem ug lt ct hd la bt kindsF) (f_X1_instruction_fp mm fo fa fx fy fs fp fc mem ug lt ct hd la bt kindsF waysF) (f_X1_instruction_fc mm fo fx fy fs fp fc mem ug lt ct hd la bt kindsF waysF) (f_X1_instruction_mem mm fo fa fx fy fs fp fc mem ug lt ct hd la bt kindsF waysF) (f_X1_instruction_ug mm fo fa fx fy fp fc mem ug lt ct hd la bt kindsF waysF) (f_X1_instruction_ud mm fo fa fx fy fp fc mem ug ud lt ct hd la bt kindsF waysF) (f_X1_instruction_lt mm fo fa fx fy fp fc mem ug lt ct hd la bt kindsF waysF) (f_X1_instruction_ct mm fo fx fy fc mem ug lt ct hd la bt kindsF waysF) (f_X1_instruction_hd mm fo fx fy fc mem ug lt ct hd la bt kindsF waysF) (f_X1_instruction_la mm fo fx fy fc mem ug lt ct hd la bt kindsF waysF) (f_X1_instruction_bt mm fo fa fx fy fp fc mem ug lt ct hd la bt kindsF waysF) (b_gB ug mm gB gA gX gY gS gP gC gR gM gL) (b_gA ug mm gB gA gX gY gS gP gC gR gM gL) (b_gX ug mm gB gA gX gY gS gC gR gM gL) (b_gY ug mm gB gA gX gY gC gR gM gL) (b_gS ug mm gB gX gS gC gR gM gL) (b_gP ug mm gB gA gX gY gS gP gC gR gM gL) (b_gC ug mm gB gS gP gC gR gM gL) (b_gR ug mm gB gA gX gY gP gC gR gM gL) (b_gM ug mm gB gX gY gC gR gM gL) (b_gL ug mm gB gX gY gC gR gM gL) (b_un ug mm gB gA gX gY gP gC gR gM gL) (b_ow ug ud mm gB gA gX gY gP gC gR gM gL) := by
  have fe := sr_fetch hm hB hf hu hC
  obtain ⟨fv, fb, fu, fC⟩ := fe
  obtain ⟨hkn, h4, hq, hk⟩ := (show ∀ j : Nat, j < 256 → clsF j = 3 → ¬ f_X5_isKnown_r (nI j) = 0 ∧ nI j - nI j / 4 * 4 = 1 ∧ nI j / 32 = 2 ∧ kindsF j = 21 by decide +kernel) j hj hc
  obtain ⟨hwy, hw10, hw0⟩ := (show ∀ j : Nat, j < 256 → clsF j = 3 → f_X5_way_r (nI j) = waysF j ∧ ¬ waysF j = 10 ∧ ¬ waysF j = 0 by decide +kernel) j hj hc
  have hway := s_wayb ((show ∀ j : Nat, j < 256 → clsF j = 3 → s_wb (waysF j) = true by decide +kernel) j hj hc)
  have ho : f_X5_fetch_r ug mm gB gC gR gM gL = nI j := fv.trans hop
  have hww : waysF j = waysF j := rfl
  obtain ⟨pe, pw, pu, pC⟩ := sr_place hway hm hB hf fu fC hX hY
  have hpl := s_wn pw
  have e_fa : f_X1_instruction_fa mm fo fa fx fy fs fp fc mem ug lt ct hd la bt kindsF waysF = _ := (Lw_fa hop hj hk hww).trans (n_i_fa_EOR)
  have e_fx : f_X1_instruction_fx mm fo fa fx fy fs fc mem ug lt ct hd la bt kindsF waysF = _ := (Lw_fx hop hj hk hww).trans (n_i_fx_EOR)
  have e_fy : f_X1_instruction_fy mm fo fa fx fy fc mem ug lt ct hd la bt kindsF waysF = _ := (Lw_fy hop hj hk hww).trans (n_i_fy_EOR)
  have e_fs : f_X1_instruction_fs mm fo fx fs fc mem ug lt ct hd la bt kindsF = _ := (Lw_fs hop hj hk).trans (n_i_fs_EOR)
  have e_fp : f_X1_instruction_fp mm fo fa fx fy fs fp fc mem ug lt ct hd la bt kindsF waysF = _ := (Lw_fp hop hj hk hww).trans (n_i_fp_EOR)
  have e_fc : f_X1_instruction_fc mm fo fx fy fs fp fc mem ug lt ct hd la bt kindsF waysF = _ := (Lw_fc hop hj hk hww).trans (n_i_fc_EOR)
  have e_mem : f_X1_instruction_mem mm fo fa fx fy fs fp fc mem ug lt ct hd la bt kindsF waysF = _ := (Lw_mem hop hj hk hww).trans (n_i_mem_EOR)
  have e_ug : f_X1_instruction_ug mm fo fa fx fy fp fc mem ug lt ct hd la bt kindsF waysF = _ := (Lw_ug hop hj hk hww).trans (n_i_ug_EOR)
  have e_ud : f_X1_instruction_ud mm fo fa fx fy fp fc mem ug ud lt ct hd la bt kindsF waysF = _ := (Lw_ud hop hj hk hww).trans (n_i_ud_EOR)
  have e_lt : f_X1_instruction_lt mm fo fa fx fy fp fc mem ug lt ct hd la bt kindsF waysF = _ := (Lw_lt hop hj hk hww).trans (n_i_lt_EOR)
  have e_ct : f_X1_instruction_ct mm fo fx fy fc mem ug lt ct hd la bt kindsF waysF = _ := (Lw_ct hop hj hk hww).trans (n_i_ct_EOR)
  have e_hd : f_X1_instruction_hd mm fo fx fy fc mem ug lt ct hd la bt kindsF waysF = _ := (Lw_hd hop hj hk hww).trans (n_i_hd_EOR)
  have e_la : f_X1_instruction_la mm fo fx fy fc mem ug lt ct hd la bt kindsF waysF = _ := (Lw_la hop hj hk hww).trans (n_i_la_EOR)
  have e_bt : f_X1_instruction_bt mm fo fa fx fy fp fc mem ug lt ct hd la bt kindsF waysF = _ := (Lw_bt hop hj hk hww).trans (n_i_bt_EOR)
  have g_gB : b_gB ug mm gB gA gX gY gS gP gC gR gM gL = _ := (B_wa_gB ho hkn h4 hwy pe hq).trans (n_wa_gB_EOR)
  have g_gA : b_gA ug mm gB gA gX gY gS gP gC gR gM gL = _ := (B_wa_gA ho hkn h4 hwy pe hq).trans (n_wa_gA_EOR)
  have g_gX : b_gX ug mm gB gA gX gY gS gC gR gM gL = _ := B_wa_gX ho hkn h4
  have g_gY : b_gY ug mm gB gA gX gY gC gR gM gL = _ := B_wa_gY ho hkn h4
  have g_gS : b_gS ug mm gB gX gS gC gR gM gL = _ := B_wa_gS ho hkn h4
  have g_gP : b_gP ug mm gB gA gX gY gS gP gC gR gM gL = _ := (B_wa_gP ho hkn h4 hwy pe hq).trans (n_wa_gP_EOR)
  have g_gC : b_gC ug mm gB gS gP gC gR gM gL = _ := (B_wa_gC ho hkn h4 hwy).trans (n_wa_gC_ORA)
  have g_gR : b_gR ug mm gB gA gX gY gP gC gR gM gL = _ := (B_wa_gR ho hkn h4 hwy pe hq).trans (n_wa_gR_EOR)
  have g_gM : b_gM ug mm gB gX gY gC gR gM gL = _ := (B_wa_gM ho hkn h4 hwy pe hq).trans (n_wa_gM_EOR)
  have g_gL : b_gL ug mm gB gX gY gC gR gM gL = _ := (B_wa_gL ho hkn h4 hwy pe hq).trans (n_wa_gL_EOR)
  have g_un : b_un ug mm gB gA gX gY gP gC gR gM gL = _ := (B_wa_un ho hkn h4 hwy pe hq).trans (n_wa_un_EOR)
  have g_ow : b_ow ug ud mm gB gA gX gY gP gC gR gM gL = _ := (B_wa_ow ho hkn h4 hwy pe hq).trans (n_wa_ow_EOR)
  rw [e_fa, e_fx, e_fy, e_fs, e_fp, e_fc, e_mem, e_ug, e_ud, e_lt, e_ct, e_hd, e_la, e_bt, g_gB, g_gA, g_gX, g_gY, g_gS, g_gP, g_gC, g_gR, g_gM, g_gL, g_un, g_ow]
  exact op_EOR hm hB hA hX hY hS hP pC pu pw hf hw
set_option maxRecDepth 100000 in
theorem as_ADC (hm : s_m mm fo) (hB : rm mm gB mem om) (hA : ra mm gA fa oa) (hX : ra mm gX fx ox) (hY : ra mm gY fy oy) (hS : ra mm gS fs os) (hP : rp mm gP fp op) (hC : rc mm gC fc oc) (hu : ru ug lt ct hd la bt gR gM gL) (hf : ∃ j : Nat, j < 64 ∧ ug = nI j) (hw : wB ud) (hj : j < 256) (hop : f_X1_read_r mm fo mem ug lt ct hd la bt fc = nI j) (hc : clsF j = 4) : SR mm oa ox oy os op oc om (f_X1_instruction_fa mm fo fa fx fy fs fp fc mem ug lt ct hd la bt kindsF waysF) (f_X1_instruction_fx mm fo fa fx fy fs fc mem ug lt ct hd la bt kindsF waysF) (f_X1_instruction_fy mm fo fa fx fy fc mem ug lt ct hd la bt kindsF waysF) (f_X1_instruction_fs mm fo fx fs fc mem ug lt ct hd la bt kindsF) (f_X1_instruction_fp mm fo fa fx fy fs fp fc mem ug lt ct hd la bt kindsF waysF) (f_X1_instruction_fc mm fo fx fy fs fp fc mem ug lt ct hd la bt kindsF waysF) (f_X1_instruction_mem mm fo fa fx fy fs fp fc mem ug lt ct hd la bt kindsF waysF) (f_X1_instruction_ug mm fo fa fx fy fp fc mem ug lt ct hd la bt kindsF waysF) (f_X1_instruction_ud mm fo fa fx fy fp fc mem ug ud lt ct hd la bt kindsF waysF) (f_X1_instruction_lt mm fo fa fx fy fp fc mem ug lt ct hd la bt kindsF waysF) (f_X1_instruction_ct mm fo fx fy fc mem ug lt ct hd la bt kindsF waysF) (f_X1_instruction_hd mm fo fx fy fc mem ug lt ct hd la bt kindsF waysF) (f_X1_instruction_la mm fo fx fy fc mem ug lt ct hd la bt kindsF waysF) (f_X1_instruction_bt mm fo fa fx fy fp fc mem ug lt ct hd la bt kindsF waysF) (b_gB ug mm gB gA gX gY gS gP gC gR gM gL) (b_gA ug mm gB gA gX gY gS gP gC gR gM gL) (b_gX ug mm gB gA gX gY gS gC gR gM gL) (b_gY ug mm gB gA gX gY gC gR gM gL) (b_gS ug mm gB gX gS gC gR gM gL) (b_gP ug mm gB gA gX gY gS gP gC gR gM gL) (b_gC ug mm gB gS gP gC gR gM gL) (b_gR ug mm gB gA gX gY gP gC gR gM gL) (b_gM ug mm gB gX gY gC gR gM gL) (b_gL ug mm gB gX gY gC gR gM gL) (b_un ug mm gB gA gX gY gP gC gR gM gL) (b_ow ug ud mm gB gA gX gY gP gC gR gM gL) := by
  have fe := sr_fetch hm hB hf hu hC
  obtain ⟨fv, fb, fu, fC⟩ := fe
  obtain ⟨hkn, h4, hq, hk⟩ := (show ∀ j : Nat, j < 256 → clsF j = 4 → ¬ f_X5_isKnown_r (nI j) = 0 ∧ nI j - nI j / 4 * 4 = 1 ∧ nI j / 32 = 3 ∧ kindsF j = 22 by decide +kernel) j hj hc
  obtain ⟨hwy, hw10, hw0⟩ := (show ∀ j : Nat, j < 256 → clsF j = 4 → f_X5_way_r (nI j) = waysF j ∧ ¬ waysF j = 10 ∧ ¬ waysF j = 0 by decide +kernel) j hj hc
  have hway := s_wayb ((show ∀ j : Nat, j < 256 → clsF j = 4 → s_wb (waysF j) = true by decide +kernel) j hj hc)
  have ho : f_X5_fetch_r ug mm gB gC gR gM gL = nI j := fv.trans hop
  have hww : waysF j = waysF j := rfl
  obtain ⟨pe, pw, pu, pC⟩ := sr_place hway hm hB hf fu fC hX hY
  have hpl := s_wn pw
  have e_fa : f_X1_instruction_fa mm fo fa fx fy fs fp fc mem ug lt ct hd la bt kindsF waysF = _ := (Lw_fa hop hj hk hww).trans (n_i_fa_ADC)
  have e_fx : f_X1_instruction_fx mm fo fa fx fy fs fc mem ug lt ct hd la bt kindsF waysF = _ := (Lw_fx hop hj hk hww).trans (n_i_fx_ADC)
  have e_fy : f_X1_instruction_fy mm fo fa fx fy fc mem ug lt ct hd la bt kindsF waysF = _ := (Lw_fy hop hj hk hww).trans (n_i_fy_ADC)
  have e_fs : f_X1_instruction_fs mm fo fx fs fc mem ug lt ct hd la bt kindsF = _ := (Lw_fs hop hj hk).trans (n_i_fs_ADC)
  have e_fp : f_X1_instruction_fp mm fo fa fx fy fs fp fc mem ug lt ct hd la bt kindsF waysF = _ := (Lw_fp hop hj hk hww).trans (n_i_fp_ADC)
  have e_fc : f_X1_instruction_fc mm fo fx fy fs fp fc mem ug lt ct hd la bt kindsF waysF = _ := (Lw_fc hop hj hk hww).trans (n_i_fc_ADC)
  have e_mem : f_X1_instruction_mem mm fo fa fx fy fs fp fc mem ug lt ct hd la bt kindsF waysF = _ := (Lw_mem hop hj hk hww).trans (n_i_mem_ADC)
  have e_ug : f_X1_instruction_ug mm fo fa fx fy fp fc mem ug lt ct hd la bt kindsF waysF = _ := (Lw_ug hop hj hk hww).trans (n_i_ug_ADC)
  have e_ud : f_X1_instruction_ud mm fo fa fx fy fp fc mem ug ud lt ct hd la bt kindsF waysF = _ := (Lw_ud hop hj hk hww).trans (n_i_ud_ADC)
  have e_lt : f_X1_instruction_lt mm fo fa fx fy fp fc mem ug lt ct hd la bt kindsF waysF = _ := (Lw_lt hop hj hk hww).trans (n_i_lt_ADC)
  have e_ct : f_X1_instruction_ct mm fo fx fy fc mem ug lt ct hd la bt kindsF waysF = _ := (Lw_ct hop hj hk hww).trans (n_i_ct_ADC)
  have e_hd : f_X1_instruction_hd mm fo fx fy fc mem ug lt ct hd la bt kindsF waysF = _ := (Lw_hd hop hj hk hww).trans (n_i_hd_ADC)
  have e_la : f_X1_instruction_la mm fo fx fy fc mem ug lt ct hd la bt kindsF waysF = _ := (Lw_la hop hj hk hww).trans (n_i_la_ADC)
  have e_bt : f_X1_instruction_bt mm fo fa fx fy fp fc mem ug lt ct hd la bt kindsF waysF = _ := (Lw_bt hop hj hk hww).trans (n_i_bt_ADC)
  have g_gB : b_gB ug mm gB gA gX gY gS gP gC gR gM gL = _ := (B_wa_gB ho hkn h4 hwy pe hq).trans (n_wa_gB_ADC)
  have g_gA : b_gA ug mm gB gA gX gY gS gP gC gR gM gL = _ := (B_wa_gA ho hkn h4 hwy pe hq).trans (n_wa_gA_ADC)
  have g_gX : b_gX ug mm gB gA gX gY gS gC gR gM gL = _ := B_wa_gX ho hkn h4
  have g_gY : b_gY ug mm gB gA gX gY gC gR gM gL = _ := B_wa_gY ho hkn h4
  have g_gS : b_gS ug mm gB gX gS gC gR gM gL = _ := B_wa_gS ho hkn h4
  have g_gP : b_gP ug mm gB gA gX gY gS gP gC gR gM gL = _ := (B_wa_gP ho hkn h4 hwy pe hq).trans (n_wa_gP_ADC)
  have g_gC : b_gC ug mm gB gS gP gC gR gM gL = _ := (B_wa_gC ho hkn h4 hwy).trans (n_wa_gC_ORA)
  have g_gR : b_gR ug mm gB gA gX gY gP gC gR gM gL = _ := (B_wa_gR ho hkn h4 hwy pe hq).trans (n_wa_gR_ADC)
  have g_gM : b_gM ug mm gB gX gY gC gR gM gL = _ := (B_wa_gM ho hkn h4 hwy pe hq).trans (n_wa_gM_ADC)
  have g_gL : b_gL ug mm gB gX gY gC gR gM gL = _ := (B_wa_gL ho hkn h4 hwy pe hq).trans (n_wa_gL_ADC)
  have g_un : b_un ug mm gB gA gX gY gP gC gR gM gL = _ := (B_wa_un ho hkn h4 hwy pe hq).trans (n_wa_un_ADC)
  have g_ow : b_ow ug ud mm gB gA gX gY gP gC gR gM gL = _ := (B_wa_ow ho hkn h4 hwy pe hq).trans (n_wa_ow_ADC)
  rw [e_fa, e_fx, e_fy, e_fs, e_fp, e_fc, e_mem, e_ug, e_ud, e_lt, e_ct, e_hd, e_la, e_bt, g_gB, g_gA, g_gX, g_gY, g_gS, g_gP, g_gC, g_gR, g_gM, g_gL, g_un, g_ow]
  exact op_ADC hm hB hA hX hY hS hP pC pu pw hf hw
set_option maxRecDepth 100000 in
theorem as_STA (hm : s_m mm fo) (hB : rm mm gB mem om) (hA : ra mm gA fa oa) (hX : ra mm gX fx ox) (hY : ra mm gY fy oy) (hS : ra mm gS fs os) (hP : rp mm gP fp op) (hC : rc mm gC fc oc) (hu : ru ug lt ct hd la bt gR gM gL) (hf : ∃ j : Nat, j < 64 ∧ ug = nI j) (hw : wB ud) (hj : j < 256) (hop : f_X1_read_r mm fo mem ug lt ct hd la bt fc = nI j) (hc : clsF j = 5) : SR mm oa ox oy os op oc om (f_X1_instruction_fa mm fo fa fx fy fs fp fc mem ug lt ct hd la bt kindsF waysF) (f_X1_instruction_fx mm fo fa fx fy fs fc mem ug lt ct hd la bt kindsF waysF) (f_X1_instruction_fy mm fo fa fx fy fc mem ug lt ct hd la bt kindsF waysF) (f_X1_instruction_fs mm fo fx fs fc mem ug lt ct hd la bt kindsF) (f_X1_instruction_fp mm fo fa fx fy fs fp fc mem ug lt ct hd la bt kindsF waysF) (f_X1_instruction_fc mm fo fx fy fs fp fc mem ug lt ct hd la bt kindsF waysF) (f_X1_instruction_mem mm fo fa fx fy fs fp fc mem ug lt ct hd la bt kindsF waysF) (f_X1_instruction_ug mm fo fa fx fy fp fc mem ug lt ct hd la bt kindsF waysF) (f_X1_instruction_ud mm fo fa fx fy fp fc mem ug ud lt ct hd la bt kindsF waysF) (f_X1_instruction_lt mm fo fa fx fy fp fc mem ug lt ct hd la bt kindsF waysF) (f_X1_instruction_ct mm fo fx fy fc mem ug lt ct hd la bt kindsF waysF) (f_X1_instruction_hd mm fo fx fy fc mem ug lt ct hd la bt kindsF waysF) (f_X1_instruction_la mm fo fx fy fc mem ug lt ct hd la bt kindsF waysF) (f_X1_instruction_bt mm fo fa fx fy fp fc mem ug lt ct hd la bt kindsF waysF) (b_gB ug mm gB gA gX gY gS gP gC gR gM gL) (b_gA ug mm gB gA gX gY gS gP gC gR gM gL) (b_gX ug mm gB gA gX gY gS gC gR gM gL) (b_gY ug mm gB gA gX gY gC gR gM gL) (b_gS ug mm gB gX gS gC gR gM gL) (b_gP ug mm gB gA gX gY gS gP gC gR gM gL) (b_gC ug mm gB gS gP gC gR gM gL) (b_gR ug mm gB gA gX gY gP gC gR gM gL) (b_gM ug mm gB gX gY gC gR gM gL) (b_gL ug mm gB gX gY gC gR gM gL) (b_un ug mm gB gA gX gY gP gC gR gM gL) (b_ow ug ud mm gB gA gX gY gP gC gR gM gL) := by
  have fe := sr_fetch hm hB hf hu hC
  obtain ⟨fv, fb, fu, fC⟩ := fe
  obtain ⟨hkn, h4, hq, hk⟩ := (show ∀ j : Nat, j < 256 → clsF j = 5 → ¬ f_X5_isKnown_r (nI j) = 0 ∧ nI j - nI j / 4 * 4 = 1 ∧ nI j / 32 = 4 ∧ kindsF j = 32 by decide +kernel) j hj hc
  obtain ⟨hwy, hw10, hw0⟩ := (show ∀ j : Nat, j < 256 → clsF j = 5 → f_X5_way_r (nI j) = waysF j ∧ ¬ waysF j = 10 ∧ ¬ waysF j = 0 by decide +kernel) j hj hc
  have hway := s_wayb ((show ∀ j : Nat, j < 256 → clsF j = 5 → s_wb (waysF j) = true by decide +kernel) j hj hc)
  have ho : f_X5_fetch_r ug mm gB gC gR gM gL = nI j := fv.trans hop
  have hww : waysF j = waysF j := rfl
  obtain ⟨pe, pw, pu, pC⟩ := sr_place hway hm hB hf fu fC hX hY
  have hpl := s_wn pw
  have e_fa : f_X1_instruction_fa mm fo fa fx fy fs fp fc mem ug lt ct hd la bt kindsF waysF = _ := (Lw_fa hop hj hk hww).trans (n_i_fa_STA)
  have e_fx : f_X1_instruction_fx mm fo fa fx fy fs fc mem ug lt ct hd la bt kindsF waysF = _ := (Lw_fx hop hj hk hww).trans (n_i_fx_STA)
  have e_fy : f_X1_instruction_fy mm fo fa fx fy fc mem ug lt ct hd la bt kindsF waysF = _ := (Lw_fy hop hj hk hww).trans (n_i_fy_STA)
  have e_fs : f_X1_instruction_fs mm fo fx fs fc mem ug lt ct hd la bt kindsF = _ := (Lw_fs hop hj hk).trans (n_i_fs_STA)
  have e_fp : f_X1_instruction_fp mm fo fa fx fy fs fp fc mem ug lt ct hd la bt kindsF waysF = _ := (Lw_fp hop hj hk hww).trans (n_i_fp_STA)
  have e_fc : f_X1_instruction_fc mm fo fx fy fs fp fc mem ug lt ct hd la bt kindsF waysF = _ := (Lw_fc hop hj hk hww).trans (n_i_fc_STA)
  have e_mem : f_X1_instruction_mem mm fo fa fx fy fs fp fc mem ug lt ct hd la bt kindsF waysF = _ := (Lw_mem hop hj hk hww).trans (n_i_mem_STA)
  have e_ug : f_X1_instruction_ug mm fo fa fx fy fp fc mem ug lt ct hd la bt kindsF waysF = _ := (Lw_ug hop hj hk hww).trans (n_i_ug_STA)
  have e_ud : f_X1_instruction_ud mm fo fa fx fy fp fc mem ug ud lt ct hd la bt kindsF waysF = _ := (Lw_ud hop hj hk hww).trans (n_i_ud_STA)
  have e_lt : f_X1_instruction_lt mm fo fa fx fy fp fc mem ug lt ct hd la bt kindsF waysF = _ := (Lw_lt hop hj hk hww).trans (n_i_lt_STA)
  have e_ct : f_X1_instruction_ct mm fo fx fy fc mem ug lt ct hd la bt kindsF waysF = _ := (Lw_ct hop hj hk hww).trans (n_i_ct_STA)
  have e_hd : f_X1_instruction_hd mm fo fx fy fc mem ug lt ct hd la bt kindsF waysF = _ := (Lw_hd hop hj hk hww).trans (n_i_hd_STA)
  have e_la : f_X1_instruction_la mm fo fx fy fc mem ug lt ct hd la bt kindsF waysF = _ := (Lw_la hop hj hk hww).trans (n_i_la_STA)
  have e_bt : f_X1_instruction_bt mm fo fa fx fy fp fc mem ug lt ct hd la bt kindsF waysF = _ := (Lw_bt hop hj hk hww).trans (n_i_bt_STA)
  have g_gB : b_gB ug mm gB gA gX gY gS gP gC gR gM gL = _ := (B_wa_gB ho hkn h4 hwy pe hq).trans (n_wa_gB_STA)
  have g_gA : b_gA ug mm gB gA gX gY gS gP gC gR gM gL = _ := (B_wa_gA ho hkn h4 hwy pe hq).trans (n_wa_gA_STA)
  have g_gX : b_gX ug mm gB gA gX gY gS gC gR gM gL = _ := B_wa_gX ho hkn h4
  have g_gY : b_gY ug mm gB gA gX gY gC gR gM gL = _ := B_wa_gY ho hkn h4
  have g_gS : b_gS ug mm gB gX gS gC gR gM gL = _ := B_wa_gS ho hkn h4
  have g_gP : b_gP ug mm gB gA gX gY gS gP gC gR gM gL = _ := (B_wa_gP ho hkn h4 hwy pe hq).trans (n_wa_gP_STA)
  have g_gC : b_gC ug mm gB gS gP gC gR gM gL = _ := (B_wa_gC ho hkn h4 hwy).trans (n_wa_gC_ORA)
  have g_gR : b_gR ug mm gB gA gX gY gP gC gR gM gL = _ := (B_wa_gR ho hkn h4 hwy pe hq).trans (n_wa_gR_STA)
  have g_gM : b_gM ug mm gB gX gY gC gR gM gL = _ := (B_wa_gM ho hkn h4 hwy pe hq).trans (n_wa_gM_STA)
  have g_gL : b_gL ug mm gB gX gY gC gR gM gL = _ := (B_wa_gL ho hkn h4 hwy pe hq).trans (n_wa_gL_STA)
  have g_un : b_un ug mm gB gA gX gY gP gC gR gM gL = _ := (B_wa_un ho hkn h4 hwy pe hq).trans (n_wa_un_STA)
  have g_ow : b_ow ug ud mm gB gA gX gY gP gC gR gM gL = _ := (B_wa_ow ho hkn h4 hwy pe hq).trans (n_wa_ow_STA)
  rw [e_fa, e_fx, e_fy, e_fs, e_fp, e_fc, e_mem, e_ug, e_ud, e_lt, e_ct, e_hd, e_la, e_bt, g_gB, g_gA, g_gX, g_gY, g_gS, g_gP, g_gC, g_gR, g_gM, g_gL, g_un, g_ow]
  exact op_STA hm hB hA hX hY hS hP pC pu pw hf hw
set_option maxRecDepth 100000 in
theorem as_LDA (hm : s_m mm fo) (hB : rm mm gB mem om) (hA : ra mm gA fa oa) (hX : ra mm gX fx ox) (hY : ra mm gY fy oy) (hS : ra mm gS fs os) (hP : rp mm gP fp op) (hC : rc mm gC fc oc) (hu : ru ug lt ct hd la bt gR gM gL) (hf : ∃ j : Nat, j < 64 ∧ ug = nI j) (hw : wB ud) (hj : j < 256) (hop : f_X1_read_r mm fo mem ug lt ct hd la bt fc = nI j) (hc : clsF j = 6) : SR mm oa ox oy os op oc om (f_X1_instruction_fa mm fo fa fx fy fs fp fc mem ug lt ct hd la bt kindsF waysF) (f_X1_instruction_fx mm fo fa fx fy fs fc mem ug lt ct hd la bt kindsF waysF) (f_X1_instruction_fy mm fo fa fx fy fc mem ug lt ct hd la bt kindsF waysF) (f_X1_instruction_fs mm fo fx fs fc mem ug lt ct hd la bt kindsF) (f_X1_instruction_fp mm fo fa fx fy fs fp fc mem ug lt ct hd la bt kindsF waysF) (f_X1_instruction_fc mm fo fx fy fs fp fc mem ug lt ct hd la bt kindsF waysF) (f_X1_instruction_mem mm fo fa fx fy fs fp fc mem ug lt ct hd la bt kindsF waysF) (f_X1_instruction_ug mm fo fa fx fy fp fc mem ug lt ct hd la bt kindsF waysF) (f_X1_instruction_ud mm fo fa fx fy fp fc mem ug ud lt ct hd la bt kindsF waysF) (f_X1_instruction_lt mm fo fa fx fy fp fc mem ug lt ct hd la bt kindsF waysF) (f_X1_instruction_ct mm fo fx fy fc mem ug lt ct hd la bt kindsF waysF) (f_X1_instruction_hd mm fo fx fy fc mem ug lt ct hd la bt kindsF waysF) (f_X1_instruction_la mm fo fx fy fc mem ug lt ct hd la bt kindsF waysF) (f_X1_instruction_bt mm fo fa fx fy fp fc mem ug lt ct hd la bt kindsF waysF) (b_gB ug mm gB gA gX gY gS gP gC gR gM gL) (b_gA ug mm gB gA gX gY gS gP gC gR gM gL) (b_gX ug mm gB gA gX gY gS gC gR gM gL) (b_gY ug mm gB gA gX gY gC gR gM gL) (b_gS ug mm gB gX gS gC gR gM gL) (b_gP ug mm gB gA gX gY gS gP gC gR gM gL) (b_gC ug mm gB gS gP gC gR gM gL) (b_gR ug mm gB gA gX gY gP gC gR gM gL) (b_gM ug mm gB gX gY gC gR gM gL) (b_gL ug mm gB gX gY gC gR gM gL) (b_un ug mm gB gA gX gY gP gC gR gM gL) (b_ow ug ud mm gB gA gX gY gP gC gR gM gL) := by
  have fe := sr_fetch hm hB hf hu hC
  obtain ⟨fv, fb, fu, fC⟩ := fe
  obtain ⟨hkn, h4, hq, hk⟩ := (show ∀ j : Nat, j < 256 → clsF j = 6 → ¬ f_X5_isKnown_r (nI j) = 0 ∧ nI j - nI j / 4 * 4 = 1 ∧ nI j / 32 = 5 ∧ kindsF j = 16 by decide +kernel) j hj hc
  obtain ⟨hwy, hw10, hw0⟩ := (show ∀ j : Nat, j < 256 → clsF j = 6 → f_X5_way_r (nI j) = waysF j ∧ ¬ waysF j = 10 ∧ ¬ waysF j = 0 by decide +kernel) j hj hc
  have hway := s_wayb ((show ∀ j : Nat, j < 256 → clsF j = 6 → s_wb (waysF j) = true by decide +kernel) j hj hc)
  have ho : f_X5_fetch_r ug mm gB gC gR gM gL = nI j := fv.trans hop
  have hww : waysF j = waysF j := rfl
  obtain ⟨pe, pw, pu, pC⟩ := sr_place hway hm hB hf fu fC hX hY
  have hpl := s_wn pw
  have e_fa : f_X1_instruction_fa mm fo fa fx fy fs fp fc mem ug lt ct hd la bt kindsF waysF = _ := (Lw_fa hop hj hk hww).trans (n_i_fa_LDA)
  have e_fx : f_X1_instruction_fx mm fo fa fx fy fs fc mem ug lt ct hd la bt kindsF waysF = _ := (Lw_fx hop hj hk hww).trans (n_i_fx_LDA)
  have e_fy : f_X1_instruction_fy mm fo fa fx fy fc mem ug lt ct hd la bt kindsF waysF = _ := (Lw_fy hop hj hk hww).trans (n_i_fy_LDA)
  have e_fs : f_X1_instruction_fs mm fo fx fs fc mem ug lt ct hd la bt kindsF = _ := (Lw_fs hop hj hk).trans (n_i_fs_LDA)
  have e_fp : f_X1_instruction_fp mm fo fa fx fy fs fp fc mem ug lt ct hd la bt kindsF waysF = _ := (Lw_fp hop hj hk hww).trans (n_i_fp_LDA)
  have e_fc : f_X1_instruction_fc mm fo fx fy fs fp fc mem ug lt ct hd la bt kindsF waysF = _ := (Lw_fc hop hj hk hww).trans (n_i_fc_LDA)
  have e_mem : f_X1_instruction_mem mm fo fa fx fy fs fp fc mem ug lt ct hd la bt kindsF waysF = _ := (Lw_mem hop hj hk hww).trans (n_i_mem_LDA)
  have e_ug : f_X1_instruction_ug mm fo fa fx fy fp fc mem ug lt ct hd la bt kindsF waysF = _ := (Lw_ug hop hj hk hww).trans (n_i_ug_LDA)
  have e_ud : f_X1_instruction_ud mm fo fa fx fy fp fc mem ug ud lt ct hd la bt kindsF waysF = _ := (Lw_ud hop hj hk hww).trans (n_i_ud_LDA)
  have e_lt : f_X1_instruction_lt mm fo fa fx fy fp fc mem ug lt ct hd la bt kindsF waysF = _ := (Lw_lt hop hj hk hww).trans (n_i_lt_LDA)
  have e_ct : f_X1_instruction_ct mm fo fx fy fc mem ug lt ct hd la bt kindsF waysF = _ := (Lw_ct hop hj hk hww).trans (n_i_ct_LDA)
  have e_hd : f_X1_instruction_hd mm fo fx fy fc mem ug lt ct hd la bt kindsF waysF = _ := (Lw_hd hop hj hk hww).trans (n_i_hd_LDA)
  have e_la : f_X1_instruction_la mm fo fx fy fc mem ug lt ct hd la bt kindsF waysF = _ := (Lw_la hop hj hk hww).trans (n_i_la_LDA)
  have e_bt : f_X1_instruction_bt mm fo fa fx fy fp fc mem ug lt ct hd la bt kindsF waysF = _ := (Lw_bt hop hj hk hww).trans (n_i_bt_LDA)
  have g_gB : b_gB ug mm gB gA gX gY gS gP gC gR gM gL = _ := (B_wa_gB ho hkn h4 hwy pe hq).trans (n_wa_gB_LDA)
  have g_gA : b_gA ug mm gB gA gX gY gS gP gC gR gM gL = _ := (B_wa_gA ho hkn h4 hwy pe hq).trans (n_wa_gA_LDA)
  have g_gX : b_gX ug mm gB gA gX gY gS gC gR gM gL = _ := B_wa_gX ho hkn h4
  have g_gY : b_gY ug mm gB gA gX gY gC gR gM gL = _ := B_wa_gY ho hkn h4
  have g_gS : b_gS ug mm gB gX gS gC gR gM gL = _ := B_wa_gS ho hkn h4
  have g_gP : b_gP ug mm gB gA gX gY gS gP gC gR gM gL = _ := (B_wa_gP ho hkn h4 hwy pe hq).trans (n_wa_gP_LDA)
  have g_gC : b_gC ug mm gB gS gP gC gR gM gL = _ := (B_wa_gC ho hkn h4 hwy).trans (n_wa_gC_ORA)
  have g_gR : b_gR ug mm gB gA gX gY gP gC gR gM gL = _ := (B_wa_gR ho hkn h4 hwy pe hq).trans (n_wa_gR_LDA)
  have g_gM : b_gM ug mm gB gX gY gC gR gM gL = _ := (B_wa_gM ho hkn h4 hwy pe hq).trans (n_wa_gM_LDA)
  have g_gL : b_gL ug mm gB gX gY gC gR gM gL = _ := (B_wa_gL ho hkn h4 hwy pe hq).trans (n_wa_gL_LDA)
  have g_un : b_un ug mm gB gA gX gY gP gC gR gM gL = _ := (B_wa_un ho hkn h4 hwy pe hq).trans (n_wa_un_LDA)
  have g_ow : b_ow ug ud mm gB gA gX gY gP gC gR gM gL = _ := (B_wa_ow ho hkn h4 hwy pe hq).trans (n_wa_ow_LDA)
  rw [e_fa, e_fx, e_fy, e_fs, e_fp, e_fc, e_mem, e_ug, e_ud, e_lt, e_ct, e_hd, e_la, e_bt, g_gB, g_gA, g_gX, g_gY, g_gS, g_gP, g_gC, g_gR, g_gM, g_gL, g_un, g_ow]
  exact op_LDA hm hB hA hX hY hS hP pC pu pw hf hw
set_option maxRecDepth 100000 in
theorem as_CMP (hm : s_m mm fo) (hB : rm mm gB mem om) (hA : ra mm gA fa oa) (hX : ra mm gX fx ox) (hY : ra mm gY fy oy) (hS : ra mm gS fs os) (hP : rp mm gP fp op) (hC : rc mm gC fc oc) (hu : ru ug lt ct hd la bt gR gM gL) (hf : ∃ j : Nat, j < 64 ∧ ug = nI j) (hw : wB ud) (hj : j < 256) (hop : f_X1_read_r mm fo mem ug lt ct hd la bt fc = nI j) (hc : clsF j = 7) : SR mm oa ox oy os op oc om (f_X1_instruction_fa mm fo fa fx fy fs fp fc mem ug lt ct hd la bt kindsF waysF) (f_X1_instruction_fx mm fo fa fx fy fs fc mem ug lt ct hd la bt kindsF waysF) (f_X1_instruction_fy mm fo fa fx fy fc mem ug lt ct hd la bt kindsF waysF) (f_X1_instruction_fs mm fo fx fs fc mem ug lt ct hd la bt kindsF) (f_X1_instruction_fp mm fo fa fx fy fs fp fc mem ug lt ct hd la bt kindsF waysF) (f_X1_instruction_fc mm fo fx fy fs fp fc mem ug lt ct hd la bt kindsF waysF) (f_X1_instruction_mem mm fo fa fx fy fs fp fc mem ug lt ct hd la bt kindsF waysF) (f_X1_instruction_ug mm fo fa fx fy fp fc mem ug lt ct hd la bt kindsF waysF) (f_X1_instruction_ud mm fo fa fx fy fp fc mem ug ud lt ct hd la bt kindsF waysF) (f_X1_instruction_lt mm fo fa fx fy fp fc mem ug lt ct hd la bt kindsF waysF) (f_X1_instruction_ct mm fo fx fy fc mem ug lt ct hd la bt kindsF waysF) (f_X1_instruction_hd mm fo fx fy fc mem ug lt ct hd la bt kindsF waysF) (f_X1_instruction_la mm fo fx fy fc mem ug lt ct hd la bt kindsF waysF) (f_X1_instruction_bt mm fo fa fx fy fp fc mem ug lt ct hd la bt kindsF waysF) (b_gB ug mm gB gA gX gY gS gP gC gR gM gL) (b_gA ug mm gB gA gX gY gS gP gC gR gM gL) (b_gX ug mm gB gA gX gY gS gC gR gM gL) (b_gY ug mm gB gA gX gY gC gR gM gL) (b_gS ug mm gB gX gS gC gR gM gL) (b_gP ug mm gB gA gX gY gS gP gC gR gM gL) (b_gC ug mm gB gS gP gC gR gM gL) (b_gR ug mm gB gA gX gY gP gC gR gM gL) (b_gM ug mm gB gX gY gC gR gM gL) (b_gL ug mm gB gX gY gC gR gM gL) (b_un ug mm gB gA gX gY gP gC gR gM gL) (b_ow ug ud mm gB gA gX gY gP gC gR gM gL) := by
  have fe := sr_fetch hm hB hf hu hC
  obtain ⟨fv, fb, fu, fC⟩ := fe
  obtain ⟨hkn, h4, hq, hk⟩ := (show ∀ j : Nat, j < 256 → clsF j = 7 → ¬ f_X5_isKnown_r (nI j) = 0 ∧ nI j - nI j / 4 * 4 = 1 ∧ nI j / 32 = 6 ∧ kindsF j = 24 by decide +kernel) j hj hc
  obtain ⟨hwy, hw10, hw0⟩ := (show ∀ j : Nat, j < 256 → clsF j = 7 → f_X5_way_r (nI j) = waysF j ∧ ¬ waysF j = 10 ∧ ¬ waysF j = 0 by decide +kernel) j hj hc
  have hway := s_wayb ((show ∀ j : Nat, j < 256 → clsF j = 7 → s_wb (waysF j) = true by decide +kernel) j hj hc)
  have ho : f_X5_fetch_r ug mm gB gC gR gM gL = nI j := fv.trans hop
  have hww : waysF j = waysF j := rfl
  obtain ⟨pe, pw, pu, pC⟩ := sr_place hway hm hB hf fu fC hX hY
  have hpl := s_wn pw
  have e_fa : f_X1_instruction_fa mm fo fa fx fy fs fp fc mem ug lt ct hd la bt kindsF waysF = _ := (Lw_fa hop hj hk hww).trans (n_i_fa_CMP)
  have e_fx : f_X1_instruction_fx mm fo fa fx fy fs fc mem ug lt ct hd la bt kindsF waysF = _ := (Lw_fx hop hj hk hww).trans (n_i_fx_CMP)
  have e_fy : f_X1_instruction_fy mm fo fa fx fy fc mem ug lt ct hd la bt kindsF waysF = _ := (Lw_fy hop hj hk hww).trans (n_i_fy_CMP)
  have e_fs : f_X1_instruction_fs mm fo fx fs fc mem ug lt ct hd la bt kindsF = _ := (Lw_fs hop hj hk).trans (n_i_fs_CMP)
  have e_fp : f_X1_instruction_fp mm fo fa fx fy fs fp fc mem ug lt ct hd la bt kindsF waysF = _ := (Lw_fp hop hj hk hww).trans (n_i_fp_CMP)
  have e_fc : f_X1_instruction_fc mm fo fx fy fs fp fc mem ug lt ct hd la bt kindsF waysF = _ := (Lw_fc hop hj hk hww).trans (n_i_fc_CMP)
  have e_mem : f_X1_instruction_mem mm fo fa fx fy fs fp fc mem ug lt ct hd la bt kindsF waysF = _ := (Lw_mem hop hj hk hww).trans (n_i_mem_CMP)
  have e_ug : f_X1_instruction_ug mm fo fa fx fy fp fc mem ug lt ct hd la bt kindsF waysF = _ := (Lw_ug hop hj hk hww).trans (n_i_ug_CMP)
  have e_ud : f_X1_instruction_ud mm fo fa fx fy fp fc mem ug ud lt ct hd la bt kindsF waysF = _ := (Lw_ud hop hj hk hww).trans (n_i_ud_CMP)
  have e_lt : f_X1_instruction_lt mm fo fa fx fy fp fc mem ug lt ct hd la bt kindsF waysF = _ := (Lw_lt hop hj hk hww).trans (n_i_lt_CMP)
  have e_ct : f_X1_instruction_ct mm fo fx fy fc mem ug lt ct hd la bt kindsF waysF = _ := (Lw_ct hop hj hk hww).trans (n_i_ct_CMP)
  have e_hd : f_X1_instruction_hd mm fo fx fy fc mem ug lt ct hd la bt kindsF waysF = _ := (Lw_hd hop hj hk hww).trans (n_i_hd_CMP)
  have e_la : f_X1_instruction_la mm fo fx fy fc mem ug lt ct hd la bt kindsF waysF = _ := (Lw_la hop hj hk hww).trans (n_i_la_CMP)
  have e_bt : f_X1_instruction_bt mm fo fa fx fy fp fc mem ug lt ct hd la bt kindsF waysF = _ := (Lw_bt hop hj hk hww).trans (n_i_bt_CMP)
  have g_gB : b_gB ug mm gB gA gX gY gS gP gC gR gM gL = _ := (B_wa_gB ho hkn h4 hwy pe hq).trans (n_wa_gB_CMP)
  have g_gA : b_gA ug mm gB gA gX gY gS gP gC gR gM gL = _ := (B_wa_gA ho hkn h4 hwy pe hq).trans (n_wa_gA_CMP)
  have g_gX : b_gX ug mm gB gA gX gY gS gC gR gM gL = _ := B_wa_gX ho hkn h4
  have g_gY : b_gY ug mm gB gA gX gY gC gR gM gL = _ := B_wa_gY ho hkn h4
  have g_gS : b_gS ug mm gB gX gS gC gR gM gL = _ := B_wa_gS ho hkn h4
  have g_gP : b_gP ug mm gB gA gX gY gS gP gC gR gM gL = _ := (B_wa_gP ho hkn h4 hwy pe hq).trans (n_wa_gP_CMP)
  have g_gC : b_gC ug mm gB gS gP gC gR gM gL = _ := (B_wa_gC ho hkn h4 hwy).trans (n_wa_gC_ORA)
  have g_gR : b_gR ug mm gB gA gX gY gP gC gR gM gL = _ := (B_wa_gR ho hkn h4 hwy pe hq).trans (n_wa_gR_CMP)
  have g_gM : b_gM ug mm gB gX gY gC gR gM gL = _ := (B_wa_gM ho hkn h4 hwy pe hq).trans (n_wa_gM_CMP)
  have g_gL : b_gL ug mm gB gX gY gC gR gM gL = _ := (B_wa_gL ho hkn h4 hwy pe hq).trans (n_wa_gL_CMP)
  have g_un : b_un ug mm gB gA gX gY gP gC gR gM gL = _ := (B_wa_un ho hkn h4 hwy pe hq).trans (n_wa_un_CMP)
  have g_ow : b_ow ug ud mm gB gA gX gY gP gC gR gM gL = _ := (B_wa_ow ho hkn h4 hwy pe hq).trans (n_wa_ow_CMP)
  rw [e_fa, e_fx, e_fy, e_fs, e_fp, e_fc, e_mem, e_ug, e_ud, e_lt, e_ct, e_hd, e_la, e_bt, g_gB, g_gA, g_gX, g_gY, g_gS, g_gP, g_gC, g_gR, g_gM, g_gL, g_un, g_ow]
  exact op_CMP hm hB hA hX hY hS hP pC pu pw hf hw
set_option maxRecDepth 100000 in
theorem as_SBC (hm : s_m mm fo) (hB : rm mm gB mem om) (hA : ra mm gA fa oa) (hX : ra mm gX fx ox) (hY : ra mm gY fy oy) (hS : ra mm gS fs os) (hP : rp mm gP fp op) (hC : rc mm gC fc oc) (hu : ru ug lt ct hd la bt gR gM gL) (hf : ∃ j : Nat, j < 64 ∧ ug = nI j) (hw : wB ud) (hj : j < 256) (hop : f_X1_read_r mm fo mem ug lt ct hd la bt fc = nI j) (hc : clsF j = 8) : SR mm oa ox oy os op oc om (f_X1_instruction_fa mm fo fa fx fy fs fp fc mem ug lt ct hd la bt kindsF waysF) (f_X1_instruction_fx mm fo fa fx fy fs fc mem ug lt ct hd la bt kindsF waysF) (f_X1_instruction_fy mm fo fa fx fy fc mem ug lt ct hd la bt kindsF waysF) (f_X1_instruction_fs mm fo fx fs fc mem ug lt ct hd la bt kindsF) (f_X1_instruction_fp mm fo fa fx fy fs fp fc mem ug lt ct hd la bt kindsF waysF) (f_X1_instruction_fc mm fo fx fy fs fp fc mem ug lt ct hd la bt kindsF waysF) (f_X1_instruction_mem mm fo fa fx fy fs fp fc mem ug lt ct hd la bt kindsF waysF) (f_X1_instruction_ug mm fo fa fx fy fp fc mem ug lt ct hd la bt kindsF waysF) (f_X1_instruction_ud mm fo fa fx fy fp fc mem ug ud lt ct hd la bt kindsF waysF) (f_X1_instruction_lt mm fo fa fx fy fp fc mem ug lt ct hd la bt kindsF waysF) (f_X1_instruction_ct mm fo fx fy fc mem ug lt ct hd la bt kindsF waysF) (f_X1_instruction_hd mm fo fx fy fc mem ug lt ct hd la bt kindsF waysF) (f_X1_instruction_la mm fo fx fy fc mem ug lt ct hd la bt kindsF waysF) (f_X1_instruction_bt mm fo fa fx fy fp fc mem ug lt ct hd la bt kindsF waysF) (b_gB ug mm gB gA gX gY gS gP gC gR gM gL) (b_gA ug mm gB gA gX gY gS gP gC gR gM gL) (b_gX ug mm gB gA gX gY gS gC gR gM gL) (b_gY ug mm gB gA gX gY gC gR gM gL) (b_gS ug mm gB gX gS gC gR gM gL) (b_gP ug mm gB gA gX gY gS gP gC gR gM gL) (b_gC ug mm gB gS gP gC gR gM gL) (b_gR ug mm gB gA gX gY gP gC gR gM gL) (b_gM ug mm gB gX gY gC gR gM gL) (b_gL ug mm gB gX gY gC gR gM gL) (b_un ug mm gB gA gX gY gP gC gR gM gL) (b_ow ug ud mm gB gA gX gY gP gC gR gM gL) := by
  have fe := sr_fetch hm hB hf hu hC
  obtain ⟨fv, fb, fu, fC⟩ := fe
  obtain ⟨hkn, h4, hq, hk⟩ := (show ∀ j : Nat, j < 256 → clsF j = 8 → ¬ f_X5_isKnown_r (nI j) = 0 ∧ nI j - nI j / 4 * 4 = 1 ∧ nI j / 32 = 7 ∧ kindsF j = 23 by decide +kernel) j hj hc
  obtain ⟨hwy, hw10, hw0⟩ := (show ∀ j : Nat, j < 256 → clsF j = 8 → f_X5_way_r (nI j) = waysF j ∧ ¬ waysF j = 10 ∧ ¬ waysF j = 0 by decide +kernel) j hj hc
  have hway := s_wayb ((show ∀ j : Nat, j < 256 → clsF j = 8 → s_wb (waysF j) = true by decide +kernel) j hj hc)
  have ho : f_X5_fetch_r ug mm gB gC gR gM gL = nI j := fv.trans hop
  have hww : waysF j = waysF j := rfl
  obtain ⟨pe, pw, pu, pC⟩ := sr_place hway hm hB hf fu fC hX hY
  have hpl := s_wn pw
  have e_fa : f_X1_instruction_fa mm fo fa fx fy fs fp fc mem ug lt ct hd la bt kindsF waysF = _ := (Lw_fa hop hj hk hww).trans (n_i_fa_SBC)
  have e_fx : f_X1_instruction_fx mm fo fa fx fy fs fc mem ug lt ct hd la bt kindsF waysF = _ := (Lw_fx hop hj hk hww).trans (n_i_fx_SBC)
  have e_fy : f_X1_instruction_fy mm fo fa fx fy fc mem ug lt ct hd la bt kindsF waysF = _ := (Lw_fy hop hj hk hww).trans (n_i_fy_SBC)
  have e_fs : f_X1_instruction_fs mm fo fx fs fc mem ug lt ct hd la bt kindsF = _ := (Lw_fs hop hj hk).trans (n_i_fs_SBC)
  have e_fp : f_X1_instruction_fp mm fo fa fx fy fs fp fc mem ug lt ct hd la bt kindsF waysF = _ := (Lw_fp hop hj hk hww).trans (n_i_fp_SBC)
  have e_fc : f_X1_instruction_fc mm fo fx fy fs fp fc mem ug lt ct hd la bt kindsF waysF = _ := (Lw_fc hop hj hk hww).trans (n_i_fc_SBC)
  have e_mem : f_X1_instruction_mem mm fo fa fx fy fs fp fc mem ug lt ct hd la bt kindsF waysF = _ := (Lw_mem hop hj hk hww).trans (n_i_mem_SBC)
  have e_ug : f_X1_instruction_ug mm fo fa fx fy fp fc mem ug lt ct hd la bt kindsF waysF = _ := (Lw_ug hop hj hk hww).trans (n_i_ug_SBC)
  have e_ud : f_X1_instruction_ud mm fo fa fx fy fp fc mem ug ud lt ct hd la bt kindsF waysF = _ := (Lw_ud hop hj hk hww).trans (n_i_ud_SBC)
  have e_lt : f_X1_instruction_lt mm fo fa fx fy fp fc mem ug lt ct hd la bt kindsF waysF = _ := (Lw_lt hop hj hk hww).trans (n_i_lt_SBC)
  have e_ct : f_X1_instruction_ct mm fo fx fy fc mem ug lt ct hd la bt kindsF waysF = _ := (Lw_ct hop hj hk hww).trans (n_i_ct_SBC)
  have e_hd : f_X1_instruction_hd mm fo fx fy fc mem ug lt ct hd la bt kindsF waysF = _ := (Lw_hd hop hj hk hww).trans (n_i_hd_SBC)
  have e_la : f_X1_instruction_la mm fo fx fy fc mem ug lt ct hd la bt kindsF waysF = _ := (Lw_la hop hj hk hww).trans (n_i_la_SBC)
  have e_bt : f_X1_instruction_bt mm fo fa fx fy fp fc mem ug lt ct hd la bt kindsF waysF = _ := (Lw_bt hop hj hk hww).trans (n_i_bt_SBC)
  have g_gB : b_gB ug mm gB gA gX gY gS gP gC gR gM gL = _ := (B_wa_gB ho hkn h4 hwy pe hq).trans (n_wa_gB_SBC)
  have g_gA : b_gA ug mm gB gA gX gY gS gP gC gR gM gL = _ := (B_wa_gA ho hkn h4 hwy pe hq).trans (n_wa_gA_SBC)
  have g_gX : b_gX ug mm gB gA gX gY gS gC gR gM gL = _ := B_wa_gX ho hkn h4
  have g_gY : b_gY ug mm gB gA gX gY gC gR gM gL = _ := B_wa_gY ho hkn h4
  have g_gS : b_gS ug mm gB gX gS gC gR gM gL = _ := B_wa_gS ho hkn h4
  have g_gP : b_gP ug mm gB gA gX gY gS gP gC gR gM gL = _ := (B_wa_gP ho hkn h4 hwy pe hq).trans (n_wa_gP_SBC)
  have g_gC : b_gC ug mm gB gS gP gC gR gM gL = _ := (B_wa_gC ho hkn h4 hwy).trans (n_wa_gC_ORA)
  have g_gR : b_gR ug mm gB gA gX gY gP gC gR gM gL = _ := (B_wa_gR ho hkn h4 hwy pe hq).trans (n_wa_gR_SBC)
  have g_gM : b_gM ug mm gB gX gY gC gR gM gL = _ := (B_wa_gM ho hkn h4 hwy pe hq).trans (n_wa_gM_SBC)
  have g_gL : b_gL ug mm gB gX gY gC gR gM gL = _ := (B_wa_gL ho hkn h4 hwy pe hq).trans (n_wa_gL_SBC)
  have g_un : b_un ug mm gB gA gX gY gP gC gR gM gL = _ := (B_wa_un ho hkn h4 hwy pe hq).trans (n_wa_un_SBC)
  have g_ow : b_ow ug ud mm gB gA gX gY gP gC gR gM gL = _ := (B_wa_ow ho hkn h4 hwy pe hq).trans (n_wa_ow_SBC)
  rw [e_fa, e_fx, e_fy, e_fs, e_fp, e_fc, e_mem, e_ug, e_ud, e_lt, e_ct, e_hd, e_la, e_bt, g_gB, g_gA, g_gX, g_gY, g_gS, g_gP, g_gC, g_gR, g_gM, g_gL, g_un, g_ow]
  exact op_SBC hm hB hA hX hY hS hP pC pu pw hf hw
set_option maxRecDepth 100000 in
theorem as_ASLm (hm : s_m mm fo) (hB : rm mm gB mem om) (hA : ra mm gA fa oa) (hX : ra mm gX fx ox) (hY : ra mm gY fy oy) (hS : ra mm gS fs os) (hP : rp mm gP fp op) (hC : rc mm gC fc oc) (hu : ru ug lt ct hd la bt gR gM gL) (hf : ∃ j : Nat, j < 64 ∧ ug = nI j) (hw : wB ud) (hj : j < 256) (hop : f_X1_read_r mm fo mem ug lt ct hd la bt fc = nI j) (hc : clsF j = 9) : SR mm oa ox oy os op oc om (f_X1_instruction_fa mm fo fa fx fy fs fp fc mem ug lt ct hd la bt kindsF waysF) (f_X1_instruction_fx mm fo fa fx fy fs fc mem ug lt ct hd la bt kindsF waysF) (f_X1_instruction_fy mm fo fa fx fy fc mem ug lt ct hd la bt kindsF waysF) (f_X1_instruction_fs mm fo fx fs fc mem ug lt ct hd la bt kindsF) (f_X1_instruction_fp mm fo fa fx fy fs fp fc mem ug lt ct hd la bt kindsF waysF) (f_X1_instruction_fc mm fo fx fy fs fp fc mem ug lt ct hd la bt kindsF waysF) (f_X1_instruction_mem mm fo fa fx fy fs fp fc mem ug lt ct hd la bt kindsF waysF) (f_X1_instruction_ug mm fo fa fx fy fp fc mem ug lt ct hd la bt kindsF waysF) (f_X1_instruction_ud mm fo fa fx fy fp fc mem ug ud lt ct hd la bt kindsF waysF) (f_X1_instruction_lt mm fo fa fx fy fp fc mem ug lt ct hd la bt kindsF waysF) (f_X1_instruction_ct mm fo fx fy fc mem ug lt ct hd la bt kindsF waysF) (f_X1_instruction_hd mm fo fx fy fc mem ug lt ct hd la bt kindsF waysF) (f_X1_instruction_la mm fo fx fy fc mem ug lt ct hd la bt kindsF waysF) (f_X1_instruction_bt mm fo fa fx fy fp fc mem ug lt ct hd la bt kindsF waysF) (b_gB ug mm gB gA gX gY gS gP gC gR gM gL) (b_gA ug mm gB gA gX gY gS gP gC gR gM gL) (b_gX ug mm gB gA gX gY gS gC gR gM gL) (b_gY ug mm gB gA gX gY gC gR gM gL) (b_gS ug mm gB gX gS gC gR gM gL) (b_gP ug mm gB gA gX gY gS gP gC gR gM gL) (b_gC ug mm gB gS gP gC gR gM gL) (b_gR ug mm gB gA gX gY gP gC gR gM gL) (b_gM ug mm gB gX gY gC gR gM gL) (b_gL ug mm gB gX gY gC gR gM gL) (b_un ug mm gB gA gX gY gP gC gR gM gL) (b_ow ug ud mm gB gA gX gY gP gC gR gM gL) := by
  have fe := sr_fetch hm hB hf hu hC
  obtain ⟨fv, fb, fu, fC⟩ := fe
  obtain ⟨hkn, h4, h5, hq, hk⟩ := (show ∀ j : Nat, j < 256 → clsF j = 9 → ¬ f_X5_isKnown_r (nI j) = 0 ∧ ¬ nI j - nI j / 4 * 4 = 1 ∧ nI j - nI j / 4 * 4 = 2 ∧ nI j / 32 = 0 ∧ kindsF j = 48 by decide +kernel) j hj hc
  obtain ⟨hwy, hw10, hw0⟩ := (show ∀ j : Nat, j < 256 → clsF j = 9 → f_X5_way_r (nI j) = waysF j ∧ ¬ waysF j = 10 ∧ ¬ waysF j = 0 by decide +kernel) j hj hc
  have hway := s_wayb ((show ∀ j : Nat, j < 256 → clsF j = 9 → s_wb (waysF j) = true by decide +kernel) j hj hc)
  have ho : f_X5_fetch_r ug mm gB gC gR gM gL = nI j := fv.trans hop
  have hww : waysF j = waysF j := rfl
  obtain ⟨pe, pw, pu, pC⟩ := sr_place hway hm hB hf fu fC hX hY
  have hpl := s_wn pw
  have e_fa : f_X1_instruction_fa mm fo fa fx fy fs fp fc mem ug lt ct hd la bt kindsF waysF = _ := (Lw_fa hop hj hk hww).trans (n_i_fa_ASLm hpl)
  have e_fx : f_X1_instruction_fx mm fo fa fx fy fs fc mem ug lt ct hd la bt kindsF waysF = _ := (Lw_fx hop hj hk hww).trans (n_i_fx_ASLm)
  have e_fy : f_X1_instruction_fy mm fo fa fx fy fc mem ug lt ct hd la bt kindsF waysF = _ := (Lw_fy hop hj hk hww).trans (n_i_fy_ASLm)
  have e_fs : f_X1_instruction_fs mm fo fx fs fc mem ug lt ct hd la bt kindsF = _ := (Lw_fs hop hj hk).trans (n_i_fs_ASLm)
  have e_fp : f_X1_instruction_fp mm fo fa fx fy fs fp fc mem ug lt ct hd la bt kindsF waysF = _ := (Lw_fp hop hj hk hww).trans (n_i_fp_ASLm hpl)
  have e_fc : f_X1_instruction_fc mm fo fx fy fs fp fc mem ug lt ct hd la bt kindsF waysF = _ := (Lw_fc hop hj hk hww).trans (n_i_fc_ASLm)
  have e_mem : f_X1_instruction_mem mm fo fa fx fy fs fp fc mem ug lt ct hd la bt kindsF waysF = _ := (Lw_mem hop hj hk hww).trans (n_i_mem_ASLm hpl)
  have e_ug : f_X1_instruction_ug mm fo fa fx fy fp fc mem ug lt ct hd la bt kindsF waysF = _ := (Lw_ug hop hj hk hww).trans (n_i_ug_ASLm hpl)
  have e_ud : f_X1_instruction_ud mm fo fa fx fy fp fc mem ug ud lt ct hd la bt kindsF waysF = _ := (Lw_ud hop hj hk hww).trans (n_i_ud_ASLm hpl)
  have e_lt : f_X1_instruction_lt mm fo fa fx fy fp fc mem ug lt ct hd la bt kindsF waysF = _ := (Lw_lt hop hj hk hww).trans (n_i_lt_ASLm hpl)
  have e_ct : f_X1_instruction_ct mm fo fx fy fc mem ug lt ct hd la bt kindsF waysF = _ := (Lw_ct hop hj hk hww).trans (n_i_ct_ASLm hpl)
  have e_hd : f_X1_instruction_hd mm fo fx fy fc mem ug lt ct hd la bt kindsF waysF = _ := (Lw_hd hop hj hk hww).trans (n_i_hd_ASLm hpl)
  have e_la : f_X1_instruction_la mm fo fx fy fc mem ug lt ct hd la bt kindsF waysF = _ := (Lw_la hop hj hk hww).trans (n_i_la_ASLm hpl)
  have e_bt : f_X1_instruction_bt mm fo fa fx fy fp fc mem ug lt ct hd la bt kindsF waysF = _ := (Lw_bt hop hj hk hww).trans (n_i_bt_ASLm hpl)
  have g_gB : b_gB ug mm gB gA gX gY gS gP gC gR gM gL = _ := (B_ch_gB ho hkn h4 h5 hwy pe hq).trans (n_ch_gB_ASLm hw10 hw0)
  have g_gA : b_gA ug mm gB gA gX gY gS gP gC gR gM gL = _ := (B_ch_gA ho hkn h4 h5 hwy hq).trans (n_ch_gA_ASLm hw10 hw0)
  have g_gX : b_gX ug mm gB gA gX gY gS gC gR gM gL = _ := (B_ch_gX ho hkn h4 h5 hwy pe hq).trans (n_ch_gX_ASLm hw10 hw0)
  have g_gY : b_gY ug mm gB gA gX gY gC gR gM gL = _ := (B_ch_gY ho hkn h4 h5 hwy).trans (n_ch_gY_ASLm hw10 hw0)
  have g_gS : b_gS ug mm gB gX gS gC gR gM gL = _ := (B_ch_gS ho hkn h4 h5 hwy).trans (n_ch_gS_ASLm hw10 hw0)
  have g_gP : b_gP ug mm gB gA gX gY gS gP gC gR gM gL = _ := (B_ch_gP ho hkn h4 h5 hwy pe hq).trans (n_ch_gP_ASLm hw10 hw0)
  have g_gC : b_gC ug mm gB gS gP gC gR gM gL = _ := (B_ch_gC ho hkn h4 h5 hwy).trans (n_ch_gC_ASLm hw10 hw0)
  have g_gR : b_gR ug mm gB gA gX gY gP gC gR gM gL = _ := (B_ch_gR ho hkn h4 h5 hwy pe hq).trans (n_ch_gR_ASLm hw10 hw0)
  have g_gM : b_gM ug mm gB gX gY gC gR gM gL = _ := (B_ch_gM ho hkn h4 h5 hwy pe hq).trans (n_ch_gM_ASLm hw10 hw0)
  have g_gL : b_gL ug mm gB gX gY gC gR gM gL = _ := (B_ch_gL ho hkn h4 h5 hwy pe hq).trans (n_ch_gL_ASLm hw10 hw0)
  have g_un : b_un ug mm gB gA gX gY gP gC gR gM gL = _ := (B_ch_un ho hkn h4 h5 hwy pe hq).trans (n_ch_un_ASLm hw10 hw0)
  have g_ow : b_ow ug ud mm gB gA gX gY gP gC gR gM gL = _ := (B_ch_ow ho hkn h4 h5 hwy pe hq).trans (n_ch_ow_ASLm hw10 hw0)
  rw [e_fa, e_fx, e_fy, e_fs, e_fp, e_fc, e_mem, e_ug, e_ud, e_lt, e_ct, e_hd, e_la, e_bt, g_gB, g_gA, g_gX, g_gY, g_gS, g_gP, g_gC, g_gR, g_gM, g_gL, g_un, g_ow]
  exact op_ASLm hm hB hA hX hY hS hP pC pu pw hf hw
set_option maxRecDepth 100000 in
theorem as_ROLm (hm : s_m mm fo) (hB : rm mm gB mem om) (hA : ra mm gA fa oa) (hX : ra mm gX fx ox) (hY : ra mm gY fy oy) (hS : ra mm gS fs os) (hP : rp mm gP fp op) (hC : rc mm gC fc oc) (hu : ru ug lt ct hd la bt gR gM gL) (hf : ∃ j : Nat, j < 64 ∧ ug = nI j) (hw : wB ud) (hj : j < 256) (hop : f_X1_read_r mm fo mem ug lt ct hd la bt fc = nI j) (hc : clsF j = 10) : SR mm oa ox oy os op oc om (f_X1_instruction_fa mm fo fa fx fy fs fp fc mem ug lt ct hd la bt kindsF waysF) (f_X1_instruction_fx mm fo fa fx fy fs fc mem ug lt ct hd la bt kindsF waysF) (f_X1_instruction_fy mm fo fa fx fy fc mem ug lt ct hd la bt kindsF waysF) (f_X1_instruction_fs mm fo fx fs fc mem ug lt ct hd la bt kindsF) (f_X1_instruction_fp mm fo fa fx fy fs fp fc mem ug lt ct hd la bt kindsF waysF) (f_X1_instruction_fc mm fo fx fy fs fp fc mem ug lt ct hd la bt kindsF waysF) (f_X1_instruction_mem mm fo fa fx fy fs fp fc mem ug lt ct hd la bt kindsF waysF) (f_X1_instruction_ug mm fo fa fx fy fp fc mem ug lt ct hd la bt kindsF waysF) (f_X1_instruction_ud mm fo fa fx fy fp fc mem ug ud lt ct hd la bt kindsF waysF) (f_X1_instruction_lt mm fo fa fx fy fp fc mem ug lt ct hd la bt kindsF waysF) (f_X1_instruction_ct mm fo fx fy fc mem ug lt ct hd la bt kindsF waysF) (f_X1_instruction_hd mm fo fx fy fc mem ug lt ct hd la bt kindsF waysF) (f_X1_instruction_la mm fo fx fy fc mem ug lt ct hd la bt kindsF waysF) (f_X1_instruction_bt mm fo fa fx fy fp fc mem ug lt ct hd la bt kindsF waysF) (b_gB ug mm gB gA gX gY gS gP gC gR gM gL) (b_gA ug mm gB gA gX gY gS gP gC gR gM gL) (b_gX ug mm gB gA gX gY gS gC gR gM gL) (b_gY ug mm gB gA gX gY gC gR gM gL) (b_gS ug mm gB gX gS gC gR gM gL) (b_gP ug mm gB gA gX gY gS gP gC gR gM gL) (b_gC ug mm gB gS gP gC gR gM gL) (b_gR ug mm gB gA gX gY gP gC gR gM gL) (b_gM ug mm gB gX gY gC gR gM gL) (b_gL ug mm gB gX gY gC gR gM gL) (b_un ug mm gB gA gX gY gP gC gR gM gL) (b_ow ug ud mm gB gA gX gY gP gC gR gM gL) := by
  have fe := sr_fetch hm hB hf hu hC
  obtain ⟨fv, fb, fu, fC⟩ := fe
  obtain ⟨hkn, h4, h5, hq, hk⟩ := (show ∀ j : Nat, j < 256 → clsF j = 10 → ¬ f_X5_isKnown_r (nI j) = 0 ∧ ¬ nI j - nI j / 4 * 4 = 1 ∧ nI j - nI j / 4 * 4 = 2 ∧ nI j / 32 = 1 ∧ kindsF j = 49 by decide +kernel) j hj hc
  obtain ⟨hwy, hw10, hw0⟩ := (show ∀ j : Nat, j < 256 → clsF j = 10 → f_X5_way_r (nI j) = waysF j ∧ ¬ waysF j = 10 ∧ ¬ waysF j = 0 by decide +kernel) j hj hc
  have hway := s_wayb ((show ∀ j : Nat, j < 256 → clsF j = 10 → s_wb (waysF j) = true by decide +kernel) j hj hc)
  have ho : f_X5_fetch_r ug mm gB gC gR gM gL = nI j := fv.trans hop
  have hww : waysF j = waysF j := rfl
  obtain ⟨pe, pw, pu, pC⟩ := sr_place hway hm hB hf fu fC hX hY
  have hpl := s_wn pw
  have e_fa : f_X1_instruction_fa mm fo fa fx fy fs fp fc mem ug lt ct hd la bt kindsF waysF = _ := (Lw_fa hop hj hk hww).trans (n_i_fa_ROLm hpl)
  have e_fx : f_X1_instruction_fx mm fo fa fx fy fs fc mem ug lt ct hd la bt kindsF waysF = _ := (Lw_fx hop hj hk hww).trans (n_i_fx_ROLm)
  have e_fy : f_X1_instruction_fy mm fo fa fx fy fc mem ug lt ct hd la bt kindsF waysF = _ := (Lw_fy hop hj hk hww).trans (n_i_fy_ROLm)
  have e_fs : f_X1_instruction_fs mm fo fx fs fc mem ug lt ct hd la bt kindsF = _ := (Lw_fs hop hj hk).trans (n_i_fs_ROLm)
  have e_fp : f_X1_instruction_fp mm fo fa fx fy fs fp fc mem ug lt ct hd la bt kindsF waysF = _ := (Lw_fp hop hj hk hww).trans (n_i_fp_ROLm hpl)
  have e_fc : f_X1_instruction_fc mm fo fx fy fs fp fc mem ug lt ct hd la bt kindsF waysF = _ := (Lw_fc hop hj hk hww).trans (n_i_fc_ROLm)
  have e_mem : f_X1_instruction_mem mm fo fa fx fy fs fp fc mem ug lt ct hd la bt kindsF waysF = _ := (Lw_mem hop hj hk hww).trans (n_i_mem_ROLm hpl)
  have e_ug : f_X1_instruction_ug mm fo fa fx fy fp fc mem ug lt ct hd la bt kindsF waysF = _ := (Lw_ug hop hj hk hww).trans (n_i_ug_ROLm hpl)
  have e_ud : f_X1_instruction_ud mm fo fa fx fy fp fc mem ug ud lt ct hd la bt kindsF waysF = _ := (Lw_ud hop hj hk hww).trans (n_i_ud_ROLm hpl)
  have e_lt : f_X1_instruction_lt mm fo fa fx fy fp fc mem ug lt ct hd la bt kindsF waysF = _ := (Lw_lt hop hj hk hww).trans (n_i_lt_ROLm hpl)
  have e_ct : f_X1_instruction_ct mm fo fx fy fc mem ug lt ct hd la bt kindsF waysF = _ := (Lw_ct hop hj hk hww).trans (n_i_ct_ROLm hpl)
  have e_hd : f_X1_instruction_hd mm fo fx fy fc mem ug lt ct hd la bt kindsF waysF = _ := (Lw_hd hop hj hk hww).trans (n_i_hd_ROLm hpl)
  have e_la : f_X1_instruction_la mm fo fx fy fc mem ug lt ct hd la bt kindsF waysF = _ := (Lw_la hop hj hk hww).trans (n_i_la_ROLm hpl)
  have e_bt : f_X1_instruction_bt mm fo fa fx fy fp fc mem ug lt ct hd la bt kindsF waysF = _ := (Lw_bt hop hj hk hww).trans (n_i_bt_ROLm hpl)
  have g_gB : b_gB ug mm gB gA gX gY gS gP gC gR gM gL = _ := (B_ch_gB ho hkn h4 h5 hwy pe hq).trans (n_ch_gB_ROLm hw10 hw0)
  have g_gA : b_gA ug mm gB gA gX gY gS gP gC gR gM gL = _ := (B_ch_gA ho hkn h4 h5 hwy hq).trans (n_ch_gA_ROLm hw10 hw0)
  have g_gX : b_gX ug mm gB gA gX gY gS gC gR gM gL = _ := (B_ch_gX ho hkn h4 h5 hwy pe hq).trans (n_ch_gX_ROLm hw10 hw0)
  have g_gY : b_gY ug mm gB gA gX gY gC gR gM gL = _ := (B_ch_gY ho hkn h4 h5 hwy).trans (n_ch_gY_ASLm hw10 hw0)
  have g_gS : b_gS ug mm gB gX gS gC gR gM gL = _ := (B_ch_gS ho hkn h4 h5 hwy).trans (n_ch_gS_ASLm hw10 hw0)
  have g_gP : b_gP ug mm gB gA gX gY gS gP gC gR gM gL = _ := (B_ch_gP ho hkn h4 h5 hwy pe hq).trans (n_ch_gP_ROLm hw10 hw0)
  have g_gC : b_gC ug mm gB gS gP gC gR gM gL = _ := (B_ch_gC ho hkn h4 h5 hwy).trans (n_ch_gC_ASLm hw10 hw0)
  have g_gR : b_gR ug mm gB gA gX gY gP gC gR gM gL = _ := (B_ch_gR ho hkn h4 h5 hwy pe hq).trans (n_ch_gR_ROLm hw10 hw0)
  have g_gM : b_gM ug mm gB gX gY gC gR gM gL = _ := (B_ch_gM ho hkn h4 h5 hwy pe hq).trans (n_ch_gM_ROLm hw10 hw0)
  have g_gL : b_gL ug mm gB gX gY gC gR gM gL = _ := (B_ch_gL ho hkn h4 h5 hwy pe hq).trans (n_ch_gL_ROLm hw10 hw0)
  have g_un : b_un ug mm gB gA gX gY gP gC gR gM gL = _ := (B_ch_un ho hkn h4 h5 hwy pe hq).trans (n_ch_un_ROLm hw10 hw0)
  have g_ow : b_ow ug ud mm gB gA gX gY gP gC gR gM gL = _ := (B_ch_ow ho hkn h4 h5 hwy pe hq).trans (n_ch_ow_ROLm hw10 hw0)
  rw [e_fa, e_fx, e_fy, e_fs, e_fp, e_fc, e_mem, e_ug, e_ud, e_lt, e_ct, e_hd, e_la, e_bt, g_gB, g_gA, g_gX, g_gY, g_gS, g_gP, g_gC, g_gR, g_gM, g_gL, g_un, g_ow]
  exact op_ROLm hm hB hA hX hY hS hP pC pu pw hf hw
set_option maxRecDepth 100000 in
theorem as_LSRm (hm : s_m mm fo) (hB : rm mm gB mem om) (hA : ra mm gA fa oa) (hX : ra mm gX fx ox) (hY : ra mm gY fy oy) (hS : ra mm gS fs os) (hP : rp mm gP fp op) (hC : rc mm gC fc oc) (hu : ru ug lt ct hd la bt gR gM gL) (hf : ∃ j : Nat, j < 64 ∧ ug = nI j) (hw : wB ud) (hj : j < 256) (hop : f_X1_read_r mm fo mem ug lt ct hd la bt fc = nI j) (hc : clsF j = 11) : SR mm oa ox oy os op oc om (f_X1_instruction_fa mm fo fa fx fy fs fp fc mem ug lt ct hd la bt kindsF waysF) (f_X1_instruction_fx mm fo fa fx fy fs fc mem ug lt ct hd la bt kindsF waysF) (f_X1_instruction_fy mm fo fa fx fy fc mem ug lt ct hd la bt kindsF waysF) (f_X1_instruction_fs mm fo fx fs fc mem ug lt ct hd la bt kindsF) (f_X1_instruction_fp mm fo fa fx fy fs fp fc mem ug lt ct hd la bt kindsF waysF) (f_X1_instruction_fc mm fo fx fy fs fp fc mem ug lt ct hd la bt kindsF waysF) (f_X1_instruction_mem mm fo fa fx fy fs fp fc mem ug lt ct hd la bt kindsF waysF) (f_X1_instruction_ug mm fo fa fx fy fp fc mem ug lt ct hd la bt kindsF waysF) (f_X1_instruction_ud mm fo fa fx fy fp fc mem ug ud lt ct hd la bt kindsF waysF) (f_X1_instruction_lt mm fo fa fx fy fp fc mem ug lt ct hd la bt kindsF waysF) (f_X1_instruction_ct mm fo fx fy fc mem ug lt ct hd la bt kindsF waysF) (f_X1_instruction_hd mm fo fx fy fc mem ug lt ct hd la bt kindsF waysF) (f_X1_instruction_la mm fo fx fy fc mem ug lt ct hd la bt kindsF waysF) (f_X1_instruction_bt mm fo fa fx fy fp fc mem ug lt ct hd la bt kindsF waysF) (b_gB ug mm gB gA gX gY gS gP gC gR gM gL) (b_gA ug mm gB gA gX gY gS gP gC gR gM gL) (b_gX ug mm gB gA gX gY gS gC gR gM gL) (b_gY ug mm gB gA gX gY gC gR gM gL) (b_gS ug mm gB gX gS gC gR gM gL) (b_gP ug mm gB gA gX gY gS gP gC gR gM gL) (b_gC ug mm gB gS gP gC gR gM gL) (b_gR ug mm gB gA gX gY gP gC gR gM gL) (b_gM ug mm gB gX gY gC gR gM gL) (b_gL ug mm gB gX gY gC gR gM gL) (b_un ug mm gB gA gX gY gP gC gR gM gL) (b_ow ug ud mm gB gA gX gY gP gC gR gM gL) := by
  have fe := sr_fetch hm hB hf hu hC
  obtain ⟨fv, fb, fu, fC⟩ := fe
  obtain ⟨hkn, h4, h5, hq, hk⟩ := (show ∀ j : Nat, j < 256 → clsF j = 11 → ¬ f_X5_isKnown_r (nI j) = 0 ∧ ¬ nI j - nI j / 4 * 4 = 1 ∧ nI j - nI j / 4 * 4 = 2 ∧ nI j / 32 = 2 ∧ kindsF j = 50 by decide +kernel) j hj hc
  obtain ⟨hwy, hw10, hw0⟩ := (show ∀ j : Nat, j < 256 → clsF j = 11 → f_X5_way_r (nI j) = waysF j ∧ ¬ waysF j = 10 ∧ ¬ waysF j = 0 by decide +kernel) j hj hc
  have hway := s_wayb ((show ∀ j : Nat, j < 256 → clsF j = 11 → s_wb (waysF j) = true by decide +kernel) j hj hc)
  have ho : f_X5_fetch_r ug mm gB gC gR gM gL = nI j := fv.trans hop
  have hww : waysF j = waysF j := rfl
  obtain ⟨pe, pw, pu, pC⟩ := sr_place hway hm hB hf fu fC hX hY
  have hpl := s_wn pw
  have e_fa : f_X1_instruction_fa mm fo fa fx fy fs fp fc mem ug lt ct hd la bt kindsF waysF = _ := (Lw_fa hop hj hk hww).trans (n_i_fa_LSRm hpl)
  have e_fx : f_X1_instruction_fx mm fo fa fx fy fs fc mem ug lt ct hd la bt kindsF waysF = _ := (Lw_fx hop hj hk hww).trans (n_i_fx_LSRm)
  have e_fy : f_X1_instruction_fy mm fo fa fx fy fc mem ug lt ct hd la bt kindsF waysF = _ := (Lw_fy hop hj hk hww).trans (n_i_fy_LSRm)
  have e_fs : f_X1_instruction_fs mm fo fx fs fc mem ug lt ct hd la bt kindsF = _ := (Lw_fs hop hj hk).trans (n_i_fs_LSRm)
  have e_fp : f_X1_instruction_fp mm fo fa fx fy fs fp fc mem ug lt ct hd la bt kindsF waysF = _ := (Lw_fp hop hj hk hww).trans (n_i_fp_LSRm hpl)
  have e_fc : f_X1_instruction_fc mm fo fx fy fs fp fc mem ug lt ct hd la bt kindsF waysF = _ := (Lw_fc hop hj hk hww).trans (n_i_fc_LSRm)
  have e_mem : f_X1_instruction_mem mm fo fa fx fy fs fp fc mem ug lt ct hd la bt kindsF waysF = _ := (Lw_mem hop hj hk hww).trans (n_i_mem_LSRm hpl)
  have e_ug : f_X1_instruction_ug mm fo fa fx fy fp fc mem ug lt ct hd la bt kindsF waysF = _ := (Lw_ug hop hj hk hww).trans (n_i_ug_LSRm hpl)
  have e_ud : f_X1_instruction_ud mm fo fa fx fy fp fc mem ug ud lt ct hd la bt kindsF waysF = _ := (Lw_ud hop hj hk hww).trans (n_i_ud_LSRm hpl)
  have e_lt : f_X1_instruction_lt mm fo fa fx fy fp fc mem ug lt ct hd la bt kindsF waysF = _ := (Lw_lt hop hj hk hww).trans (n_i_lt_LSRm hpl)
  have e_ct : f_X1_instruction_ct mm fo fx fy fc mem ug lt ct hd la bt kindsF waysF = _ := (Lw_ct hop hj hk hww).trans (n_i_ct_LSRm hpl)
  have e_hd : f_X1_instruction_hd mm fo fx fy fc mem ug lt ct hd la bt kindsF waysF = _ := (Lw_hd hop hj hk hww).trans (n_i_hd_LSRm hpl)
  have e_la : f_X1_instruction_la mm fo fx fy fc mem ug lt ct hd la bt kindsF waysF = _ := (Lw_la hop hj hk hww).trans (n_i_la_LSRm hpl)
  have e_bt : f_X1_instruction_bt mm fo fa fx fy fp fc mem ug lt ct hd la bt kindsF waysF = _ := (Lw_bt hop hj hk hww).trans (n_i_bt_LSRm hpl)
  have g_gB : b_gB ug mm gB gA gX gY gS gP gC gR gM gL = _ := (B_ch_gB ho hkn h4 h5 hwy pe hq).trans (n_ch_gB_LSRm hw10 hw0)
  have g_gA : b_gA ug mm gB gA gX gY gS gP gC gR gM gL = _ := (B_ch_gA ho hkn h4 h5 hwy hq).trans (n_ch_gA_LSRm hw10 hw0)
  have g_gX : b_gX ug mm gB gA gX gY gS gC gR gM gL = _ := (B_ch_gX ho hkn h4 h5 hwy pe hq).trans (n_ch_gX_LSRm hw10 hw0)
  have g_gY : b_gY ug mm gB gA gX gY gC gR gM gL = _ := (B_ch_gY ho hkn h4 h5 hwy).trans (n_ch_gY_ASLm hw10 hw0)
  have g_gS : b_gS ug mm gB gX gS gC gR gM gL = _ := (B_ch_gS ho hkn h4 h5 hwy).trans (n_ch_gS_ASLm hw10 hw0)
  have g_gP : b_gP ug mm gB gA gX gY gS gP gC gR gM gL = _ := (B_ch_gP ho hkn h4 h5 hwy pe hq).trans (n_ch_gP_LSRm hw10 hw0)
  have g_gC : b_gC ug mm gB gS gP gC gR gM gL = _ := (B_ch_gC ho hkn h4 h5 hwy).trans (n_ch_gC_ASLm hw10 hw0)
  have g_gR : b_gR ug mm gB gA gX gY gP gC gR gM gL = _ := (B_ch_gR ho hkn h4 h5 hwy pe hq).trans (n_ch_gR_LSRm hw10 hw0)
  have g_gM : b_gM ug mm gB gX gY gC gR gM gL = _ := (B_ch_gM ho hkn h4 h5 hwy pe hq).trans (n_ch_gM_LSRm hw10 hw0)
  have g_gL : b_gL ug mm gB gX gY gC gR gM gL = _ := (B_ch_gL ho hkn h4 h5 hwy pe hq).trans (n_ch_gL_LSRm hw10 hw0)
  have g_un : b_un ug mm gB gA gX gY gP gC gR gM gL = _ := (B_ch_un ho hkn h4 h5 hwy pe hq).trans (n_ch_un_LSRm hw10 hw0)
  have g_ow : b_ow ug ud mm gB gA gX gY gP gC gR gM gL = _ := (B_ch_ow ho hkn h4 h5 hwy pe hq).trans (n_ch_ow_LSRm hw10 hw0)
  rw [e_fa, e_fx, e_fy, e_fs, e_fp, e_fc, e_mem, e_ug, e_ud, e_lt, e_ct, e_hd, e_la, e_bt, g_gB, g_gA, g_gX, g_gY, g_gS, g_gP, g_gC, g_gR, g_gM, g_gL, g_un, g_ow]
  exact op_LSRm hm hB hA hX hY hS hP pC pu pw hf hw
set_option maxRecDepth 100000 in
theorem as_RORm (hm : s_m mm fo) (hB : rm mm gB mem om) (hA : ra mm gA fa oa) (hX : ra mm gX fx ox) (hY : ra mm gY fy oy) (hS : ra mm gS fs os) (hP : rp mm gP fp op) (hC : rc mm gC fc oc) (hu : ru ug lt ct hd la bt gR gM gL) (hf : ∃ j : Nat, j < 64 ∧ ug = nI j) (hw : wB ud) (hj : j < 256) (hop : f_X1_read_r mm fo mem ug lt ct hd la bt fc = nI j) (hc : clsF j = 12) : SR mm oa ox oy os op oc om (f_X1_instruction_fa mm fo fa fx fy fs fp fc mem ug lt ct hd la bt kindsF waysF) (f_X1_instruction_fx mm fo fa fx fy fs fc mem ug lt ct hd la bt kindsF waysF) (f_X1_instruction_fy mm fo fa fx fy fc mem ug lt ct hd la bt kindsF waysF) (f_X1_instruction_fs mm fo fx fs fc mem ug lt ct hd la bt kindsF) (f_X1_instruction_fp mm fo fa fx fy fs fp fc mem ug lt ct hd la bt kindsF waysF) (f_X1_instruction_fc mm fo fx fy fs fp fc mem ug lt ct hd la bt kindsF waysF) (f_X1_instruction_mem mm fo fa fx fy fs fp fc mem ug lt ct hd la bt kindsF waysF) (f_X1_instruction_ug mm fo fa fx fy fp fc mem ug lt ct hd la bt kindsF waysF) (f_X1_instruction_ud mm fo fa fx fy fp fc mem ug ud lt ct hd la bt kindsF waysF) (f_X1_instruction_lt mm fo fa fx fy fp fc mem ug lt ct hd la bt kindsF waysF) (f_X1_instruction_ct mm fo fx fy fc mem ug lt ct hd la bt kindsF waysF) (f_X1_instruction_hd mm fo fx fy fc mem ug lt ct hd la bt kindsF waysF) (f_X1_instruction_la mm fo fx fy fc mem ug lt ct hd la bt kindsF waysF) (f_X1_instruction_bt mm fo fa fx fy fp fc mem ug lt ct hd la bt kindsF waysF) (b_gB ug mm gB gA gX gY gS gP gC gR gM gL) (b_gA ug mm gB gA gX gY gS gP gC gR gM gL) (b_gX ug mm gB gA gX gY gS gC gR gM gL) (b_gY ug mm gB gA gX gY gC gR gM gL) (b_gS ug mm gB gX gS gC gR gM gL) (b_gP ug mm gB gA gX gY gS gP gC gR gM gL) (b_gC ug mm gB gS gP gC gR gM gL) (b_gR ug mm gB gA gX gY gP gC gR gM gL) (b_gM ug mm gB gX gY gC gR gM gL) (b_gL ug mm gB gX gY gC gR gM gL) (b_un ug mm gB gA gX gY gP gC gR gM gL) (b_ow ug ud mm gB gA gX gY gP gC gR gM gL) := by
  have fe := sr_fetch hm hB hf hu hC
  obtain ⟨fv, fb, fu, fC⟩ := fe
  obtain ⟨hkn, h4, h5, hq, hk⟩ := (show ∀ j : Nat, j < 256 → clsF j = 12 → ¬ f_X5_isKnown_r (nI j) = 0 ∧ ¬ nI j - nI j / 4 * 4 = 1 ∧ nI j - nI j / 4 * 4 = 2 ∧ nI j / 32 = 3 ∧ kindsF j = 51 by decide +kernel) j hj hc
  obtain ⟨hwy, hw10, hw0⟩ := (show ∀ j : Nat, j < 256 → clsF j = 12 → f_X5_way_r (nI j) = waysF j ∧ ¬ waysF j = 10 ∧ ¬ waysF j = 0 by decide +kernel) j hj hc
  have hway := s_wayb ((show ∀ j : Nat, j < 256 → clsF j = 12 → s_wb (waysF j) = true by decide +kernel) j hj hc)
  have ho : f_X5_fetch_r ug mm gB gC gR gM gL = nI j := fv.trans hop
  have hww : waysF j = waysF j := rfl
  obtain ⟨pe, pw, pu, pC⟩ := sr_place hway hm hB hf fu fC hX hY
  have hpl := s_wn pw
  have e_fa : f_X1_instruction_fa mm fo fa fx fy fs fp fc mem ug lt ct hd la bt kindsF waysF = _ := (Lw_fa hop hj hk hww).trans (n_i_fa_RORm hpl)
  have e_fx : f_X1_instruction_fx mm fo fa fx fy fs fc mem ug lt ct hd la bt kindsF waysF = _ := (Lw_fx hop hj hk hww).trans (n_i_fx_RORm)
  have e_fy : f_X1_instruction_fy mm fo fa fx fy fc mem ug lt ct hd la bt kindsF waysF = _ := (Lw_fy hop hj hk hww).trans (n_i_fy_RORm)
  have e_fs : f_X1_instruction_fs mm fo fx fs fc mem ug lt ct hd la bt kindsF = _ := (Lw_fs hop hj hk).trans (n_i_fs_RORm)
  have e_fp : f_X1_instruction_fp mm fo fa fx fy fs fp fc mem ug lt ct hd la bt kindsF waysF = _ := (Lw_fp hop hj hk hww).trans (n_i_fp_RORm hpl)
  have e_fc : f_X1_instruction_fc mm fo fx fy fs fp fc mem ug lt ct hd la bt kindsF waysF = _ := (Lw_fc hop hj hk hww).trans (n_i_fc_RORm)
  have e_mem : f_X1_instruction_mem mm fo fa fx fy fs fp fc mem ug lt ct hd la bt kindsF waysF = _ := (Lw_mem hop hj hk hww).trans (n_i_mem_RORm hpl)
  have e_ug : f_X1_instruction_ug mm fo fa fx fy fp fc mem ug lt ct hd la bt kindsF waysF = _ := (Lw_ug hop hj hk hww).trans (n_i_ug_RORm hpl)
  have e_ud : f_X1_instruction_ud mm fo fa fx fy fp fc mem ug ud lt ct hd la bt kindsF waysF = _ := (Lw_ud hop hj hk hww).trans (n_i_ud_RORm hpl)
  have e_lt : f_X1_instruction_lt mm fo fa fx fy fp fc mem ug lt ct hd la bt kindsF waysF = _ := (Lw_lt hop hj hk hww).trans (n_i_lt_RORm hpl)
  have e_ct : f_X1_instruction_ct mm fo fx fy fc mem ug lt ct hd la bt kindsF waysF = _ := (Lw_ct hop hj hk hww).trans (n_i_ct_RORm hpl)
  have e_hd : f_X1_instruction_hd mm fo fx fy fc mem ug lt ct hd la bt kindsF waysF = _ := (Lw_hd hop hj hk hww).trans (n_i_hd_RORm hpl)
  have e_la : f_X1_instruction_la mm fo fx fy fc mem ug lt ct hd la bt kindsF waysF = _ := (Lw_la hop hj hk hww).trans (n_i_la_RORm hpl)
  have e_bt : f_X1_instruction_bt mm fo fa fx fy fp fc mem ug lt ct hd la bt kindsF waysF = _ := (Lw_bt hop hj hk hww).trans (n_i_bt_RORm hpl)
  have g_gB : b_gB ug mm gB gA gX gY gS gP gC gR gM gL = _ := (B_ch_gB ho hkn h4 h5 hwy pe hq).trans (n_ch_gB_RORm hw10 hw0)
  have g_gA : b_gA ug mm gB gA gX gY gS gP gC gR gM gL = _ := (B_ch_gA ho hkn h4 h5 hwy hq).trans (n_ch_gA_RORm hw10 hw0)
  have g_gX : b_gX ug mm gB gA gX gY gS gC gR gM gL = _ := (B_ch_gX ho hkn h4 h5 hwy pe hq).trans (n_ch_gX_RORm hw10 hw0)
  have g_gY : b_gY ug mm gB gA gX gY gC gR gM gL = _ := (B_ch_gY ho hkn h4 h5 hwy).trans (n_ch_gY_ASLm hw10 hw0)
  have g_gS : b_gS ug mm gB gX gS gC gR gM gL = _ := (B_ch_gS ho hkn h4 h5 hwy).trans (n_ch_gS_ASLm hw10 hw0)
  have g_gP : b_gP ug mm gB gA gX gY gS gP gC gR gM gL = _ := (B_ch_gP ho hkn h4 h5 hwy pe hq).trans (n_ch_gP_RORm hw10 hw0)
  have g_gC : b_gC ug mm gB gS gP gC gR gM gL = _ := (B_ch_gC ho hkn h4 h5 hwy).trans (n_ch_gC_ASLm hw10 hw0)
  have g_gR : b_gR ug mm gB gA gX gY gP gC gR gM gL = _ := (B_ch_gR ho hkn h4 h5 hwy pe hq).trans (n_ch_gR_RORm hw10 hw0)
  have g_gM : b_gM ug mm gB gX gY gC gR gM gL = _ := (B_ch_gM ho hkn h4 h5 hwy pe hq).trans (n_ch_gM_RORm hw10 hw0)
  have g_gL : b_gL ug mm gB gX gY gC gR gM gL = _ := (B_ch_gL ho hkn h4 h5 hwy pe hq).trans (n_ch_gL_RORm hw10 hw0)
  have g_un : b_un ug mm gB gA gX gY gP gC gR gM gL = _ := (B_ch_un ho hkn h4 h5 hwy pe hq).trans (n_ch_un_RORm hw10 hw0)
  have g_ow : b_ow ug ud mm gB gA gX gY gP gC gR gM gL = _ := (B_ch_ow ho hkn h4 h5 hwy pe hq).trans (n_ch_ow_RORm hw10 hw0)
  rw [e_fa, e_fx, e_fy, e_fs, e_fp, e_fc, e_mem, e_ug, e_ud, e_lt, e_ct, e_hd, e_la, e_bt, g_gB, g_gA, g_gX, g_gY, g_gS, g_gP, g_gC, g_gR, g_gM, g_gL, g_un, g_ow]
  exact op_RORm hm hB hA hX hY hS hP pC pu pw hf hw
set_option maxRecDepth 100000 in
theorem as_STXm (hm : s_m mm fo) (hB : rm mm gB mem om) (hA : ra mm gA fa oa) (hX : ra mm gX fx ox) (hY : ra mm gY fy oy) (hS : ra mm gS fs os) (hP : rp mm gP fp op) (hC : rc mm gC fc oc) (hu : ru ug lt ct hd la bt gR gM gL) (hf : ∃ j : Nat, j < 64 ∧ ug = nI j) (hw : wB ud) (hj : j < 256) (hop : f_X1_read_r mm fo mem ug lt ct hd la bt fc = nI j) (hc : clsF j = 13) : SR mm oa ox oy os op oc om (f_X1_instruction_fa mm fo fa fx fy fs fp fc mem ug lt ct hd la bt kindsF waysF) (f_X1_instruction_fx mm fo fa fx fy fs fc mem ug lt ct hd la bt kindsF waysF) (f_X1_instruction_fy mm fo fa fx fy fc mem ug lt ct hd la bt kindsF waysF) (f_X1_instruction_fs mm fo fx fs fc mem ug lt ct hd la bt kindsF) (f_X1_instruction_fp mm fo fa fx fy fs fp fc mem ug lt ct hd la bt kindsF waysF) (f_X1_instruction_fc mm fo fx fy fs fp fc mem ug lt ct hd la bt kindsF waysF) (f_X1_instruction_mem mm fo fa fx fy fs fp fc mem ug lt ct hd la bt kindsF waysF) (f_X1_instruction_ug mm fo fa fx fy fp fc mem ug lt ct hd la bt kindsF waysF) (f_X1_instruction_ud mm fo fa fx fy fp fc mem ug ud lt ct hd la bt kindsF waysF) (f_X1_instruction_lt mm fo fa fx fy fp fc mem ug lt ct hd la bt kindsF waysF) (f_X1_instruction_ct mm fo fx fy fc mem ug lt ct hd la bt kindsF waysF) (f_X1_instruction_hd mm fo fx fy fc mem ug lt ct hd la bt kindsF waysF) (f_X1_instruction_la mm fo fx fy fc mem ug lt ct hd la bt kindsF waysF) (f_X1_instruction_bt mm fo fa fx fy fp fc mem ug lt ct hd la bt kindsF waysF) (b_gB ug mm gB gA gX gY gS gP gC gR gM gL) (b_gA ug mm gB gA gX gY gS gP gC gR gM gL) (b_gX ug mm gB gA gX gY gS gC gR gM gL) (b_gY ug mm gB gA gX gY gC gR gM gL) (b_gS ug mm gB gX gS gC gR gM gL) (b_gP ug mm gB gA gX gY gS gP gC gR gM gL) (b_gC ug mm gB gS gP gC gR gM gL) (b_gR ug mm gB gA gX gY gP gC gR gM gL) (b_gM ug mm gB gX gY gC gR gM gL) (b_gL ug mm gB gX gY gC gR gM gL) (b_un ug mm gB gA gX gY gP gC gR gM gL) (b_ow ug ud mm gB gA gX gY gP gC gR gM gL) := by
  have fe := sr_fetch hm hB hf hu hC
  obtain ⟨fv, fb, fu, fC⟩ := fe
  obtain ⟨hkn, h4, h5, hq, hk⟩ := (show ∀ j : Nat, j < 256 → clsF j = 13 → ¬ f_X5_isKnown_r (nI j) = 0 ∧ ¬ nI j - nI j / 4 * 4 = 1 ∧ nI j - nI j / 4 * 4 = 2 ∧ nI j / 32 = 4 ∧ kindsF j = 33 by decide +kernel) j hj hc
  obtain ⟨hwy, hw10, hw0⟩ := (show ∀ j : Nat, j < 256 → clsF j = 13 → f_X5_way_r (nI j) = waysF j ∧ ¬ waysF j = 10 ∧ ¬ waysF j = 0 by decide +kernel) j hj hc
  have hway := s_wayb ((show ∀ j : Nat, j < 256 → clsF j = 13 → s_wb (waysF j) = true by decide +kernel) j hj hc)
  have ho : f_X5_fetch_r ug mm gB gC gR gM gL = nI j := fv.trans hop
  have hww : waysF j = waysF j := rfl
  obtain ⟨pe, pw, pu, pC⟩ := sr_place hway hm hB hf fu fC hX hY
  have hpl := s_wn pw
  have e_fa : f_X1_instruction_fa mm fo fa fx fy fs fp fc mem ug lt ct hd la bt kindsF waysF = _ := (Lw_fa hop hj hk hww).trans (n_i_fa_STXm)
  have e_fx : f_X1_instruction_fx mm fo fa fx fy fs fc mem ug lt ct hd la bt kindsF waysF = _ := (Lw_fx hop hj hk hww).trans (n_i_fx_STXm)
  have e_fy : f_X1_instruction_fy mm fo fa fx fy fc mem ug lt ct hd la bt kindsF waysF = _ := (Lw_fy hop hj hk hww).trans (n_i_fy_STXm)
  have e_fs : f_X1_instruction_fs mm fo fx fs fc mem ug lt ct hd la bt kindsF = _ := (Lw_fs hop hj hk).trans (n_i_fs_STXm)
  have e_fp : f_X1_instruction_fp mm fo fa fx fy fs fp fc mem ug lt ct hd la bt kindsF waysF = _ := (Lw_fp hop hj hk hww).trans (n_i_fp_STXm)
  have e_fc : f_X1_instruction_fc mm fo fx fy fs fp fc mem ug lt ct hd la bt kindsF waysF = _ := (Lw_fc hop hj hk hww).trans (n_i_fc_STXm)
  have e_mem : f_X1_instruction_mem mm fo fa fx fy fs fp fc mem ug lt ct hd la bt kindsF waysF = _ := (Lw_mem hop hj hk hww).trans (n_i_mem_STXm)
  have e_ug : f_X1_instruction_ug mm fo fa fx fy fp fc mem ug lt ct hd la bt kindsF waysF = _ := (Lw_ug hop hj hk hww).trans (n_i_ug_STXm)
  have e_ud : f_X1_instruction_ud mm fo fa fx fy fp fc mem ug ud lt ct hd la bt kindsF waysF = _ := (Lw_ud hop hj hk hww).trans (n_i_ud_STXm)
  have e_lt : f_X1_instruction_lt mm fo fa fx fy fp fc mem ug lt ct hd la bt kindsF waysF = _ := (Lw_lt hop hj hk hww).trans (n_i_lt_STXm)
  have e_ct : f_X1_instruction_ct mm fo fx fy fc mem ug lt ct hd la bt kindsF waysF = _ := (Lw_ct hop hj hk hww).trans (n_i_ct_STXm)
  have e_hd : f_X1_instruction_hd mm fo fx fy fc mem ug lt ct hd la bt kindsF waysF = _ := (Lw_hd hop hj hk hww).trans (n_i_hd_STXm)
  have e_la : f_X1_instruction_la mm fo fx fy fc mem ug lt ct hd la bt kindsF waysF = _ := (Lw_la hop hj hk hww).trans (n_i_la_STXm)
  have e_bt : f_X1_instruction_bt mm fo fa fx fy fp fc mem ug lt ct hd la bt kindsF waysF = _ := (Lw_bt hop hj hk hww).trans (n_i_bt_STXm)
  have g_gB : b_gB ug mm gB gA gX gY gS gP gC gR gM gL = _ := (B_ch_gB ho hkn h4 h5 hwy pe hq).trans (n_ch_gB_STXm hw10 hw0)
  have g_gA : b_gA ug mm gB gA gX gY gS gP gC gR gM gL = _ := (B_ch_gA ho hkn h4 h5 hwy hq).trans (n_ch_gA_STXm hw10 hw0)
  have g_gX : b_gX ug mm gB gA gX gY gS gC gR gM gL = _ := (B_ch_gX ho hkn h4 h5 hwy pe hq).trans (n_ch_gX_STXm hw10 hw0)
  have g_gY : b_gY ug mm gB gA gX gY gC gR gM gL = _ := (B_ch_gY ho hkn h4 h5 hwy).trans (n_ch_gY_ASLm hw10 hw0)
  have g_gS : b_gS ug mm gB gX gS gC gR gM gL = _ := (B_ch_gS ho hkn h4 h5 hwy).trans (n_ch_gS_ASLm hw10 hw0)
  have g_gP : b_gP ug mm gB gA gX gY gS gP gC gR gM gL = _ := (B_ch_gP ho hkn h4 h5 hwy pe hq).trans (n_ch_gP_STXm hw10 hw0)
  have g_gC : b_gC ug mm gB gS gP gC gR gM gL = _ := (B_ch_gC ho hkn h4 h5 hwy).trans (n_ch_gC_ASLm hw10 hw0)
  have g_gR : b_gR ug mm gB gA gX gY gP gC gR gM gL = _ := (B_ch_gR ho hkn h4 h5 hwy pe hq).trans (n_ch_gR_STXm hw10 hw0)
  have g_gM : b_gM ug mm gB gX gY gC gR gM gL = _ := (B_ch_gM ho hkn h4 h5 hwy pe hq).trans (n_ch_gM_STXm hw10 hw0)
  have g_gL : b_gL ug mm gB gX gY gC gR gM gL = _ := (B_ch_gL ho hkn h4 h5 hwy pe hq).trans (n_ch_gL_STXm hw10 hw0)
  have g_un : b_un ug mm gB gA gX gY gP gC gR gM gL = _ := (B_ch_un ho hkn h4 h5 hwy pe hq).trans (n_ch_un_STXm hw10 hw0)
  have g_ow : b_ow ug ud mm gB gA gX gY gP gC gR gM gL = _ := (B_ch_ow ho hkn h4 h5 hwy pe hq).trans (n_ch_ow_STXm hw10 hw0)
  rw [e_fa, e_fx, e_fy, e_fs, e_fp, e_fc, e_mem, e_ug, e_ud, e_lt, e_ct, e_hd, e_la, e_bt, g_gB, g_gA, g_gX, g_gY, g_gS, g_gP, g_gC, g_gR, g_gM, g_gL, g_un, g_ow]
  exact op_STXm hm hB hA hX hY hS hP pC pu pw hf hw
set_option maxRecDepth 100000 in
theorem as_LDXm (hm : s_m mm fo) (hB : rm mm gB mem om) (hA : ra mm gA fa oa) (hX : ra mm gX fx ox) (hY : ra mm gY fy oy) (hS : ra mm gS fs os) (hP : rp mm gP fp op) (hC : rc mm gC fc oc) (hu : ru ug lt ct hd la bt gR gM gL) (hf : ∃ j : Nat, j < 64 ∧ ug = nI j) (hw : wB ud) (hj : j < 256) (hop : f_X1_read_r mm fo mem ug lt ct hd la bt fc = nI j) (hc : clsF j = 14) : SR mm oa ox oy os op oc om (f_X1_instruction_fa mm fo fa fx fy fs fp fc mem ug lt ct hd la bt kindsF waysF) (f_X1_instruction_fx mm fo fa fx fy fs fc mem ug lt ct hd la bt kindsF waysF) (f_X1_instruction_fy mm fo fa fx fy fc mem ug lt ct hd la bt kindsF waysF) (f_X1_instruction_fs mm fo fx fs fc mem ug lt ct hd la bt kindsF) (f_X1_instruction_fp mm fo fa fx fy fs fp fc mem ug lt ct hd la bt kindsF waysF) (f_X1_instruction_fc mm fo fx fy fs fp fc mem ug lt ct hd la bt kindsF waysF) (f_X1_instruction_mem mm fo fa fx fy fs fp fc mem ug lt ct hd la bt kindsF waysF) (f_X1_instruction_ug mm fo fa fx fy fp fc mem ug lt ct hd la bt kindsF waysF) (f_X1_instruction_ud mm fo fa fx fy fp fc mem ug ud lt ct hd la bt kindsF waysF) (f_X1_instruction_lt mm fo fa fx fy fp fc mem ug lt ct hd la bt kindsF waysF) (f_X1_instruction_ct mm fo fx fy fc mem ug lt ct hd la bt kindsF waysF) (f_X1_instruction_hd mm fo fx fy fc mem ug lt ct hd la bt kindsF waysF) (f_X1_instruction_la mm fo fx fy fc mem ug lt ct hd la bt kindsF waysF) (f_X1_instruction_bt mm fo fa fx fy fp fc mem ug lt ct hd la bt kindsF waysF) (b_gB ug mm gB gA gX gY gS gP gC gR gM gL) (b_gA ug mm gB gA gX gY gS gP gC gR gM gL) (b_gX ug mm gB gA gX gY gS gC gR gM gL) (b_gY ug mm gB gA gX gY gC gR gM gL) (b_gS ug mm gB gX gS gC gR gM gL) (b_gP ug mm gB gA gX gY gS gP gC gR gM gL) (b_gC ug mm gB gS gP gC gR gM gL) (b_gR ug mm gB gA gX gY gP gC gR gM gL) (b_gM ug mm gB gX gY gC gR gM gL) (b_gL ug mm gB gX gY gC gR gM gL) (b_un ug mm gB gA gX gY gP gC gR gM gL) (b_ow ug ud mm gB gA gX gY gP gC gR gM gL) := by
  have fe := sr_fetch hm hB hf hu hC
  obtain ⟨fv, fb, fu, fC⟩ := fe
  obtain ⟨hkn, h4, h5, hq, hk⟩ := (show ∀ j : Nat, j < 256 → clsF j = 14 → ¬ f_X5_isKnown_r (nI j) = 0 ∧ ¬ nI j - nI j / 4 * 4 = 1 ∧ nI j - nI j / 4 * 4 = 2 ∧ nI j / 32 = 5 ∧ kindsF j = 17 by decide +kernel) j hj hc
  obtain ⟨hwy, hw10, hw0⟩ := (show ∀ j : Nat, j < 256 → clsF j = 14 → f_X5_way_r (nI j) = waysF j ∧ ¬ waysF j = 10 ∧ ¬ waysF j = 0 by decide +kernel) j hj hc
  have hway := s_wayb ((show ∀ j : Nat, j < 256 → clsF j = 14 → s_wb (waysF j) = true by decide +kernel) j hj hc)
  have ho : f_X5_fetch_r ug mm gB gC gR gM gL = nI j := fv.trans hop
  have hww : waysF j = waysF j := rfl
  obtain ⟨pe, pw, pu, pC⟩ := sr_place hway hm hB hf fu fC hX hY
  have hpl := s_wn pw
  have e_fa : f_X1_instruction_fa mm fo fa fx fy fs fp fc mem ug lt ct hd la bt kindsF waysF = _ := (Lw_fa hop hj hk hww).trans (n_i_fa_LDXm)
  have e_fx : f_X1_instruction_fx mm fo fa fx fy fs fc mem ug lt ct hd la bt kindsF waysF = _ := (Lw_fx hop hj hk hww).trans (n_i_fx_LDXm)
  have e_fy : f_X1_instruction_fy mm fo fa fx fy fc mem ug lt ct hd la bt kindsF waysF = _ := (Lw_fy hop hj hk hww).trans (n_i_fy_LDXm)
  have e_fs : f_X1_instruction_fs mm fo fx fs fc mem ug lt ct hd la bt kindsF = _ := (Lw_fs hop hj hk).trans (n_i_fs_LDXm)
  have e_fp : f_X1_instruction_fp mm fo fa fx fy fs fp fc mem ug lt ct hd la bt kindsF waysF = _ := (Lw_fp hop hj hk hww).trans (n_i_fp_LDXm)
  have e_fc : f_X1_instruction_fc mm fo fx fy fs fp fc mem ug lt ct hd la bt kindsF waysF = _ := (Lw_fc hop hj hk hww).trans (n_i_fc_LDXm)
  have e_mem : f_X1_instruction_mem mm fo fa fx fy fs fp fc mem ug lt ct hd la bt kindsF waysF = _ := (Lw_mem hop hj hk hww).trans (n_i_mem_LDXm)
  have e_ug : f_X1_instruction_ug mm fo fa fx fy fp fc mem ug lt ct hd la bt kindsF waysF = _ := (Lw_ug hop hj hk hww).trans (n_i_ug_LDXm)
  have e_ud : f_X1_instruction_ud mm fo fa fx fy fp fc mem ug ud lt ct hd la bt kindsF waysF = _ := (Lw_ud hop hj hk hww).trans (n_i_ud_LDXm)
  have e_lt : f_X1_instruction_lt mm fo fa fx fy fp fc mem ug lt ct hd la bt kindsF waysF = _ := (Lw_lt hop hj hk hww).trans (n_i_lt_LDXm)
  have e_ct : f_X1_instruction_ct mm fo fx fy fc mem ug lt ct hd la bt kindsF waysF = _ := (Lw_ct hop hj hk hww).trans (n_i_ct_LDXm)
  have e_hd : f_X1_instruction_hd mm fo fx fy fc mem ug lt ct hd la bt kindsF waysF = _ := (Lw_hd hop hj hk hww).trans (n_i_hd_LDXm)
  have e_la : f_X1_instruction_la mm fo fx fy fc mem ug lt ct hd la bt kindsF waysF = _ := (Lw_la hop hj hk hww).trans (n_i_la_LDXm)
  have e_bt : f_X1_instruction_bt mm fo fa fx fy fp fc mem ug lt ct hd la bt kindsF waysF = _ := (Lw_bt hop hj hk hww).trans (n_i_bt_LDXm)
  have g_gB : b_gB ug mm gB gA gX gY gS gP gC gR gM gL = _ := (B_ch_gB ho hkn h4 h5 hwy pe hq).trans (n_ch_gB_LDXm hw10 hw0)
  have g_gA : b_gA ug mm gB gA gX gY gS gP gC gR gM gL = _ := (B_ch_gA ho hkn h4 h5 hwy hq).trans (n_ch_gA_LDXm hw10 hw0)
  have g_gX : b_gX ug mm gB gA gX gY gS gC gR gM gL = _ := (B_ch_gX ho hkn h4 h5 hwy pe hq).trans (n_ch_gX_LDXm hw10 hw0)
  have g_gY : b_gY ug mm gB gA gX gY gC gR gM gL = _ := (B_ch_gY ho hkn h4 h5 hwy).trans (n_ch_gY_ASLm hw10 hw0)
  have g_gS : b_gS ug mm gB gX gS gC gR gM gL = _ := (B_ch_gS ho hkn h4 h5 hwy).trans (n_ch_gS_ASLm hw10 hw0)
  have g_gP : b_gP ug mm gB gA gX gY gS gP gC gR gM gL = _ := (B_ch_gP ho hkn h4 h5 hwy pe hq).trans (n_ch_gP_LDXm hw10 hw0)
  have g_gC : b_gC ug mm gB gS gP gC gR gM gL = _ := (B_ch_gC ho hkn h4 h5 hwy).trans (n_ch_gC_ASLm hw10 hw0)
  have g_gR : b_gR ug mm gB gA gX gY gP gC gR gM gL = _ := (B_ch_gR ho hkn h4 h5 hwy pe hq).trans (n_ch_gR_LDXm hw10 hw0)
  have g_gM : b_gM ug mm gB gX gY gC gR gM gL = _ := (B_ch_gM ho hkn h4 h5 hwy pe hq).trans (n_ch_gM_LDXm hw10 hw0)
  have g_gL : b_gL ug mm gB gX gY gC gR gM gL = _ := (B_ch_gL ho hkn h4 h5 hwy pe hq).trans (n_ch_gL_LDXm hw10 hw0)
  have g_un : b_un ug mm gB gA gX gY gP gC gR gM gL = _ := (B_ch_un ho hkn h4 h5 hwy pe hq).trans (n_ch_un_LDXm hw10 hw0)
  have g_ow : b_ow ug ud mm gB gA gX gY gP gC gR gM gL = _ := (B_ch_ow ho hkn h4 h5 hwy pe hq).trans (n_ch_ow_LDXm hw10 hw0)
  rw [e_fa, e_fx, e_fy, e_fs, e_fp, e_fc, e_mem, e_ug, e_ud, e_lt, e_ct, e_hd, e_la, e_bt, g_gB, g_gA, g_gX, g_gY, g_gS, g_gP, g_gC, g_gR, g_gM, g_gL, g_un, g_ow]
  exact op_LDXm hm hB hA hX hY hS hP pC pu pw hf hw
set_option maxRecDepth 100000 in
theorem as_DECm (hm : s_m mm fo) (hB : rm mm gB mem om) (hA : ra mm gA fa oa) (hX : ra mm gX fx ox) (hY : ra mm gY fy oy) (hS : ra mm gS fs os) (hP : rp mm gP fp op) (hC : rc mm gC fc oc) (hu : ru ug lt ct hd la bt gR gM gL) (hf : ∃ j : Nat, j < 64 ∧ ug = nI j) (hw : wB ud) (hj : j < 256) (hop : f_X1_read_r mm fo mem ug lt ct hd la bt fc = nI j) (hc : clsF j = 15) : SR mm oa ox oy os op oc om (f_X1_instruction_fa mm fo fa fx fy fs fp fc mem ug lt ct hd la bt kindsF waysF) (f_X1_instruction_fx mm fo fa fx fy fs fc mem ug lt ct hd la bt kindsF waysF) (f_X1_instruction_fy mm fo fa fx fy fc mem ug lt ct hd la bt kindsF waysF) (f_X1_instruction_fs mm fo fx fs fc mem ug lt ct hd la bt kindsF) (f_X1_instruction_fp mm fo fa fx fy fs fp fc mem ug lt ct hd la bt kindsF waysF) (f_X1_instruction_fc mm fo fx fy fs fp fc mem ug lt ct hd la bt kindsF waysF) (f_X1_instruction_mem mm fo fa fx fy fs fp fc mem ug lt ct hd la bt kindsF waysF) (f_X1_instruction_ug mm fo fa fx fy fp fc mem ug lt ct hd la bt kindsF waysF) (f_X1_instruction_ud mm fo fa fx fy fp fc mem ug ud lt ct hd la bt kindsF waysF) (f_X1_instruction_lt mm fo fa fx fy fp fc mem ug lt ct hd la bt kindsF waysF) (f_X1_instruction_ct mm fo fx fy fc mem ug lt ct hd la bt kindsF waysF) (f_X1_instruction_hd mm fo fx fy fc mem ug lt ct hd la bt kindsF waysF) (f_X1_instruction_la mm fo fx fy fc mem ug lt ct hd la bt kindsF waysF) (f_X1_instruction_bt mm fo fa fx fy fp fc mem ug lt ct hd la bt kindsF waysF) (b_gB ug mm gB gA gX gY gS gP gC gR gM gL) (b_gA ug mm gB gA gX gY gS gP gC gR gM gL) (b_gX ug mm gB gA gX gY gS gC gR gM gL) (b_gY ug mm gB gA gX gY gC gR gM gL) (b_gS ug mm gB gX gS gC gR gM gL) (b_gP ug mm gB gA gX gY gS gP gC gR gM gL) (b_gC ug mm gB gS gP gC gR gM gL) (b_gR ug mm gB gA gX gY gP gC gR gM gL) (b_gM ug mm gB gX gY gC gR gM gL) (b_gL ug mm gB gX gY gC gR gM gL) (b_un ug mm gB gA gX gY gP gC gR gM gL) (b_ow ug ud mm gB gA gX gY gP gC gR gM gL) := by
  have fe := sr_fetch hm hB hf hu hC
  obtain ⟨fv, fb, fu, fC⟩ := fe
  obtain ⟨hkn, h4, h5, hq, hk⟩ := (show ∀ j : Nat, j < 256 → clsF j = 15 → ¬ f_X5_isKnown_r (nI j) = 0 ∧ ¬ nI j - nI j / 4 * 4 = 1 ∧ nI j - nI j / 4 * 4 = 2 ∧ nI j / 32 = 6 ∧ kindsF j = 52 by decide +kernel) j hj hc
  obtain ⟨hwy, hw10, hw0⟩ := (show ∀ j : Nat, j < 256 → clsF j = 15 → f_X5_way_r (nI j) = waysF j ∧ ¬ waysF j = 10 ∧ ¬ waysF j = 0 by decide +kernel) j hj hc
  have hway := s_wayb ((show ∀ j : Nat, j < 256 → clsF j = 15 → s_wb (waysF j) = true by decide +kernel) j hj hc)
  have ho : f_X5_fetch_r ug mm gB gC gR gM gL = nI j := fv.trans hop
  have hww : waysF j = waysF j := rfl
  obtain ⟨pe, pw, pu, pC⟩ := sr_place hway hm hB hf fu fC hX hY
  have hpl := s_wn pw
  have e_fa : f_X1_instruction_fa mm fo fa fx fy fs fp fc mem ug lt ct hd la bt kindsF waysF = _ := (Lw_fa hop hj hk hww).trans (n_i_fa_DECm hpl)
  have e_fx : f_X1_instruction_fx mm fo fa fx fy fs fc mem ug lt ct hd la bt kindsF waysF = _ := (Lw_fx hop hj hk hww).trans (n_i_fx_DECm)
  have e_fy : f_X1_instruction_fy mm fo fa fx fy fc mem ug lt ct hd la bt kindsF waysF = _ := (Lw_fy hop hj hk hww).trans (n_i_fy_DECm)
  have e_fs : f_X1_instruction_fs mm fo fx fs fc mem ug lt ct hd la bt kindsF = _ := (Lw_fs hop hj hk).trans (n_i_fs_DECm)
  have e_fp : f_X1_instruction_fp mm fo fa fx fy fs fp fc mem ug lt ct hd la bt kindsF waysF = _ := (Lw_fp hop hj hk hww).trans (n_i_fp_DECm hpl)
  have e_fc : f_X1_instruction_fc mm fo fx fy fs fp fc mem ug lt ct hd la bt kindsF waysF = _ := (Lw_fc hop hj hk hww).trans (n_i_fc_DECm)
  have e_mem : f_X1_instruction_mem mm fo fa fx fy fs fp fc mem ug lt ct hd la bt kindsF waysF = _ := (Lw_mem hop hj hk hww).trans (n_i_mem_DECm hpl)
  have e_ug : f_X1_instruction_ug mm fo fa fx fy fp fc mem ug lt ct hd la bt kindsF waysF = _ := (Lw_ug hop hj hk hww).trans (n_i_ug_DECm hpl)
  have e_ud : f_X1_instruction_ud mm fo fa fx fy fp fc mem ug ud lt ct hd la bt kindsF waysF = _ := (Lw_ud hop hj hk hww).trans (n_i_ud_DECm hpl)
  have e_lt : f_X1_instruction_lt mm fo fa fx fy fp fc mem ug lt ct hd la bt kindsF waysF = _ := (Lw_lt hop hj hk hww).trans (n_i_lt_DECm hpl)
  have e_ct : f_X1_instruction_ct mm fo fx fy fc mem ug lt ct hd la bt kindsF waysF = _ := (Lw_ct hop hj hk hww).trans (n_i_ct_DECm hpl)
  have e_hd : f_X1_instruction_hd mm fo fx fy fc mem ug lt ct hd la bt kindsF waysF = _ := (Lw_hd hop hj hk hww).trans (n_i_hd_DECm hpl)
  have e_la : f_X1_instruction_la mm fo fx fy fc mem ug lt ct hd la bt kindsF waysF = _ := (Lw_la hop hj hk hww).trans (n_i_la_DECm hpl)
  have e_bt : f_X1_instruction_bt mm fo fa fx fy fp fc mem ug lt ct hd la bt kindsF waysF = _ := (Lw_bt hop hj hk hww).trans (n_i_bt_DECm hpl)
  have g_gB : b_gB ug mm gB gA gX gY gS gP gC gR gM gL = _ := (B_ch_gB ho hkn h4 h5 hwy pe hq).trans (n_ch_gB_DECm hw10 hw0)
  have g_gA : b_gA ug mm gB gA gX gY gS gP gC gR gM gL = _ := (B_ch_gA ho hkn h4 h5 hwy hq).trans (n_ch_gA_DECm hw10 hw0)
  have g_gX : b_gX ug mm gB gA gX gY gS gC gR gM gL = _ := (B_ch_gX ho hkn h4 h5 hwy pe hq).trans (n_ch_gX_DECm hw10 hw0)
  have g_gY : b_gY ug mm gB gA gX gY gC gR gM gL = _ := (B_ch_gY ho hkn h4 h5 hwy).trans (n_ch_gY_ASLm hw10 hw0)
  have g_gS : b_gS ug mm gB gX gS gC gR gM gL = _ := (B_ch_gS ho hkn h4 h5 hwy).trans (n_ch_gS_ASLm hw10 hw0)
  have g_gP : b_gP ug mm gB gA gX gY gS gP gC gR gM gL = _ := (B_ch_gP ho hkn h4 h5 hwy pe hq).trans (n_ch_gP_DECm hw10 hw0)
  have g_gC : b_gC ug mm gB gS gP gC gR gM gL = _ := (B_ch_gC ho hkn h4 h5 hwy).trans (n_ch_gC_ASLm hw10 hw0)
  have g_gR : b_gR ug mm gB gA gX gY gP gC gR gM gL = _ := (B_ch_gR ho hkn h4 h5 hwy pe hq).trans (n_ch_gR_DECm hw10 hw0)
  have g_gM : b_gM ug mm gB gX gY gC gR gM gL = _ := (B_ch_gM ho hkn h4 h5 hwy pe hq).trans (n_ch_gM_DECm hw10 hw0)
  have g_gL : b_gL ug mm gB gX gY gC gR gM gL = _ := (B_ch_gL ho hkn h4 h5 hwy pe hq).trans (n_ch_gL_DECm hw10 hw0)
  have g_un : b_un ug mm gB gA gX gY gP gC gR gM gL = _ := (B_ch_un ho hkn h4 h5 hwy pe hq).trans (n_ch_un_DECm hw10 hw0)
  have g_ow : b_ow ug ud mm gB gA gX gY gP gC gR gM gL = _ := (B_ch_ow ho hkn h4 h5 hwy pe hq).trans (n_ch_ow_DECm hw10 hw0)
  rw [e_fa, e_fx, e_fy, e_fs, e_fp, e_fc, e_mem, e_ug, e_ud, e_lt, e_ct, e_hd, e_la, e_bt, g_gB, g_gA, g_gX, g_gY, g_gS, g_gP, g_gC, g_gR, g_gM, g_gL, g_un, g_ow]
  exact op_DECm hm hB hA hX hY hS hP pC pu pw hf hw
set_option maxRecDepth 100000 in
theorem as_INCm (hm : s_m mm fo) (hB : rm mm gB mem om) (hA : ra mm gA fa oa) (hX : ra mm gX fx ox) (hY : ra mm gY fy oy) (hS : ra mm gS fs os) (hP : rp mm gP fp op) (hC : rc mm gC fc oc) (hu : ru ug lt ct hd la bt gR gM gL) (hf : ∃ j : Nat, j < 64 ∧ ug = nI j) (hw : wB ud) (hj : j < 256) (hop : f_X1_read_r mm fo mem ug lt ct hd la bt fc = nI j) (hc : clsF j = 16) : SR mm oa ox oy os op oc om (f_X1_instruction_fa mm fo fa fx fy fs fp fc mem ug lt ct hd la bt kindsF waysF) (f_X1_instruction_fx mm fo fa fx fy fs fc mem ug lt ct hd la bt kindsF waysF) (f_X1_instruction_fy mm fo fa fx fy fc mem ug lt ct hd la bt kindsF waysF) (f_X1_instruction_fs mm fo fx fs fc mem ug lt ct hd la bt kindsF) (f_X1_instruction_fp mm fo fa fx fy fs fp fc mem ug lt ct hd la bt kindsF waysF) (f_X1_instruction_fc mm fo fx fy fs fp fc mem ug lt ct hd la bt kindsF waysF) (f_X1_instruction_mem mm fo fa fx fy fs fp fc mem ug lt ct hd la bt kindsF waysF) (f_X1_instruction_ug mm fo fa fx fy fp fc mem ug lt ct hd la bt kindsF waysF) (f_X1_instruction_ud mm fo fa fx fy fp fc mem ug ud lt ct hd la bt kindsF waysF) (f_X1_instruction_lt mm fo fa fx fy fp fc mem ug lt ct hd la bt kindsF waysF) (f_X1_instruction_ct mm fo fx fy fc mem ug lt ct hd la bt kindsF waysF) (f_X1_instruction_hd mm fo fx fy fc mem ug lt ct hd la bt kindsF waysF) (f_X1_instruction_la mm fo fx fy fc mem ug lt ct hd la bt kindsF waysF) (f_X1_instruction_bt mm fo fa fx fy fp fc mem ug lt ct hd la bt kindsF waysF) (b_gB ug mm gB gA gX gY gS gP gC gR gM gL) (b_gA ug mm gB gA gX gY gS gP gC gR gM gL) (b_gX ug mm gB gA gX gY gS gC gR gM gL) (b_gY ug mm gB gA gX gY gC gR gM gL) (b_gS ug mm gB gX gS gC gR gM gL) (b_gP ug mm gB gA gX gY gS gP gC gR gM gL) (b_gC ug mm gB gS gP gC gR gM gL) (b_gR ug mm gB gA gX gY gP gC gR gM gL) (b_gM ug mm gB gX gY gC gR gM gL) (b_gL ug mm gB gX gY gC gR gM gL) (b_un ug mm gB gA gX gY gP gC gR gM gL) (b_ow ug ud mm gB gA gX gY gP gC gR gM gL) := by
  have fe := sr_fetch hm hB hf hu hC
  obtain ⟨fv, fb, fu, fC⟩ := fe
  obtain ⟨hkn, h4, h5, hq, hk⟩ := (show ∀ j : Nat, j < 256 → clsF j = 16 → ¬ f_X5_isKnown_r (nI j) = 0 ∧ ¬ nI j - nI j / 4 * 4 = 1 ∧ nI j - nI j / 4 * 4 = 2 ∧ nI j / 32 = 7 ∧ kindsF j = 53 by decide +kernel) j hj hc
  obtain ⟨hwy, hw10, hw0⟩ := (show ∀ j : Nat, j < 256 → clsF j = 16 → f_X5_way_r (nI j) = waysF j ∧ ¬ waysF j = 10 ∧ ¬ waysF j = 0 by decide +kernel) j hj hc
  have hway := s_wayb ((show ∀ j : Nat, j < 256 → clsF j = 16 → s_wb (waysF j) = true by decide +kernel) j hj hc)
  have ho : f_X5_fetch_r ug mm gB gC gR gM gL = nI j := fv.trans hop
  have hww : waysF j = waysF j := rfl
  obtain ⟨pe, pw, pu, pC⟩ := sr_place hway hm hB hf fu fC hX hY
  have hpl := s_wn pw
  have e_fa : f_X1_instruction_fa mm fo fa fx fy fs fp fc mem ug lt ct hd la bt kindsF waysF = _ := (Lw_fa hop hj hk hww).trans (n_i_fa_INCm hpl)
  have e_fx : f_X1_instruction_fx mm fo fa fx fy fs fc mem ug lt ct hd la bt kindsF waysF = _ := (Lw_fx hop hj hk hww).trans (n_i_fx_INCm)
  have e_fy : f_X1_instruction_fy mm fo fa fx fy fc mem ug lt ct hd la bt kindsF waysF = _ := (Lw_fy hop hj hk hww).trans (n_i_fy_INCm)
  have e_fs : f_X1_instruction_fs mm fo fx fs fc mem ug lt ct hd la bt kindsF = _ := (Lw_fs hop hj hk).trans (n_i_fs_INCm)
  have e_fp : f_X1_instruction_fp mm fo fa fx fy fs fp fc mem ug lt ct hd la bt kindsF waysF = _ := (Lw_fp hop hj hk hww).trans (n_i_fp_INCm hpl)
  have e_fc : f_X1_instruction_fc mm fo fx fy fs fp fc mem ug lt ct hd la bt kindsF waysF = _ := (Lw_fc hop hj hk hww).trans (n_i_fc_INCm)
  have e_mem : f_X1_instruction_mem mm fo fa fx fy fs fp fc mem ug lt ct hd la bt kindsF waysF = _ := (Lw_mem hop hj hk hww).trans (n_i_mem_INCm hpl)
  have e_ug : f_X1_instruction_ug mm fo fa fx fy fp fc mem ug lt ct hd la bt kindsF waysF = _ := (Lw_ug hop hj hk hww).trans (n_i_ug_INCm hpl)
  have e_ud : f_X1_instruction_ud mm fo fa fx fy fp fc mem ug ud lt ct hd la bt kindsF waysF = _ := (Lw_ud hop hj hk hww).trans (n_i_ud_INCm hpl)
  have e_lt : f_X1_instruction_lt mm fo fa fx fy fp fc mem ug lt ct hd la bt kindsF waysF = _ := (Lw_lt hop hj hk hww).trans (n_i_lt_INCm hpl)
  have e_ct : f_X1_instruction_ct mm fo fx fy fc mem ug lt ct hd la bt kindsF waysF = _ := (Lw_ct hop hj hk hww).trans (n_i_ct_INCm hpl)
  have e_hd : f_X1_instruction_hd mm fo fx fy fc mem ug lt ct hd la bt kindsF waysF = _ := (Lw_hd hop hj hk hww).trans (n_i_hd_INCm hpl)
  have e_la : f_X1_instruction_la mm fo fx fy fc mem ug lt ct hd la bt kindsF waysF = _ := (Lw_la hop hj hk hww).trans (n_i_la_INCm hpl)
  have e_bt : f_X1_instruction_bt mm fo fa fx fy fp fc mem ug lt ct hd la bt kindsF waysF = _ := (Lw_bt hop hj hk hww).trans (n_i_bt_INCm hpl)
  have g_gB : b_gB ug mm gB gA gX gY gS gP gC gR gM gL = _ := (B_ch_gB ho hkn h4 h5 hwy pe hq).trans (n_ch_gB_INCm hw10 hw0)
  have g_gA : b_gA ug mm gB gA gX gY gS gP gC gR gM gL = _ := (B_ch_gA ho hkn h4 h5 hwy hq).trans (n_ch_gA_INCm hw10 hw0)
  have g_gX : b_gX ug mm gB gA gX gY gS gC gR gM gL = _ := (B_ch_gX ho hkn h4 h5 hwy pe hq).trans (n_ch_gX_INCm hw10 hw0)
  have g_gY : b_gY ug mm gB gA gX gY gC gR gM gL = _ := (B_ch_gY ho hkn h4 h5 hwy).trans (n_ch_gY_ASLm hw10 hw0)
  have g_gS : b_gS ug mm gB gX gS gC gR gM gL = _ := (B_ch_gS ho hkn h4 h5 hwy).trans (n_ch_gS_ASLm hw10 hw0)
  have g_gP : b_gP ug mm gB gA gX gY gS gP gC gR gM gL = _ := (B_ch_gP ho hkn h4 h5 hwy pe hq).trans (n_ch_gP_INCm hw10 hw0)
  have g_gC : b_gC ug mm gB gS gP gC gR gM gL = _ := (B_ch_gC ho hkn h4 h5 hwy).trans (n_ch_gC_ASLm hw10 hw0)
  have g_gR : b_gR ug mm gB gA gX gY gP gC gR gM gL = _ := (B_ch_gR ho hkn h4 h5 hwy pe hq).trans (n_ch_gR_INCm hw10 hw0)
  have g_gM : b_gM ug mm gB gX gY gC gR gM gL = _ := (B_ch_gM ho hkn h4 h5 hwy pe hq).trans (n_ch_gM_INCm hw10 hw0)
  have g_gL : b_gL ug mm gB gX gY gC gR gM gL = _ := (B_ch_gL ho hkn h4 h5 hwy pe hq).trans (n_ch_gL_INCm hw10 hw0)
  have g_un : b_un ug mm gB gA gX gY gP gC gR gM gL = _ := (B_ch_un ho hkn h4 h5 hwy pe hq).trans (n_ch_un_INCm hw10 hw0)
  have g_ow : b_ow ug ud mm gB gA gX gY gP gC gR gM gL = _ := (B_ch_ow ho hkn h4 h5 hwy pe hq).trans (n_ch_ow_INCm hw10 hw0)
  rw [e_fa, e_fx, e_fy, e_fs, e_fp, e_fc, e_mem, e_ug, e_ud, e_lt, e_ct, e_hd, e_la, e_bt, g_gB, g_gA, g_gX, g_gY, g_gS, g_gP, g_gC, g_gR, g_gM, g_gL, g_un, g_ow]
  exact op_INCm hm hB hA hX hY hS hP pC pu pw hf hw
set_option maxRecDepth 100000 in
theorem as_ASLa (hm : s_m mm fo) (hB : rm mm gB mem om) (hA : ra mm gA fa oa) (hX : ra mm gX fx ox) (hY : ra mm gY fy oy) (hS : ra mm gS fs os) (hP : rp mm gP fp op) (hC : rc mm gC fc oc) (hu : ru ug lt ct hd la bt gR gM gL) (hf : ∃ j : Nat, j < 64 ∧ ug = nI j) (hw : wB ud) (hj : j < 256) (hop : f_X1_read_r mm fo mem ug lt ct hd la bt fc = nI j) (hc : clsF j = 17) : SR mm oa ox oy os op oc om (f_X1_instruction_fa mm fo fa fx fy fs fp fc mem ug lt ct hd la bt kindsF waysF) (f_X1_instruction_fx mm fo fa fx fy fs fc mem ug lt ct hd la bt kindsF waysF) (f_X1_instruction_fy mm fo fa fx fy fc mem ug lt ct hd la bt kindsF waysF) (f_X1_instruction_fs mm fo fx fs fc mem ug lt ct hd la bt kindsF) (f_X1_instruction_fp mm fo fa fx fy fs fp fc mem ug lt ct hd la bt kindsF waysF) (f_X1_instruction_fc mm fo fx fy fs fp fc mem ug lt ct hd la bt kindsF waysF) (f_X1_instruction_mem mm fo fa fx fy fs fp fc mem ug lt ct hd la bt kindsF waysF) (f_X1_instruction_ug mm fo fa fx fy fp fc mem ug lt ct hd la bt kindsF waysF) (f_X1_instruction_ud mm fo fa fx fy fp fc mem ug ud lt ct hd la bt kindsF waysF) (f_X1_instruction_lt mm fo fa fx fy fp fc mem ug lt ct hd la bt kindsF waysF) (f_X1_instruction_ct mm fo fx fy fc mem ug lt ct hd la bt kindsF waysF) (f_X1_instruction_hd mm fo fx fy fc mem ug lt ct hd la bt kindsF waysF) (f_X1_instruction_la mm fo fx fy fc mem ug lt ct hd la bt kindsF waysF) (f_X1_instruction_bt mm fo fa fx fy fp fc mem ug lt ct hd la bt kindsF waysF) (b_gB ug mm gB gA gX gY gS gP gC gR gM gL) (b_gA ug mm gB gA gX gY gS gP gC gR gM gL) (b_gX ug mm gB gA gX gY gS gC gR gM gL) (b_gY ug mm gB gA gX gY gC gR gM gL) (b_gS ug mm gB gX gS gC gR gM gL) (b_gP ug mm gB gA gX gY gS gP gC gR gM gL) (b_gC ug mm gB gS gP gC gR gM gL) (b_gR ug mm gB gA gX gY gP gC gR gM gL) (b_gM ug mm gB gX gY gC gR gM gL) (b_gL ug mm gB gX gY gC gR gM gL) (b_un ug mm gB gA gX gY gP gC gR gM gL) (b_ow ug ud mm gB gA gX gY gP gC gR gM gL) := by
  have fe := sr_fetch hm hB hf hu hC
  obtain ⟨fv, fb, fu, fC⟩ := fe
  obtain rfl : j = 10 := (show ∀ j : Nat, j < 256 → clsF j = 17 → j = 10 by decide +kernel) j hj hc
  have ho : f_X5_fetch_r ug mm gB gC gR gM gL = (10 : Int32) := fv.trans hop
  have hkn : ¬ f_X5_isKnown_r (10 : Int32) = 0 := by decide +kernel
  have hk : kindsF 10 = 48 := by decide +kernel
  have hww : waysF 10 = 0 := by decide +kernel
  have h4 : ¬ (10 : Int32) - (10 : Int32) / 4 * 4 = 1 := by decide +kernel
  have h5 : (10 : Int32) - (10 : Int32) / 4 * 4 = 2 := by decide +kernel
  have hq : (10 : Int32) / 32 = 0 := by decide +kernel
  have hwy : f_X5_way_r (10 : Int32) = 10 := by decide +kernel
  have e_fa : f_X1_instruction_fa mm fo fa fx fy fs fp fc mem ug lt ct hd la bt kindsF waysF = _ := (L0_fa hop hj hk hww).trans (n_i_fa_ASLa)
  have e_fx : f_X1_instruction_fx mm fo fa fx fy fs fc mem ug lt ct hd la bt kindsF waysF = _ := (L0_fx hop hj hk hww).trans (n_i_fx_ASLa)
  have e_fy : f_X1_instruction_fy mm fo fa fx fy fc mem ug lt ct hd la bt kindsF waysF = _ := (L0_fy hop hj hk hww).trans (n_i_fy_ASLa)
  have e_fs : f_X1_instruction_fs mm fo fx fs fc mem ug lt ct hd la bt kindsF = _ := (L0_fs hop hj hk).trans (n_i_fs_ASLm)
  have e_fp : f_X1_instruction_fp mm fo fa fx fy fs fp fc mem ug lt ct hd la bt kindsF waysF = _ := (L0_fp hop hj hk hww).trans (n_i_fp_ASLa)
  have e_fc : f_X1_instruction_fc mm fo fx fy fs fp fc mem ug lt ct hd la bt kindsF waysF = _ := (L0_fc hop hj hk hww).trans (n_i_fc_ASLa)
  have e_mem : f_X1_instruction_mem mm fo fa fx fy fs fp fc mem ug lt ct hd la bt kindsF waysF = _ := (L0_mem hop hj hk hww).trans (n_i_mem_ASLa)
  have e_ug : f_X1_instruction_ug mm fo fa fx fy fp fc mem ug lt ct hd la bt kindsF waysF = _ := (L0_ug hop hj hk hww).trans (n_i_ug_ASLa)
  have e_ud : f_X1_instruction_ud mm fo fa fx fy fp fc mem ug ud lt ct hd la bt kindsF waysF = _ := (L0_ud hop hj hk hww).trans (n_i_ud_ASLa)
  have e_lt : f_X1_instruction_lt mm fo fa fx fy fp fc mem ug lt ct hd la bt kindsF waysF = _ := (L0_lt hop hj hk hww).trans (n_i_lt_ASLa)
  have e_ct : f_X1_instruction_ct mm fo fx fy fc mem ug lt ct hd la bt kindsF waysF = _ := (L0_ct hop hj hk hww).trans (n_i_ct_ASLa)
  have e_hd : f_X1_instruction_hd mm fo fx fy fc mem ug lt ct hd la bt kindsF waysF = _ := (L0_hd hop hj hk hww).trans (n_i_hd_ASLa)
  have e_la : f_X1_instruction_la mm fo fx fy fc mem ug lt ct hd la bt kindsF waysF = _ := (L0_la hop hj hk hww).trans (n_i_la_ASLa)
  have e_bt : f_X1_instruction_bt mm fo fa fx fy fp fc mem ug lt ct hd la bt kindsF waysF = _ := (L0_bt hop hj hk hww).trans (n_i_bt_ASLa)
  have g_gB : b_gB ug mm gB gA gX gY gS gP gC gR gM gL = _ := (B_ch_gB ho hkn h4 h5 hwy rfl hq).trans (n_ch_gB_ASLa)
  have g_gA : b_gA ug mm gB gA gX gY gS gP gC gR gM gL = _ := (B_ch_gA ho hkn h4 h5 hwy hq).trans (n_ch_gA_ASLa)
  have g_gX : b_gX ug mm gB gA gX gY gS gC gR gM gL = _ := (B_ch_gX ho hkn h4 h5 hwy rfl hq).trans (n_ch_gX_ASLa)
  have g_gY : b_gY ug mm gB gA gX gY gC gR gM gL = _ := (B_ch_gY ho hkn h4 h5 hwy).trans (n_ch_gY_ASLa)
  have g_gS : b_gS ug mm gB gX gS gC gR gM gL = _ := (B_ch_gS ho hkn h4 h5 hwy).trans (n_ch_gS_ASLa)
  have g_gP : b_gP ug mm gB gA gX gY gS gP gC gR gM gL = _ := (B_ch_gP ho hkn h4 h5 hwy rfl hq).trans (n_ch_gP_ASLa)
  have g_gC : b_gC ug mm gB gS gP gC gR gM gL = _ := (B_ch_gC ho hkn h4 h5 hwy).trans (n_ch_gC_ASLa)
  have g_gR : b_gR ug mm gB gA gX gY gP gC gR gM gL = _ := (B_ch_gR ho hkn h4 h5 hwy rfl hq).trans (n_ch_gR_ASLa)
  have g_gM : b_gM ug mm gB gX gY gC gR gM gL = _ := (B_ch_gM ho hkn h4 h5 hwy rfl hq).trans (n_ch_gM_ASLa)
  have g_gL : b_gL ug mm gB gX gY gC gR gM gL = _ := (B_ch_gL ho hkn h4 h5 hwy rfl hq).trans (n_ch_gL_ASLa)
  have g_un : b_un ug mm gB gA gX gY gP gC gR gM gL = _ := (B_ch_un ho hkn h4 h5 hwy rfl hq).trans (n_ch_un_ASLa)
  have g_ow : b_ow ug ud mm gB gA gX gY gP gC gR gM gL = _ := (B_ch_ow ho hkn h4 h5 hwy rfl hq).trans (n_ch_ow_ASLa)
  rw [e_fa, e_fx, e_fy, e_fs, e_fp, e_fc, e_mem, e_ug, e_ud, e_lt, e_ct, e_hd, e_la, e_bt, g_gB, g_gA, g_gX, g_gY, g_gS, g_gP, g_gC, g_gR, g_gM, g_gL, g_un, g_ow]
  exact op_ASLa hm hB hA hX hY hS hP fC fu hf hw
set_option maxRecDepth 100000 in
theorem as_ROLa (hm : s_m mm fo) (hB : rm mm gB mem om) (hA : ra mm gA fa oa) (hX : ra mm gX fx ox) (hY : ra mm gY fy oy) (hS : ra mm gS fs os) (hP : rp mm gP fp op) (hC : rc mm gC fc oc) (hu : ru ug lt ct hd la bt gR gM gL) (hf : ∃ j : Nat, j < 64 ∧ ug = nI j) (hw : wB ud) (hj : j < 256) (hop : f_X1_read_r mm fo mem ug lt ct hd la bt fc = nI j) (hc : clsF j = 18) : SR mm oa ox oy os op oc om (f_X1_instruction_fa mm fo fa fx fy fs fp fc mem ug lt ct hd la bt kindsF waysF) (f_X1_instruction_fx mm fo fa fx fy fs fc mem ug lt ct hd la bt kindsF waysF) (f_X1_instruction_fy mm fo fa fx fy fc mem ug lt ct hd la bt kindsF waysF) (f_X1_instruction_fs mm fo fx fs fc mem ug lt ct hd la bt kindsF) (f_X1_instruction_fp mm fo fa fx fy fs fp fc mem ug lt ct hd la bt kindsF waysF) (f_X1_instruction_fc mm fo fx fy fs fp fc mem ug lt ct hd la bt kindsF waysF) (f_X1_instruction_mem mm fo fa fx fy fs fp fc mem ug lt ct hd la bt kindsF waysF) (f_X1_instruction_ug mm fo fa fx fy fp fc mem ug lt ct hd la bt kindsF waysF) (f_X1_instruction_ud mm fo fa fx fy fp fc mem ug ud lt ct hd la bt kindsF waysF) (f_X1_instruction_lt mm fo fa fx fy fp fc mem ug lt ct hd la bt kindsF waysF) (f_X1_instruction_ct mm fo fx fy fc mem ug lt ct hd la bt kindsF waysF) (f_X1_instruction_hd mm fo fx fy fc mem ug lt ct hd la bt kindsF waysF) (f_X1_instruction_la mm fo fx fy fc mem ug lt ct hd la bt kindsF waysF) (f_X1_instruction_bt mm fo fa fx fy fp fc mem ug lt ct hd la bt kindsF waysF) (b_gB ug mm gB gA gX gY gS gP gC gR gM gL) (b_gA ug mm gB gA gX gY gS gP gC gR gM gL) (b_gX ug mm gB gA gX gY gS gC gR gM gL) (b_gY ug mm gB gA gX gY gC gR gM gL) (b_gS ug mm gB gX gS gC gR gM gL) (b_gP ug mm gB gA gX gY gS gP gC gR gM gL) (b_gC ug mm gB gS gP gC gR gM gL) (b_gR ug mm gB gA gX gY gP gC gR gM gL) (b_gM ug mm gB gX gY gC gR gM gL) (b_gL ug mm gB gX gY gC gR gM gL) (b_un ug mm gB gA gX gY gP gC gR gM gL) (b_ow ug ud mm gB gA gX gY gP gC gR gM gL) := by
  have fe := sr_fetch hm hB hf hu hC
  obtain ⟨fv, fb, fu, fC⟩ := fe
  obtain rfl : j = 42 := (show ∀ j : Nat, j < 256 → clsF j = 18 → j = 42 by decide +kernel) j hj hc
  have ho : f_X5_fetch_r ug mm gB gC gR gM gL = (42 : Int32) := fv.trans hop
  have hkn : ¬ f_X5_isKnown_r (42 : Int32) = 0 := by decide +kernel
  have hk : kindsF 42 = 49 := by decide +kernel
  have hww : waysF 42 = 0 := by decide +kernel
  have h4 : ¬ (42 : Int32) - (42 : Int32) / 4 * 4 = 1 := by decide +kernel
  have h5 : (42 : Int32) - (42 : Int32) / 4 * 4 = 2 := by decide +kernel
  have hq : (42 : Int32) / 32 = 1 := by decide +kernel
  have hwy : f_X5_way_r (42 : Int32) = 10 := by decide +kernel
  have e_fa : f_X1_instruction_fa mm fo fa fx fy fs fp fc mem ug lt ct hd la bt kindsF waysF = _ := (L0_fa hop hj hk hww).trans (n_i_fa_ROLa)
  have e_fx : f_X1_instruction_fx mm fo fa fx fy fs fc mem ug lt ct hd la bt kindsF waysF = _ := (L0_fx hop hj hk hww).trans (n_i_fx_ROLa)
  have e_fy : f_X1_instruction_fy mm fo fa fx fy fc mem ug lt ct hd la bt kindsF waysF = _ := (L0_fy hop hj hk hww).trans (n_i_fy_ROLa)
  have e_fs : f_X1_instruction_fs mm fo fx fs fc mem ug lt ct hd la bt kindsF = _ := (L0_fs hop hj hk).trans (n_i_fs_ROLm)
  have e_fp : f_X1_instruction_fp mm fo fa fx fy fs fp fc mem ug lt ct hd la bt kindsF waysF = _ := (L0_fp hop hj hk hww).trans (n_i_fp_ROLa)
  have e_fc : f_X1_instruction_fc mm fo fx fy fs fp fc mem ug lt ct hd la bt kindsF waysF = _ := (L0_fc hop hj hk hww).trans (n_i_fc_ROLa)
  have e_mem : f_X1_instruction_mem mm fo fa fx fy fs fp fc mem ug lt ct hd la bt kindsF waysF = _ := (L0_mem hop hj hk hww).trans (n_i_mem_ROLa)
  have e_ug : f_X1_instruction_ug mm fo fa fx fy fp fc mem ug lt ct hd la bt kindsF waysF = _ := (L0_ug hop hj hk hww).trans (n_i_ug_ROLa)
  have e_ud : f_X1_instruction_ud mm fo fa fx fy fp fc mem ug ud lt ct hd la bt kindsF waysF = _ := (L0_ud hop hj hk hww).trans (n_i_ud_ROLa)
  have e_lt : f_X1_instruction_lt mm fo fa fx fy fp fc mem ug lt ct hd la bt kindsF waysF = _ := (L0_lt hop hj hk hww).trans (n_i_lt_ROLa)
  have e_ct : f_X1_instruction_ct mm fo fx fy fc mem ug lt ct hd la bt kindsF waysF = _ := (L0_ct hop hj hk hww).trans (n_i_ct_ROLa)
  have e_hd : f_X1_instruction_hd mm fo fx fy fc mem ug lt ct hd la bt kindsF waysF = _ := (L0_hd hop hj hk hww).trans (n_i_hd_ROLa)
  have e_la : f_X1_instruction_la mm fo fx fy fc mem ug lt ct hd la bt kindsF waysF = _ := (L0_la hop hj hk hww).trans (n_i_la_ROLa)
  have e_bt : f_X1_instruction_bt mm fo fa fx fy fp fc mem ug lt ct hd la bt kindsF waysF = _ := (L0_bt hop hj hk hww).trans (n_i_bt_ROLa)
  have g_gB : b_gB ug mm gB gA gX gY gS gP gC gR gM gL = _ := (B_ch_gB ho hkn h4 h5 hwy rfl hq).trans (n_ch_gB_ROLa)
  have g_gA : b_gA ug mm gB gA gX gY gS gP gC gR gM gL = _ := (B_ch_gA ho hkn h4 h5 hwy hq).trans (n_ch_gA_ROLa)
  have g_gX : b_gX ug mm gB gA gX gY gS gC gR gM gL = _ := (B_ch_gX ho hkn h4 h5 hwy rfl hq).trans (n_ch_gX_ROLa)
  have g_gY : b_gY ug mm gB gA gX gY gC gR gM gL = _ := (B_ch_gY ho hkn h4 h5 hwy).trans (n_ch_gY_ASLa)
  have g_gS : b_gS ug mm gB gX gS gC gR gM gL = _ := (B_ch_gS ho hkn h4 h5 hwy).trans (n_ch_gS_ASLa)
  have g_gP : b_gP ug mm gB gA gX gY gS gP gC gR gM gL = _ := (B_ch_gP ho hkn h4 h5 hwy rfl hq).trans (n_ch_gP_ROLa)
  have g_gC : b_gC ug mm gB gS gP gC gR gM gL = _ := (B_ch_gC ho hkn h4 h5 hwy).trans (n_ch_gC_ASLa)
  have g_gR : b_gR ug mm gB gA gX gY gP gC gR gM gL = _ := (B_ch_gR ho hkn h4 h5 hwy rfl hq).trans (n_ch_gR_ROLa)
  have g_gM : b_gM ug mm gB gX gY gC gR gM gL = _ := (B_ch_gM ho hkn h4 h5 hwy rfl hq).trans (n_ch_gM_ROLa)
  have g_gL : b_gL ug mm gB gX gY gC gR gM gL = _ := (B_ch_gL ho hkn h4 h5 hwy rfl hq).trans (n_ch_gL_ROLa)
  have g_un : b_un ug mm gB gA gX gY gP gC gR gM gL = _ := (B_ch_un ho hkn h4 h5 hwy rfl hq).trans (n_ch_un_ROLa)
  have g_ow : b_ow ug ud mm gB gA gX gY gP gC gR gM gL = _ := (B_ch_ow ho hkn h4 h5 hwy rfl hq).trans (n_ch_ow_ROLa)
  rw [e_fa, e_fx, e_fy, e_fs, e_fp, e_fc, e_mem, e_ug, e_ud, e_lt, e_ct, e_hd, e_la, e_bt, g_gB, g_gA, g_gX, g_gY, g_gS, g_gP, g_gC, g_gR, g_gM, g_gL, g_un, g_ow]
  exact op_ROLa hm hB hA hX hY hS hP fC fu hf hw
set_option maxRecDepth 100000 in
theorem as_LSRa (hm : s_m mm fo) (hB : rm mm gB mem om) (hA : ra mm gA fa oa) (hX : ra mm gX fx ox) (hY : ra mm gY fy oy) (hS : ra mm gS fs os) (hP : rp mm gP fp op) (hC : rc mm gC fc oc) (hu : ru ug lt ct hd la bt gR gM gL) (hf : ∃ j : Nat, j < 64 ∧ ug = nI j) (hw : wB ud) (hj : j < 256) (hop : f_X1_read_r mm fo mem ug lt ct hd la bt fc = nI j) (hc : clsF j = 19) : SR mm oa ox oy os op oc om (f_X1_instruction_fa mm fo fa fx fy fs fp fc mem ug lt ct hd la bt kindsF waysF) (f_X1_instruction_fx mm fo fa fx fy fs fc mem ug lt ct hd la bt kindsF waysF) (f_X1_instruction_fy mm fo fa fx fy fc mem ug lt ct hd la bt kindsF waysF) (f_X1_instruction_fs mm fo fx fs fc mem ug lt ct hd la bt kindsF) (f_X1_instruction_fp mm fo fa fx fy fs fp fc mem ug lt ct hd la bt kindsF waysF) (f_X1_instruction_fc mm fo fx fy fs fp fc mem ug lt ct hd la bt kindsF waysF) (f_X1_instruction_mem mm fo fa fx fy fs fp fc mem ug lt ct hd la bt kindsF waysF) (f_X1_instruction_ug mm fo fa fx fy fp fc mem ug lt ct hd la bt kindsF waysF) (f_X1_instruction_ud mm fo fa fx fy fp fc mem ug ud lt ct hd la bt kindsF waysF) (f_X1_instruction_lt mm fo fa fx fy fp fc mem ug lt ct hd la bt kindsF waysF) (f_X1_instruction_ct mm fo fx fy fc mem ug lt ct hd la bt kindsF waysF) (f_X1_instruction_hd mm fo fx fy fc mem ug lt ct hd la bt kindsF waysF) (f_X1_instruction_la mm fo fx fy fc mem ug lt ct hd la bt kindsF waysF) (f_X1_instruction_bt mm fo fa fx fy fp fc mem ug lt ct hd la bt kindsF waysF) (b_gB ug mm gB gA gX gY gS gP gC gR gM gL) (b_gA ug mm gB gA gX gY gS gP gC gR gM gL) (b_gX ug mm gB gA gX gY gS gC gR gM gL) (b_gY ug mm gB gA gX gY gC gR gM gL) (b_gS ug mm gB gX gS gC gR gM gL) (b_gP ug mm gB gA gX gY gS gP gC gR gM gL) (b_gC ug mm gB gS gP gC gR gM gL) (b_gR ug mm gB gA gX gY gP gC gR gM gL) (b_gM ug mm gB gX gY gC gR gM gL) (b_gL ug mm gB gX gY gC gR gM gL) (b_un ug mm gB gA gX gY gP gC gR gM gL) (b_ow ug ud mm gB gA gX gY gP gC gR gM gL) := by
  have fe := sr_fetch hm hB hf hu hC
  obtain ⟨fv, fb, fu, fC⟩ := fe
  obtain rfl : j = 74 := (show ∀ j : Nat, j < 256 → clsF j = 19 → j = 74 by decide +kernel) j hj hc
  have ho : f_X5_fetch_r ug mm gB gC gR gM gL = (74 : Int32) := fv.trans hop
  have hkn : ¬ f_X5_isKnown_r (74 : Int32) = 0 := by decide +kernel
  have hk : kindsF 74 = 50 := by decide +kernel
  have hww : waysF 74 = 0 := by decide +kernel
  have h4 : ¬ (74 : Int32) - (74 : Int32) / 4 * 4 = 1 := by decide +kernel
  have h5 : (74 : Int32) - (74 : Int32) / 4 * 4 = 2 := by decide +kernel
  have hq : (74 : Int32) / 32 = 2 := by decide +kernel
  have hwy : f_X5_way_r (74 : Int32) = 10 := by decide +kernel
  have e_fa : f_X1_instruction_fa mm fo fa fx fy fs fp fc mem ug lt ct hd la bt kindsF waysF = _ := (L0_fa hop hj hk hww).trans (n_i_fa_LSRa)
  have e_fx : f_X1_instruction_fx mm fo fa fx fy fs fc mem ug lt ct hd la bt kindsF waysF = _ := (L0_fx hop hj hk hww).trans (n_i_fx_LSRa)
  have e_fy : f_X1_instruction_fy mm fo fa fx fy fc mem ug lt ct hd la bt kindsF waysF = _ := (L0_fy hop hj hk hww).trans (n_i_fy_LSRa)
  have e_fs : f_X1_instruction_fs mm fo fx fs fc mem ug lt ct hd la bt kindsF = _ := (L0_fs hop hj hk).trans (n_i_fs_LSRm)
  have e_fp : f_X1_instruction_fp mm fo fa fx fy fs fp fc mem ug lt ct hd la bt kindsF waysF = _ := (L0_fp hop hj hk hww).trans (n_i_fp_LSRa)
  have e_fc : f_X1_instruction_fc mm fo fx fy fs fp fc mem ug lt ct hd la bt kindsF waysF = _ := (L0_fc hop hj hk hww).trans (n_i_fc_LSRa)
  have e_mem : f_X1_instruction_mem mm fo fa fx fy fs fp fc mem ug lt ct hd la bt kindsF waysF = _ := (L0_mem hop hj hk hww).trans (n_i_mem_LSRa)
  have e_ug : f_X1_instruction_ug mm fo fa fx fy fp fc mem ug lt ct hd la bt kindsF waysF = _ := (L0_ug hop hj hk hww).trans (n_i_ug_LSRa)
  have e_ud : f_X1_instruction_ud mm fo fa fx fy fp fc mem ug ud lt ct hd la bt kindsF waysF = _ := (L0_ud hop hj hk hww).trans (n_i_ud_LSRa)
  have e_lt : f_X1_instruction_lt mm fo fa fx fy fp fc mem ug lt ct hd la bt kindsF waysF = _ := (L0_lt hop hj hk hww).trans (n_i_lt_LSRa)
  have e_ct : f_X1_instruction_ct mm fo fx fy fc mem ug lt ct hd la bt kindsF waysF = _ := (L0_ct hop hj hk hww).trans (n_i_ct_LSRa)
  have e_hd : f_X1_instruction_hd mm fo fx fy fc mem ug lt ct hd la bt kindsF waysF = _ := (L0_hd hop hj hk hww).trans (n_i_hd_LSRa)
  have e_la : f_X1_instruction_la mm fo fx fy fc mem ug lt ct hd la bt kindsF waysF = _ := (L0_la hop hj hk hww).trans (n_i_la_LSRa)
  have e_bt : f_X1_instruction_bt mm fo fa fx fy fp fc mem ug lt ct hd la bt kindsF waysF = _ := (L0_bt hop hj hk hww).trans (n_i_bt_LSRa)
  have g_gB : b_gB ug mm gB gA gX gY gS gP gC gR gM gL = _ := (B_ch_gB ho hkn h4 h5 hwy rfl hq).trans (n_ch_gB_LSRa)
  have g_gA : b_gA ug mm gB gA gX gY gS gP gC gR gM gL = _ := (B_ch_gA ho hkn h4 h5 hwy hq).trans (n_ch_gA_LSRa)
  have g_gX : b_gX ug mm gB gA gX gY gS gC gR gM gL = _ := (B_ch_gX ho hkn h4 h5 hwy rfl hq).trans (n_ch_gX_LSRa)
  have g_gY : b_gY ug mm gB gA gX gY gC gR gM gL = _ := (B_ch_gY ho hkn h4 h5 hwy).trans (n_ch_gY_ASLa)
  have g_gS : b_gS ug mm gB gX gS gC gR gM gL = _ := (B_ch_gS ho hkn h4 h5 hwy).trans (n_ch_gS_ASLa)
  have g_gP : b_gP ug mm gB gA gX gY gS gP gC gR gM gL = _ := (B_ch_gP ho hkn h4 h5 hwy rfl hq).trans (n_ch_gP_LSRa)
  have g_gC : b_gC ug mm gB gS gP gC gR gM gL = _ := (B_ch_gC ho hkn h4 h5 hwy).trans (n_ch_gC_ASLa)
  have g_gR : b_gR ug mm gB gA gX gY gP gC gR gM gL = _ := (B_ch_gR ho hkn h4 h5 hwy rfl hq).trans (n_ch_gR_LSRa)
  have g_gM : b_gM ug mm gB gX gY gC gR gM gL = _ := (B_ch_gM ho hkn h4 h5 hwy rfl hq).trans (n_ch_gM_LSRa)
  have g_gL : b_gL ug mm gB gX gY gC gR gM gL = _ := (B_ch_gL ho hkn h4 h5 hwy rfl hq).trans (n_ch_gL_LSRa)
  have g_un : b_un ug mm gB gA gX gY gP gC gR gM gL = _ := (B_ch_un ho hkn h4 h5 hwy rfl hq).trans (n_ch_un_LSRa)
  have g_ow : b_ow ug ud mm gB gA gX gY gP gC gR gM gL = _ := (B_ch_ow ho hkn h4 h5 hwy rfl hq).trans (n_ch_ow_LSRa)
  rw [e_fa, e_fx, e_fy, e_fs, e_fp, e_fc, e_mem, e_ug, e_ud, e_lt, e_ct, e_hd, e_la, e_bt, g_gB, g_gA, g_gX, g_gY, g_gS, g_gP, g_gC, g_gR, g_gM, g_gL, g_un, g_ow]
  exact op_LSRa hm hB hA hX hY hS hP fC fu hf hw
set_option maxRecDepth 100000 in
theorem as_RORa (hm : s_m mm fo) (hB : rm mm gB mem om) (hA : ra mm gA fa oa) (hX : ra mm gX fx ox) (hY : ra mm gY fy oy) (hS : ra mm gS fs os) (hP : rp mm gP fp op) (hC : rc mm gC fc oc) (hu : ru ug lt ct hd la bt gR gM gL) (hf : ∃ j : Nat, j < 64 ∧ ug = nI j) (hw : wB ud) (hj : j < 256) (hop : f_X1_read_r mm fo mem ug lt ct hd la bt fc = nI j) (hc : clsF j = 20) : SR mm oa ox oy os op oc om (f_X1_instruction_fa mm fo fa fx fy fs fp fc mem ug lt ct hd la bt kindsF waysF) (f_X1_instruction_fx mm fo fa fx fy fs fc mem ug lt ct hd la bt kindsF waysF) (f_X1_instruction_fy mm fo fa fx fy fc mem ug lt ct hd la bt kindsF waysF) (f_X1_instruction_fs mm fo fx fs fc mem ug lt ct hd la bt kindsF) (f_X1_instruction_fp mm fo fa fx fy fs fp fc mem ug lt ct hd la bt kindsF waysF) (f_X1_instruction_fc mm fo fx fy fs fp fc mem ug lt ct hd la bt kindsF waysF) (f_X1_instruction_mem mm fo fa fx fy fs fp fc mem ug lt ct hd la bt kindsF waysF) (f_X1_instruction_ug mm fo fa fx fy fp fc mem ug lt ct hd la bt kindsF waysF) (f_X1_instruction_ud mm fo fa fx fy fp fc mem ug ud lt ct hd la bt kindsF waysF) (f_X1_instruction_lt mm fo fa fx fy fp fc mem ug lt ct hd la bt kindsF waysF) (f_X1_instruction_ct mm fo fx fy fc mem ug lt ct hd la bt kindsF waysF) (f_X1_instruction_hd mm fo fx fy fc mem ug lt ct hd la bt kindsF waysF) (f_X1_instruction_la mm fo fx fy fc mem ug lt ct hd la bt kindsF waysF) (f_X1_instruction_bt mm fo fa fx fy fp fc mem ug lt ct hd la bt kindsF waysF) (b_gB ug mm gB gA gX gY gS gP gC gR gM gL) (b_gA ug mm gB gA gX gY gS gP gC gR gM gL) (b_gX ug mm gB gA gX gY gS gC gR gM gL) (b_gY ug mm gB gA gX gY gC gR gM gL) (b_gS ug mm gB gX gS gC gR gM gL) (b_gP ug mm gB gA gX gY gS gP gC gR gM gL) (b_gC ug mm gB gS gP gC gR gM gL) (b_gR ug mm gB gA gX gY gP gC gR gM gL) (b_gM ug mm gB gX gY gC gR gM gL) (b_gL ug mm gB gX gY gC gR gM gL) (b_un ug mm gB gA gX gY gP gC gR gM gL) (b_ow ug ud mm gB gA gX gY gP gC gR gM gL) := by
  have fe := sr_fetch hm hB hf hu hC
  obtain ⟨fv, fb, fu, fC⟩ := fe
  obtain rfl : j = 106 := (show ∀ j : Nat, j < 256 → clsF j = 20 → j = 106 by decide +kernel) j hj hc
  have ho : f_X5_fetch_r ug mm gB gC gR gM gL = (106 : Int32) := fv.trans hop
  have hkn : ¬ f_X5_isKnown_r (106 : Int32) = 0 := by decide +kernel
  have hk : kindsF 106 = 51 := by decide +kernel
  have hww : waysF 106 = 0 := by decide +kernel
  have h4 : ¬ (106 : Int32) - (106 : Int32) / 4 * 4 = 1 := by decide +kernel
  have h5 : (106 : Int32) - (106 : Int32) / 4 * 4 = 2 := by decide +kernel
  have hq : (106 : Int32) / 32 = 3 := by decide +kernel
  have hwy : f_X5_way_r (106 : Int32) = 10 := by decide +kernel
  have e_fa : f_X1_instruction_fa mm fo fa fx fy fs fp fc mem ug lt ct hd la bt kindsF waysF = _ := (L0_fa hop hj hk hww).trans (n_i_fa_RORa)
  have e_fx : f_X1_instruction_fx mm fo fa fx fy fs fc mem ug lt ct hd la bt kindsF waysF = _ := (L0_fx hop hj hk hww).trans (n_i_fx_RORa)
  have e_fy : f_X1_instruction_fy mm fo fa fx fy fc mem ug lt ct hd la bt kindsF waysF = _ := (L0_fy hop hj hk hww).trans (n_i_fy_RORa)
  have e_fs : f_X1_instruction_fs mm fo fx fs fc mem ug lt ct hd la bt kindsF = _ := (L0_fs hop hj hk).trans (n_i_fs_RORm)
  have e_fp : f_X1_instruction_fp mm fo fa fx fy fs fp fc mem ug lt ct hd la bt kindsF waysF = _ := (L0_fp hop hj hk hww).trans (n_i_fp_RORa)
  have e_fc : f_X1_instruction_fc mm fo fx fy fs fp fc mem ug lt ct hd la bt kindsF waysF = _ := (L0_fc hop hj hk hww).trans (n_i_fc_RORa)
  have e_mem : f_X1_instruction_mem mm fo fa fx fy fs fp fc mem ug lt ct hd la bt kindsF waysF = _ := (L0_mem hop hj hk hww).trans (n_i_mem_RORa)
  have e_ug : f_X1_instruction_ug mm fo fa fx fy fp fc mem ug lt ct hd la bt kindsF waysF = _ := (L0_ug hop hj hk hww).trans (n_i_ug_RORa)
  have e_ud : f_X1_instruction_ud mm fo fa fx fy fp fc mem ug ud lt ct hd la bt kindsF waysF = _ := (L0_ud hop hj hk hww).trans (n_i_ud_RORa)
  have e_lt : f_X1_instruction_lt mm fo fa fx fy fp fc mem ug lt ct hd la bt kindsF waysF = _ := (L0_lt hop hj hk hww).trans (n_i_lt_RORa)
  have e_ct : f_X1_instruction_ct mm fo fx fy fc mem ug lt ct hd la bt kindsF waysF = _ := (L0_ct hop hj hk hww).trans (n_i_ct_RORa)
  have e_hd : f_X1_instruction_hd mm fo fx fy fc mem ug lt ct hd la bt kindsF waysF = _ := (L0_hd hop hj hk hww).trans (n_i_hd_RORa)
  have e_la : f_X1_instruction_la mm fo fx fy fc mem ug lt ct hd la bt kindsF waysF = _ := (L0_la hop hj hk hww).trans (n_i_la_RORa)
  have e_bt : f_X1_instruction_bt mm fo fa fx fy fp fc mem ug lt ct hd la bt kindsF waysF = _ := (L0_bt hop hj hk hww).trans (n_i_bt_RORa)
  have g_gB : b_gB ug mm gB gA gX gY gS gP gC gR gM gL = _ := (B_ch_gB ho hkn h4 h5 hwy rfl hq).trans (n_ch_gB_RORa)
  have g_gA : b_gA ug mm gB gA gX gY gS gP gC gR gM gL = _ := (B_ch_gA ho hkn h4 h5 hwy hq).trans (n_ch_gA_RORa)
  have g_gX : b_gX ug mm gB gA gX gY gS gC gR gM gL = _ := (B_ch_gX ho hkn h4 h5 hwy rfl hq).trans (n_ch_gX_RORa)
  have g_gY : b_gY ug mm gB gA gX gY gC gR gM gL = _ := (B_ch_gY ho hkn h4 h5 hwy).trans (n_ch_gY_ASLa)
  have g_gS : b_gS ug mm gB gX gS gC gR gM gL = _ := (B_ch_gS ho hkn h4 h5 hwy).trans (n_ch_gS_ASLa)
  have g_gP : b_gP ug mm gB gA gX gY gS gP gC gR gM gL = _ := (B_ch_gP ho hkn h4 h5 hwy rfl hq).trans (n_ch_gP_RORa)
  have g_gC : b_gC ug mm gB gS gP gC gR gM gL = _ := (B_ch_gC ho hkn h4 h5 hwy).trans (n_ch_gC_ASLa)
  have g_gR : b_gR ug mm gB gA gX gY gP gC gR gM gL = _ := (B_ch_gR ho hkn h4 h5 hwy rfl hq).trans (n_ch_gR_RORa)
  have g_gM : b_gM ug mm gB gX gY gC gR gM gL = _ := (B_ch_gM ho hkn h4 h5 hwy rfl hq).trans (n_ch_gM_RORa)
  have g_gL : b_gL ug mm gB gX gY gC gR gM gL = _ := (B_ch_gL ho hkn h4 h5 hwy rfl hq).trans (n_ch_gL_RORa)
  have g_un : b_un ug mm gB gA gX gY gP gC gR gM gL = _ := (B_ch_un ho hkn h4 h5 hwy rfl hq).trans (n_ch_un_RORa)
  have g_ow : b_ow ug ud mm gB gA gX gY gP gC gR gM gL = _ := (B_ch_ow ho hkn h4 h5 hwy rfl hq).trans (n_ch_ow_RORa)
  rw [e_fa, e_fx, e_fy, e_fs, e_fp, e_fc, e_mem, e_ug, e_ud, e_lt, e_ct, e_hd, e_la, e_bt, g_gB, g_gA, g_gX, g_gY, g_gS, g_gP, g_gC, g_gR, g_gM, g_gL, g_un, g_ow]
  exact op_RORa hm hB hA hX hY hS hP fC fu hf hw
set_option maxRecDepth 100000 in
theorem as_TXA (hm : s_m mm fo) (hB : rm mm gB mem om) (hA : ra mm gA fa oa) (hX : ra mm gX fx ox) (hY : ra mm gY fy oy) (hS : ra mm gS fs os) (hP : rp mm gP fp op) (hC : rc mm gC fc oc) (hu : ru ug lt ct hd la bt gR gM gL) (hf : ∃ j : Nat, j < 64 ∧ ug = nI j) (hw : wB ud) (hj : j < 256) (hop : f_X1_read_r mm fo mem ug lt ct hd la bt fc = nI j) (hc : clsF j = 21) : SR mm oa ox oy os op oc om (f_X1_instruction_fa mm fo fa fx fy fs fp fc mem ug lt ct hd la bt kindsF waysF) (f_X1_instruction_fx mm fo fa fx fy fs fc mem ug lt ct hd la bt kindsF waysF) (f_X1_instruction_fy mm fo fa fx fy fc mem ug lt ct hd la bt kindsF waysF) (f_X1_instruction_fs mm fo fx fs fc mem ug lt ct hd la bt kindsF) (f_X1_instruction_fp mm fo fa fx fy fs fp fc mem ug lt ct hd la bt kindsF waysF) (f_X1_instruction_fc mm fo fx fy fs fp fc mem ug lt ct hd la bt kindsF waysF) (f_X1_instruction_mem mm fo fa fx fy fs fp fc mem ug lt ct hd la bt kindsF waysF) (f_X1_instruction_ug mm fo fa fx fy fp fc mem ug lt ct hd la bt kindsF waysF) (f_X1_instruction_ud mm fo fa fx fy fp fc mem ug ud lt ct hd la bt kindsF waysF) (f_X1_instruction_lt mm fo fa fx fy fp fc mem ug lt ct hd la bt kindsF waysF) (f_X1_instruction_ct mm fo fx fy fc mem ug lt ct hd la bt kindsF waysF) (f_X1_instruction_hd mm fo fx fy fc mem ug lt ct hd la bt kindsF waysF) (f_X1_instruction_la mm fo fx fy fc mem ug lt ct hd la bt kindsF waysF) (f_X1_instruction_bt mm fo fa fx fy fp fc mem ug lt ct hd la bt kindsF waysF) (b_gB ug mm gB gA gX gY gS gP gC gR gM gL) (b_gA ug mm gB gA gX gY gS gP gC gR gM gL) (b_gX ug mm gB gA gX gY gS gC gR gM gL) (b_gY ug mm gB gA gX gY gC gR gM gL) (b_gS ug mm gB gX gS gC gR gM gL) (b_gP ug mm gB gA gX gY gS gP gC gR gM gL) (b_gC ug mm gB gS gP gC gR gM gL) (b_gR ug mm gB gA gX gY gP gC gR gM gL) (b_gM ug mm gB gX gY gC gR gM gL) (b_gL ug mm gB gX gY gC gR gM gL) (b_un ug mm gB gA gX gY gP gC gR gM gL) (b_ow ug ud mm gB gA gX gY gP gC gR gM gL) := by
  have fe := sr_fetch hm hB hf hu hC
  obtain ⟨fv, fb, fu, fC⟩ := fe
  obtain rfl : j = 138 := (show ∀ j : Nat, j < 256 → clsF j = 21 → j = 138 by decide +kernel) j hj hc
  have ho : f_X5_fetch_r ug mm gB gC gR gM gL = (138 : Int32) := fv.trans hop
  have hkn : ¬ f_X5_isKnown_r (138 : Int32) = 0 := by decide +kernel
  have hk : kindsF 138 = 66 := by decide +kernel
  have hww : waysF 138 = 0 := by decide +kernel
  have h4 : ¬ (138 : Int32) - (138 : Int32) / 4 * 4 = 1 := by decide +kernel
  have h5 : (138 : Int32) - (138 : Int32) / 4 * 4 = 2 := by decide +kernel
  have hq : (138 : Int32) / 32 = 4 := by decide +kernel
  have hwy : f_X5_way_r (138 : Int32) = 0 := by decide +kernel
  have e_fa : f_X1_instruction_fa mm fo fa fx fy fs fp fc mem ug lt ct hd la bt kindsF waysF = _ := (L0_fa hop hj hk hww).trans (n_i_fa_TXA)
  have e_fx : f_X1_instruction_fx mm fo fa fx fy fs fc mem ug lt ct hd la bt kindsF waysF = _ := (L0_fx hop hj hk hww).trans (n_i_fx_TXA)
  have e_fy : f_X1_instruction_fy mm fo fa fx fy fc mem ug lt ct hd la bt kindsF waysF = _ := (L0_fy hop hj hk hww).trans (n_i_fy_TXA)
  have e_fs : f_X1_instruction_fs mm fo fx fs fc mem ug lt ct hd la bt kindsF = _ := (L0_fs hop hj hk).trans (n_i_fs_TXA)
  have e_fp : f_X1_instruction_fp mm fo fa fx fy fs fp fc mem ug lt ct hd la bt kindsF waysF = _ := (L0_fp hop hj hk hww).trans (n_i_fp_TXA)
  have e_fc : f_X1_instruction_fc mm fo fx fy fs fp fc mem ug lt ct hd la bt kindsF waysF = _ := (L0_fc hop hj hk hww).trans (n_i_fc_TXA)
  have e_mem : f_X1_instruction_mem mm fo fa fx fy fs fp fc mem ug lt ct hd la bt kindsF waysF = _ := (L0_mem hop hj hk hww).trans (n_i_mem_TXA)
  have e_ug : f_X1_instruction_ug mm fo fa fx fy fp fc mem ug lt ct hd la bt kindsF waysF = _ := (L0_ug hop hj hk hww).trans (n_i_ug_TXA)
  have e_ud : f_X1_instruction_ud mm fo fa fx fy fp fc mem ug ud lt ct hd la bt kindsF waysF = _ := (L0_ud hop hj hk hww).trans (n_i_ud_TXA)
  have e_lt : f_X1_instruction_lt mm fo fa fx fy fp fc mem ug lt ct hd la bt kindsF waysF = _ := (L0_lt hop hj hk hww).trans (n_i_lt_TXA)
  have e_ct : f_X1_instruction_ct mm fo fx fy fc mem ug lt ct hd la bt kindsF waysF = _ := (L0_ct hop hj hk hww).trans (n_i_ct_TXA)
  have e_hd : f_X1_instruction_hd mm fo fx fy fc mem ug lt ct hd la bt kindsF waysF = _ := (L0_hd hop hj hk hww).trans (n_i_hd_TXA)
  have e_la : f_X1_instruction_la mm fo fx fy fc mem ug lt ct hd la bt kindsF waysF = _ := (L0_la hop hj hk hww).trans (n_i_la_TXA)
  have e_bt : f_X1_instruction_bt mm fo fa fx fy fp fc mem ug lt ct hd la bt kindsF waysF = _ := (L0_bt hop hj hk hww).trans (n_i_bt_TXA)
  have g_gB : b_gB ug mm gB gA gX gY gS gP gC gR gM gL = _ := (B_ch_gB ho hkn h4 h5 hwy rfl hq).trans (n_ch_gB_TXA)
  have g_gA : b_gA ug mm gB gA gX gY gS gP gC gR gM gL = _ := (B_ch_gA ho hkn h4 h5 hwy hq).trans (n_ch_gA_TXA)
  have g_gX : b_gX ug mm gB gA gX gY gS gC gR gM gL = _ := (B_ch_gX ho hkn h4 h5 hwy rfl hq).trans (n_ch_gX_TXA)
  have g_gY : b_gY ug mm gB gA gX gY gC gR gM gL = _ := (B_ch_gY ho hkn h4 h5 hwy).trans (n_ch_gY_TXA)
  have g_gS : b_gS ug mm gB gX gS gC gR gM gL = _ := (B_ch_gS ho hkn h4 h5 hwy).trans (n_ch_gS_TXA)
  have g_gP : b_gP ug mm gB gA gX gY gS gP gC gR gM gL = _ := (B_ch_gP ho hkn h4 h5 hwy rfl hq).trans (n_ch_gP_TXA)
  have g_gC : b_gC ug mm gB gS gP gC gR gM gL = _ := (B_ch_gC ho hkn h4 h5 hwy).trans (n_ch_gC_TXA)
  have g_gR : b_gR ug mm gB gA gX gY gP gC gR gM gL = _ := (B_ch_gR ho hkn h4 h5 hwy rfl hq).trans (n_ch_gR_TXA)
  have g_gM : b_gM ug mm gB gX gY gC gR gM gL = _ := (B_ch_gM ho hkn h4 h5 hwy rfl hq).trans (n_ch_gM_TXA)
  have g_gL : b_gL ug mm gB gX gY gC gR gM gL = _ := (B_ch_gL ho hkn h4 h5 hwy rfl hq).trans (n_ch_gL_TXA)
  have g_un : b_un ug mm gB gA gX gY gP gC gR gM gL = _ := (B_ch_un ho hkn h4 h5 hwy rfl hq).trans (n_ch_un_TXA)
  have g_ow : b_ow ug ud mm gB gA gX gY gP gC gR gM gL = _ := (B_ch_ow ho hkn h4 h5 hwy rfl hq).trans (n_ch_ow_TXA)
  rw [e_fa, e_fx, e_fy, e_fs, e_fp, e_fc, e_mem, e_ug, e_ud, e_lt, e_ct, e_hd, e_la, e_bt, g_gB, g_gA, g_gX, g_gY, g_gS, g_gP, g_gC, g_gR, g_gM, g_gL, g_un, g_ow]
  exact op_TXA hm hB hA hX hY hS hP fC fu hf hw
set_option maxRecDepth 100000 in
theorem as_TXS (hm : s_m mm fo) (hB : rm mm gB mem om) (hA : ra mm gA fa oa) (hX : ra mm gX fx ox) (hY : ra mm gY fy oy) (hS : ra mm gS fs os) (hP : rp mm gP fp op) (hC : rc mm gC fc oc) (hu : ru ug lt ct hd la bt gR gM gL) (hf : ∃ j : Nat, j < 64 ∧ ug = nI j) (hw : wB ud) (hj : j < 256) (hop : f_X1_read_r mm fo mem ug lt ct hd la bt fc = nI j) (hc : clsF j = 22) : SR mm oa ox oy os op oc om (f_X1_instruction_fa mm fo fa fx fy fs fp fc mem ug lt ct hd la bt kindsF waysF) (f_X1_instruction_fx mm fo fa fx fy fs fc mem ug lt ct hd la bt kindsF waysF) (f_X1_instruction_fy mm fo fa fx fy fc mem ug lt ct hd la bt kindsF waysF) (f_X1_instruction_fs mm fo fx fs fc mem ug lt ct hd la bt kindsF) (f_X1_instruction_fp mm fo fa fx fy fs fp fc mem ug lt ct hd la bt kindsF waysF) (f_X1_instruction_fc mm fo fx fy fs fp fc mem ug lt ct hd la bt kindsF waysF) (f_X1_instruction_mem mm fo fa fx fy fs fp fc mem ug lt ct hd la bt kindsF waysF) (f_X1_instruction_ug mm fo fa fx fy fp fc mem ug lt ct hd la bt kindsF waysF) (f_X1_instruction_ud mm fo fa fx fy fp fc mem ug ud lt ct hd la bt kindsF waysF) (f_X1_instruction_lt mm fo fa fx fy fp fc mem ug lt ct hd la bt kindsF waysF) (f_X1_instruction_ct mm fo fx fy fc mem ug lt ct hd la bt kindsF waysF) (f_X1_instruction_hd mm fo fx fy fc mem ug lt ct hd la bt kindsF waysF) (f_X1_instruction_la mm fo fx fy fc mem ug lt ct hd la bt kindsF waysF) (f_X1_instruction_bt mm fo fa fx fy fp fc mem ug lt ct hd la bt kindsF waysF) (b_gB ug mm gB gA gX gY gS gP gC gR gM gL) (b_gA ug mm gB gA gX gY gS gP gC gR gM gL) (b_gX ug mm gB gA gX gY gS gC gR gM gL) (b_gY ug mm gB gA gX gY gC gR gM gL) (b_gS ug mm gB gX gS gC gR gM gL) (b_gP ug mm gB gA gX gY gS gP gC gR gM gL) (b_gC ug mm gB gS gP gC gR gM gL) (b_gR ug mm gB gA gX gY gP gC gR gM gL) (b_gM ug mm gB gX gY gC gR gM gL) (b_gL ug mm gB gX gY gC gR gM gL) (b_un ug mm gB gA gX gY gP gC gR gM gL) (b_ow ug ud mm gB gA gX gY gP gC gR gM gL) := by
  have fe := sr_fetch hm hB hf hu hC
  obtain ⟨fv, fb, fu, fC⟩ := fe
  obtain rfl : j = 154 := (show ∀ j : Nat, j < 256 → clsF j = 22 → j = 154 by decide +kernel) j hj hc
  have ho : f_X5_fetch_r ug mm gB gC gR gM gL = (154 : Int32) := fv.trans hop
  have hkn : ¬ f_X5_isKnown_r (154 : Int32) = 0 := by decide +kernel
  have hk : kindsF 154 = 69 := by decide +kernel
  have hww : waysF 154 = 0 := by decide +kernel
  have h4 : ¬ (154 : Int32) - (154 : Int32) / 4 * 4 = 1 := by decide +kernel
  have h5 : (154 : Int32) - (154 : Int32) / 4 * 4 = 2 := by decide +kernel
  have hq : (154 : Int32) / 32 = 4 := by decide +kernel
  have hwy : f_X5_way_r (154 : Int32) = 0 := by decide +kernel
  have e_fa : f_X1_instruction_fa mm fo fa fx fy fs fp fc mem ug lt ct hd la bt kindsF waysF = _ := (L0_fa hop hj hk hww).trans (n_i_fa_TXS)
  have e_fx : f_X1_instruction_fx mm fo fa fx fy fs fc mem ug lt ct hd la bt kindsF waysF = _ := (L0_fx hop hj hk hww).trans (n_i_fx_TXS)
  have e_fy : f_X1_instruction_fy mm fo fa fx fy fc mem ug lt ct hd la bt kindsF waysF = _ := (L0_fy hop hj hk hww).trans (n_i_fy_TXS)
  have e_fs : f_X1_instruction_fs mm fo fx fs fc mem ug lt ct hd la bt kindsF = _ := (L0_fs hop hj hk).trans (n_i_fs_TXS)
  have e_fp : f_X1_instruction_fp mm fo fa fx fy fs fp fc mem ug lt ct hd la bt kindsF waysF = _ := (L0_fp hop hj hk hww).trans (n_i_fp_TXS)
  have e_fc : f_X1_instruction_fc mm fo fx fy fs fp fc mem ug lt ct hd la bt kindsF waysF = _ := (L0_fc hop hj hk hww).trans (n_i_fc_TXS)
  have e_mem : f_X1_instruction_mem mm fo fa fx fy fs fp fc mem ug lt ct hd la bt kindsF waysF = _ := (L0_mem hop hj hk hww).trans (n_i_mem_TXS)
  have e_ug : f_X1_instruction_ug mm fo fa fx fy fp fc mem ug lt ct hd la bt kindsF waysF = _ := (L0_ug hop hj hk hww).trans (n_i_ug_TXS)
  have e_ud : f_X1_instruction_ud mm fo fa fx fy fp fc mem ug ud lt ct hd la bt kindsF waysF = _ := (L0_ud hop hj hk hww).trans (n_i_ud_TXS)
  have e_lt : f_X1_instruction_lt mm fo fa fx fy fp fc mem ug lt ct hd la bt kindsF waysF = _ := (L0_lt hop hj hk hww).trans (n_i_lt_TXS)
  have e_ct : f_X1_instruction_ct mm fo fx fy fc mem ug lt ct hd la bt kindsF waysF = _ := (L0_ct hop hj hk hww).trans (n_i_ct_TXS)
  have e_hd : f_X1_instruction_hd mm fo fx fy fc mem ug lt ct hd la bt kindsF waysF = _ := (L0_hd hop hj hk hww).trans (n_i_hd_TXS)
  have e_la : f_X1_instruction_la mm fo fx fy fc mem ug lt ct hd la bt kindsF waysF = _ := (L0_la hop hj hk hww).trans (n_i_la_TXS)
  have e_bt : f_X1_instruction_bt mm fo fa fx fy fp fc mem ug lt ct hd la bt kindsF waysF = _ := (L0_bt hop hj hk hww).trans (n_i_bt_TXS)
  have g_gB : b_gB ug mm gB gA gX gY gS gP gC gR gM gL = _ := (B_ch_gB ho hkn h4 h5 hwy rfl hq).trans (n_ch_gB_TXS)
  have g_gA : b_gA ug mm gB gA gX gY gS gP gC gR gM gL = _ := (B_ch_gA ho hkn h4 h5 hwy hq).trans (n_ch_gA_TXS)
  have g_gX : b_gX ug mm gB gA gX gY gS gC gR gM gL = _ := (B_ch_gX ho hkn h4 h5 hwy rfl hq).trans (n_ch_gX_TXS)
  have g_gY : b_gY ug mm gB gA gX gY gC gR gM gL = _ := (B_ch_gY ho hkn h4 h5 hwy).trans (n_ch_gY_TXS)
  have g_gS : b_gS ug mm gB gX gS gC gR gM gL = _ := (B_ch_gS ho hkn h4 h5 hwy).trans (n_ch_gS_TXS)
  have g_gP : b_gP ug mm gB gA gX gY gS gP gC gR gM gL = _ := (B_ch_gP ho hkn h4 h5 hwy rfl hq).trans (n_ch_gP_TXS)
  have g_gC : b_gC ug mm gB gS gP gC gR gM gL = _ := (B_ch_gC ho hkn h4 h5 hwy).trans (n_ch_gC_TXA)
  have g_gR : b_gR ug mm gB gA gX gY gP gC gR gM gL = _ := (B_ch_gR ho hkn h4 h5 hwy rfl hq).trans (n_ch_gR_TXA)
  have g_gM : b_gM ug mm gB gX gY gC gR gM gL = _ := (B_ch_gM ho hkn h4 h5 hwy rfl hq).trans (n_ch_gM_TXA)
  have g_gL : b_gL ug mm gB gX gY gC gR gM gL = _ := (B_ch_gL ho hkn h4 h5 hwy rfl hq).trans (n_ch_gL_TXA)
  have g_un : b_un ug mm gB gA gX gY gP gC gR gM gL = _ := (B_ch_un ho hkn h4 h5 hwy rfl hq).trans (n_ch_un_TXA)
  have g_ow : b_ow ug ud mm gB gA gX gY gP gC gR gM gL = _ := (B_ch_ow ho hkn h4 h5 hwy rfl hq).trans (n_ch_ow_TXA)
  rw [e_fa, e_fx, e_fy, e_fs, e_fp, e_fc, e_mem, e_ug, e_ud, e_lt, e_ct, e_hd, e_la, e_bt, g_gB, g_gA, g_gX, g_gY, g_gS, g_gP, g_gC, g_gR, g_gM, g_gL, g_un, g_ow]
  exact op_TXS hm hB hA hX hY hS hP fC fu hf hw
set_option maxRecDepth 100000 in
theorem as_TAX (hm : s_m mm fo) (hB : rm mm gB mem om) (hA : ra mm gA fa oa) (hX : ra mm gX fx ox) (hY : ra mm gY fy oy) (hS : ra mm gS fs os) (hP : rp mm gP fp op) (hC : rc mm gC fc oc) (hu : ru ug lt ct hd la bt gR gM gL) (hf : ∃ j : Nat, j < 64 ∧ ug = nI j) (hw : wB ud) (hj : j < 256) (hop : f_X1_read_r mm fo mem ug lt ct hd la bt fc = nI j) (hc : clsF j = 23) : SR mm oa ox oy os op oc om (f_X1_instruction_fa mm fo fa fx fy fs fp fc mem ug lt ct hd la bt kindsF waysF) (f_X1_instruction_fx mm fo fa fx fy fs fc mem ug lt ct hd la bt kindsF waysF) (f_X1_instruction_fy mm fo fa fx fy fc mem ug lt ct hd la bt kindsF waysF) (f_X1_instruction_fs mm fo fx fs fc mem ug lt ct hd la bt kindsF) (f_X1_instruction_fp mm fo fa fx fy fs fp fc mem ug lt ct hd la bt kindsF waysF) (f_X1_instruction_fc mm fo fx fy fs fp fc mem ug lt ct hd la bt kindsF waysF) (f_X1_instruction_mem mm fo fa fx fy fs fp fc mem ug lt ct hd la bt kindsF waysF) (f_X1_instruction_ug mm fo fa fx fy fp fc mem ug lt ct hd la bt kindsF waysF) (f_X1_instruction_ud mm fo fa fx fy fp fc mem ug ud lt ct hd la bt kindsF waysF) (f_X1_instruction_lt mm fo fa fx fy fp fc mem ug lt ct hd la bt kindsF waysF) (f_X1_instruction_ct mm fo fx fy fc mem ug lt ct hd la bt kindsF waysF) (f_X1_instruction_hd mm fo fx fy fc mem ug lt ct hd la bt kindsF waysF) (f_X1_instruction_la mm fo fx fy fc mem ug lt ct hd la bt kindsF waysF) (f_X1_instruction_bt mm fo fa fx fy fp fc mem ug lt ct hd la bt kindsF waysF) (b_gB ug mm gB gA gX gY gS gP gC gR gM gL) (b_gA ug mm gB gA gX gY gS gP gC gR gM gL) (b_gX ug mm gB gA gX gY gS gC gR gM gL) (b_gY ug mm gB gA gX gY gC gR gM gL) (b_gS ug mm gB gX gS gC gR gM gL) (b_gP ug mm gB gA gX gY gS gP gC gR gM gL) (b_gC ug mm gB gS gP gC gR gM gL) (b_gR ug mm gB gA gX gY gP gC gR gM gL) (b_gM ug mm gB gX gY gC gR gM gL) (b_gL ug mm gB gX gY gC gR gM gL) (b_un ug mm gB gA gX gY gP gC gR gM gL) (b_ow ug ud mm gB gA gX gY gP gC gR gM gL) := by
  have fe := sr_fetch hm hB hf hu hC
  obtain ⟨fv, fb, fu, fC⟩ := fe
  obtain rfl : j = 170 := (show ∀ j : Nat, j < 256 → clsF j = 23 → j = 170 by decide +kernel) j hj hc
  have ho : f_X5_fetch_r ug mm gB gC gR gM gL = (170 : Int32) := fv.trans hop
  have hkn : ¬ f_X5_isKnown_r (170 : Int32) = 0 := by decide +kernel
  have hk : kindsF 170 = 64 := by decide +kernel
  have hww : waysF 170 = 0 := by decide +kernel
  have h4 : ¬ (170 : Int32) - (170 : Int32) / 4 * 4 = 1 := by decide +kernel
  have h5 : (170 : Int32) - (170 : Int32) / 4 * 4 = 2 := by decide +kernel
  have hq : (170 : Int32) / 32 = 5 := by decide +kernel
  have hwy : f_X5_way_r (170 : Int32) = 0 := by decide +kernel
  have e_fa : f_X1_instruction_fa mm fo fa fx fy fs fp fc mem ug lt ct hd la bt kindsF waysF = _ := (L0_fa hop hj hk hww).trans (n_i_fa_TAX)
  have e_fx : f_X1_instruction_fx mm fo fa fx fy fs fc mem ug lt ct hd la bt kindsF waysF = _ := (L0_fx hop hj hk hww).trans (n_i_fx_TAX)
  have e_fy : f_X1_instruction_fy mm fo fa fx fy fc mem ug lt ct hd la bt kindsF waysF = _ := (L0_fy hop hj hk hww).trans (n_i_fy_TAX)
  have e_fs : f_X1_instruction_fs mm fo fx fs fc mem ug lt ct hd la bt kindsF = _ := (L0_fs hop hj hk).trans (n_i_fs_TAX)
  have e_fp : f_X1_instruction_fp mm fo fa fx fy fs fp fc mem ug lt ct hd la bt kindsF waysF = _ := (L0_fp hop hj hk hww).trans (n_i_fp_TAX)
  have e_fc : f_X1_instruction_fc mm fo fx fy fs fp fc mem ug lt ct hd la bt kindsF waysF = _ := (L0_fc hop hj hk hww).trans (n_i_fc_TAX)
  have e_mem : f_X1_instruction_mem mm fo fa fx fy fs fp fc mem ug lt ct hd la bt kindsF waysF = _ := (L0_mem hop hj hk hww).trans (n_i_mem_TAX)
  have e_ug : f_X1_instruction_ug mm fo fa fx fy fp fc mem ug lt ct hd la bt kindsF waysF = _ := (L0_ug hop hj hk hww).trans (n_i_ug_TAX)
  have e_ud : f_X1_instruction_ud mm fo fa fx fy fp fc mem ug ud lt ct hd la bt kindsF waysF = _ := (L0_ud hop hj hk hww).trans (n_i_ud_TAX)
  have e_lt : f_X1_instruction_lt mm fo fa fx fy fp fc mem ug lt ct hd la bt kindsF waysF = _ := (L0_lt hop hj hk hww).trans (n_i_lt_TAX)
  have e_ct : f_X1_instruction_ct mm fo fx fy fc mem ug lt ct hd la bt kindsF waysF = _ := (L0_ct hop hj hk hww).trans (n_i_ct_TAX)
  have e_hd : f_X1_instruction_hd mm fo fx fy fc mem ug lt ct hd la bt kindsF waysF = _ := (L0_hd hop hj hk hww).trans (n_i_hd_TAX)
  have e_la : f_X1_instruction_la mm fo fx fy fc mem ug lt ct hd la bt kindsF waysF = _ := (L0_la hop hj hk hww).trans (n_i_la_TAX)
  have e_bt : f_X1_instruction_bt mm fo fa fx fy fp fc mem ug lt ct hd la bt kindsF waysF = _ := (L0_bt hop hj hk hww).trans (n_i_bt_TAX)
  have g_gB : b_gB ug mm gB gA gX gY gS gP gC gR gM gL = _ := (B_ch_gB ho hkn h4 h5 hwy rfl hq).trans (n_ch_gB_TAX)
  have g_gA : b_gA ug mm gB gA gX gY gS gP gC gR gM gL = _ := (B_ch_gA ho hkn h4 h5 hwy hq).trans (n_ch_gA_TAX)
  have g_gX : b_gX ug mm gB gA gX gY gS gC gR gM gL = _ := (B_ch_gX ho hkn h4 h5 hwy rfl hq).trans (n_ch_gX_TAX)
  have g_gY : b_gY ug mm gB gA gX gY gC gR gM gL = _ := (B_ch_gY ho hkn h4 h5 hwy).trans (n_ch_gY_TAX)
  have g_gS : b_gS ug mm gB gX gS gC gR gM gL = _ := (B_ch_gS ho hkn h4 h5 hwy).trans (n_ch_gS_TAX)
  have g_gP : b_gP ug mm gB gA gX gY gS gP gC gR gM gL = _ := (B_ch_gP ho hkn h4 h5 hwy rfl hq).trans (n_ch_gP_TAX)
  have g_gC : b_gC ug mm gB gS gP gC gR gM gL = _ := (B_ch_gC ho hkn h4 h5 hwy).trans (n_ch_gC_TXA)
  have g_gR : b_gR ug mm gB gA gX gY gP gC gR gM gL = _ := (B_ch_gR ho hkn h4 h5 hwy rfl hq).trans (n_ch_gR_TAX)
  have g_gM : b_gM ug mm gB gX gY gC gR gM gL = _ := (B_ch_gM ho hkn h4 h5 hwy rfl hq).trans (n_ch_gM_TAX)
  have g_gL : b_gL ug mm gB gX gY gC gR gM gL = _ := (B_ch_gL ho hkn h4 h5 hwy rfl hq).trans (n_ch_gL_TAX)
  have g_un : b_un ug mm gB gA gX gY gP gC gR gM gL = _ := (B_ch_un ho hkn h4 h5 hwy rfl hq).trans (n_ch_un_TAX)
  have g_ow : b_ow ug ud mm gB gA gX gY gP gC gR gM gL = _ := (B_ch_ow ho hkn h4 h5 hwy rfl hq).trans (n_ch_ow_TAX)
  rw [e_fa, e_fx, e_fy, e_fs, e_fp, e_fc, e_mem, e_ug, e_ud, e_lt, e_ct, e_hd, e_la, e_bt, g_gB, g_gA, g_gX, g_gY, g_gS, g_gP, g_gC, g_gR, g_gM, g_gL, g_un, g_ow]
  exact op_TAX hm hB hA hX hY hS hP fC fu hf hw
set_option maxRecDepth 100000 in
theorem as_TSX (hm : s_m mm fo) (hB : rm mm gB mem om) (hA : ra mm gA fa oa) (hX : ra mm gX fx ox) (hY : ra mm gY fy oy) (hS : ra mm gS fs os) (hP : rp mm gP fp op) (hC : rc mm gC fc oc) (hu : ru ug lt ct hd la bt gR gM gL) (hf : ∃ j : Nat, j < 64 ∧ ug = nI j) (hw : wB ud) (hj : j < 256) (hop : f_X1_read_r mm fo mem ug lt ct hd la bt fc = nI j) (hc : clsF j = 24) : SR mm oa ox oy os op oc om (f_X1_instruction_fa mm fo fa fx fy fs fp fc mem ug lt ct hd la bt kindsF waysF) (f_X1_instruction_fx mm fo fa fx fy fs fc mem ug lt ct hd la bt kindsF waysF) (f_X1_instruction_fy mm fo fa fx fy fc mem ug lt ct hd la bt kindsF waysF) (f_X1_instruction_fs mm fo fx fs fc mem ug lt ct hd la bt kindsF) (f_X1_instruction_fp mm fo fa fx fy fs fp fc mem ug lt ct hd la bt kindsF waysF) (f_X1_instruction_fc mm fo fx fy fs fp fc mem ug lt ct hd la bt kindsF waysF) (f_X1_instruction_mem mm fo fa fx fy fs fp fc mem ug lt ct hd la bt kindsF waysF) (f_X1_instruction_ug mm fo fa fx fy fp fc mem ug lt ct hd la bt kindsF waysF) (f_X1_instruction_ud mm fo fa fx fy fp fc mem ug ud lt ct hd la bt kindsF waysF) (f_X1_instruction_lt mm fo fa fx fy fp fc mem ug lt ct hd la bt kindsF waysF) (f_X1_instruction_ct mm fo fx fy fc mem ug lt ct hd la bt kindsF waysF) (f_X1_instruction_hd mm fo fx fy fc mem ug lt ct hd la bt kindsF waysF) (f_X1_instruction_la mm fo fx fy fc mem ug lt ct hd la bt kindsF waysF) (f_X1_instruction_bt mm fo fa fx fy fp fc mem ug lt ct hd la bt kindsF waysF) (b_gB ug mm gB gA gX gY gS gP gC gR gM gL) (b_gA ug mm gB gA gX gY gS gP gC gR gM gL) (b_gX ug mm gB gA gX gY gS gC gR gM gL) (b_gY ug mm gB gA gX gY gC gR gM gL) (b_gS ug mm gB gX gS gC gR gM gL) (b_gP ug mm gB gA gX gY gS gP gC gR gM gL) (b_gC ug mm gB gS gP gC gR gM gL) (b_gR ug mm gB gA gX gY gP gC gR gM gL) (b_gM ug mm gB gX gY gC gR gM gL) (b_gL ug mm gB gX gY gC gR gM gL) (b_un ug mm gB gA gX gY gP gC gR gM gL) (b_ow ug ud mm gB gA gX gY gP gC gR gM gL) := by
  have fe := sr_fetch hm hB hf hu hC
  obtain ⟨fv, fb, fu, fC⟩ := fe
  obtain rfl : j = 186 := (show ∀ j : Nat, j < 256 → clsF j = 24 → j = 186 by decide +kernel) j hj hc
  have ho : f_X5_fetch_r ug mm gB gC gR gM gL = (186 : Int32) := fv.trans hop
  have hkn : ¬ f_X5_isKnown_r (186 : Int32) = 0 := by decide +kernel
  have hk : kindsF 186 = 68 := by decide +kernel
  have hww : waysF 186 = 0 := by decide +kernel
  have h4 : ¬ (186 : Int32) - (186 : Int32) / 4 * 4 = 1 := by decide +kernel
  have h5 : (186 : Int32) - (186 : Int32) / 4 * 4 = 2 := by decide +kernel
  have hq : (186 : Int32) / 32 = 5 := by decide +kernel
  have hwy : f_X5_way_r (186 : Int32) = 0 := by decide +kernel
  have e_fa : f_X1_instruction_fa mm fo fa fx fy fs fp fc mem ug lt ct hd la bt kindsF waysF = _ := (L0_fa hop hj hk hww).trans (n_i_fa_TSX)
  have e_fx : f_X1_instruction_fx mm fo fa fx fy fs fc mem ug lt ct hd la bt kindsF waysF = _ := (L0_fx hop hj hk hww).trans (n_i_fx_TSX)
  have e_fy : f_X1_instruction_fy mm fo fa fx fy fc mem ug lt ct hd la bt kindsF waysF = _ := (L0_fy hop hj hk hww).trans (n_i_fy_TSX)
  have e_fs : f_X1_instruction_fs mm fo fx fs fc mem ug lt ct hd la bt kindsF = _ := (L0_fs hop hj hk).trans (n_i_fs_TSX)
  have e_fp : f_X1_instruction_fp mm fo fa fx fy fs fp fc mem ug lt ct hd la bt kindsF waysF = _ := (L0_fp hop hj hk hww).trans (n_i_fp_TSX)
  have e_fc : f_X1_instruction_fc mm fo fx fy fs fp fc mem ug lt ct hd la bt kindsF waysF = _ := (L0_fc hop hj hk hww).trans (n_i_fc_TSX)
  have e_mem : f_X1_instruction_mem mm fo fa fx fy fs fp fc mem ug lt ct hd la bt kindsF waysF = _ := (L0_mem hop hj hk hww).trans (n_i_mem_TSX)
  have e_ug : f_X1_instruction_ug mm fo fa fx fy fp fc mem ug lt ct hd la bt kindsF waysF = _ := (L0_ug hop hj hk hww).trans (n_i_ug_TSX)
  have e_ud : f_X1_instruction_ud mm fo fa fx fy fp fc mem ug ud lt ct hd la bt kindsF waysF = _ := (L0_ud hop hj hk hww).trans (n_i_ud_TSX)
  have e_lt : f_X1_instruction_lt mm fo fa fx fy fp fc mem ug lt ct hd la bt kindsF waysF = _ := (L0_lt hop hj hk hww).trans (n_i_lt_TSX)
  have e_ct : f_X1_instruction_ct mm fo fx fy fc mem ug lt ct hd la bt kindsF waysF = _ := (L0_ct hop hj hk hww).trans (n_i_ct_TSX)
  have e_hd : f_X1_instruction_hd mm fo fx fy fc mem ug lt ct hd la bt kindsF waysF = _ := (L0_hd hop hj hk hww).trans (n_i_hd_TSX)
  have e_la : f_X1_instruction_la mm fo fx fy fc mem ug lt ct hd la bt kindsF waysF = _ := (L0_la hop hj hk hww).trans (n_i_la_TSX)
  have e_bt : f_X1_instruction_bt mm fo fa fx fy fp fc mem ug lt ct hd la bt kindsF waysF = _ := (L0_bt hop hj hk hww).trans (n_i_bt_TSX)
  have g_gB : b_gB ug mm gB gA gX gY gS gP gC gR gM gL = _ := (B_ch_gB ho hkn h4 h5 hwy rfl hq).trans (n_ch_gB_TSX)
  have g_gA : b_gA ug mm gB gA gX gY gS gP gC gR gM gL = _ := (B_ch_gA ho hkn h4 h5 hwy hq).trans (n_ch_gA_TSX)
  have g_gX : b_gX ug mm gB gA gX gY gS gC gR gM gL = _ := (B_ch_gX ho hkn h4 h5 hwy rfl hq).trans (n_ch_gX_TSX)
  have g_gY : b_gY ug mm gB gA gX gY gC gR gM gL = _ := (B_ch_gY ho hkn h4 h5 hwy).trans (n_ch_gY_TSX)
  have g_gS : b_gS ug mm gB gX gS gC gR gM gL = _ := (B_ch_gS ho hkn h4 h5 hwy).trans (n_ch_gS_TSX)
  have g_gP : b_gP ug mm gB gA gX gY gS gP gC gR gM gL = _ := (B_ch_gP ho hkn h4 h5 hwy rfl hq).trans (n_ch_gP_TSX)
  have g_gC : b_gC ug mm gB gS gP gC gR gM gL = _ := (B_ch_gC ho hkn h4 h5 hwy).trans (n_ch_gC_TXA)
  have g_gR : b_gR ug mm gB gA gX gY gP gC gR gM gL = _ := (B_ch_gR ho hkn h4 h5 hwy rfl hq).trans (n_ch_gR_TAX)
  have g_gM : b_gM ug mm gB gX gY gC gR gM gL = _ := (B_ch_gM ho hkn h4 h5 hwy rfl hq).trans (n_ch_gM_TAX)
  have g_gL : b_gL ug mm gB gX gY gC gR gM gL = _ := (B_ch_gL ho hkn h4 h5 hwy rfl hq).trans (n_ch_gL_TAX)
  have g_un : b_un ug mm gB gA gX gY gP gC gR gM gL = _ := (B_ch_un ho hkn h4 h5 hwy rfl hq).trans (n_ch_un_TAX)
  have g_ow : b_ow ug ud mm gB gA gX gY gP gC gR gM gL = _ := (B_ch_ow ho hkn h4 h5 hwy rfl hq).trans (n_ch_ow_TAX)
  rw [e_fa, e_fx, e_fy, e_fs, e_fp, e_fc, e_mem, e_ug, e_ud, e_lt, e_ct, e_hd, e_la, e_bt, g_gB, g_gA, g_gX, g_gY, g_gS, g_gP, g_gC, g_gR, g_gM, g_gL, g_un, g_ow]
  exact op_TSX hm hB hA hX hY hS hP fC fu hf hw
set_option maxRecDepth 100000 in
theorem as_DEX (hm : s_m mm fo) (hB : rm mm gB mem om) (hA : ra mm gA fa oa) (hX : ra mm gX fx ox) (hY : ra mm gY fy oy) (hS : ra mm gS fs os) (hP : rp mm gP fp op) (hC : rc mm gC fc oc) (hu : ru ug lt ct hd la bt gR gM gL) (hf : ∃ j : Nat, j < 64 ∧ ug = nI j) (hw : wB ud) (hj : j < 256) (hop : f_X1_read_r mm fo mem ug lt ct hd la bt fc = nI j) (hc : clsF j = 25) : SR mm oa ox oy os op oc om (f_X1_instruction_fa mm fo fa fx fy fs fp fc mem ug lt ct hd la bt kindsF waysF) (f_X1_instruction_fx mm fo fa fx fy fs fc mem ug lt ct hd la bt kindsF waysF) (f_X1_instruction_fy mm fo fa fx fy fc mem ug lt ct hd la bt kindsF waysF) (f_X1_instruction_fs mm fo fx fs fc mem ug lt ct hd la bt kindsF) (f_X1_instruction_fp mm fo fa fx fy fs fp fc mem ug lt ct hd la bt kindsF waysF) (f_X1_instruction_fc mm fo fx fy fs fp fc mem ug lt ct hd la bt kindsF waysF) (f_X1_instruction_mem mm fo fa fx fy fs fp fc mem ug lt ct hd la bt kindsF waysF) (f_X1_instruction_ug mm fo fa fx fy fp fc mem ug lt ct hd la bt kindsF waysF) (f_X1_instruction_ud mm fo fa fx fy fp fc mem ug ud lt ct hd la bt kindsF waysF) (f_X1_instruction_lt mm fo fa fx fy fp fc mem ug lt ct hd la bt kindsF waysF) (f_X1_instruction_ct mm fo fx fy fc mem ug lt ct hd la bt kindsF waysF) (f_X1_instruction_hd mm fo fx fy fc mem ug lt ct hd la bt kindsF waysF) (f_X1_instruction_la mm fo fx fy fc mem ug lt ct hd la bt kindsF waysF) (f_X1_instruction_bt mm fo fa fx fy fp fc mem ug lt ct hd la bt kindsF waysF) (b_gB ug mm gB gA gX gY gS gP gC gR gM gL) (b_gA ug mm gB gA gX gY gS gP gC gR gM gL) (b_gX ug mm gB gA gX gY gS gC gR gM gL) (b_gY ug mm gB gA gX gY gC gR gM gL) (b_gS ug mm gB gX gS gC gR gM gL) (b_gP ug mm gB gA gX gY gS gP gC gR gM gL) (b_gC ug mm gB gS gP gC gR gM gL) (b_gR ug mm gB gA gX gY gP gC gR gM gL) (b_gM ug mm gB gX gY gC gR gM gL) (b_gL ug mm gB gX gY gC gR gM gL) (b_un ug mm gB gA gX gY gP gC gR gM gL) (b_ow ug ud mm gB gA gX gY gP gC gR gM gL) := by
  have fe := sr_fetch hm hB hf hu hC
  obtain ⟨fv, fb, fu, fC⟩ := fe
  obtain rfl : j = 202 := (show ∀ j : Nat, j < 256 → clsF j = 25 → j = 202 by decide +kernel) j hj hc
  have ho : f_X5_fetch_r ug mm gB gC gR gM gL = (202 : Int32) := fv.trans hop
  have hkn : ¬ f_X5_isKnown_r (202 : Int32) = 0 := by decide +kernel
  have hk : kindsF 202 = 72 := by decide +kernel
  have hww : waysF 202 = 0 := by decide +kernel
  have h4 : ¬ (202 : Int32) - (202 : Int32) / 4 * 4 = 1 := by decide +kernel
  have h5 : (202 : Int32) - (202 : Int32) / 4 * 4 = 2 := by decide +kernel
  have hq : (202 : Int32) / 32 = 6 := by decide +kernel
  have hwy : f_X5_way_r (202 : Int32) = 0 := by decide +kernel
  have e_fa : f_X1_instruction_fa mm fo fa fx fy fs fp fc mem ug lt ct hd la bt kindsF waysF = _ := (L0_fa hop hj hk hww).trans (n_i_fa_DEX)
  have e_fx : f_X1_instruction_fx mm fo fa fx fy fs fc mem ug lt ct hd la bt kindsF waysF = _ := (L0_fx hop hj hk hww).trans (n_i_fx_DEX)
  have e_fy : f_X1_instruction_fy mm fo fa fx fy fc mem ug lt ct hd la bt kindsF waysF = _ := (L0_fy hop hj hk hww).trans (n_i_fy_DEX)
  have e_fs : f_X1_instruction_fs mm fo fx fs fc mem ug lt ct hd la bt kindsF = _ := (L0_fs hop hj hk).trans (n_i_fs_DEX)
  have e_fp : f_X1_instruction_fp mm fo fa fx fy fs fp fc mem ug lt ct hd la bt kindsF waysF = _ := (L0_fp hop hj hk hww).trans (n_i_fp_DEX)
  have e_fc : f_X1_instruction_fc mm fo fx fy fs fp fc mem ug lt ct hd la bt kindsF waysF = _ := (L0_fc hop hj hk hww).trans (n_i_fc_DEX)
  have e_mem : f_X1_instruction_mem mm fo fa fx fy fs fp fc mem ug lt ct hd la bt kindsF waysF = _ := (L0_mem hop hj hk hww).trans (n_i_mem_DEX)
  have e_ug : f_X1_instruction_ug mm fo fa fx fy fp fc mem ug lt ct hd la bt kindsF waysF = _ := (L0_ug hop hj hk hww).trans (n_i_ug_DEX)
  have e_ud : f_X1_instruction_ud mm fo fa fx fy fp fc mem ug ud lt ct hd la bt kindsF waysF = _ := (L0_ud hop hj hk hww).trans (n_i_ud_DEX)
  have e_lt : f_X1_instruction_lt mm fo fa fx fy fp fc mem ug lt ct hd la bt kindsF waysF = _ := (L0_lt hop hj hk hww).trans (n_i_lt_DEX)
  have e_ct : f_X1_instruction_ct mm fo fx fy fc mem ug lt ct hd la bt kindsF waysF = _ := (L0_ct hop hj hk hww).trans (n_i_ct_DEX)
  have e_hd : f_X1_instruction_hd mm fo fx fy fc mem ug lt ct hd la bt kindsF waysF = _ := (L0_hd hop hj hk hww).trans (n_i_hd_DEX)
  have e_la : f_X1_instruction_la mm fo fx fy fc mem ug lt ct hd la bt kindsF waysF = _ := (L0_la hop hj hk hww).trans (n_i_la_DEX)
  have e_bt : f_X1_instruction_bt mm fo fa fx fy fp fc mem ug lt ct hd la bt kindsF waysF = _ := (L0_bt hop hj hk hww).trans (n_i_bt_DEX)
  have g_gB : b_gB ug mm gB gA gX gY gS gP gC gR gM gL = _ := (B_ch_gB ho hkn h4 h5 hwy rfl hq).trans (n_ch_gB_DEX)
  have g_gA : b_gA ug mm gB gA gX gY gS gP gC gR gM gL = _ := (B_ch_gA ho hkn h4 h5 hwy hq).trans (n_ch_gA_DEX)
  have g_gX : b_gX ug mm gB gA gX gY gS gC gR gM gL = _ := (B_ch_gX ho hkn h4 h5 hwy rfl hq).trans (n_ch_gX_DEX)
  have g_gY : b_gY ug mm gB gA gX gY gC gR gM gL = _ := (B_ch_gY ho hkn h4 h5 hwy).trans (n_ch_gY_DEX)
  have g_gS : b_gS ug mm gB gX gS gC gR gM gL = _ := (B_ch_gS ho hkn h4 h5 hwy).trans (n_ch_gS_DEX)
  have g_gP : b_gP ug mm gB gA gX gY gS gP gC gR gM gL = _ := (B_ch_gP ho hkn h4 h5 hwy rfl hq).trans (n_ch_gP_DEX)
  have g_gC : b_gC ug mm gB gS gP gC gR gM gL = _ := (B_ch_gC ho hkn h4 h5 hwy).trans (n_ch_gC_TXA)
  have g_gR : b_gR ug mm gB gA gX gY gP gC gR gM gL = _ := (B_ch_gR ho hkn h4 h5 hwy rfl hq).trans (n_ch_gR_DEX)
  have g_gM : b_gM ug mm gB gX gY gC gR gM gL = _ := (B_ch_gM ho hkn h4 h5 hwy rfl hq).trans (n_ch_gM_DEX)
  have g_gL : b_gL ug mm gB gX gY gC gR gM gL = _ := (B_ch_gL ho hkn h4 h5 hwy rfl hq).trans (n_ch_gL_DEX)
  have g_un : b_un ug mm gB gA gX gY gP gC gR gM gL = _ := (B_ch_un ho hkn h4 h5 hwy rfl hq).trans (n_ch_un_DEX)
  have g_ow : b_ow ug ud mm gB gA gX gY gP gC gR gM gL = _ := (B_ch_ow ho hkn h4 h5 hwy rfl hq).trans (n_ch_ow_DEX)
  rw [e_fa, e_fx, e_fy, e_fs, e_fp, e_fc, e_mem, e_ug, e_ud, e_lt, e_ct, e_hd, e_la, e_bt, g_gB, g_gA, g_gX, g_gY, g_gS, g_gP, g_gC, g_gR, g_gM, g_gL, g_un, g_ow]
  exact op_DEX hm hB hA hX hY hS hP fC fu hf hw
set_option maxRecDepth 100000 in
theorem as_NOP (hm : s_m mm fo) (hB : rm mm gB mem om) (hA : ra mm gA fa oa) (hX : ra mm gX fx ox) (hY : ra mm gY fy oy) (hS : ra mm gS fs os) (hP : rp mm gP fp op) (hC : rc mm gC fc oc) (hu : ru ug lt ct hd la bt gR gM gL) (hf : ∃ j : Nat, j < 64 ∧ ug = nI j) (hw : wB ud) (hj : j < 256) (hop : f_X1_read_r mm fo mem ug lt ct hd la bt fc = nI j) (hc : clsF j = 26) : SR mm oa ox oy os op oc om (f_X1_instruction_fa mm fo fa fx fy fs fp fc mem ug lt ct hd la bt kindsF waysF) (f_X1_instruction_fx mm fo fa fx fy fs fc mem ug lt ct hd la bt kindsF waysF) (f_X1_instruction_fy mm fo fa fx fy fc mem ug lt ct hd la bt kindsF waysF) (f_X1_instruction_fs mm fo fx fs fc mem ug lt ct hd la bt kindsF) (f_X1_instruction_fp mm fo fa fx fy fs fp fc mem ug lt ct hd la bt kindsF waysF) (f_X1_instruction_fc mm fo fx fy fs fp fc mem ug lt ct hd la bt kindsF waysF) (f_X1_instruction_mem mm fo fa fx fy fs fp fc mem ug lt ct hd la bt kindsF waysF) (f_X1_instruction_ug mm fo fa fx fy fp fc mem ug lt ct hd la bt kindsF waysF) (f_X1_instruction_ud mm fo fa fx fy fp fc mem ug ud lt ct hd la bt kindsF waysF) (f_X1_instruction_lt mm fo fa fx fy fp fc mem ug lt ct hd la bt kindsF waysF) (f_X1_instruction_ct mm fo fx fy fc mem ug lt ct hd la bt kindsF waysF) (f_X1_instruction_hd mm fo fx fy fc mem ug lt ct hd la bt kindsF waysF) (f_X1_instruction_la mm fo fx fy fc mem ug lt ct hd la bt kindsF waysF) (f_X1_instruction_bt mm fo fa fx fy fp fc mem ug lt ct hd la bt kindsF waysF) (b_gB ug mm gB gA gX gY gS gP gC gR gM gL) (b_gA ug mm gB gA gX gY gS gP gC gR gM gL) (b_gX ug mm gB gA gX gY gS gC gR gM gL) (b_gY ug mm gB gA gX gY gC gR gM gL) (b_gS ug mm gB gX gS gC gR gM gL) (b_gP ug mm gB gA gX gY gS gP gC gR gM gL) (b_gC ug mm gB gS gP gC gR gM gL) (b_gR ug mm gB gA gX gY gP gC gR gM gL) (b_gM ug mm gB gX gY gC gR gM gL) (b_gL ug mm gB gX gY gC gR gM gL) (b_un ug mm gB gA gX gY gP gC gR gM gL) (b_ow ug ud mm gB gA gX gY gP gC gR gM gL) := by
  have fe := sr_fetch hm hB hf hu hC
  obtain ⟨fv, fb, fu, fC⟩ := fe
  obtain rfl : j = 234 := (show ∀ j : Nat, j < 256 → clsF j = 26 → j = 234 by decide +kernel) j hj hc
  have ho : f_X5_fetch_r ug mm gB gC gR gM gL = (234 : Int32) := fv.trans hop
  have hkn : ¬ f_X5_isKnown_r (234 : Int32) = 0 := by decide +kernel
  have hk : kindsF 234 = 74 := by decide +kernel
  have hww : waysF 234 = 0 := by decide +kernel
  have h4 : ¬ (234 : Int32) - (234 : Int32) / 4 * 4 = 1 := by decide +kernel
  have h5 : (234 : Int32) - (234 : Int32) / 4 * 4 = 2 := by decide +kernel
  have hq : (234 : Int32) / 32 = 7 := by decide +kernel
  have hwy : f_X5_way_r (234 : Int32) = 0 := by decide +kernel
  have e_fa : f_X1_instruction_fa mm fo fa fx fy fs fp fc mem ug lt ct hd la bt kindsF waysF = _ := (L0_fa hop hj hk hww).trans (n_i_fa_NOP)
  have e_fx : f_X1_instruction_fx mm fo fa fx fy fs fc mem ug lt ct hd la bt kindsF waysF = _ := (L0_fx hop hj hk hww).trans (n_i_fx_NOP)
  have e_fy : f_X1_instruction_fy mm fo fa fx fy fc mem ug lt ct hd la bt kindsF waysF = _ := (L0_fy hop hj hk hww).trans (n_i_fy_NOP)
  have e_fs : f_X1_instruction_fs mm fo fx fs fc mem ug lt ct hd la bt kindsF = _ := (L0_fs hop hj hk).trans (n_i_fs_NOP)
  have e_fp : f_X1_instruction_fp mm fo fa fx fy fs fp fc mem ug lt ct hd la bt kindsF waysF = _ := (L0_fp hop hj hk hww).trans (n_i_fp_NOP)
  have e_fc : f_X1_instruction_fc mm fo fx fy fs fp fc mem ug lt ct hd la bt kindsF waysF = _ := (L0_fc hop hj hk hww).trans (n_i_fc_NOP)
  have e_mem : f_X1_instruction_mem mm fo fa fx fy fs fp fc mem ug lt ct hd la bt kindsF waysF = _ := (L0_mem hop hj hk hww).trans (n_i_mem_NOP)
  have e_ug : f_X1_instruction_ug mm fo fa fx fy fp fc mem ug lt ct hd la bt kindsF waysF = _ := (L0_ug hop hj hk hww).trans (n_i_ug_NOP)
  have e_ud : f_X1_instruction_ud mm fo fa fx fy fp fc mem ug ud lt ct hd la bt kindsF waysF = _ := (L0_ud hop hj hk hww).trans (n_i_ud_NOP)
  have e_lt : f_X1_instruction_lt mm fo fa fx fy fp fc mem ug lt ct hd la bt kindsF waysF = _ := (L0_lt hop hj hk hww).trans (n_i_lt_NOP)
  have e_ct : f_X1_instruction_ct mm fo fx fy fc mem ug lt ct hd la bt kindsF waysF = _ := (L0_ct hop hj hk hww).trans (n_i_ct_NOP)
  have e_hd : f_X1_instruction_hd mm fo fx fy fc mem ug lt ct hd la bt kindsF waysF = _ := (L0_hd hop hj hk hww).trans (n_i_hd_NOP)
  have e_la : f_X1_instruction_la mm fo fx fy fc mem ug lt ct hd la bt kindsF waysF = _ := (L0_la hop hj hk hww).trans (n_i_la_NOP)
  have e_bt : f_X1_instruction_bt mm fo fa fx fy fp fc mem ug lt ct hd la bt kindsF waysF = _ := (L0_bt hop hj hk hww).trans (n_i_bt_NOP)
  have g_gB : b_gB ug mm gB gA gX gY gS gP gC gR gM gL = _ := (B_ch_gB ho hkn h4 h5 hwy rfl hq).trans (n_ch_gB_NOP)
  have g_gA : b_gA ug mm gB gA gX gY gS gP gC gR gM gL = _ := (B_ch_gA ho hkn h4 h5 hwy hq).trans (n_ch_gA_NOP)
  have g_gX : b_gX ug mm gB gA gX gY gS gC gR gM gL = _ := (B_ch_gX ho hkn h4 h5 hwy rfl hq).trans (n_ch_gX_NOP)
  have g_gY : b_gY ug mm gB gA gX gY gC gR gM gL = _ := (B_ch_gY ho hkn h4 h5 hwy).trans (n_ch_gY_NOP)
  have g_gS : b_gS ug mm gB gX gS gC gR gM gL = _ := (B_ch_gS ho hkn h4 h5 hwy).trans (n_ch_gS_NOP)
  have g_gP : b_gP ug mm gB gA gX gY gS gP gC gR gM gL = _ := (B_ch_gP ho hkn h4 h5 hwy rfl hq).trans (n_ch_gP_NOP)
  have g_gC : b_gC ug mm gB gS gP gC gR gM gL = _ := (B_ch_gC ho hkn h4 h5 hwy).trans (n_ch_gC_TXA)
  have g_gR : b_gR ug mm gB gA gX gY gP gC gR gM gL = _ := (B_ch_gR ho hkn h4 h5 hwy rfl hq).trans (n_ch_gR_NOP)
  have g_gM : b_gM ug mm gB gX gY gC gR gM gL = _ := (B_ch_gM ho hkn h4 h5 hwy rfl hq).trans (n_ch_gM_NOP)
  have g_gL : b_gL ug mm gB gX gY gC gR gM gL = _ := (B_ch_gL ho hkn h4 h5 hwy rfl hq).trans (n_ch_gL_NOP)
  have g_un : b_un ug mm gB gA gX gY gP gC gR gM gL = _ := (B_ch_un ho hkn h4 h5 hwy rfl hq).trans (n_ch_un_NOP)
  have g_ow : b_ow ug ud mm gB gA gX gY gP gC gR gM gL = _ := (B_ch_ow ho hkn h4 h5 hwy rfl hq).trans (n_ch_ow_NOP)
  rw [e_fa, e_fx, e_fy, e_fs, e_fp, e_fc, e_mem, e_ug, e_ud, e_lt, e_ct, e_hd, e_la, e_bt, g_gB, g_gA, g_gX, g_gY, g_gS, g_gP, g_gC, g_gR, g_gM, g_gL, g_un, g_ow]
  exact op_NOP hm hB hA hX hY hS hP fC fu hf hw
set_option maxRecDepth 100000 in
theorem as_PHP (hm : s_m mm fo) (hB : rm mm gB mem om) (hA : ra mm gA fa oa) (hX : ra mm gX fx ox) (hY : ra mm gY fy oy) (hS : ra mm gS fs os) (hP : rp mm gP fp op) (hC : rc mm gC fc oc) (hu : ru ug lt ct hd la bt gR gM gL) (hf : ∃ j : Nat, j < 64 ∧ ug = nI j) (hw : wB ud) (hj : j < 256) (hop : f_X1_read_r mm fo mem ug lt ct hd la bt fc = nI j) (hc : clsF j = 27) : SR mm oa ox oy os op oc om (f_X1_instruction_fa mm fo fa fx fy fs fp fc mem ug lt ct hd la bt kindsF waysF) (f_X1_instruction_fx mm fo fa fx fy fs fc mem ug lt ct hd la bt kindsF waysF) (f_X1_instruction_fy mm fo fa fx fy fc mem ug lt ct hd la bt kindsF waysF) (f_X1_instruction_fs mm fo fx fs fc mem ug lt ct hd la bt kindsF) (f_X1_instruction_fp mm fo fa fx fy fs fp fc mem ug lt ct hd la bt kindsF waysF) (f_X1_instruction_fc mm fo fx fy fs fp fc mem ug lt ct hd la bt kindsF waysF) (f_X1_instruction_mem mm fo fa fx fy fs fp fc mem ug lt ct hd la bt kindsF waysF) (f_X1_instruction_ug mm fo fa fx fy fp fc mem ug lt ct hd la bt kindsF waysF) (f_X1_instruction_ud mm fo fa fx fy fp fc mem ug ud lt ct hd la bt kindsF waysF) (f_X1_instruction_lt mm fo fa fx fy fp fc mem ug lt ct hd la bt kindsF waysF) (f_X1_instruction_ct mm fo fx fy fc mem ug lt ct hd la bt kindsF waysF) (f_X1_instruction_hd mm fo fx fy fc mem ug lt ct hd la bt kindsF waysF) (f_X1_instruction_la mm fo fx fy fc mem ug lt ct hd la bt kindsF waysF) (f_X1_instruction_bt mm fo fa fx fy fp fc mem ug lt ct hd la bt kindsF waysF) (b_gB ug mm gB gA gX gY gS gP gC gR gM gL) (b_gA ug mm gB gA gX gY gS gP gC gR gM gL) (b_gX ug mm gB gA gX gY gS gC gR gM gL) (b_gY ug mm gB gA gX gY gC gR gM gL) (b_gS ug mm gB gX gS gC gR gM gL) (b_gP ug mm gB gA gX gY gS gP gC gR gM gL) (b_gC ug mm gB gS gP gC gR gM gL) (b_gR ug mm gB gA gX gY gP gC gR gM gL) (b_gM ug mm gB gX gY gC gR gM gL) (b_gL ug mm gB gX gY gC gR gM gL) (b_un ug mm gB gA gX gY gP gC gR gM gL) (b_ow ug ud mm gB gA gX gY gP gC gR gM gL) := by
  have fe := sr_fetch hm hB hf hu hC
  obtain ⟨fv, fb, fu, fC⟩ := fe
  obtain rfl : j = 8 := (show ∀ j : Nat, j < 256 → clsF j = 27 → j = 8 by decide +kernel) j hj hc
  have ho : f_X5_fetch_r ug mm gB gC gR gM gL = (8 : Int32) := fv.trans hop
  have hkn : ¬ f_X5_isKnown_r (8 : Int32) = 0 := by decide +kernel
  have hk : kindsF 8 = 98 := by decide +kernel
  have hww : waysF 8 = 0 := by decide +kernel
  have h4 : ¬ (8 : Int32) - (8 : Int32) / 4 * 4 = 1 := by decide +kernel
  have h5 : ¬ (8 : Int32) - (8 : Int32) / 4 * 4 = 2 := by decide +kernel
  have hwy : f_X5_way_r (8 : Int32) = 0 := by decide +kernel
  have e_fa : f_X1_instruction_fa mm fo fa fx fy fs fp fc mem ug lt ct hd la bt kindsF waysF = _ := (L0_fa hop hj hk hww).trans (n_i_fa_PHP)
  have e_fx : f_X1_instruction_fx mm fo fa fx fy fs fc mem ug lt ct hd la bt kindsF waysF = _ := (L0_fx hop hj hk hww).trans (n_i_fx_PHP)
  have e_fy : f_X1_instruction_fy mm fo fa fx fy fc mem ug lt ct hd la bt kindsF waysF = _ := (L0_fy hop hj hk hww).trans (n_i_fy_PHP)
  have e_fs : f_X1_instruction_fs mm fo fx fs fc mem ug lt ct hd la bt kindsF = _ := (L0_fs hop hj hk).trans (n_i_fs_PHP)
  have e_fp : f_X1_instruction_fp mm fo fa fx fy fs fp fc mem ug lt ct hd la bt kindsF waysF = _ := (L0_fp hop hj hk hww).trans (n_i_fp_PHP)
  have e_fc : f_X1_instruction_fc mm fo fx fy fs fp fc mem ug lt ct hd la bt kindsF waysF = _ := (L0_fc hop hj hk hww).trans (n_i_fc_PHP)
  have e_mem : f_X1_instruction_mem mm fo fa fx fy fs fp fc mem ug lt ct hd la bt kindsF waysF = _ := (L0_mem hop hj hk hww).trans (n_i_mem_PHP)
  have e_ug : f_X1_instruction_ug mm fo fa fx fy fp fc mem ug lt ct hd la bt kindsF waysF = _ := (L0_ug hop hj hk hww).trans (n_i_ug_PHP)
  have e_ud : f_X1_instruction_ud mm fo fa fx fy fp fc mem ug ud lt ct hd la bt kindsF waysF = _ := (L0_ud hop hj hk hww).trans (n_i_ud_PHP)
  have e_lt : f_X1_instruction_lt mm fo fa fx fy fp fc mem ug lt ct hd la bt kindsF waysF = _ := (L0_lt hop hj hk hww).trans (n_i_lt_PHP)
  have e_ct : f_X1_instruction_ct mm fo fx fy fc mem ug lt ct hd la bt kindsF waysF = _ := (L0_ct hop hj hk hww).trans (n_i_ct_PHP)
  have e_hd : f_X1_instruction_hd mm fo fx fy fc mem ug lt ct hd la bt kindsF waysF = _ := (L0_hd hop hj hk hww).trans (n_i_hd_PHP)
  have e_la : f_X1_instruction_la mm fo fx fy fc mem ug lt ct hd la bt kindsF waysF = _ := (L0_la hop hj hk hww).trans (n_i_la_PHP)
  have e_bt : f_X1_instruction_bt mm fo fa fx fy fp fc mem ug lt ct hd la bt kindsF waysF = _ := (L0_bt hop hj hk hww).trans (n_i_bt_PHP)
  have g_gB : b_gB ug mm gB gA gX gY gS gP gC gR gM gL = _ := (B_ot_gB ho hkn h4 h5 hwy rfl).trans (n_ot_gB_PHP)
  have g_gA : b_gA ug mm gB gA gX gY gS gP gC gR gM gL = _ := (B_ot_gA ho hkn h4 h5).trans (n_ot_gA_PHP)
  have g_gX : b_gX ug mm gB gA gX gY gS gC gR gM gL = _ := (B_ot_gX ho hkn h4 h5).trans (n_ot_gX_PHP)
  have g_gY : b_gY ug mm gB gA gX gY gC gR gM gL = _ := (B_ot_gY ho hkn h4 h5 hwy rfl).trans (n_ot_gY_PHP)
  have g_gS : b_gS ug mm gB gX gS gC gR gM gL = _ := (B_ot_gS ho hkn h4 h5).trans (n_ot_gS_PHP)
  have g_gP : b_gP ug mm gB gA gX gY gS gP gC gR gM gL = _ := (B_ot_gP ho hkn h4 h5 hwy rfl).trans (n_ot_gP_PHP)
  have g_gC : b_gC ug mm gB gS gP gC gR gM gL = _ := (B_ot_gC ho hkn h4 h5 hwy rfl).trans (n_ot_gC_PHP)
  have g_gR : b_gR ug mm gB gA gX gY gP gC gR gM gL = _ := (B_ot_gR ho hkn h4 h5 hwy rfl rfl).trans (n_ot_gR_PHP)
  have g_gM : b_gM ug mm gB gX gY gC gR gM gL = _ := (B_ot_gM ho hkn h4 h5 hwy rfl rfl).trans (n_ot_gM_PHP)
  have g_gL : b_gL ug mm gB gX gY gC gR gM gL = _ := (B_ot_gL ho hkn h4 h5 hwy rfl rfl).trans (n_ot_gL_PHP)
  have g_un : b_un ug mm gB gA gX gY gP gC gR gM gL = _ := (B_ot_un ho hkn h4 h5 hwy rfl).trans (n_ot_un_PHP)
  have g_ow : b_ow ug ud mm gB gA gX gY gP gC gR gM gL = _ := (B_ot_ow ho hkn h4 h5 hwy rfl).trans (n_ot_ow_PHP)
  rw [e_fa, e_fx, e_fy, e_fs, e_fp, e_fc, e_mem, e_ug, e_ud, e_lt, e_ct, e_hd, e_la, e_bt, g_gB, g_gA, g_gX, g_gY, g_gS, g_gP, g_gC, g_gR, g_gM, g_gL, g_un, g_ow]
  exact op_PHP hm hB hA hX hY hS hP fC fu hf hw
set_option maxRecDepth 100000 in
theorem as_PLP (hm : s_m mm fo) (hB : rm mm gB mem om) (hA : ra mm gA fa oa) (hX : ra mm gX fx ox) (hY : ra mm gY fy oy) (hS : ra mm gS fs os) (hP : rp mm gP fp op) (hC : rc mm gC fc oc) (hu : ru ug lt ct hd la bt gR gM gL) (hf : ∃ j : Nat, j < 64 ∧ ug = nI j) (hw : wB ud) (hj : j < 256) (hop : f_X1_read_r mm fo mem ug lt ct hd la bt fc = nI j) (hc : clsF j = 28) : SR mm oa ox oy os op oc om (f_X1_instruction_fa mm fo fa fx fy fs fp fc mem ug lt ct hd la bt kindsF waysF) (f_X1_instruction_fx mm fo fa fx fy fs fc mem ug lt ct hd la bt kindsF waysF) (f_X1_instruction_fy mm fo fa fx fy fc mem ug lt ct hd la bt kindsF waysF) (f_X1_instruction_fs mm fo fx fs fc mem ug lt ct hd la bt kindsF) (f_X1_instruction_fp mm fo fa fx fy fs fp fc mem ug lt ct hd la bt kindsF waysF) (f_X1_instruction_fc mm fo fx fy fs fp fc mem ug lt ct hd la bt kindsF waysF) (f_X1_instruction_mem mm fo fa fx fy fs fp fc mem ug lt ct hd la bt kindsF waysF) (f_X1_instruction_ug mm fo fa fx fy fp fc mem ug lt ct hd la bt kindsF waysF) (f_X1_instruction_ud mm fo fa fx fy fp fc mem ug ud lt ct hd la bt kindsF waysF) (f_X1_instruction_lt mm fo fa fx fy fp fc mem ug lt ct hd la bt kindsF waysF) (f_X1_instruction_ct mm fo fx fy fc mem ug lt ct hd la bt kindsF waysF) (f_X1_instruction_hd mm fo fx fy fc mem ug lt ct hd la bt kindsF waysF) (f_X1_instruction_la mm fo fx fy fc mem ug lt ct hd la bt kindsF waysF) (f_X1_instruction_bt mm fo fa fx fy fp fc mem ug lt ct hd la bt kindsF waysF) (b_gB ug mm gB gA gX gY gS gP gC gR gM gL) (b_gA ug mm gB gA gX gY gS gP gC gR gM gL) (b_gX ug mm gB gA gX gY gS gC gR gM gL) (b_gY ug mm gB gA gX gY gC gR gM gL) (b_gS ug mm gB gX gS gC gR gM gL) (b_gP ug mm gB gA gX gY gS gP gC gR gM gL) (b_gC ug mm gB gS gP gC gR gM gL) (b_gR ug mm gB gA gX gY gP gC gR gM gL) (b_gM ug mm gB gX gY gC gR gM gL) (b_gL ug mm gB gX gY gC gR gM gL) (b_un ug mm gB gA gX gY gP gC gR gM gL) (b_ow ug ud mm gB gA gX gY gP gC gR gM gL) := by
  have fe := sr_fetch hm hB hf hu hC
  obtain ⟨fv, fb, fu, fC⟩ := fe
  obtain rfl : j = 40 := (show ∀ j : Nat, j < 256 → clsF j = 28 → j = 40 by decide +kernel) j hj hc
  have ho : f_X5_fetch_r ug mm gB gC gR gM gL = (40 : Int32) := fv.trans hop
  have hkn : ¬ f_X5_isKnown_r (40 : Int32) = 0 := by decide +kernel
  have hk : kindsF 40 = 99 := by decide +kernel
  have hww : waysF 40 = 0 := by decide +kernel
  have h4 : ¬ (40 : Int32) - (40 : Int32) / 4 * 4 = 1 := by decide +kernel
  have h5 : ¬ (40 : Int32) - (40 : Int32) / 4 * 4 = 2 := by decide +kernel
  have hwy : f_X5_way_r (40 : Int32) = 0 := by decide +kernel
  have e_fa : f_X1_instruction_fa mm fo fa fx fy fs fp fc mem ug lt ct hd la bt kindsF waysF = _ := (L0_fa hop hj hk hww).trans (n_i_fa_PLP)
  have e_fx : f_X1_instruction_fx mm fo fa fx fy fs fc mem ug lt ct hd la bt kindsF waysF = _ := (L0_fx hop hj hk hww).trans (n_i_fx_PLP)
  have e_fy : f_X1_instruction_fy mm fo fa fx fy fc mem ug lt ct hd la bt kindsF waysF = _ := (L0_fy hop hj hk hww).trans (n_i_fy_PLP)
  have e_fs : f_X1_instruction_fs mm fo fx fs fc mem ug lt ct hd la bt kindsF = _ := (L0_fs hop hj hk).trans (n_i_fs_PLP)
  have e_fp : f_X1_instruction_fp mm fo fa fx fy fs fp fc mem ug lt ct hd la bt kindsF waysF = _ := (L0_fp hop hj hk hww).trans (n_i_fp_PLP)
  have e_fc : f_X1_instruction_fc mm fo fx fy fs fp fc mem ug lt ct hd la bt kindsF waysF = _ := (L0_fc hop hj hk hww).trans (n_i_fc_PLP)
  have e_mem : f_X1_instruction_mem mm fo fa fx fy fs fp fc mem ug lt ct hd la bt kindsF waysF = _ := (L0_mem hop hj hk hww).trans (n_i_mem_PLP)
  have e_ug : f_X1_instruction_ug mm fo fa fx fy fp fc mem ug lt ct hd la bt kindsF waysF = _ := (L0_ug hop hj hk hww).trans (n_i_ug_PLP)
  have e_ud : f_X1_instruction_ud mm fo fa fx fy fp fc mem ug ud lt ct hd la bt kindsF waysF = _ := (L0_ud hop hj hk hww).trans (n_i_ud_PLP)
  have e_lt : f_X1_instruction_lt mm fo fa fx fy fp fc mem ug lt ct hd la bt kindsF waysF = _ := (L0_lt hop hj hk hww).trans (n_i_lt_PLP)
  have e_ct : f_X1_instruction_ct mm fo fx fy fc mem ug lt ct hd la bt kindsF waysF = _ := (L0_ct hop hj hk hww).trans (n_i_ct_PLP)
  have e_hd : f_X1_instruction_hd mm fo fx fy fc mem ug lt ct hd la bt kindsF waysF = _ := (L0_hd hop hj hk hww).trans (n_i_hd_PLP)
  have e_la : f_X1_instruction_la mm fo fx fy fc mem ug lt ct hd la bt kindsF waysF = _ := (L0_la hop hj hk hww).trans (n_i_la_PLP)
  have e_bt : f_X1_instruction_bt mm fo fa fx fy fp fc mem ug lt ct hd la bt kindsF waysF = _ := (L0_bt hop hj hk hww).trans (n_i_bt_PLP)
  have g_gB : b_gB ug mm gB gA gX gY gS gP gC gR gM gL = _ := (B_ot_gB ho hkn h4 h5 hwy rfl).trans (n_ot_gB_PLP)
  have g_gA : b_gA ug mm gB gA gX gY gS gP gC gR gM gL = _ := (B_ot_gA ho hkn h4 h5).trans (n_ot_gA_PLP)
  have g_gX : b_gX ug mm gB gA gX gY gS gC gR gM gL = _ := (B_ot_gX ho hkn h4 h5).trans (n_ot_gX_PLP)
  have g_gY : b_gY ug mm gB gA gX gY gC gR gM gL = _ := (B_ot_gY ho hkn h4 h5 hwy rfl).trans (n_ot_gY_PLP)
  have g_gS : b_gS ug mm gB gX gS gC gR gM gL = _ := (B_ot_gS ho hkn h4 h5).trans (n_ot_gS_PLP)
  have g_gP : b_gP ug mm gB gA gX gY gS gP gC gR gM gL = _ := (B_ot_gP ho hkn h4 h5 hwy rfl).trans (n_ot_gP_PLP)
  have g_gC : b_gC ug mm gB gS gP gC gR gM gL = _ := (B_ot_gC ho hkn h4 h5 hwy rfl).trans (n_ot_gC_PLP)
  have g_gR : b_gR ug mm gB gA gX gY gP gC gR gM gL = _ := (B_ot_gR ho hkn h4 h5 hwy rfl rfl).trans (n_ot_gR_PLP)
  have g_gM : b_gM ug mm gB gX gY gC gR gM gL = _ := (B_ot_gM ho hkn h4 h5 hwy rfl rfl).trans (n_ot_gM_PLP)
  have g_gL : b_gL ug mm gB gX gY gC gR gM gL = _ := (B_ot_gL ho hkn h4 h5 hwy rfl rfl).trans (n_ot_gL_PLP)
  have g_un : b_un ug mm gB gA gX gY gP gC gR gM gL = _ := (B_ot_un ho hkn h4 h5 hwy rfl).trans (n_ot_un_PLP)
  have g_ow : b_ow ug ud mm gB gA gX gY gP gC gR gM gL = _ := (B_ot_ow ho hkn h4 h5 hwy rfl).trans (n_ot_ow_PLP)
  rw [e_fa, e_fx, e_fy, e_fs, e_fp, e_fc, e_mem, e_ug, e_ud, e_lt, e_ct, e_hd, e_la, e_bt, g_gB, g_gA, g_gX, g_gY, g_gS, g_gP, g_gC, g_gR, g_gM, g_gL, g_un, g_ow]
  exact op_PLP hm hB hA hX hY hS hP fC fu hf hw
set_option maxRecDepth 100000 in
theorem as_PHA (hm : s_m mm fo) (hB : rm mm gB mem om) (hA : ra mm gA fa oa) (hX : ra mm gX fx ox) (hY : ra mm gY fy oy) (hS : ra mm gS fs os) (hP : rp mm gP fp op) (hC : rc mm gC fc oc) (hu : ru ug lt ct hd la bt gR gM gL) (hf : ∃ j : Nat, j < 64 ∧ ug = nI j) (hw : wB ud) (hj : j < 256) (hop : f_X1_read_r mm fo mem ug lt ct hd la bt fc = nI j) (hc : clsF j = 29) : SR mm oa ox oy os op oc om (f_X1_instruction_fa mm fo fa fx fy fs fp fc mem ug lt ct hd la bt kindsF waysF) (f_X1_instruction_fx mm fo fa fx fy fs fc mem ug lt ct hd la bt kindsF waysF) (f_X1_instruction_fy mm fo fa fx fy fc mem ug lt ct hd la bt kindsF waysF) (f_X1_instruction_fs mm fo fx fs fc mem ug lt ct hd la bt kindsF) (f_X1_instruction_fp mm fo fa fx fy fs fp fc mem ug lt ct hd la bt kindsF waysF) (f_X1_instruction_fc mm fo fx fy fs fp fc mem ug lt ct hd la bt kindsF waysF) (f_X1_instruction_mem mm fo fa fx fy fs fp fc mem ug lt ct hd la bt kindsF waysF) (f_X1_instruction_ug mm fo fa fx fy fp fc mem ug lt ct hd la bt kindsF waysF) (f_X1_instruction_ud mm fo fa fx fy fp fc mem ug ud lt ct hd la bt kindsF waysF) (f_X1_instruction_lt mm fo fa fx fy fp fc mem ug lt ct hd la bt kindsF waysF) (f_X1_instruction_ct mm fo fx fy fc mem ug lt ct hd la bt kindsF waysF) (f_X1_instruction_hd mm fo fx fy fc mem ug lt ct hd la bt kindsF waysF) (f_X1_instruction_la mm fo fx fy fc mem ug lt ct hd la bt kindsF waysF) (f_X1_instruction_bt mm fo fa fx fy fp fc mem ug lt ct hd la bt kindsF waysF) (b_gB ug mm gB gA gX gY gS gP gC gR gM gL) (b_gA ug mm gB gA gX gY gS gP gC gR gM gL) (b_gX ug mm gB gA gX gY gS gC gR gM gL) (b_gY ug mm gB gA gX gY gC gR gM gL) (b_gS ug mm gB gX gS gC gR gM gL) (b_gP ug mm gB gA gX gY gS gP gC gR gM gL) (b_gC ug mm gB gS gP gC gR gM gL) (b_gR ug mm gB gA gX gY gP gC gR gM gL) (b_gM ug mm gB gX gY gC gR gM gL) (b_gL ug mm gB gX gY gC gR gM gL) (b_un ug mm gB gA gX gY gP gC gR gM gL) (b_ow ug ud mm gB gA gX gY gP gC gR gM gL) := by
  have fe := sr_fetch hm hB hf hu hC
  obtain ⟨fv, fb, fu, fC⟩ := fe
  obtain rfl : j = 72 := (show ∀ j : Nat, j < 256 → clsF j = 29 → j = 72 by decide +kernel) j hj hc
  have ho : f_X5_fetch_r ug mm gB gC gR gM gL = (72 : Int32) := fv.trans hop
  have hkn : ¬ f_X5_isKnown_r (72 : Int32) = 0 := by decide +kernel
  have hk : kindsF 72 = 96 := by decide +kernel
  have hww : waysF 72 = 0 := by decide +kernel
  have h4 : ¬ (72 : Int32) - (72 : Int32) / 4 * 4 = 1 := by decide +kernel
  have h5 : ¬ (72 : Int32) - (72 : Int32) / 4 * 4 = 2 := by decide +kernel
  have hwy : f_X5_way_r (72 : Int32) = 0 := by decide +kernel
  have e_fa : f_X1_instruction_fa mm fo fa fx fy fs fp fc mem ug lt ct hd la bt kindsF waysF = _ := (L0_fa hop hj hk hww).trans (n_i_fa_PHA)
  have e_fx : f_X1_instruction_fx mm fo fa fx fy fs fc mem ug lt ct hd la bt kindsF waysF = _ := (L0_fx hop hj hk hww).trans (n_i_fx_PHA)
  have e_fy : f_X1_instruction_fy mm fo fa fx fy fc mem ug lt ct hd la bt kindsF waysF = _ := (L0_fy hop hj hk hww).trans (n_i_fy_PHA)
  have e_fs : f_X1_instruction_fs mm fo fx fs fc mem ug lt ct hd la bt kindsF = _ := (L0_fs hop hj hk).trans (n_i_fs_PHA)
  have e_fp : f_X1_instruction_fp mm fo fa fx fy fs fp fc mem ug lt ct hd la bt kindsF waysF = _ := (L0_fp hop hj hk hww).trans (n_i_fp_PHA)
  have e_fc : f_X1_instruction_fc mm fo fx fy fs fp fc mem ug lt ct hd la bt kindsF waysF = _ := (L0_fc hop hj hk hww).trans (n_i_fc_PHA)
  have e_mem : f_X1_instruction_mem mm fo fa fx fy fs fp fc mem ug lt ct hd la bt kindsF waysF = _ := (L0_mem hop hj hk hww).trans (n_i_mem_PHA)
  have e_ug : f_X1_instruction_ug mm fo fa fx fy fp fc mem ug lt ct hd la bt kindsF waysF = _ := (L0_ug hop hj hk hww).trans (n_i_ug_PHA)
  have e_ud : f_X1_instruction_ud mm fo fa fx fy fp fc mem ug ud lt ct hd la bt kindsF waysF = _ := (L0_ud hop hj hk hww).trans (n_i_ud_PHA)
  have e_lt : f_X1_instruction_lt mm fo fa fx fy fp fc mem ug lt ct hd la bt kindsF waysF = _ := (L0_lt hop hj hk hww).trans (n_i_lt_PHA)
  have e_ct : f_X1_instruction_ct mm fo fx fy fc mem ug lt ct hd la bt kindsF waysF = _ := (L0_ct hop hj hk hww).trans (n_i_ct_PHA)
  have e_hd : f_X1_instruction_hd mm fo fx fy fc mem ug lt ct hd la bt kindsF waysF = _ := (L0_hd hop hj hk hww).trans (n_i_hd_PHA)
  have e_la : f_X1_instruction_la mm fo fx fy fc mem ug lt ct hd la bt kindsF waysF = _ := (L0_la hop hj hk hww).trans (n_i_la_PHA)
  have e_bt : f_X1_instruction_bt mm fo fa fx fy fp fc mem ug lt ct hd la bt kindsF waysF = _ := (L0_bt hop hj hk hww).trans (n_i_bt_PHA)
  have g_gB : b_gB ug mm gB gA gX gY gS gP gC gR gM gL = _ := (B_ot_gB ho hkn h4 h5 hwy rfl).trans (n_ot_gB_PHA)
  have g_gA : b_gA ug mm gB gA gX gY gS gP gC gR gM gL = _ := (B_ot_gA ho hkn h4 h5).trans (n_ot_gA_PHA)
  have g_gX : b_gX ug mm gB gA gX gY gS gC gR gM gL = _ := (B_ot_gX ho hkn h4 h5).trans (n_ot_gX_PHA)
  have g_gY : b_gY ug mm gB gA gX gY gC gR gM gL = _ := (B_ot_gY ho hkn h4 h5 hwy rfl).trans (n_ot_gY_PHA)
  have g_gS : b_gS ug mm gB gX gS gC gR gM gL = _ := (B_ot_gS ho hkn h4 h5).trans (n_ot_gS_PHA)
  have g_gP : b_gP ug mm gB gA gX gY gS gP gC gR gM gL = _ := (B_ot_gP ho hkn h4 h5 hwy rfl).trans (n_ot_gP_PHA)
  have g_gC : b_gC ug mm gB gS gP gC gR gM gL = _ := (B_ot_gC ho hkn h4 h5 hwy rfl).trans (n_ot_gC_PHA)
  have g_gR : b_gR ug mm gB gA gX gY gP gC gR gM gL = _ := (B_ot_gR ho hkn h4 h5 hwy rfl rfl).trans (n_ot_gR_PHA)
  have g_gM : b_gM ug mm gB gX gY gC gR gM gL = _ := (B_ot_gM ho hkn h4 h5 hwy rfl rfl).trans (n_ot_gM_PHA)
  have g_gL : b_gL ug mm gB gX gY gC gR gM gL = _ := (B_ot_gL ho hkn h4 h5 hwy rfl rfl).trans (n_ot_gL_PHA)
  have g_un : b_un ug mm gB gA gX gY gP gC gR gM gL = _ := (B_ot_un ho hkn h4 h5 hwy rfl).trans (n_ot_un_PHA)
  have g_ow : b_ow ug ud mm gB gA gX gY gP gC gR gM gL = _ := (B_ot_ow ho hkn h4 h5 hwy rfl).trans (n_ot_ow_PHA)
  rw [e_fa, e_fx, e_fy, e_fs, e_fp, e_fc, e_mem, e_ug, e_ud, e_lt, e_ct, e_hd, e_la, e_bt, g_gB, g_gA, g_gX, g_gY, g_gS, g_gP, g_gC, g_gR, g_gM, g_gL, g_un, g_ow]
  exact op_PHA hm hB hA hX hY hS hP fC fu hf hw
set_option maxRecDepth 100000 in
theorem as_PLA (hm : s_m mm fo) (hB : rm mm gB mem om) (hA : ra mm gA fa oa) (hX : ra mm gX fx ox) (hY : ra mm gY fy oy) (hS : ra mm gS fs os) (hP : rp mm gP fp op) (hC : rc mm gC fc oc) (hu : ru ug lt ct hd la bt gR gM gL) (hf : ∃ j : Nat, j < 64 ∧ ug = nI j) (hw : wB ud) (hj : j < 256) (hop : f_X1_read_r mm fo mem ug lt ct hd la bt fc = nI j) (hc : clsF j = 30) : SR mm oa ox oy os op oc om (f_X1_instruction_fa mm fo fa fx fy fs fp fc mem ug lt ct hd la bt kindsF waysF) (f_X1_instruction_fx mm fo fa fx fy fs fc mem ug lt ct hd la bt kindsF waysF) (f_X1_instruction_fy mm fo fa fx fy fc mem ug lt ct hd la bt kindsF waysF) (f_X1_instruction_fs mm fo fx fs fc mem ug lt ct hd la bt kindsF) (f_X1_instruction_fp mm fo fa fx fy fs fp fc mem ug lt ct hd la bt kindsF waysF) (f_X1_instruction_fc mm fo fx fy fs fp fc mem ug lt ct hd la bt kindsF waysF) (f_X1_instruction_mem mm fo fa fx fy fs fp fc mem ug lt ct hd la bt kindsF waysF) (f_X1_instruction_ug mm fo fa fx fy fp fc mem ug lt ct hd la bt kindsF waysF) (f_X1_instruction_ud mm fo fa fx fy fp fc mem ug ud lt ct hd la bt kindsF waysF) (f_X1_instruction_lt mm fo fa fx fy fp fc mem ug lt ct hd la bt kindsF waysF) (f_X1_instruction_ct mm fo fx fy fc mem ug lt ct hd la bt kindsF waysF) (f_X1_instruction_hd mm fo fx fy fc mem ug lt ct hd la bt kindsF waysF) (f_X1_instruction_la mm fo fx fy fc mem ug lt ct hd la bt kindsF waysF) (f_X1_instruction_bt mm fo fa fx fy fp fc mem ug lt ct hd la bt kindsF waysF) (b_gB ug mm gB gA gX gY gS gP gC gR gM gL) (b_gA ug mm gB gA gX gY gS gP gC gR gM gL) (b_gX ug mm gB gA gX gY gS gC gR gM gL) (b_gY ug mm gB gA gX gY gC gR gM gL) (b_gS ug mm gB gX gS gC gR gM gL) (b_gP ug mm gB gA gX gY gS gP gC gR gM gL) (b_gC ug mm gB gS gP gC gR gM gL) (b_gR ug mm gB gA gX gY gP gC gR gM gL) (b_gM ug mm gB gX gY gC gR gM gL) (b_gL ug mm gB gX gY gC gR gM gL) (b_un ug mm gB gA gX gY gP gC gR gM gL) (b_ow ug ud mm gB gA gX gY gP gC gR gM gL) := by
  have fe := sr_fetch hm hB hf hu hC
  obtain ⟨fv, fb, fu, fC⟩ := fe
  obtain rfl : j = 104 := (show ∀ j : Nat, j < 256 → clsF j = 30 → j = 104 by decide +kernel) j hj hc
  have ho : f_X5_fetch_r ug mm gB gC gR gM gL = (104 : Int32) := fv.trans hop
  have hkn : ¬ f_X5_isKnown_r (104 : Int32) = 0 := by decide +kernel
  have hk : kindsF 104 = 97 := by decide +kernel
  have hww : waysF 104 = 0 := by decide +kernel
  have h4 : ¬ (104 : Int32) - (104 : Int32) / 4 * 4 = 1 := by decide +kernel
  have h5 : ¬ (104 : Int32) - (104 : Int32) / 4 * 4 = 2 := by decide +kernel
  have hwy : f_X5_way_r (104 : Int32) = 0 := by decide +kernel
  have e_fa : f_X1_instruction_fa mm fo fa fx fy fs fp fc mem ug lt ct hd la bt kindsF waysF = _ := (L0_fa hop hj hk hww).trans (n_i_fa_PLA)
  have e_fx : f_X1_instruction_fx mm fo fa fx fy fs fc mem ug lt ct hd la bt kindsF waysF = _ := (L0_fx hop hj hk hww).trans (n_i_fx_PLA)
  have e_fy : f_X1_instruction_fy mm fo fa fx fy fc mem ug lt ct hd la bt kindsF waysF = _ := (L0_fy hop hj hk hww).trans (n_i_fy_PLA)
  have e_fs : f_X1_instruction_fs mm fo fx fs fc mem ug lt ct hd la bt kindsF = _ := (L0_fs hop hj hk).trans (n_i_fs_PLA)
  have e_fp : f_X1_instruction_fp mm fo fa fx fy fs fp fc mem ug lt ct hd la bt kindsF waysF = _ := (L0_fp hop hj hk hww).trans (n_i_fp_PLA)
  have e_fc : f_X1_instruction_fc mm fo fx fy fs fp fc mem ug lt ct hd la bt kindsF waysF = _ := (L0_fc hop hj hk hww).trans (n_i_fc_PLA)
  have e_mem : f_X1_instruction_mem mm fo fa fx fy fs fp fc mem ug lt ct hd la bt kindsF waysF = _ := (L0_mem hop hj hk hww).trans (n_i_mem_PLA)
  have e_ug : f_X1_instruction_ug mm fo fa fx fy fp fc mem ug lt ct hd la bt kindsF waysF = _ := (L0_ug hop hj hk hww).trans (n_i_ug_PLA)
  have e_ud : f_X1_instruction_ud mm fo fa fx fy fp fc mem ug ud lt ct hd la bt kindsF waysF = _ := (L0_ud hop hj hk hww).trans (n_i_ud_PLA)
  have e_lt : f_X1_instruction_lt mm fo fa fx fy fp fc mem ug lt ct hd la bt kindsF waysF = _ := (L0_lt hop hj hk hww).trans (n_i_lt_PLA)
  have e_ct : f_X1_instruction_ct mm fo fx fy fc mem ug lt ct hd la bt kindsF waysF = _ := (L0_ct hop hj hk hww).trans (n_i_ct_PLA)
  have e_hd : f_X1_instruction_hd mm fo fx fy fc mem ug lt ct hd la bt kindsF waysF = _ := (L0_hd hop hj hk hww).trans (n_i_hd_PLA)
  have e_la : f_X1_instruction_la mm fo fx fy fc mem ug lt ct hd la bt kindsF waysF = _ := (L0_la hop hj hk hww).trans (n_i_la_PLA)
  have e_bt : f_X1_instruction_bt mm fo fa fx fy fp fc mem ug lt ct hd la bt kindsF waysF = _ := (L0_bt hop hj hk hww).trans (n_i_bt_PLA)
  have g_gB : b_gB ug mm gB gA gX gY gS gP gC gR gM gL = _ := (B_ot_gB ho hkn h4 h5 hwy rfl).trans (n_ot_gB_PLA)
  have g_gA : b_gA ug mm gB gA gX gY gS gP gC gR gM gL = _ := (B_ot_gA ho hkn h4 h5).trans (n_ot_gA_PLA)
  have g_gX : b_gX ug mm gB gA gX gY gS gC gR gM gL = _ := (B_ot_gX ho hkn h4 h5).trans (n_ot_gX_PLA)
  have g_gY : b_gY ug mm gB gA gX gY gC gR gM gL = _ := (B_ot_gY ho hkn h4 h5 hwy rfl).trans (n_ot_gY_PLA)
  have g_gS : b_gS ug mm gB gX gS gC gR gM gL = _ := (B_ot_gS ho hkn h4 h5).trans (n_ot_gS_PLA)
  have g_gP : b_gP ug mm gB gA gX gY gS gP gC gR gM gL = _ := (B_ot_gP ho hkn h4 h5 hwy rfl).trans (n_ot_gP_PLA)
  have g_gC : b_gC ug mm gB gS gP gC gR gM gL = _ := (B_ot_gC ho hkn h4 h5 hwy rfl).trans (n_ot_gC_PLA)
  have g_gR : b_gR ug mm gB gA gX gY gP gC gR gM gL = _ := (B_ot_gR ho hkn h4 h5 hwy rfl rfl).trans (n_ot_gR_PLA)
  have g_gM : b_gM ug mm gB gX gY gC gR gM gL = _ := (B_ot_gM ho hkn h4 h5 hwy rfl rfl).trans (n_ot_gM_PLA)
  have g_gL : b_gL ug mm gB gX gY gC gR gM gL = _ := (B_ot_gL ho hkn h4 h5 hwy rfl rfl).trans (n_ot_gL_PLA)
  have g_un : b_un ug mm gB gA gX gY gP gC gR gM gL = _ := (B_ot_un ho hkn h4 h5 hwy rfl).trans (n_ot_un_PLA)
  have g_ow : b_ow ug ud mm gB gA gX gY gP gC gR gM gL = _ := (B_ot_ow ho hkn h4 h5 hwy rfl).trans (n_ot_ow_PLA)
  rw [e_fa, e_fx, e_fy, e_fs, e_fp, e_fc, e_mem, e_ug, e_ud, e_lt, e_ct, e_hd, e_la, e_bt, g_gB, g_gA, g_gX, g_gY, g_gS, g_gP, g_gC, g_gR, g_gM, g_gL, g_un, g_ow]
  exact op_PLA hm hB hA hX hY hS hP fC fu hf hw
set_option maxRecDepth 100000 in
theorem as_DEY (hm : s_m mm fo) (hB : rm mm gB mem om) (hA : ra mm gA fa oa) (hX : ra mm gX fx ox) (hY : ra mm gY fy oy) (hS : ra mm gS fs os) (hP : rp mm gP fp op) (hC : rc mm gC fc oc) (hu : ru ug lt ct hd la bt gR gM gL) (hf : ∃ j : Nat, j < 64 ∧ ug = nI j) (hw : wB ud) (hj : j < 256) (hop : f_X1_read_r mm fo mem ug lt ct hd la bt fc = nI j) (hc : clsF j = 31) : SR mm oa ox oy os op oc om (f_X1_instruction_fa mm fo fa fx fy fs fp fc mem ug lt ct hd la bt kindsF waysF) (f_X1_instruction_fx mm fo fa fx fy fs fc mem ug lt ct hd la bt kindsF waysF) (f_X1_instruction_fy mm fo fa fx fy fc mem ug lt ct hd la bt kindsF waysF) (f_X1_instruction_fs mm fo fx fs fc mem ug lt ct hd la bt kindsF) (f_X1_instruction_fp mm fo fa fx fy fs fp fc mem ug lt ct hd la bt kindsF waysF) (f_X1_instruction_fc mm fo fx fy fs fp fc mem ug lt ct hd la bt kindsF waysF) (f_X1_instruction_mem mm fo fa fx fy fs fp fc mem ug lt ct hd la bt kindsF waysF) (f_X1_instruction_ug mm fo fa fx fy fp fc mem ug lt ct hd la bt kindsF waysF) (f_X1_instruction_ud mm fo fa fx fy fp fc mem ug ud lt ct hd la bt kindsF waysF) (f_X1_instruction_lt mm fo fa fx fy fp fc mem ug lt ct hd la bt kindsF waysF) (f_X1_instruction_ct mm fo fx fy fc mem ug lt ct hd la bt kindsF waysF) (f_X1_instruction_hd mm fo fx fy fc mem ug lt ct hd la bt kindsF waysF) (f_X1_instruction_la mm fo fx fy fc mem ug lt ct hd la bt kindsF waysF) (f_X1_instruction_bt mm fo fa fx fy fp fc mem ug lt ct hd la bt kindsF waysF) (b_gB ug mm gB gA gX gY gS gP gC gR gM gL) (b_gA ug mm gB gA gX gY gS gP gC gR gM gL) (b_gX ug mm gB gA gX gY gS gC gR gM gL) (b_gY ug mm gB gA gX gY gC gR gM gL) (b_gS ug mm gB gX gS gC gR gM gL) (b_gP ug mm gB gA gX gY gS gP gC gR gM gL) (b_gC ug mm gB gS gP gC gR gM gL) (b_gR ug mm gB gA gX gY gP gC gR gM gL) (b_gM ug mm gB gX gY gC gR gM gL) (b_gL ug mm gB gX gY gC gR gM gL) (b_un ug mm gB gA gX gY gP gC gR gM gL) (b_ow ug ud mm gB gA gX gY gP gC gR gM gL) := by
  have fe := sr_fetch hm hB hf hu hC
  obtain ⟨fv, fb, fu, fC⟩ := fe
  obtain rfl : j = 136 := (show ∀ j : Nat, j < 256 → clsF j = 31 → j = 136 by decide +kernel) j hj hc
  have ho : f_X5_fetch_r ug mm gB gC gR gM gL = (136 : Int32) := fv.trans hop
  have hkn : ¬ f_X5_isKnown_r (136 : Int32) = 0 := by decide +kernel
  have hk : kindsF 136 = 73 := by decide +kernel
  have hww : waysF 136 = 0 := by decide +kernel
  have h4 : ¬ (136 : Int32) - (136 : Int32) / 4 * 4 = 1 := by decide +kernel
  have h5 : ¬ (136 : Int32) - (136 : Int32) / 4 * 4 = 2 := by decide +kernel
  have hwy : f_X5_way_r (136 : Int32) = 0 := by decide +kernel
  have e_fa : f_X1_instruction_fa mm fo fa fx fy fs fp fc mem ug lt ct hd la bt kindsF waysF = _ := (L0_fa hop hj hk hww).trans (n_i_fa_DEY)
  have e_fx : f_X1_instruction_fx mm fo fa fx fy fs fc mem ug lt ct hd la bt kindsF waysF = _ := (L0_fx hop hj hk hww).trans (n_i_fx_DEY)
  have e_fy : f_X1_instruction_fy mm fo fa fx fy fc mem ug lt ct hd la bt kindsF waysF = _ := (L0_fy hop hj hk hww).trans (n_i_fy_DEY)
  have e_fs : f_X1_instruction_fs mm fo fx fs fc mem ug lt ct hd la bt kindsF = _ := (L0_fs hop hj hk).trans (n_i_fs_DEY)
  have e_fp : f_X1_instruction_fp mm fo fa fx fy fs fp fc mem ug lt ct hd la bt kindsF waysF = _ := (L0_fp hop hj hk hww).trans (n_i_fp_DEY)
  have e_fc : f_X1_instruction_fc mm fo fx fy fs fp fc mem ug lt ct hd la bt kindsF waysF = _ := (L0_fc hop hj hk hww).trans (n_i_fc_DEY)
  have e_mem : f_X1_instruction_mem mm fo fa fx fy fs fp fc mem ug lt ct hd la bt kindsF waysF = _ := (L0_mem hop hj hk hww).trans (n_i_mem_DEY)
  have e_ug : f_X1_instruction_ug mm fo fa fx fy fp fc mem ug lt ct hd la bt kindsF waysF = _ := (L0_ug hop hj hk hww).trans (n_i_ug_DEY)
  have e_ud : f_X1_instruction_ud mm fo fa fx fy fp fc mem ug ud lt ct hd la bt kindsF waysF = _ := (L0_ud hop hj hk hww).trans (n_i_ud_DEY)
  have e_lt : f_X1_instruction_lt mm fo fa fx fy fp fc mem ug lt ct hd la bt kindsF waysF = _ := (L0_lt hop hj hk hww).trans (n_i_lt_DEY)
  have e_ct : f_X1_instruction_ct mm fo fx fy fc mem ug lt ct hd la bt kindsF waysF = _ := (L0_ct hop hj hk hww).trans (n_i_ct_DEY)
  have e_hd : f_X1_instruction_hd mm fo fx fy fc mem ug lt ct hd la bt kindsF waysF = _ := (L0_hd hop hj hk hww).trans (n_i_hd_DEY)
  have e_la : f_X1_instruction_la mm fo fx fy fc mem ug lt ct hd la bt kindsF waysF = _ := (L0_la hop hj hk hww).trans (n_i_la_DEY)
  have e_bt : f_X1_instruction_bt mm fo fa fx fy fp fc mem ug lt ct hd la bt kindsF waysF = _ := (L0_bt hop hj hk hww).trans (n_i_bt_DEY)
  have g_gB : b_gB ug mm gB gA gX gY gS gP gC gR gM gL = _ := (B_ot_gB ho hkn h4 h5 hwy rfl).trans (n_ot_gB_DEY)
  have g_gA : b_gA ug mm gB gA gX gY gS gP gC gR gM gL = _ := (B_ot_gA ho hkn h4 h5).trans (n_ot_gA_DEY)
  have g_gX : b_gX ug mm gB gA gX gY gS gC gR gM gL = _ := (B_ot_gX ho hkn h4 h5).trans (n_ot_gX_DEY)
  have g_gY : b_gY ug mm gB gA gX gY gC gR gM gL = _ := (B_ot_gY ho hkn h4 h5 hwy rfl).trans (n_ot_gY_DEY)
  have g_gS : b_gS ug mm gB gX gS gC gR gM gL = _ := (B_ot_gS ho hkn h4 h5).trans (n_ot_gS_DEY)
  have g_gP : b_gP ug mm gB gA gX gY gS gP gC gR gM gL = _ := (B_ot_gP ho hkn h4 h5 hwy rfl).trans (n_ot_gP_DEY)
  have g_gC : b_gC ug mm gB gS gP gC gR gM gL = _ := (B_ot_gC ho hkn h4 h5 hwy rfl).trans (n_ot_gC_DEY)
  have g_gR : b_gR ug mm gB gA gX gY gP gC gR gM gL = _ := (B_ot_gR ho hkn h4 h5 hwy rfl rfl).trans (n_ot_gR_DEY)
  have g_gM : b_gM ug mm gB gX gY gC gR gM gL = _ := (B_ot_gM ho hkn h4 h5 hwy rfl rfl).trans (n_ot_gM_DEY)
  have g_gL : b_gL ug mm gB gX gY gC gR gM gL = _ := (B_ot_gL ho hkn h4 h5 hwy rfl rfl).trans (n_ot_gL_DEY)
  have g_un : b_un ug mm gB gA gX gY gP gC gR gM gL = _ := (B_ot_un ho hkn h4 h5 hwy rfl).trans (n_ot_un_DEY)
  have g_ow : b_ow ug ud mm gB gA gX gY gP gC gR gM gL = _ := (B_ot_ow ho hkn h4 h5 hwy rfl).trans (n_ot_ow_DEY)
  rw [e_fa, e_fx, e_fy, e_fs, e_fp, e_fc, e_mem, e_ug, e_ud, e_lt, e_ct, e_hd, e_la, e_bt, g_gB, g_gA, g_gX, g_gY, g_gS, g_gP, g_gC, g_gR, g_gM, g_gL, g_un, g_ow]
  exact op_DEY hm hB hA hX hY hS hP fC fu hf hw
set_option maxRecDepth 100000 in
theorem as_TAY (hm : s_m mm fo) (hB : rm mm gB mem om) (hA : ra mm gA fa oa) (hX : ra mm gX fx ox) (hY : ra mm gY fy oy) (hS : ra mm gS fs os) (hP : rp mm gP fp op) (hC : rc mm gC fc oc) (hu : ru ug lt ct hd la bt gR gM gL) (hf : ∃ j : Nat, j < 64 ∧ ug = nI j) (hw : wB ud) (hj : j < 256) (hop : f_X1_read_r mm fo mem ug lt ct hd la bt fc = nI j) (hc : clsF j = 32) : SR mm oa ox oy os op oc om (f_X1_instruction_fa mm fo fa fx fy fs fp fc mem ug lt ct hd la bt kindsF waysF) (f_X1_instruction_fx mm fo fa fx fy fs fc mem ug lt ct hd la bt kindsF waysF) (f_X1_instruction_fy mm fo fa fx fy fc mem ug lt ct hd la bt kindsF waysF) (f_X1_instruction_fs mm fo fx fs fc mem ug lt ct hd la bt kindsF) (f_X1_instruction_fp mm fo fa fx fy fs fp fc mem ug lt ct hd la bt kindsF waysF) (f_X1_instruction_fc mm fo fx fy fs fp fc mem ug lt ct hd la bt kindsF waysF) (f_X1_instruction_mem mm fo fa fx fy fs fp fc mem ug lt ct hd la bt kindsF waysF) (f_X1_instruction_ug mm fo fa fx fy fp fc mem ug lt ct hd la bt kindsF waysF) (f_X1_instruction_ud mm fo fa fx fy fp fc mem ug ud lt ct hd la bt kindsF waysF) (f_X1_instruction_lt mm fo fa fx fy fp fc mem ug lt ct hd la bt kindsF waysF) (f_X1_instruction_ct mm fo fx fy fc mem ug lt ct hd la bt kindsF waysF) (f_X1_instruction_hd mm fo fx fy fc mem ug lt ct hd la bt kindsF waysF) (f_X1_instruction_la mm fo fx fy fc mem ug lt ct hd la bt kindsF waysF) (f_X1_instruction_bt mm fo fa fx fy fp fc mem ug lt ct hd la bt kindsF waysF) (b_gB ug mm gB gA gX gY gS gP gC gR gM gL) (b_gA ug mm gB gA gX gY gS gP gC gR gM gL) (b_gX ug mm gB gA gX gY gS gC gR gM gL) (b_gY ug mm gB gA gX gY gC gR gM gL) (b_gS ug mm gB gX gS gC gR gM gL) (b_gP ug mm gB gA gX gY gS gP gC gR gM gL) (b_gC ug mm gB gS gP gC gR gM gL) (b_gR ug mm gB gA gX gY gP gC gR gM gL) (b_gM ug mm gB gX gY gC gR gM gL) (b_gL ug mm gB gX gY gC gR gM gL) (b_un ug mm gB gA gX gY gP gC gR gM gL) (b_ow ug ud mm gB gA gX gY gP gC gR gM gL) := by
  have fe := sr_fetch hm hB hf hu hC
  obtain ⟨fv, fb, fu, fC⟩ := fe
  obtain rfl : j = 168 := (show ∀ j : Nat, j < 256 → clsF j = 32 → j = 168 by decide +kernel) j hj hc
  have ho : f_X5_fetch_r ug mm gB gC gR gM gL = (168 : Int32) := fv.trans hop
  have hkn : ¬ f_X5_isKnown_r (168 : Int32) = 0 := by decide +kernel
  have hk : kindsF 168 = 65 := by decide +kernel
  have hww : waysF 168 = 0 := by decide +kernel
  have h4 : ¬ (168 : Int32) - (168 : Int32) / 4 * 4 = 1 := by decide +kernel
  have h5 : ¬ (168 : Int32) - (168 : Int32) / 4 * 4 = 2 := by decide +kernel
  have hwy : f_X5_way_r (168 : Int32) = 0 := by decide +kernel
  have e_fa : f_X1_instruction_fa mm fo fa fx fy fs fp fc mem ug lt ct hd la bt kindsF waysF = _ := (L0_fa hop hj hk hww).trans (n_i_fa_TAY)
  have e_fx : f_X1_instruction_fx mm fo fa fx fy fs fc mem ug lt ct hd la bt kindsF waysF = _ := (L0_fx hop hj hk hww).trans (n_i_fx_TAY)
  have e_fy : f_X1_instruction_fy mm fo fa fx fy fc mem ug lt ct hd la bt kindsF waysF = _ := (L0_fy hop hj hk hww).trans (n_i_fy_TAY)
  have e_fs : f_X1_instruction_fs mm fo fx fs fc mem ug lt ct hd la bt kindsF = _ := (L0_fs hop hj hk).trans (n_i_fs_TAY)
  have e_fp : f_X1_instruction_fp mm fo fa fx fy fs fp fc mem ug lt ct hd la bt kindsF waysF = _ := (L0_fp hop hj hk hww).trans (n_i_fp_TAY)
  have e_fc : f_X1_instruction_fc mm fo fx fy fs fp fc mem ug lt ct hd la bt kindsF waysF = _ := (L0_fc hop hj hk hww).trans (n_i_fc_TAY)
  have e_mem : f_X1_instruction_mem mm fo fa fx fy fs fp fc mem ug lt ct hd la bt kindsF waysF = _ := (L0_mem hop hj hk hww).trans (n_i_mem_TAY)
  have e_ug : f_X1_instruction_ug mm fo fa fx fy fp fc mem ug lt ct hd la bt kindsF waysF = _ := (L0_ug hop hj hk hww).trans (n_i_ug_TAY)
  have e_ud : f_X1_instruction_ud mm fo fa fx fy fp fc mem ug ud lt ct hd la bt kindsF waysF = _ := (L0_ud hop hj hk hww).trans (n_i_ud_TAY)
  have e_lt : f_X1_instruction_lt mm fo fa fx fy fp fc mem ug lt ct hd la bt kindsF waysF = _ := (L0_lt hop hj hk hww).trans (n_i_lt_TAY)
  have e_ct : f_X1_instruction_ct mm fo fx fy fc mem ug lt ct hd la bt kindsF waysF = _ := (L0_ct hop hj hk hww).trans (n_i_ct_TAY)
  have e_hd : f_X1_instruction_hd mm fo fx fy fc mem ug lt ct hd la bt kindsF waysF = _ := (L0_hd hop hj hk hww).trans (n_i_hd_TAY)
  have e_la : f_X1_instruction_la mm fo fx fy fc mem ug lt ct hd la bt kindsF waysF = _ := (L0_la hop hj hk hww).trans (n_i_la_TAY)
  have e_bt : f_X1_instruction_bt mm fo fa fx fy fp fc mem ug lt ct hd la bt kindsF waysF = _ := (L0_bt hop hj hk hww).trans (n_i_bt_TAY)
  have g_gB : b_gB ug mm gB gA gX gY gS gP gC gR gM gL = _ := (B_ot_gB ho hkn h4 h5 hwy rfl).trans (n_ot_gB_TAY)
  have g_gA : b_gA ug mm gB gA gX gY gS gP gC gR gM gL = _ := (B_ot_gA ho hkn h4 h5).trans (n_ot_gA_TAY)
  have g_gX : b_gX ug mm gB gA gX gY gS gC gR gM gL = _ := (B_ot_gX ho hkn h4 h5).trans (n_ot_gX_TAY)
  have g_gY : b_gY ug mm gB gA gX gY gC gR gM gL = _ := (B_ot_gY ho hkn h4 h5 hwy rfl).trans (n_ot_gY_TAY)
  have g_gS : b_gS ug mm gB gX gS gC gR gM gL = _ := (B_ot_gS ho hkn h4 h5).trans (n_ot_gS_TAY)
  have g_gP : b_gP ug mm gB gA gX gY gS gP gC gR gM gL = _ := (B_ot_gP ho hkn h4 h5 hwy rfl).trans (n_ot_gP_TAY)
  have g_gC : b_gC ug mm gB gS gP gC gR gM gL = _ := (B_ot_gC ho hkn h4 h5 hwy rfl).trans (n_ot_gC_TAY)
  have g_gR : b_gR ug mm gB gA gX gY gP gC gR gM gL = _ := (B_ot_gR ho hkn h4 h5 hwy rfl rfl).trans (n_ot_gR_TAY)
  have g_gM : b_gM ug mm gB gX gY gC gR gM gL = _ := (B_ot_gM ho hkn h4 h5 hwy rfl rfl).trans (n_ot_gM_TAY)
  have g_gL : b_gL ug mm gB gX gY gC gR gM gL = _ := (B_ot_gL ho hkn h4 h5 hwy rfl rfl).trans (n_ot_gL_TAY)
  have g_un : b_un ug mm gB gA gX gY gP gC gR gM gL = _ := (B_ot_un ho hkn h4 h5 hwy rfl).trans (n_ot_un_TAY)
  have g_ow : b_ow ug ud mm gB gA gX gY gP gC gR gM gL = _ := (B_ot_ow ho hkn h4 h5 hwy rfl).trans (n_ot_ow_TAY)
  rw [e_fa, e_fx, e_fy, e_fs, e_fp, e_fc, e_mem, e_ug, e_ud, e_lt, e_ct, e_hd, e_la, e_bt, g_gB, g_gA, g_gX, g_gY, g_gS, g_gP, g_gC, g_gR, g_gM, g_gL, g_un, g_ow]
  exact op_TAY hm hB hA hX hY hS hP fC fu hf hw
set_option maxRecDepth 100000 in
theorem as_INY (hm : s_m mm fo) (hB : rm mm gB mem om) (hA : ra mm gA fa oa) (hX : ra mm gX fx ox) (hY : ra mm gY fy oy) (hS : ra mm gS fs os) (hP : rp mm gP fp op) (hC : rc mm gC fc oc) (hu : ru ug lt ct hd la bt gR gM gL) (hf : ∃ j : Nat, j < 64 ∧ ug = nI j) (hw : wB ud) (hj : j < 256) (hop : f_X1_read_r mm fo mem ug lt ct hd la bt fc = nI j) (hc : clsF j = 33) : SR mm oa ox oy os op oc om (f_X1_instruction_fa mm fo fa fx fy fs fp fc mem ug lt ct hd la bt kindsF waysF) (f_X1_instruction_fx mm fo fa fx fy fs fc mem ug lt ct hd la bt kindsF waysF) (f_X1_instruction_fy mm fo fa fx fy fc mem ug lt ct hd la bt kindsF waysF) (f_X1_instruction_fs mm fo fx fs fc mem ug lt ct hd la bt kindsF) (f_X1_instruction_fp mm fo fa fx fy fs fp fc mem ug lt ct hd la bt kindsF waysF) (f_X1_instruction_fc mm fo fx fy fs fp fc mem ug lt ct hd la bt kindsF waysF) (f_X1_instruction_mem mm fo fa fx fy fs fp fc mem ug lt ct hd la bt kindsF waysF) (f_X1_instruction_ug mm fo fa fx fy fp fc mem ug lt ct hd la bt kindsF waysF) (f_X1_instruction_ud mm fo fa fx fy fp fc mem ug ud lt ct hd la bt kindsF waysF) (f_X1_instruction_lt mm fo fa fx fy fp fc mem ug lt ct hd la bt kindsF waysF) (f_X1_instruction_ct mm fo fx fy fc mem ug lt ct hd la bt kindsF waysF) (f_X1_instruction_hd mm fo fx fy fc mem ug lt ct hd la bt kindsF waysF) (f_X1_instruction_la mm fo fx fy fc mem ug lt ct hd la bt kindsF waysF) (f_X1_instruction_bt mm fo fa fx fy fp fc mem ug lt ct hd la bt kindsF waysF) (b_gB ug mm gB gA gX gY gS gP gC gR gM gL) (b_gA ug mm gB gA gX gY gS gP gC gR gM gL) (b_gX ug mm gB gA gX gY gS gC gR gM gL) (b_gY ug mm gB gA gX gY gC gR gM gL) (b_gS ug mm gB gX gS gC gR gM gL) (b_gP ug mm gB gA gX gY gS gP gC gR gM gL) (b_gC ug mm gB gS gP gC gR gM gL) (b_gR ug mm gB gA gX gY gP gC gR gM gL) (b_gM ug mm gB gX gY gC gR gM gL) (b_gL ug mm gB gX gY gC gR gM gL) (b_un ug mm gB gA gX gY gP gC gR gM gL) (b_ow ug ud mm gB gA gX gY gP gC gR gM gL) := by
  have fe := sr_fetch hm hB hf hu hC
  obtain ⟨fv, fb, fu, fC⟩ := fe
  obtain rfl : j = 200 := (show ∀ j : Nat, j < 256 → clsF j = 33 → j = 200 by decide +kernel) j hj hc
  have ho : f_X5_fetch_r ug mm gB gC gR gM gL = (200 : Int32) := fv.trans hop
  have hkn : ¬ f_X5_isKnown_r (200 : Int32) = 0 := by decide +kernel
  have hk : kindsF 200 = 71 := by decide +kernel
  have hww : waysF 200 = 0 := by decide +kernel
  have h4 : ¬ (200 : Int32) - (200 : Int32) / 4 * 4 = 1 := by decide +kernel
  have h5 : ¬ (200 : Int32) - (200 : Int32) / 4 * 4 = 2 := by decide +kernel
  have hwy : f_X5_way_r (200 : Int32) = 0 := by decide +kernel
  have e_fa : f_X1_instruction_fa mm fo fa fx fy fs fp fc mem ug lt ct hd la bt kindsF waysF = _ := (L0_fa hop hj hk hww).trans (n_i_fa_INY)
  have e_fx : f_X1_instruction_fx mm fo fa fx fy fs fc mem ug lt ct hd la bt kindsF waysF = _ := (L0_fx hop hj hk hww).trans (n_i_fx_INY)
  have e_fy : f_X1_instruction_fy mm fo fa fx fy fc mem ug lt ct hd la bt kindsF waysF = _ := (L0_fy hop hj hk hww).trans (n_i_fy_INY)
  have e_fs : f_X1_instruction_fs mm fo fx fs fc mem ug lt ct hd la bt kindsF = _ := (L0_fs hop hj hk).trans (n_i_fs_INY)
  have e_fp : f_X1_instruction_fp mm fo fa fx fy fs fp fc mem ug lt ct hd la bt kindsF waysF = _ := (L0_fp hop hj hk hww).trans (n_i_fp_INY)
  have e_fc : f_X1_instruction_fc mm fo fx fy fs fp fc mem ug lt ct hd la bt kindsF waysF = _ := (L0_fc hop hj hk hww).trans (n_i_fc_INY)
  have e_mem : f_X1_instruction_mem mm fo fa fx fy fs fp fc mem ug lt ct hd la bt kindsF waysF = _ := (L0_mem hop hj hk hww).trans (n_i_mem_INY)
  have e_ug : f_X1_instruction_ug mm fo fa fx fy fp fc mem ug lt ct hd la bt kindsF waysF = _ := (L0_ug hop hj hk hww).trans (n_i_ug_INY)
  have e_ud : f_X1_instruction_ud mm fo fa fx fy fp fc mem ug ud lt ct hd la bt kindsF waysF = _ := (L0_ud hop hj hk hww).trans (n_i_ud_INY)
  have e_lt : f_X1_instruction_lt mm fo fa fx fy fp fc mem ug lt ct hd la bt kindsF waysF = _ := (L0_lt hop hj hk hww).trans (n_i_lt_INY)
  have e_ct : f_X1_instruction_ct mm fo fx fy fc mem ug lt ct hd la bt kindsF waysF = _ := (L0_ct hop hj hk hww).trans (n_i_ct_INY)
  have e_hd : f_X1_instruction_hd mm fo fx fy fc mem ug lt ct hd la bt kindsF waysF = _ := (L0_hd hop hj hk hww).trans (n_i_hd_INY)
  have e_la : f_X1_instruction_la mm fo fx fy fc mem ug lt ct hd la bt kindsF waysF = _ := (L0_la hop hj hk hww).trans (n_i_la_INY)
  have e_bt : f_X1_instruction_bt mm fo fa fx fy fp fc mem ug lt ct hd la bt kindsF waysF = _ := (L0_bt hop hj hk hww).trans (n_i_bt_INY)
  have g_gB : b_gB ug mm gB gA gX gY gS gP gC gR gM gL = _ := (B_ot_gB ho hkn h4 h5 hwy rfl).trans (n_ot_gB_INY)
  have g_gA : b_gA ug mm gB gA gX gY gS gP gC gR gM gL = _ := (B_ot_gA ho hkn h4 h5).trans (n_ot_gA_INY)
  have g_gX : b_gX ug mm gB gA gX gY gS gC gR gM gL = _ := (B_ot_gX ho hkn h4 h5).trans (n_ot_gX_INY)
  have g_gY : b_gY ug mm gB gA gX gY gC gR gM gL = _ := (B_ot_gY ho hkn h4 h5 hwy rfl).trans (n_ot_gY_INY)
  have g_gS : b_gS ug mm gB gX gS gC gR gM gL = _ := (B_ot_gS ho hkn h4 h5).trans (n_ot_gS_INY)
  have g_gP : b_gP ug mm gB gA gX gY gS gP gC gR gM gL = _ := (B_ot_gP ho hkn h4 h5 hwy rfl).trans (n_ot_gP_INY)
  have g_gC : b_gC ug mm gB gS gP gC gR gM gL = _ := (B_ot_gC ho hkn h4 h5 hwy rfl).trans (n_ot_gC_INY)
  have g_gR : b_gR ug mm gB gA gX gY gP gC gR gM gL = _ := (B_ot_gR ho hkn h4 h5 hwy rfl rfl).trans (n_ot_gR_INY)
  have g_gM : b_gM ug mm gB gX gY gC gR gM gL = _ := (B_ot_gM ho hkn h4 h5 hwy rfl rfl).trans (n_ot_gM_INY)
  have g_gL : b_gL ug mm gB gX gY gC gR gM gL = _ := (B_ot_gL ho hkn h4 h5 hwy rfl rfl).trans (n_ot_gL_INY)
  have g_un : b_un ug mm gB gA gX gY gP gC gR gM gL = _ := (B_ot_un ho hkn h4 h5 hwy rfl).trans (n_ot_un_INY)
  have g_ow : b_ow ug ud mm gB gA gX gY gP gC gR gM gL = _ := (B_ot_ow ho hkn h4 h5 hwy rfl).trans (n_ot_ow_INY)
  rw [e_fa, e_fx, e_fy, e_fs, e_fp, e_fc, e_mem, e_ug, e_ud, e_lt, e_ct, e_hd, e_la, e_bt, g_gB, g_gA, g_gX, g_gY, g_gS, g_gP, g_gC, g_gR, g_gM, g_gL, g_un, g_ow]
  exact op_INY hm hB hA hX hY hS hP fC fu hf hw
set_option maxRecDepth 100000 in
theorem as_INX (hm : s_m mm fo) (hB : rm mm gB mem om) (hA : ra mm gA fa oa) (hX : ra mm gX fx ox) (hY : ra mm gY fy oy) (hS : ra mm gS fs os) (hP : rp mm gP fp op) (hC : rc mm gC fc oc) (hu : ru ug lt ct hd la bt gR gM gL) (hf : ∃ j : Nat, j < 64 ∧ ug = nI j) (hw : wB ud) (hj : j < 256) (hop : f_X1_read_r mm fo mem ug lt ct hd la bt fc = nI j) (hc : clsF j = 34) : SR mm oa ox oy os op oc om (f_X1_instruction_fa mm fo fa fx fy fs fp fc mem ug lt ct hd la bt kindsF waysF) (f_X1_instruction_fx mm fo fa fx fy fs fc mem ug lt ct hd la bt kindsF waysF) (f_X1_instruction_fy mm fo fa fx fy fc mem ug lt ct hd la bt kindsF waysF) (f_X1_instruction_fs mm fo fx fs fc mem ug lt ct hd la bt kindsF) (f_X1_instruction_fp mm fo fa fx fy fs fp fc mem ug lt ct hd la bt kindsF waysF) (f_X1_instruction_fc mm fo fx fy fs fp fc mem ug lt ct hd la bt kindsF waysF) (f_X1_instruction_mem mm fo fa fx fy fs fp fc mem ug lt ct hd la bt kindsF waysF) (f_X1_instruction_ug mm fo fa fx fy fp fc mem ug lt ct hd la bt kindsF waysF) (f_X1_instruction_ud mm fo fa fx fy fp fc mem ug ud lt ct hd la bt kindsF waysF) (f_X1_instruction_lt mm fo fa fx fy fp fc mem ug lt ct hd la bt kindsF waysF) (f_X1_instruction_ct mm fo fx fy fc mem ug lt ct hd la bt kindsF waysF) (f_X1_instruction_hd mm fo fx fy fc mem ug lt ct hd la bt kindsF waysF) (f_X1_instruction_la mm fo fx fy fc mem ug lt ct hd la bt kindsF waysF) (f_X1_instruction_bt mm fo fa fx fy fp fc mem ug lt ct hd la bt kindsF waysF) (b_gB ug mm gB gA gX gY gS gP gC gR gM gL) (b_gA ug mm gB gA gX gY gS gP gC gR gM gL) (b_gX ug mm gB gA gX gY gS gC gR gM gL) (b_gY ug mm gB gA gX gY gC gR gM gL) (b_gS ug mm gB gX gS gC gR gM gL) (b_gP ug mm gB gA gX gY gS gP gC gR gM gL) (b_gC ug mm gB gS gP gC gR gM gL) (b_gR ug mm gB gA gX gY gP gC gR gM gL) (b_gM ug mm gB gX gY gC gR gM gL) (b_gL ug mm gB gX gY gC gR gM gL) (b_un ug mm gB gA gX gY gP gC gR gM gL) (b_ow ug ud mm gB gA gX gY gP gC gR gM gL) := by
  have fe := sr_fetch hm hB hf hu hC
  obtain ⟨fv, fb, fu, fC⟩ := fe
  obtain rfl : j = 232 := (show ∀ j : Nat, j < 256 → clsF j = 34 → j = 232 by decide +kernel) j hj hc
  have ho : f_X5_fetch_r ug mm gB gC gR gM gL = (232 : Int32) := fv.trans hop
  have hkn : ¬ f_X5_isKnown_r (232 : Int32) = 0 := by decide +kernel
  have hk : kindsF 232 = 70 := by decide +kernel
  have hww : waysF 232 = 0 := by decide +kernel
  have h4 : ¬ (232 : Int32) - (232 : Int32) / 4 * 4 = 1 := by decide +kernel
  have h5 : ¬ (232 : Int32) - (232 : Int32) / 4 * 4 = 2 := by decide +kernel
  have hwy : f_X5_way_r (232 : Int32) = 0 := by decide +kernel
  have e_fa : f_X1_instruction_fa mm fo fa fx fy fs fp fc mem ug lt ct hd la bt kindsF waysF = _ := (L0_fa hop hj hk hww).trans (n_i_fa_INX)
  have e_fx : f_X1_instruction_fx mm fo fa fx fy fs fc mem ug lt ct hd la bt kindsF waysF = _ := (L0_fx hop hj hk hww).trans (n_i_fx_INX)
  have e_fy : f_X1_instruction_fy mm fo fa fx fy fc mem ug lt ct hd la bt kindsF waysF = _ := (L0_fy hop hj hk hww).trans (n_i_fy_INX)
  have e_fs : f_X1_instruction_fs mm fo fx fs fc mem ug lt ct hd la bt kindsF = _ := (L0_fs hop hj hk).trans (n_i_fs_INX)
  have e_fp : f_X1_instruction_fp mm fo fa fx fy fs fp fc mem ug lt ct hd la bt kindsF waysF = _ := (L0_fp hop hj hk hww).trans (n_i_fp_INX)
  have e_fc : f_X1_instruction_fc mm fo fx fy fs fp fc mem ug lt ct hd la bt kindsF waysF = _ := (L0_fc hop hj hk hww).trans (n_i_fc_INX)
  have e_mem : f_X1_instruction_mem mm fo fa fx fy fs fp fc mem ug lt ct hd la bt kindsF waysF = _ := (L0_mem hop hj hk hww).trans (n_i_mem_INX)
  have e_ug : f_X1_instruction_ug mm fo fa fx fy fp fc mem ug lt ct hd la bt kindsF waysF = _ := (L0_ug hop hj hk hww).trans (n_i_ug_INX)
  have e_ud : f_X1_instruction_ud mm fo fa fx fy fp fc mem ug ud lt ct hd la bt kindsF waysF = _ := (L0_ud hop hj hk hww).trans (n_i_ud_INX)
  have e_lt : f_X1_instruction_lt mm fo fa fx fy fp fc mem ug lt ct hd la bt kindsF waysF = _ := (L0_lt hop hj hk hww).trans (n_i_lt_INX)
  have e_ct : f_X1_instruction_ct mm fo fx fy fc mem ug lt ct hd la bt kindsF waysF = _ := (L0_ct hop hj hk hww).trans (n_i_ct_INX)
  have e_hd : f_X1_instruction_hd mm fo fx fy fc mem ug lt ct hd la bt kindsF waysF = _ := (L0_hd hop hj hk hww).trans (n_i_hd_INX)
  have e_la : f_X1_instruction_la mm fo fx fy fc mem ug lt ct hd la bt kindsF waysF = _ := (L0_la hop hj hk hww).trans (n_i_la_INX)
  have e_bt : f_X1_instruction_bt mm fo fa fx fy fp fc mem ug lt ct hd la bt kindsF waysF = _ := (L0_bt hop hj hk hww).trans (n_i_bt_INX)
  have g_gB : b_gB ug mm gB gA gX gY gS gP gC gR gM gL = _ := (B_ot_gB ho hkn h4 h5 hwy rfl).trans (n_ot_gB_INX)
  have g_gA : b_gA ug mm gB gA gX gY gS gP gC gR gM gL = _ := (B_ot_gA ho hkn h4 h5).trans (n_ot_gA_INX)
  have g_gX : b_gX ug mm gB gA gX gY gS gC gR gM gL = _ := (B_ot_gX ho hkn h4 h5).trans (n_ot_gX_INX)
  have g_gY : b_gY ug mm gB gA gX gY gC gR gM gL = _ := (B_ot_gY ho hkn h4 h5 hwy rfl).trans (n_ot_gY_INX)
  have g_gS : b_gS ug mm gB gX gS gC gR gM gL = _ := (B_ot_gS ho hkn h4 h5).trans (n_ot_gS_INX)
  have g_gP : b_gP ug mm gB gA gX gY gS gP gC gR gM gL = _ := (B_ot_gP ho hkn h4 h5 hwy rfl).trans (n_ot_gP_INX)
  have g_gC : b_gC ug mm gB gS gP gC gR gM gL = _ := (B_ot_gC ho hkn h4 h5 hwy rfl).trans (n_ot_gC_INX)
  have g_gR : b_gR ug mm gB gA gX gY gP gC gR gM gL = _ := (B_ot_gR ho hkn h4 h5 hwy rfl rfl).trans (n_ot_gR_INX)
  have g_gM : b_gM ug mm gB gX gY gC gR gM gL = _ := (B_ot_gM ho hkn h4 h5 hwy rfl rfl).trans (n_ot_gM_INX)
  have g_gL : b_gL ug mm gB gX gY gC gR gM gL = _ := (B_ot_gL ho hkn h4 h5 hwy rfl rfl).trans (n_ot_gL_INX)
  have g_un : b_un ug mm gB gA gX gY gP gC gR gM gL = _ := (B_ot_un ho hkn h4 h5 hwy rfl).trans (n_ot_un_INX)
  have g_ow : b_ow ug ud mm gB gA gX gY gP gC gR gM gL = _ := (B_ot_ow ho hkn h4 h5 hwy rfl).trans (n_ot_ow_INX)
  rw [e_fa, e_fx, e_fy, e_fs, e_fp, e_fc, e_mem, e_ug, e_ud, e_lt, e_ct, e_hd, e_la, e_bt, g_gB, g_gA, g_gX, g_gY, g_gS, g_gP, g_gC, g_gR, g_gM, g_gL, g_un, g_ow]
  exact op_INX hm hB hA hX hY hS hP fC fu hf hw
set_option maxRecDepth 100000 in
theorem as_CLC (hm : s_m mm fo) (hB : rm mm gB mem om) (hA : ra mm gA fa oa) (hX : ra mm gX fx ox) (hY : ra mm gY fy oy) (hS : ra mm gS fs os) (hP : rp mm gP fp op) (hC : rc mm gC fc oc) (hu : ru ug lt ct hd la bt gR gM gL) (hf : ∃ j : Nat, j < 64 ∧ ug = nI j) (hw : wB ud) (hj : j < 256) (hop : f_X1_read_r mm fo mem ug lt ct hd la bt fc = nI j) (hc : clsF j = 35) : SR mm oa ox oy os op oc om (f_X1_instruction_fa mm fo fa fx fy fs fp fc mem ug lt ct hd la bt kindsF waysF) (f_X1_instruction_fx mm fo fa fx fy fs fc mem ug lt ct hd la bt kindsF waysF) (f_X1_instruction_fy mm fo fa fx fy fc mem ug lt ct hd la bt kindsF waysF) (f_X1_instruction_fs mm fo fx fs fc mem ug lt ct hd la bt kindsF) (f_X1_instruction_fp mm fo fa fx fy fs fp fc mem ug lt ct hd la bt kindsF waysF) (f_X1_instruction_fc mm fo fx fy fs fp fc mem ug lt ct hd la bt kindsF waysF) (f_X1_instruction_mem mm fo fa fx fy fs fp fc mem ug lt ct hd la bt kindsF waysF) (f_X1_instruction_ug mm fo fa fx fy fp fc mem ug lt ct hd la bt kindsF waysF) (f_X1_instruction_ud mm fo fa fx fy fp fc mem ug ud lt ct hd la bt kindsF waysF) (f_X1_instruction_lt mm fo fa fx fy fp fc mem ug lt ct hd la bt kindsF waysF) (f_X1_instruction_ct mm fo fx fy fc mem ug lt ct hd la bt kindsF waysF) (f_X1_instruction_hd mm fo fx fy fc mem ug lt ct hd la bt kindsF waysF) (f_X1_instruction_la mm fo fx fy fc mem ug lt ct hd la bt kindsF waysF) (f_X1_instruction_bt mm fo fa fx fy fp fc mem ug lt ct hd la bt kindsF waysF) (b_gB ug mm gB gA gX gY gS gP gC gR gM gL) (b_gA ug mm gB gA gX gY gS gP gC gR gM gL) (b_gX ug mm gB gA gX gY gS gC gR gM gL) (b_gY ug mm gB gA gX gY gC gR gM gL) (b_gS ug mm gB gX gS gC gR gM gL) (b_gP ug mm gB gA gX gY gS gP gC gR gM gL) (b_gC ug mm gB gS gP gC gR gM gL) (b_gR ug mm gB gA gX gY gP gC gR gM gL) (b_gM ug mm gB gX gY gC gR gM gL) (b_gL ug mm gB gX gY gC gR gM gL) (b_un ug mm gB gA gX gY gP gC gR gM gL) (b_ow ug ud mm gB gA gX gY gP gC gR gM gL) := by
  have fe := sr_fetch hm hB hf hu hC
  obtain ⟨fv, fb, fu, fC⟩ := fe
  obtain rfl : j = 24 := (show ∀ j : Nat, j < 256 → clsF j = 35 → j = 24 by decide +kernel) j hj hc
  have ho : f_X5_fetch_r ug mm gB gC gR gM gL = (24 : Int32) := fv.trans hop
  have hkn : ¬ f_X5_isKnown_r (24 : Int32) = 0 := by decide +kernel
  have hk : kindsF 24 = 80 := by decide +kernel
  have hww : waysF 24 = 0 := by decide +kernel
  have h4 : ¬ (24 : Int32) - (24 : Int32) / 4 * 4 = 1 := by decide +kernel
  have h5 : ¬ (24 : Int32) - (24 : Int32) / 4 * 4 = 2 := by decide +kernel
  have hwy : f_X5_way_r (24 : Int32) = 0 := by decide +kernel
  have e_fa : f_X1_instruction_fa mm fo fa fx fy fs fp fc mem ug lt ct hd la bt kindsF waysF = _ := (L0_fa hop hj hk hww).trans (n_i_fa_CLC)
  have e_fx : f_X1_instruction_fx mm fo fa fx fy fs fc mem ug lt ct hd la bt kindsF waysF = _ := (L0_fx hop hj hk hww).trans (n_i_fx_CLC)
  have e_fy : f_X1_instruction_fy mm fo fa fx fy fc mem ug lt ct hd la bt kindsF waysF = _ := (L0_fy hop hj hk hww).trans (n_i_fy_CLC)
  have e_fs : f_X1_instruction_fs mm fo fx fs fc mem ug lt ct hd la bt kindsF = _ := (L0_fs hop hj hk).trans (n_i_fs_CLC)
  have e_fp : f_X1_instruction_fp mm fo fa fx fy fs fp fc mem ug lt ct hd la bt kindsF waysF = _ := (L0_fp hop hj hk hww).trans (n_i_fp_CLC)
  have e_fc : f_X1_instruction_fc mm fo fx fy fs fp fc mem ug lt ct hd la bt kindsF waysF = _ := (L0_fc hop hj hk hww).trans (n_i_fc_CLC)
  have e_mem : f_X1_instruction_mem mm fo fa fx fy fs fp fc mem ug lt ct hd la bt kindsF waysF = _ := (L0_mem hop hj hk hww).trans (n_i_mem_CLC)
  have e_ug : f_X1_instruction_ug mm fo fa fx fy fp fc mem ug lt ct hd la bt kindsF waysF = _ := (L0_ug hop hj hk hww).trans (n_i_ug_CLC)
  have e_ud : f_X1_instruction_ud mm fo fa fx fy fp fc mem ug ud lt ct hd la bt kindsF waysF = _ := (L0_ud hop hj hk hww).trans (n_i_ud_CLC)
  have e_lt : f_X1_instruction_lt mm fo fa fx fy fp fc mem ug lt ct hd la bt kindsF waysF = _ := (L0_lt hop hj hk hww).trans (n_i_lt_CLC)
  have e_ct : f_X1_instruction_ct mm fo fx fy fc mem ug lt ct hd la bt kindsF waysF = _ := (L0_ct hop hj hk hww).trans (n_i_ct_CLC)
  have e_hd : f_X1_instruction_hd mm fo fx fy fc mem ug lt ct hd la bt kindsF waysF = _ := (L0_hd hop hj hk hww).trans (n_i_hd_CLC)
  have e_la : f_X1_instruction_la mm fo fx fy fc mem ug lt ct hd la bt kindsF waysF = _ := (L0_la hop hj hk hww).trans (n_i_la_CLC)
  have e_bt : f_X1_instruction_bt mm fo fa fx fy fp fc mem ug lt ct hd la bt kindsF waysF = _ := (L0_bt hop hj hk hww).trans (n_i_bt_CLC)
  have g_gB : b_gB ug mm gB gA gX gY gS gP gC gR gM gL = _ := (B_ot_gB ho hkn h4 h5 hwy rfl).trans (n_ot_gB_CLC)
  have g_gA : b_gA ug mm gB gA gX gY gS gP gC gR gM gL = _ := (B_ot_gA ho hkn h4 h5).trans (n_ot_gA_CLC)
  have g_gX : b_gX ug mm gB gA gX gY gS gC gR gM gL = _ := (B_ot_gX ho hkn h4 h5).trans (n_ot_gX_CLC)
  have g_gY : b_gY ug mm gB gA gX gY gC gR gM gL = _ := (B_ot_gY ho hkn h4 h5 hwy rfl).trans (n_ot_gY_CLC)
  have g_gS : b_gS ug mm gB gX gS gC gR gM gL = _ := (B_ot_gS ho hkn h4 h5).trans (n_ot_gS_CLC)
  have g_gP : b_gP ug mm gB gA gX gY gS gP gC gR gM gL = _ := (B_ot_gP ho hkn h4 h5 hwy rfl).trans (n_ot_gP_CLC)
  have g_gC : b_gC ug mm gB gS gP gC gR gM gL = _ := (B_ot_gC ho hkn h4 h5 hwy rfl).trans (n_ot_gC_CLC)
  have g_gR : b_gR ug mm gB gA gX gY gP gC gR gM gL = _ := (B_ot_gR ho hkn h4 h5 hwy rfl rfl).trans (n_ot_gR_CLC)
  have g_gM : b_gM ug mm gB gX gY gC gR gM gL = _ := (B_ot_gM ho hkn h4 h5 hwy rfl rfl).trans (n_ot_gM_CLC)
  have g_gL : b_gL ug mm gB gX gY gC gR gM gL = _ := (B_ot_gL ho hkn h4 h5 hwy rfl rfl).trans (n_ot_gL_CLC)
  have g_un : b_un ug mm gB gA gX gY gP gC gR gM gL = _ := (B_ot_un ho hkn h4 h5 hwy rfl).trans (n_ot_un_CLC)
  have g_ow : b_ow ug ud mm gB gA gX gY gP gC gR gM gL = _ := (B_ot_ow ho hkn h4 h5 hwy rfl).trans (n_ot_ow_CLC)
  rw [e_fa, e_fx, e_fy, e_fs, e_fp, e_fc, e_mem, e_ug, e_ud, e_lt, e_ct, e_hd, e_la, e_bt, g_gB, g_gA, g_gX, g_gY, g_gS, g_gP, g_gC, g_gR, g_gM, g_gL, g_un, g_ow]
  exact op_CLC hm hB hA hX hY hS hP fC fu hf hw
set_option maxRecDepth 100000 in
theorem as_SEC (hm : s_m mm fo) (hB : rm mm gB mem om) (hA : ra mm gA fa oa) (hX : ra mm gX fx ox) (hY : ra mm gY fy oy) (hS : ra mm gS fs os) (hP : rp mm gP fp op) (hC : rc mm gC fc oc) (hu : ru ug lt ct hd la bt gR gM gL) (hf : ∃ j : Nat, j < 64 ∧ ug = nI j) (hw : wB ud) (hj : j < 256) (hop : f_X1_read_r mm fo mem ug lt ct hd la bt fc = nI j) (hc : clsF j = 36) : SR mm oa ox oy os op oc om (f_X1_instruction_fa mm fo fa fx fy fs fp fc mem ug lt ct hd la bt kindsF waysF) (f_X1_instruction_fx mm fo fa fx fy fs fc mem ug lt ct hd la bt kindsF waysF) (f_X1_instruction_fy mm fo fa fx fy fc mem ug lt ct hd la bt kindsF waysF) (f_X1_instruction_fs mm fo fx fs fc mem ug lt ct hd la bt kindsF) (f_X1_instruction_fp mm fo fa fx fy fs fp fc mem ug lt ct hd la bt kindsF waysF) (f_X1_instruction_fc mm fo fx fy fs fp fc mem ug lt ct hd la bt kindsF waysF) (f_X1_instruction_mem mm fo fa fx fy fs fp fc mem ug lt ct hd la bt kindsF waysF) (f_X1_instruction_ug mm fo fa fx fy fp fc mem ug lt ct hd la bt kindsF waysF) (f_X1_instruction_ud mm fo fa fx fy fp fc mem ug ud lt ct hd la bt kindsF waysF) (f_X1_instruction_lt mm fo fa fx fy fp fc mem ug lt ct hd la bt kindsF waysF) (f_X1_instruction_ct mm fo fx fy fc mem ug lt ct hd la bt kindsF waysF) (f_X1_instruction_hd mm fo fx fy fc mem ug lt ct hd la bt kindsF waysF) (f_X1_instruction_la mm fo fx fy fc mem ug lt ct hd la bt kindsF waysF) (f_X1_instruction_bt mm fo fa fx fy fp fc mem ug lt ct hd la bt kindsF waysF) (b_gB ug mm gB gA gX gY gS gP gC gR gM gL) (b_gA ug mm gB gA gX gY gS gP gC gR gM gL) (b_gX ug mm gB gA gX gY gS gC gR gM gL) (b_gY ug mm gB gA gX gY gC gR gM gL) (b_gS ug mm gB gX gS gC gR gM gL) (b_gP ug mm gB gA gX gY gS gP gC gR gM gL) (b_gC ug mm gB gS gP gC gR gM gL) (b_gR ug mm gB gA gX gY gP gC gR gM gL) (b_gM ug mm gB gX gY gC gR gM gL) (b_gL ug mm gB gX gY gC gR gM gL) (b_un ug mm gB gA gX gY gP gC gR gM gL) (b_ow ug ud mm gB gA gX gY gP gC gR gM gL) := by
  have fe := sr_fetch hm hB hf hu hC
  obtain ⟨fv, fb, fu, fC⟩ := fe
  obtain rfl : j = 56 := (show ∀ j : Nat, j < 256 → clsF j = 36 → j = 56 by decide +kernel) j hj hc
  have ho : f_X5_fetch_r ug mm gB gC gR gM gL = (56 : Int32) := fv.trans hop
  have hkn : ¬ f_X5_isKnown_r (56 : Int32) = 0 := by decide +kernel
  have hk : kindsF 56 = 81 := by decide +kernel
  have hww : waysF 56 = 0 := by decide +kernel
  have h4 : ¬ (56 : Int32) - (56 : Int32) / 4 * 4 = 1 := by decide +kernel
  have h5 : ¬ (56 : Int32) - (56 : Int32) / 4 * 4 = 2 := by decide +kernel
  have hwy : f_X5_way_r (56 : Int32) = 0 := by decide +kernel
  have e_fa : f_X1_instruction_fa mm fo fa fx fy fs fp fc mem ug lt ct hd la bt kindsF waysF = _ := (L0_fa hop hj hk hww).trans (n_i_fa_SEC)
  have e_fx : f_X1_instruction_fx mm fo fa fx fy fs fc mem ug lt ct hd la bt kindsF waysF = _ := (L0_fx hop hj hk hww).trans (n_i_fx_SEC)
  have e_fy : f_X1_instruction_fy mm fo fa fx fy fc mem ug lt ct hd la bt kindsF waysF = _ := (L0_fy hop hj hk hww).trans (n_i_fy_SEC)
  have e_fs : f_X1_instruction_fs mm fo fx fs fc mem ug lt ct hd la bt kindsF = _ := (L0_fs hop hj hk).trans (n_i_fs_SEC)
  have e_fp : f_X1_instruction_fp mm fo fa fx fy fs fp fc mem ug lt ct hd la bt kindsF waysF = _ := (L0_fp hop hj hk hww).trans (n_i_fp_SEC)
  have e_fc : f_X1_instruction_fc mm fo fx fy fs fp fc mem ug lt ct hd la bt kindsF waysF = _ := (L0_fc hop hj hk hww).trans (n_i_fc_SEC)
  have e_mem : f_X1_instruction_mem mm fo fa fx fy fs fp fc mem ug lt ct hd la bt kindsF waysF = _ := (L0_mem hop hj hk hww).trans (n_i_mem_SEC)
  have e_ug : f_X1_instruction_ug mm fo fa fx fy fp fc mem ug lt ct hd la bt kindsF waysF = _ := (L0_ug hop hj hk hww).trans (n_i_ug_SEC)
  have e_ud : f_X1_instruction_ud mm fo fa fx fy fp fc mem ug ud lt ct hd la bt kindsF waysF = _ := (L0_ud hop hj hk hww).trans (n_i_ud_SEC)
  have e_lt : f_X1_instruction_lt mm fo fa fx fy fp fc mem ug lt ct hd la bt kindsF waysF = _ := (L0_lt hop hj hk hww).trans (n_i_lt_SEC)
  have e_ct : f_X1_instruction_ct mm fo fx fy fc mem ug lt ct hd la bt kindsF waysF = _ := (L0_ct hop hj hk hww).trans (n_i_ct_SEC)
  have e_hd : f_X1_instruction_hd mm fo fx fy fc mem ug lt ct hd la bt kindsF waysF = _ := (L0_hd hop hj hk hww).trans (n_i_hd_SEC)
  have e_la : f_X1_instruction_la mm fo fx fy fc mem ug lt ct hd la bt kindsF waysF = _ := (L0_la hop hj hk hww).trans (n_i_la_SEC)
  have e_bt : f_X1_instruction_bt mm fo fa fx fy fp fc mem ug lt ct hd la bt kindsF waysF = _ := (L0_bt hop hj hk hww).trans (n_i_bt_SEC)
  have g_gB : b_gB ug mm gB gA gX gY gS gP gC gR gM gL = _ := (B_ot_gB ho hkn h4 h5 hwy rfl).trans (n_ot_gB_SEC)
  have g_gA : b_gA ug mm gB gA gX gY gS gP gC gR gM gL = _ := (B_ot_gA ho hkn h4 h5).trans (n_ot_gA_SEC)
  have g_gX : b_gX ug mm gB gA gX gY gS gC gR gM gL = _ := (B_ot_gX ho hkn h4 h5).trans (n_ot_gX_SEC)
  have g_gY : b_gY ug mm gB gA gX gY gC gR gM gL = _ := (B_ot_gY ho hkn h4 h5 hwy rfl).trans (n_ot_gY_SEC)
  have g_gS : b_gS ug mm gB gX gS gC gR gM gL = _ := (B_ot_gS ho hkn h4 h5).trans (n_ot_gS_SEC)
  have g_gP : b_gP ug mm gB gA gX gY gS gP gC gR gM gL = _ := (B_ot_gP ho hkn h4 h5 hwy rfl).trans (n_ot_gP_SEC)
  have g_gC : b_gC ug mm gB gS gP gC gR gM gL = _ := (B_ot_gC ho hkn h4 h5 hwy rfl).trans (n_ot_gC_SEC)
  have g_gR : b_gR ug mm gB gA gX gY gP gC gR gM gL = _ := (B_ot_gR ho hkn h4 h5 hwy rfl rfl).trans (n_ot_gR_SEC)
  have g_gM : b_gM ug mm gB gX gY gC gR gM gL = _ := (B_ot_gM ho hkn h4 h5 hwy rfl rfl).trans (n_ot_gM_SEC)
  have g_gL : b_gL ug mm gB gX gY gC gR gM gL = _ := (B_ot_gL ho hkn h4 h5 hwy rfl rfl).trans (n_ot_gL_SEC)
  have g_un : b_un ug mm gB gA gX gY gP gC gR gM gL = _ := (B_ot_un ho hkn h4 h5 hwy rfl).trans (n_ot_un_SEC)
  have g_ow : b_ow ug ud mm gB gA gX gY gP gC gR gM gL = _ := (B_ot_ow ho hkn h4 h5 hwy rfl).trans (n_ot_ow_SEC)
  rw [e_fa, e_fx, e_fy, e_fs, e_fp, e_fc, e_mem, e_ug, e_ud, e_lt, e_ct, e_hd, e_la, e_bt, g_gB, g_gA, g_gX, g_gY, g_gS, g_gP, g_gC, g_gR, g_gM, g_gL, g_un, g_ow]
  exact op_SEC hm hB hA hX hY hS hP fC fu hf hw
set_option maxRecDepth 100000 in
theorem as_CLI (hm : s_m mm fo) (hB : rm mm gB mem om) (hA : ra mm gA fa oa) (hX : ra mm gX fx ox) (hY : ra mm gY fy oy) (hS : ra mm gS fs os) (hP : rp mm gP fp op) (hC : rc mm gC fc oc) (hu : ru ug lt ct hd la bt gR gM gL) (hf : ∃ j : Nat, j < 64 ∧ ug = nI j) (hw : wB ud) (hj : j < 256) (hop : f_X1_read_r mm fo mem ug lt ct hd la bt fc = nI j) (hc : clsF j = 37) : SR mm oa ox oy os op oc om (f_X1_instruction_fa mm fo fa fx fy fs fp fc mem ug lt ct hd la bt kindsF waysF) (f_X1_instruction_fx mm fo fa fx fy fs fc mem ug lt ct hd la bt kindsF waysF) (f_X1_instruction_fy mm fo fa fx fy fc mem ug lt ct hd la bt kindsF waysF) (f_X1_instruction_fs mm fo fx fs fc mem ug lt ct hd la bt kindsF) (f_X1_instruction_fp mm fo fa fx fy fs fp fc mem ug lt ct hd la bt kindsF waysF) (f_X1_instruction_fc mm fo fx fy fs fp fc mem ug lt ct hd la bt kindsF waysF) (f_X1_instruction_mem mm fo fa fx fy fs fp fc mem ug lt ct hd la bt kindsF waysF) (f_X1_instruction_ug mm fo fa fx fy fp fc mem ug lt ct hd la bt kindsF waysF) (f_X1_instruction_ud mm fo fa fx fy fp fc mem ug ud lt ct hd la bt kindsF waysF) (f_X1_instruction_lt mm fo fa fx fy fp fc mem ug lt ct hd la bt kindsF waysF) (f_X1_instruction_ct mm fo fx fy fc mem ug lt ct hd la bt kindsF waysF) (f_X1_instruction_hd mm fo fx fy fc mem ug lt ct hd la bt kindsF waysF) (f_X1_instruction_la mm fo fx fy fc mem ug lt ct hd la bt kindsF waysF) (f_X1_instruction_bt mm fo fa fx fy fp fc mem ug lt ct hd la bt kindsF waysF) (b_gB ug mm gB gA gX gY gS gP gC gR gM gL) (b_gA ug mm gB gA gX gY gS gP gC gR gM gL) (b_gX ug mm gB gA gX gY gS gC gR gM gL) (b_gY ug mm gB gA gX gY gC gR gM gL) (b_gS ug mm gB gX gS gC gR gM gL) (b_gP ug mm gB gA gX gY gS gP gC gR gM gL) (b_gC ug mm gB gS gP gC gR gM gL) (b_gR ug mm gB gA gX gY gP gC gR gM gL) (b_gM ug mm gB gX gY gC gR gM gL) (b_gL ug mm gB gX gY gC gR gM gL) (b_un ug mm gB gA gX gY gP gC gR gM gL) (b_ow ug ud mm gB gA gX gY gP gC gR gM gL) := by
  have fe := sr_fetch hm hB hf hu hC
  obtain ⟨fv, fb, fu, fC⟩ := fe
  obtain rfl : j = 88 := (show ∀ j : Nat, j < 256 → clsF j = 37 → j = 88 by decide +kernel) j hj hc
  have ho : f_X5_fetch_r ug mm gB gC gR gM gL = (88 : Int32) := fv.trans hop
  have hkn : ¬ f_X5_isKnown_r (88 : Int32) = 0 := by decide +kernel
  have hk : kindsF 88 = 82 := by decide +kernel
  have hww : waysF 88 = 0 := by decide +kernel
  have h4 : ¬ (88 : Int32) - (88 : Int32) / 4 * 4 = 1 := by decide +kernel
  have h5 : ¬ (88 : Int32) - (88 : Int32) / 4 * 4 = 2 := by decide +kernel
  have hwy : f_X5_way_r (88 : Int32) = 0 := by decide +kernel
  have e_fa : f_X1_instruction_fa mm fo fa fx fy fs fp fc mem ug lt ct hd la bt kindsF waysF = _ := (L0_fa hop hj hk hww).trans (n_i_fa_CLI)
  have e_fx : f_X1_instruction_fx mm fo fa fx fy fs fc mem ug lt ct hd la bt kindsF waysF = _ := (L0_fx hop hj hk hww).trans (n_i_fx_CLI)
  have e_fy : f_X1_instruction_fy mm fo fa fx fy fc mem ug lt ct hd la bt kindsF waysF = _ := (L0_fy hop hj hk hww).trans (n_i_fy_CLI)
  have e_fs : f_X1_instruction_fs mm fo fx fs fc mem ug lt ct hd la bt kindsF = _ := (L0_fs hop hj hk).trans (n_i_fs_CLI)
  have e_fp : f_X1_instruction_fp mm fo fa fx fy fs fp fc mem ug lt ct hd la bt kindsF waysF = _ := (L0_fp hop hj hk hww).trans (n_i_fp_CLI)
  have e_fc : f_X1_instruction_fc mm fo fx fy fs fp fc mem ug lt ct hd la bt kindsF waysF = _ := (L0_fc hop hj hk hww).trans (n_i_fc_CLI)
  have e_mem : f_X1_instruction_mem mm fo fa fx fy fs fp fc mem ug lt ct hd la bt kindsF waysF = _ := (L0_mem hop hj hk hww).trans (n_i_mem_CLI)
  have e_ug : f_X1_instruction_ug mm fo fa fx fy fp fc mem ug lt ct hd la bt kindsF waysF = _ := (L0_ug hop hj hk hww).trans (n_i_ug_CLI)
  have e_ud : f_X1_instruction_ud mm fo fa fx fy fp fc mem ug ud lt ct hd la bt kindsF waysF = _ := (L0_ud hop hj hk hww).trans (n_i_ud_CLI)
  have e_lt : f_X1_instruction_lt mm fo fa fx fy fp fc mem ug lt ct hd la bt kindsF waysF = _ := (L0_lt hop hj hk hww).trans (n_i_lt_CLI)
  have e_ct : f_X1_instruction_ct mm fo fx fy fc mem ug lt ct hd la bt kindsF waysF = _ := (L0_ct hop hj hk hww).trans (n_i_ct_CLI)
  have e_hd : f_X1_instruction_hd mm fo fx fy fc mem ug lt ct hd la bt kindsF waysF = _ := (L0_hd hop hj hk hww).trans (n_i_hd_CLI)
  have e_la : f_X1_instruction_la mm fo fx fy fc mem ug lt ct hd la bt kindsF waysF = _ := (L0_la hop hj hk hww).trans (n_i_la_CLI)
  have e_bt : f_X1_instruction_bt mm fo fa fx fy fp fc mem ug lt ct hd la bt kindsF waysF = _ := (L0_bt hop hj hk hww).trans (n_i_bt_CLI)
  have g_gB : b_gB ug mm gB gA gX gY gS gP gC gR gM gL = _ := (B_ot_gB ho hkn h4 h5 hwy rfl).trans (n_ot_gB_CLI)
  have g_gA : b_gA ug mm gB gA gX gY gS gP gC gR gM gL = _ := (B_ot_gA ho hkn h4 h5).trans (n_ot_gA_CLI)
  have g_gX : b_gX ug mm gB gA gX gY gS gC gR gM gL = _ := (B_ot_gX ho hkn h4 h5).trans (n_ot_gX_CLI)
  have g_gY : b_gY ug mm gB gA gX gY gC gR gM gL = _ := (B_ot_gY ho hkn h4 h5 hwy rfl).trans (n_ot_gY_CLI)
  have g_gS : b_gS ug mm gB gX gS gC gR gM gL = _ := (B_ot_gS ho hkn h4 h5).trans (n_ot_gS_CLI)
  have g_gP : b_gP ug mm gB gA gX gY gS gP gC gR gM gL = _ := (B_ot_gP ho hkn h4 h5 hwy rfl).trans (n_ot_gP_CLI)
  have g_gC : b_gC ug mm gB gS gP gC gR gM gL = _ := (B_ot_gC ho hkn h4 h5 hwy rfl).trans (n_ot_gC_CLI)
  have g_gR : b_gR ug mm gB gA gX gY gP gC gR gM gL = _ := (B_ot_gR ho hkn h4 h5 hwy rfl rfl).trans (n_ot_gR_CLI)
  have g_gM : b_gM ug mm gB gX gY gC gR gM gL = _ := (B_ot_gM ho hkn h4 h5 hwy rfl rfl).trans (n_ot_gM_CLI)
  have g_gL : b_gL ug mm gB gX gY gC gR gM gL = _ := (B_ot_gL ho hkn h4 h5 hwy rfl rfl).trans (n_ot_gL_CLI)
  have g_un : b_un ug mm gB gA gX gY gP gC gR gM gL = _ := (B_ot_un ho hkn h4 h5 hwy rfl).trans (n_ot_un_CLI)
  have g_ow : b_ow ug ud mm gB gA gX gY gP gC gR gM gL = _ := (B_ot_ow ho hkn h4 h5 hwy rfl).trans (n_ot_ow_CLI)
  rw [e_fa, e_fx, e_fy, e_fs, e_fp, e_fc, e_mem, e_ug, e_ud, e_lt, e_ct, e_hd, e_la, e_bt, g_gB, g_gA, g_gX, g_gY, g_gS, g_gP, g_gC, g_gR, g_gM, g_gL, g_un, g_ow]
  exact op_CLI hm hB hA hX hY hS hP fC fu hf hw
set_option maxRecDepth 100000 in
theorem as_SEI (hm : s_m mm fo) (hB : rm mm gB mem om) (hA : ra mm gA fa oa) (hX : ra mm gX fx ox) (hY : ra mm gY fy oy) (hS : ra mm gS fs os) (hP : rp mm gP fp op) (hC : rc mm gC fc oc) (hu : ru ug lt ct hd la bt gR gM gL) (hf : ∃ j : Nat, j < 64 ∧ ug = nI j) (hw : wB ud) (hj : j < 256) (hop : f_X1_read_r mm fo mem ug lt ct hd la bt fc = nI j) (hc : clsF j = 38) : SR mm oa ox oy os op oc om (f_X1_instruction_fa mm fo fa fx fy fs fp fc mem ug lt ct hd la bt kindsF waysF) (f_X1_instruction_fx mm fo fa fx fy fs fc mem ug lt ct hd la bt kindsF waysF) (f_X1_instruction_fy mm fo fa fx fy fc mem ug lt ct hd la bt kindsF waysF) (f_X1_instruction_fs mm fo fx fs fc mem ug lt ct hd la bt kindsF) (f_X1_instruction_fp mm fo fa fx fy fs fp fc mem ug lt ct hd la bt kindsF waysF) (f_X1_instruction_fc mm fo fx fy fs fp fc mem ug lt ct hd la bt kindsF waysF) (f_X1_instruction_mem mm fo fa fx fy fs fp fc mem ug lt ct hd la bt kindsF waysF) (f_X1_instruction_ug mm fo fa fx fy fp fc mem ug lt ct hd la bt kindsF waysF) (f_X1_instruction_ud mm fo fa fx fy fp fc mem ug ud lt ct hd la bt kindsF waysF) (f_X1_instruction_lt mm fo fa fx fy fp fc mem ug lt ct hd la bt kindsF waysF) (f_X1_instruction_ct mm fo fx fy fc mem ug lt ct hd la bt kindsF waysF) (f_X1_instruction_hd mm fo fx fy fc mem ug lt ct hd la bt kindsF waysF) (f_X1_instruction_la mm fo fx fy fc mem ug lt ct hd la bt kindsF waysF) (f_X1_instruction_bt mm fo fa fx fy fp fc mem ug lt ct hd la bt kindsF waysF) (b_gB ug mm gB gA gX gY gS gP gC gR gM gL) (b_gA ug mm gB gA gX gY gS gP gC gR gM gL) (b_gX ug mm gB gA gX gY gS gC gR gM gL) (b_gY ug mm gB gA gX gY gC gR gM gL) (b_gS ug mm gB gX gS gC gR gM gL) (b_gP ug mm gB gA gX gY gS gP gC gR gM gL) (b_gC ug mm gB gS gP gC gR gM gL) (b_gR ug mm gB gA gX gY gP gC gR gM gL) (b_gM ug mm gB gX gY gC gR gM gL) (b_gL ug mm gB gX gY gC gR gM gL) (b_un ug mm gB gA gX gY gP gC gR gM gL) (b_ow ug ud mm gB gA gX gY gP gC gR gM gL) := by
  have fe := sr_fetch hm hB hf hu hC
  obtain ⟨fv, fb, fu, fC⟩ := fe
  obtain rfl : j = 120 := (show ∀ j : Nat, j < 256 → clsF j = 38 → j = 120 by decide +kernel) j hj hc
  have ho : f_X5_fetch_r ug mm gB gC gR gM gL = (120 : Int32) := fv.trans hop
  have hkn : ¬ f_X5_isKnown_r (120 : Int32) = 0 := by decide +kernel
  have hk : kindsF 120 = 83 := by decide +kernel
  have hww : waysF 120 = 0 := by decide +kernel
  have h4 : ¬ (120 : Int32) - (120 : Int32) / 4 * 4 = 1 := by decide +kernel
  have h5 : ¬ (120 : Int32) - (120 : Int32) / 4 * 4 = 2 := by decide +kernel
  have hwy : f_X5_way_r (120 : Int32) = 0 := by decide +kernel
  have e_fa : f_X1_instruction_fa mm fo fa fx fy fs fp fc mem ug lt ct hd la bt kindsF waysF = _ := (L0_fa hop hj hk hww).trans (n_i_fa_SEI)
  have e_fx : f_X1_instruction_fx mm fo fa fx fy fs fc mem ug lt ct hd la bt kindsF waysF = _ := (L0_fx hop hj hk hww).trans (n_i_fx_SEI)
  have e_fy : f_X1_instruction_fy mm fo fa fx fy fc mem ug lt ct hd la bt kindsF waysF = _ := (L0_fy hop hj hk hww).trans (n_i_fy_SEI)
  have e_fs : f_X1_instruction_fs mm fo fx fs fc mem ug lt ct hd la bt kindsF = _ := (L0_fs hop hj hk).trans (n_i_fs_SEI)
  have e_fp : f_X1_instruction_fp mm fo fa fx fy fs fp fc mem ug lt ct hd la bt kindsF waysF = _ := (L0_fp hop hj hk hww).trans (n_i_fp_SEI)
  have e_fc : f_X1_instruction_fc mm fo fx fy fs fp fc mem ug lt ct hd la bt kindsF waysF = _ := (L0_fc hop hj hk hww).trans (n_i_fc_SEI)
  have e_mem : f_X1_instruction_mem mm fo fa fx fy fs fp fc mem ug lt ct hd la bt kindsF waysF = _ := (L0_mem hop hj hk hww).trans (n_i_mem_SEI)
  have e_ug : f_X1_instruction_ug mm fo fa fx fy fp fc mem ug lt ct hd la bt kindsF waysF = _ := (L0_ug hop hj hk hww).trans (n_i_ug_SEI)
  have e_ud : f_X1_instruction_ud mm fo fa fx fy fp fc mem ug ud lt ct hd la bt kindsF waysF = _ := (L0_ud hop hj hk hww).trans (n_i_ud_SEI)
  have e_lt : f_X1_instruction_lt mm fo fa fx fy fp fc mem ug lt ct hd la bt kindsF waysF = _ := (L0_lt hop hj hk hww).trans (n_i_lt_SEI)
  have e_ct : f_X1_instruction_ct mm fo fx fy fc mem ug lt ct hd la bt kindsF waysF = _ := (L0_ct hop hj hk hww).trans (n_i_ct_SEI)
  have e_hd : f_X1_instruction_hd mm fo fx fy fc mem ug lt ct hd la bt kindsF waysF = _ := (L0_hd hop hj hk hww).trans (n_i_hd_SEI)
  have e_la : f_X1_instruction_la mm fo fx fy fc mem ug lt ct hd la bt kindsF waysF = _ := (L0_la hop hj hk hww).trans (n_i_la_SEI)
  have e_bt : f_X1_instruction_bt mm fo fa fx fy fp fc mem ug lt ct hd la bt kindsF waysF = _ := (L0_bt hop hj hk hww).trans (n_i_bt_SEI)
  have g_gB : b_gB ug mm gB gA gX gY gS gP gC gR gM gL = _ := (B_ot_gB ho hkn h4 h5 hwy rfl).trans (n_ot_gB_SEI)
  have g_gA : b_gA ug mm gB gA gX gY gS gP gC gR gM gL = _ := (B_ot_gA ho hkn h4 h5).trans (n_ot_gA_SEI)
  have g_gX : b_gX ug mm gB gA gX gY gS gC gR gM gL = _ := (B_ot_gX ho hkn h4 h5).trans (n_ot_gX_SEI)
  have g_gY : b_gY ug mm gB gA gX gY gC gR gM gL = _ := (B_ot_gY ho hkn h4 h5 hwy rfl).trans (n_ot_gY_SEI)
  have g_gS : b_gS ug mm gB gX gS gC gR gM gL = _ := (B_ot_gS ho hkn h4 h5).trans (n_ot_gS_SEI)
  have g_gP : b_gP ug mm gB gA gX gY gS gP gC gR gM gL = _ := (B_ot_gP ho hkn h4 h5 hwy rfl).trans (n_ot_gP_SEI)
  have g_gC : b_gC ug mm gB gS gP gC gR gM gL = _ := (B_ot_gC ho hkn h4 h5 hwy rfl).trans (n_ot_gC_SEI)
  have g_gR : b_gR ug mm gB gA gX gY gP gC gR gM gL = _ := (B_ot_gR ho hkn h4 h5 hwy rfl rfl).trans (n_ot_gR_SEI)
  have g_gM : b_gM ug mm gB gX gY gC gR gM gL = _ := (B_ot_gM ho hkn h4 h5 hwy rfl rfl).trans (n_ot_gM_SEI)
  have g_gL : b_gL ug mm gB gX gY gC gR gM gL = _ := (B_ot_gL ho hkn h4 h5 hwy rfl rfl).trans (n_ot_gL_SEI)
  have g_un : b_un ug mm gB gA gX gY gP gC gR gM gL = _ := (B_ot_un ho hkn h4 h5 hwy rfl).trans (n_ot_un_SEI)
  have g_ow : b_ow ug ud mm gB gA gX gY gP gC gR gM gL = _ := (B_ot_ow ho hkn h4 h5 hwy rfl).trans (n_ot_ow_SEI)
  rw [e_fa, e_fx, e_fy, e_fs, e_fp, e_fc, e_mem, e_ug, e_ud, e_lt, e_ct, e_hd, e_la, e_bt, g_gB, g_gA, g_gX, g_gY, g_gS, g_gP, g_gC, g_gR, g_gM, g_gL, g_un, g_ow]
  exact op_SEI hm hB hA hX hY hS hP fC fu hf hw
set_option maxRecDepth 100000 in
theorem as_TYA (hm : s_m mm fo) (hB : rm mm gB mem om) (hA : ra mm gA fa oa) (hX : ra mm gX fx ox) (hY : ra mm gY fy oy) (hS : ra mm gS fs os) (hP : rp mm gP fp op) (hC : rc mm gC fc oc) (hu : ru ug lt ct hd la bt gR gM gL) (hf : ∃ j : Nat, j < 64 ∧ ug = nI j) (hw : wB ud) (hj : j < 256) (hop : f_X1_read_r mm fo mem ug lt ct hd la bt fc = nI j) (hc : clsF j = 39) : SR mm oa ox oy os op oc om (f_X1_instruction_fa mm fo fa fx fy fs fp fc mem ug lt ct hd la bt kindsF waysF) (f_X1_instruction_fx mm fo fa fx fy fs fc mem ug lt ct hd la bt kindsF waysF) (f_X1_instruction_fy mm fo fa fx fy fc mem ug lt ct hd la bt kindsF waysF) (f_X1_instruction_fs mm fo fx fs fc mem ug lt ct hd la bt kindsF) (f_X1_instruction_fp mm fo fa fx fy fs fp fc mem ug lt ct hd la bt kindsF waysF) (f_X1_instruction_fc mm fo fx fy fs fp fc mem ug lt ct hd la bt kindsF waysF) (f_X1_instruction_mem mm fo fa fx fy fs fp fc mem ug lt ct hd la bt kindsF waysF) (f_X1_instruction_ug mm fo fa fx fy fp fc mem ug lt ct hd la bt kindsF waysF) (f_X1_instruction_ud mm fo fa fx fy fp fc mem ug ud lt ct hd la bt kindsF waysF) (f_X1_instruction_lt mm fo fa fx fy fp fc mem ug lt ct hd la bt kindsF waysF) (f_X1_instruction_ct mm fo fx fy fc mem ug lt ct hd la bt kindsF waysF) (f_X1_instruction_hd mm fo fx fy fc mem ug lt ct hd la bt kindsF waysF) (f_X1_instruction_la mm fo fx fy fc mem ug lt ct hd la bt kindsF waysF) (f_X1_instruction_bt mm fo fa fx fy fp fc mem ug lt ct hd la bt kindsF waysF) (b_gB ug mm gB gA gX gY gS gP gC gR gM gL) (b_gA ug mm gB gA gX gY gS gP gC gR gM gL) (b_gX ug mm gB gA gX gY gS gC gR gM gL) (b_gY ug mm gB gA gX gY gC gR gM gL) (b_gS ug mm gB gX gS gC gR gM gL) (b_gP ug mm gB gA gX gY gS gP gC gR gM gL) (b_gC ug mm gB gS gP gC gR gM gL) (b_gR ug mm gB gA gX gY gP gC gR gM gL) (b_gM ug mm gB gX gY gC gR gM gL) (b_gL ug mm gB gX gY gC gR gM gL) (b_un ug mm gB gA gX gY gP gC gR gM gL) (b_ow ug ud mm gB gA gX gY gP gC gR gM gL) := by
  have fe := sr_fetch hm hB hf hu hC
  obtain ⟨fv, fb, fu, fC⟩ := fe
  obtain rfl : j = 152 := (show ∀ j : Nat, j < 256 → clsF j = 39 → j = 152 by decide +kernel) j hj hc
  have ho : f_X5_fetch_r ug mm gB gC gR gM gL = (152 : Int32) := fv.trans hop
  have hkn : ¬ f_X5_isKnown_r (152 : Int32) = 0 := by decide +kernel
  have hk : kindsF 152 = 67 := by decide +kernel
  have hww : waysF 152 = 0 := by decide +kernel
  have h4 : ¬ (152 : Int32) - (152 : Int32) / 4 * 4 = 1 := by decide +kernel
  have h5 : ¬ (152 : Int32) - (152 : Int32) / 4 * 4 = 2 := by decide +kernel
  have hwy : f_X5_way_r (152 : Int32) = 0 := by decide +kernel
  have e_fa : f_X1_instruction_fa mm fo fa fx fy fs fp fc mem ug lt ct hd la bt kindsF waysF = _ := (L0_fa hop hj hk hww).trans (n_i_fa_TYA)
  have e_fx : f_X1_instruction_fx mm fo fa fx fy fs fc mem ug lt ct hd la bt kindsF waysF = _ := (L0_fx hop hj hk hww).trans (n_i_fx_TYA)
  have e_fy : f_X1_instruction_fy mm fo fa fx fy fc mem ug lt ct hd la bt kindsF waysF = _ := (L0_fy hop hj hk hww).trans (n_i_fy_TYA)
  have e_fs : f_X1_instruction_fs mm fo fx fs fc mem ug lt ct hd la bt kindsF = _ := (L0_fs hop hj hk).trans (n_i_fs_TYA)
  have e_fp : f_X1_instruction_fp mm fo fa fx fy fs fp fc mem ug lt ct hd la bt kindsF waysF = _ := (L0_fp hop hj hk hww).trans (n_i_fp_TYA)
  have e_fc : f_X1_instruction_fc mm fo fx fy fs fp fc mem ug lt ct hd la bt kindsF waysF = _ := (L0_fc hop hj hk hww).trans (n_i_fc_TYA)
  have e_mem : f_X1_instruction_mem mm fo fa fx fy fs fp fc mem ug lt ct hd la bt kindsF waysF = _ := (L0_mem hop hj hk hww).trans (n_i_mem_TYA)
  have e_ug : f_X1_instruction_ug mm fo fa fx fy fp fc mem ug lt ct hd la bt kindsF waysF = _ := (L0_ug hop hj hk hww).trans (n_i_ug_TYA)
  have e_ud : f_X1_instruction_ud mm fo fa fx fy fp fc mem ug ud lt ct hd la bt kindsF waysF = _ := (L0_ud hop hj hk hww).trans (n_i_ud_TYA)
  have e_lt : f_X1_instruction_lt mm fo fa fx fy fp fc mem ug lt ct hd la bt kindsF waysF = _ := (L0_lt hop hj hk hww).trans (n_i_lt_TYA)
  have e_ct : f_X1_instruction_ct mm fo fx fy fc mem ug lt ct hd la bt kindsF waysF = _ := (L0_ct hop hj hk hww).trans (n_i_ct_TYA)
  have e_hd : f_X1_instruction_hd mm fo fx fy fc mem ug lt ct hd la bt kindsF waysF = _ := (L0_hd hop hj hk hww).trans (n_i_hd_TYA)
  have e_la : f_X1_instruction_la mm fo fx fy fc mem ug lt ct hd la bt kindsF waysF = _ := (L0_la hop hj hk hww).trans (n_i_la_TYA)
  have e_bt : f_X1_instruction_bt mm fo fa fx fy fp fc mem ug lt ct hd la bt kindsF waysF = _ := (L0_bt hop hj hk hww).trans (n_i_bt_TYA)
  have g_gB : b_gB ug mm gB gA gX gY gS gP gC gR gM gL = _ := (B_ot_gB ho hkn h4 h5 hwy rfl).trans (n_ot_gB_TYA)
  have g_gA : b_gA ug mm gB gA gX gY gS gP gC gR gM gL = _ := (B_ot_gA ho hkn h4 h5).trans (n_ot_gA_TYA)
  have g_gX : b_gX ug mm gB gA gX gY gS gC gR gM gL = _ := (B_ot_gX ho hkn h4 h5).trans (n_ot_gX_TYA)
  have g_gY : b_gY ug mm gB gA gX gY gC gR gM gL = _ := (B_ot_gY ho hkn h4 h5 hwy rfl).trans (n_ot_gY_TYA)
  have g_gS : b_gS ug mm gB gX gS gC gR gM gL = _ := (B_ot_gS ho hkn h4 h5).trans (n_ot_gS_TYA)
  have g_gP : b_gP ug mm gB gA gX gY gS gP gC gR gM gL = _ := (B_ot_gP ho hkn h4 h5 hwy rfl).trans (n_ot_gP_TYA)
  have g_gC : b_gC ug mm gB gS gP gC gR gM gL = _ := (B_ot_gC ho hkn h4 h5 hwy rfl).trans (n_ot_gC_TYA)
  have g_gR : b_gR ug mm gB gA gX gY gP gC gR gM gL = _ := (B_ot_gR ho hkn h4 h5 hwy rfl rfl).trans (n_ot_gR_TYA)
  have g_gM : b_gM ug mm gB gX gY gC gR gM gL = _ := (B_ot_gM ho hkn h4 h5 hwy rfl rfl).trans (n_ot_gM_TYA)
  have g_gL : b_gL ug mm gB gX gY gC gR gM gL = _ := (B_ot_gL ho hkn h4 h5 hwy rfl rfl).trans (n_ot_gL_TYA)
  have g_un : b_un ug mm gB gA gX gY gP gC gR gM gL = _ := (B_ot_un ho hkn h4 h5 hwy rfl).trans (n_ot_un_TYA)
  have g_ow : b_ow ug ud mm gB gA gX gY gP gC gR gM gL = _ := (B_ot_ow ho hkn h4 h5 hwy rfl).trans (n_ot_ow_TYA)
  rw [e_fa, e_fx, e_fy, e_fs, e_fp, e_fc, e_mem, e_ug, e_ud, e_lt, e_ct, e_hd, e_la, e_bt, g_gB, g_gA, g_gX, g_gY, g_gS, g_gP, g_gC, g_gR, g_gM, g_gL, g_un, g_ow]
  exact op_TYA hm hB hA hX hY hS hP fC fu hf hw
set_option maxRecDepth 100000 in
theorem as_CLV (hm : s_m mm fo) (hB : rm mm gB mem om) (hA : ra mm gA fa oa) (hX : ra mm gX fx ox) (hY : ra mm gY fy oy) (hS : ra mm gS fs os) (hP : rp mm gP fp op) (hC : rc mm gC fc oc) (hu : ru ug lt ct hd la bt gR gM gL) (hf : ∃ j : Nat, j < 64 ∧ ug = nI j) (hw : wB ud) (hj : j < 256) (hop : f_X1_read_r mm fo mem ug lt ct hd la bt fc = nI j) (hc : clsF j = 40) : SR mm oa ox oy os op oc om (f_X1_instruction_fa mm fo fa fx fy fs fp fc mem ug lt ct hd la bt kindsF waysF) (f_X1_instruction_fx mm fo fa fx fy fs fc mem ug lt ct hd la bt kindsF waysF) (f_X1_instruction_fy mm fo fa fx fy fc mem ug lt ct hd la bt kindsF waysF) (f_X1_instruction_fs mm fo fx fs fc mem ug lt ct hd la bt kindsF) (f_X1_instruction_fp mm fo fa fx fy fs fp fc mem ug lt ct hd la bt kindsF waysF) (f_X1_instruction_fc mm fo fx fy fs fp fc mem ug lt ct hd la bt kindsF waysF) (f_X1_instruction_mem mm fo fa fx fy fs fp fc mem ug lt ct hd la bt kindsF waysF) (f_X1_instruction_ug mm fo fa fx fy fp fc mem ug lt ct hd la bt kindsF waysF) (f_X1_instruction_ud mm fo fa fx fy fp fc mem ug ud lt ct hd la bt kindsF waysF) (f_X1_instruction_lt mm fo fa fx fy fp fc mem ug lt ct hd la bt kindsF waysF) (f_X1_instruction_ct mm fo fx fy fc mem ug lt ct hd la bt kindsF waysF) (f_X1_instruction_hd mm fo fx fy fc mem ug lt ct hd la bt kindsF waysF) (f_X1_instruction_la mm fo fx fy fc mem ug lt ct hd la bt kindsF waysF) (f_X1_instruction_bt mm fo fa fx fy fp fc mem ug lt ct hd la bt kindsF waysF) (b_gB ug mm gB gA gX gY gS gP gC gR gM gL) (b_gA ug mm gB gA gX gY gS gP gC gR gM gL) (b_gX ug mm gB gA gX gY gS gC gR gM gL) (b_gY ug mm gB gA gX gY gC gR gM gL) (b_gS ug mm gB gX gS gC gR gM gL) (b_gP ug mm gB gA gX gY gS gP gC gR gM gL) (b_gC ug mm gB gS gP gC gR gM gL) (b_gR ug mm gB gA gX gY gP gC gR gM gL) (b_gM ug mm gB gX gY gC gR gM gL) (b_gL ug mm gB gX gY gC gR gM gL) (b_un ug mm gB gA gX gY gP gC gR gM gL) (b_ow ug ud mm gB gA gX gY gP gC gR gM gL) := by
  have fe := sr_fetch hm hB hf hu hC
  obtain ⟨fv, fb, fu, fC⟩ := fe
  obtain rfl : j = 184 := (show ∀ j : Nat, j < 256 → clsF j = 40 → j = 184 by decide +kernel) j hj hc
  have ho : f_X5_fetch_r ug mm gB gC gR gM gL = (184 : Int32) := fv.trans hop
  have hkn : ¬ f_X5_isKnown_r (184 : Int32) = 0 := by decide +kernel
  have hk : kindsF 184 = 84 := by decide +kernel
  have hww : waysF 184 = 0 := by decide +kernel
  have h4 : ¬ (184 : Int32) - (184 : Int32) / 4 * 4 = 1 := by decide +kernel
  have h5 : ¬ (184 : Int32) - (184 : Int32) / 4 * 4 = 2 := by decide +kernel
  have hwy : f_X5_way_r (184 : Int32) = 0 := by decide +kernel
  have e_fa : f_X1_instruction_fa mm fo fa fx fy fs fp fc mem ug lt ct hd la bt kindsF waysF = _ := (L0_fa hop hj hk hww).trans (n_i_fa_CLV)
  have e_fx : f_X1_instruction_fx mm fo fa fx fy fs fc mem ug lt ct hd la bt kindsF waysF = _ := (L0_fx hop hj hk hww).trans (n_i_fx_CLV)
  have e_fy : f_X1_instruction_fy mm fo fa fx fy fc mem ug lt ct hd la bt kindsF waysF = _ := (L0_fy hop hj hk hww).trans (n_i_fy_CLV)
  have e_fs : f_X1_instruction_fs mm fo fx fs fc mem ug lt ct hd la bt kindsF = _ := (L0_fs hop hj hk).trans (n_i_fs_CLV)
  have e_fp : f_X1_instruction_fp mm fo fa fx fy fs fp fc mem ug lt ct hd la bt kindsF waysF = _ := (L0_fp hop hj hk hww).trans (n_i_fp_CLV)
  have e_fc : f_X1_instruction_fc mm fo fx fy fs fp fc mem ug lt ct hd la bt kindsF waysF = _ := (L0_fc hop hj hk hww).trans (n_i_fc_CLV)
  have e_mem : f_X1_instruction_mem mm fo fa fx fy fs fp fc mem ug lt ct hd la bt kindsF waysF = _ := (L0_mem hop hj hk hww).trans (n_i_mem_CLV)
  have e_ug : f_X1_instruction_ug mm fo fa fx fy fp fc mem ug lt ct hd la bt kindsF waysF = _ := (L0_ug hop hj hk hww).trans (n_i_ug_CLV)
  have e_ud : f_X1_instruction_ud mm fo fa fx fy fp fc mem ug ud lt ct hd la bt kindsF waysF = _ := (L0_ud hop hj hk hww).trans (n_i_ud_CLV)
  have e_lt : f_X1_instruction_lt mm fo fa fx fy fp fc mem ug lt ct hd la bt kindsF waysF = _ := (L0_lt hop hj hk hww).trans (n_i_lt_CLV)
  have e_ct : f_X1_instruction_ct mm fo fx fy fc mem ug lt ct hd la bt kindsF waysF = _ := (L0_ct hop hj hk hww).trans (n_i_ct_CLV)
  have e_hd : f_X1_instruction_hd mm fo fx fy fc mem ug lt ct hd la bt kindsF waysF = _ := (L0_hd hop hj hk hww).trans (n_i_hd_CLV)
  have e_la : f_X1_instruction_la mm fo fx fy fc mem ug lt ct hd la bt kindsF waysF = _ := (L0_la hop hj hk hww).trans (n_i_la_CLV)
  have e_bt : f_X1_instruction_bt mm fo fa fx fy fp fc mem ug lt ct hd la bt kindsF waysF = _ := (L0_bt hop hj hk hww).trans (n_i_bt_CLV)
  have g_gB : b_gB ug mm gB gA gX gY gS gP gC gR gM gL = _ := (B_ot_gB ho hkn h4 h5 hwy rfl).trans (n_ot_gB_CLV)
  have g_gA : b_gA ug mm gB gA gX gY gS gP gC gR gM gL = _ := (B_ot_gA ho hkn h4 h5).trans (n_ot_gA_CLV)
  have g_gX : b_gX ug mm gB gA gX gY gS gC gR gM gL = _ := (B_ot_gX ho hkn h4 h5).trans (n_ot_gX_CLV)
  have g_gY : b_gY ug mm gB gA gX gY gC gR gM gL = _ := (B_ot_gY ho hkn h4 h5 hwy rfl).trans (n_ot_gY_CLV)
  have g_gS : b_gS ug mm gB gX gS gC gR gM gL = _ := (B_ot_gS ho hkn h4 h5).trans (n_ot_gS_CLV)
  have g_gP : b_gP ug mm gB gA gX gY gS gP gC gR gM gL = _ := (B_ot_gP ho hkn h4 h5 hwy rfl).trans (n_ot_gP_CLV)
  have g_gC : b_gC ug mm gB gS gP gC gR gM gL = _ := (B_ot_gC ho hkn h4 h5 hwy rfl).trans (n_ot_gC_CLV)
  have g_gR : b_gR ug mm gB gA gX gY gP gC gR gM gL = _ := (B_ot_gR ho hkn h4 h5 hwy rfl rfl).trans (n_ot_gR_CLV)
  have g_gM : b_gM ug mm gB gX gY gC gR gM gL = _ := (B_ot_gM ho hkn h4 h5 hwy rfl rfl).trans (n_ot_gM_CLV)
  have g_gL : b_gL ug mm gB gX gY gC gR gM gL = _ := (B_ot_gL ho hkn h4 h5 hwy rfl rfl).trans (n_ot_gL_CLV)
  have g_un : b_un ug mm gB gA gX gY gP gC gR gM gL = _ := (B_ot_un ho hkn h4 h5 hwy rfl).trans (n_ot_un_CLV)
  have g_ow : b_ow ug ud mm gB gA gX gY gP gC gR gM gL = _ := (B_ot_ow ho hkn h4 h5 hwy rfl).trans (n_ot_ow_CLV)
  rw [e_fa, e_fx, e_fy, e_fs, e_fp, e_fc, e_mem, e_ug, e_ud, e_lt, e_ct, e_hd, e_la, e_bt, g_gB, g_gA, g_gX, g_gY, g_gS, g_gP, g_gC, g_gR, g_gM, g_gL, g_un, g_ow]
  exact op_CLV hm hB hA hX hY hS hP fC fu hf hw
set_option maxRecDepth 100000 in
theorem as_CLD (hm : s_m mm fo) (hB : rm mm gB mem om) (hA : ra mm gA fa oa) (hX : ra mm gX fx ox) (hY : ra mm gY fy oy) (hS : ra mm gS fs os) (hP : rp mm gP fp op) (hC : rc mm gC fc oc) (hu : ru ug lt ct hd la bt gR gM gL) (hf : ∃ j : Nat, j < 64 ∧ ug = nI j) (hw : wB ud) (hj : j < 256) (hop : f_X1_read_r mm fo mem ug lt ct hd la bt fc = nI j) (hc : clsF j = 41) : SR mm oa ox oy os op oc om (f_X1_instruction_fa mm fo fa fx fy fs fp fc mem ug lt ct hd la bt kindsF waysF) (f_X1_instruction_fx mm fo fa fx fy fs fc mem ug lt ct hd la bt kindsF waysF) (f_X1_instruction_fy mm fo fa fx fy fc mem ug lt ct hd la bt kindsF waysF) (f_X1_instruction_fs mm fo fx fs fc mem ug lt ct hd la bt kindsF) (f_X1_instruction_fp mm fo fa fx fy fs fp fc mem ug lt ct hd la bt kindsF waysF) (f_X1_instruction_fc mm fo fx fy fs fp fc mem ug lt ct hd la bt kindsF waysF) (f_X1_instruction_mem mm fo fa fx fy fs fp fc mem ug lt ct hd la bt kindsF waysF) (f_X1_instruction_ug mm fo fa fx fy fp fc mem ug lt ct hd la bt kindsF waysF) (f_X1_instruction_ud mm fo fa fx fy fp fc mem ug ud lt ct hd la bt kindsF waysF) (f_X1_instruction_lt mm fo fa fx fy fp fc mem ug lt ct hd la bt kindsF waysF) (f_X1_instruction_ct mm fo fx fy fc mem ug lt ct hd la bt kindsF waysF) (f_X1_instruction_hd mm fo fx fy fc mem ug lt ct hd la bt kindsF waysF) (f_X1_instruction_la mm fo fx fy fc mem ug lt ct hd la bt kindsF waysF) (f_X1_instruction_bt mm fo fa fx fy fp fc mem ug lt ct hd la bt kindsF waysF) (b_gB ug mm gB gA gX gY gS gP gC gR gM gL) (b_gA ug mm gB gA gX gY gS gP gC gR gM gL) (b_gX ug mm gB gA gX gY gS gC gR gM gL) (b_gY ug mm gB gA gX gY gC gR gM gL) (b_gS ug mm gB gX gS gC gR gM gL) (b_gP ug mm gB gA gX gY gS gP gC gR gM gL) (b_gC ug mm gB gS gP gC gR gM gL) (b_gR ug mm gB gA gX gY gP gC gR gM gL) (b_gM ug mm gB gX gY gC gR gM gL) (b_gL ug mm gB gX gY gC gR gM gL) (b_un ug mm gB gA gX gY gP gC gR gM gL) (b_ow ug ud mm gB gA gX gY gP gC gR gM gL) := by
  have fe := sr_fetch hm hB hf hu hC
  obtain ⟨fv, fb, fu, fC⟩ := fe
  obtain rfl : j = 216 := (show ∀ j : Nat, j < 256 → clsF j = 41 → j = 216 by decide +kernel) j hj hc
  have ho : f_X5_fetch_r ug mm gB gC gR gM gL = (216 : Int32) := fv.trans hop
  have hkn : ¬ f_X5_isKnown_r (216 : Int32) = 0 := by decide +kernel
  have hk : kindsF 216 = 85 := by decide +kernel
  have hww : waysF 216 = 0 := by decide +kernel
  have h4 : ¬ (216 : Int32) - (216 : Int32) / 4 * 4 = 1 := by decide +kernel
  have h5 : ¬ (216 : Int32) - (216 : Int32) / 4 * 4 = 2 := by decide +kernel
  have hwy : f_X5_way_r (216 : Int32) = 0 := by decide +kernel
  have e_fa : f_X1_instruction_fa mm fo fa fx fy fs fp fc mem ug lt ct hd la bt kindsF waysF = _ := (L0_fa hop hj hk hww).trans (n_i_fa_CLD)
  have e_fx : f_X1_instruction_fx mm fo fa fx fy fs fc mem ug lt ct hd la bt kindsF waysF = _ := (L0_fx hop hj hk hww).trans (n_i_fx_CLD)
  have e_fy : f_X1_instruction_fy mm fo fa fx fy fc mem ug lt ct hd la bt kindsF waysF = _ := (L0_fy hop hj hk hww).trans (n_i_fy_CLD)
  have e_fs : f_X1_instruction_fs mm fo fx fs fc mem ug lt ct hd la bt kindsF = _ := (L0_fs hop hj hk).trans (n_i_fs_CLD)
  have e_fp : f_X1_instruction_fp mm fo fa fx fy fs fp fc mem ug lt ct hd la bt kindsF waysF = _ := (L0_fp hop hj hk hww).trans (n_i_fp_CLD)
  have e_fc : f_X1_instruction_fc mm fo fx fy fs fp fc mem ug lt ct hd la bt kindsF waysF = _ := (L0_fc hop hj hk hww).trans (n_i_fc_CLD)
  have e_mem : f_X1_instruction_mem mm fo fa fx fy fs fp fc mem ug lt ct hd la bt kindsF waysF = _ := (L0_mem hop hj hk hww).trans (n_i_mem_CLD)
  have e_ug : f_X1_instruction_ug mm fo fa fx fy fp fc mem ug lt ct hd la bt kindsF waysF = _ := (L0_ug hop hj hk hww).trans (n_i_ug_CLD)
  have e_ud : f_X1_instruction_ud mm fo fa fx fy fp fc mem ug ud lt ct hd la bt kindsF waysF = _ := (L0_ud hop hj hk hww).trans (n_i_ud_CLD)
  have e_lt : f_X1_instruction_lt mm fo fa fx fy fp fc mem ug lt ct hd la bt kindsF waysF = _ := (L0_lt hop hj hk hww).trans (n_i_lt_CLD)
  have e_ct : f_X1_instruction_ct mm fo fx fy fc mem ug lt ct hd la bt kindsF waysF = _ := (L0_ct hop hj hk hww).trans (n_i_ct_CLD)
  have e_hd : f_X1_instruction_hd mm fo fx fy fc mem ug lt ct hd la bt kindsF waysF = _ := (L0_hd hop hj hk hww).trans (n_i_hd_CLD)
  have e_la : f_X1_instruction_la mm fo fx fy fc mem ug lt ct hd la bt kindsF waysF = _ := (L0_la hop hj hk hww).trans (n_i_la_CLD)
  have e_bt : f_X1_instruction_bt mm fo fa fx fy fp fc mem ug lt ct hd la bt kindsF waysF = _ := (L0_bt hop hj hk hww).trans (n_i_bt_CLD)
  have g_gB : b_gB ug mm gB gA gX gY gS gP gC gR gM gL = _ := (B_ot_gB ho hkn h4 h5 hwy rfl).trans (n_ot_gB_CLD)
  have g_gA : b_gA ug mm gB gA gX gY gS gP gC gR gM gL = _ := (B_ot_gA ho hkn h4 h5).trans (n_ot_gA_CLD)
  have g_gX : b_gX ug mm gB gA gX gY gS gC gR gM gL = _ := (B_ot_gX ho hkn h4 h5).trans (n_ot_gX_CLD)
  have g_gY : b_gY ug mm gB gA gX gY gC gR gM gL = _ := (B_ot_gY ho hkn h4 h5 hwy rfl).trans (n_ot_gY_CLD)
  have g_gS : b_gS ug mm gB gX gS gC gR gM gL = _ := (B_ot_gS ho hkn h4 h5).trans (n_ot_gS_CLD)
  have g_gP : b_gP ug mm gB gA gX gY gS gP gC gR gM gL = _ := (B_ot_gP ho hkn h4 h5 hwy rfl).trans (n_ot_gP_CLD)
  have g_gC : b_gC ug mm gB gS gP gC gR gM gL = _ := (B_ot_gC ho hkn h4 h5 hwy rfl).trans (n_ot_gC_CLD)
  have g_gR : b_gR ug mm gB gA gX gY gP gC gR gM gL = _ := (B_ot_gR ho hkn h4 h5 hwy rfl rfl).trans (n_ot_gR_CLD)
  have g_gM : b_gM ug mm gB gX gY gC gR gM gL = _ := (B_ot_gM ho hkn h4 h5 hwy rfl rfl).trans (n_ot_gM_CLD)
  have g_gL : b_gL ug mm gB gX gY gC gR gM gL = _ := (B_ot_gL ho hkn h4 h5 hwy rfl rfl).trans (n_ot_gL_CLD)
  have g_un : b_un ug mm gB gA gX gY gP gC gR gM gL = _ := (B_ot_un ho hkn h4 h5 hwy rfl).trans (n_ot_un_CLD)
  have g_ow : b_ow ug ud mm gB gA gX gY gP gC gR gM gL = _ := (B_ot_ow ho hkn h4 h5 hwy rfl).trans (n_ot_ow_CLD)
  rw [e_fa, e_fx, e_fy, e_fs, e_fp, e_fc, e_mem, e_ug, e_ud, e_lt, e_ct, e_hd, e_la, e_bt, g_gB, g_gA, g_gX, g_gY, g_gS, g_gP, g_gC, g_gR, g_gM, g_gL, g_un, g_ow]
  exact op_CLD hm hB hA hX hY hS hP fC fu hf hw
set_option maxRecDepth 100000 in
theorem as_SED (hm : s_m mm fo) (hB : rm mm gB mem om) (hA : ra mm gA fa oa) (hX : ra mm gX fx ox) (hY : ra mm gY fy oy) (hS : ra mm gS fs os) (hP : rp mm gP fp op) (hC : rc mm gC fc oc) (hu : ru ug lt ct hd la bt gR gM gL) (hf : ∃ j : Nat, j < 64 ∧ ug = nI j) (hw : wB ud) (hj : j < 256) (hop : f_X1_read_r mm fo mem ug lt ct hd la bt fc = nI j) (hc : clsF j = 42) : SR mm oa ox oy os op oc om (f_X1_instruction_fa mm fo fa fx fy fs fp fc mem ug lt ct hd la bt kindsF waysF) (f_X1_instruction_fx mm fo fa fx fy fs fc mem ug lt ct hd la bt kindsF waysF) (f_X1_instruction_fy mm fo fa fx fy fc mem ug lt ct hd la bt kindsF waysF) (f_X1_instruction_fs mm fo fx fs fc mem ug lt ct hd la bt kindsF) (f_X1_instruction_fp mm fo fa fx fy fs fp fc mem ug lt ct hd la bt kindsF waysF) (f_X1_instruction_fc mm fo fx fy fs fp fc mem ug lt ct hd la bt kindsF waysF) (f_X1_instruction_mem mm fo fa fx fy fs fp fc mem ug lt ct hd la bt kindsF waysF) (f_X1_instruction_ug mm fo fa fx fy fp fc mem ug lt ct hd la bt kindsF waysF) (f_X1_instruction_ud mm fo fa fx fy fp fc mem ug ud lt ct hd la bt kindsF waysF) (f_X1_instruction_lt mm fo fa fx fy fp fc mem ug lt ct hd la bt kindsF waysF) (f_X1_instruction_ct mm fo fx fy fc mem ug lt ct hd la bt kindsF waysF) (f_X1_instruction_hd mm fo fx fy fc mem ug lt ct hd la bt kindsF waysF) (f_X1_instruction_la mm fo fx fy fc mem ug lt ct hd la bt kindsF waysF) (f_X1_instruction_bt mm fo fa fx fy fp fc mem ug lt ct hd la bt kindsF waysF) (b_gB ug mm gB gA gX gY gS gP gC gR gM gL) (b_gA ug mm gB gA gX gY gS gP gC gR gM gL) (b_gX ug mm gB gA gX gY gS gC gR gM gL) (b_gY ug mm gB gA gX gY gC gR gM gL) (b_gS ug mm gB gX gS gC gR gM gL) (b_gP ug mm gB gA gX gY gS gP gC gR gM gL) (b_gC ug mm gB gS gP gC gR gM gL) (b_gR ug mm gB gA gX gY gP gC gR gM gL) (b_gM ug mm gB gX gY gC gR gM gL) (b_gL ug mm gB gX gY gC gR gM gL) (b_un ug mm gB gA gX gY gP gC gR gM gL) (b_ow ug ud mm gB gA gX gY gP gC gR gM gL) := by
  have fe := sr_fetch hm hB hf hu hC
  obtain ⟨fv, fb, fu, fC⟩ := fe
  obtain rfl : j = 248 := (show ∀ j : Nat, j < 256 → clsF j = 42 → j = 248 by decide +kernel) j hj hc
  have ho : f_X5_fetch_r ug mm gB gC gR gM gL = (248 : Int32) := fv.trans hop
  have hkn : ¬ f_X5_isKnown_r (248 : Int32) = 0 := by decide +kernel
  have hk : kindsF 248 = 86 := by decide +kernel
  have hww : waysF 248 = 0 := by decide +kernel
  have h4 : ¬ (248 : Int32) - (248 : Int32) / 4 * 4 = 1 := by decide +kernel
  have h5 : ¬ (248 : Int32) - (248 : Int32) / 4 * 4 = 2 := by decide +kernel
  have hwy : f_X5_way_r (248 : Int32) = 0 := by decide +kernel
  have e_fa : f_X1_instruction_fa mm fo fa fx fy fs fp fc mem ug lt ct hd la bt kindsF waysF = _ := (L0_fa hop hj hk hww).trans (n_i_fa_SED)
  have e_fx : f_X1_instruction_fx mm fo fa fx fy fs fc mem ug lt ct hd la bt kindsF waysF = _ := (L0_fx hop hj hk hww).trans (n_i_fx_SED)
  have e_fy : f_X1_instruction_fy mm fo fa fx fy fc mem ug lt ct hd la bt kindsF waysF = _ := (L0_fy hop hj hk hww).trans (n_i_fy_SED)
  have e_fs : f_X1_instruction_fs mm fo fx fs fc mem ug lt ct hd la bt kindsF = _ := (L0_fs hop hj hk).trans (n_i_fs_SED)
  have e_fp : f_X1_instruction_fp mm fo fa fx fy fs fp fc mem ug lt ct hd la bt kindsF waysF = _ := (L0_fp hop hj hk hww).trans (n_i_fp_SED)
  have e_fc : f_X1_instruction_fc mm fo fx fy fs fp fc mem ug lt ct hd la bt kindsF waysF = _ := (L0_fc hop hj hk hww).trans (n_i_fc_SED)
  have e_mem : f_X1_instruction_mem mm fo fa fx fy fs fp fc mem ug lt ct hd la bt kindsF waysF = _ := (L0_mem hop hj hk hww).trans (n_i_mem_SED)
  have e_ug : f_X1_instruction_ug mm fo fa fx fy fp fc mem ug lt ct hd la bt kindsF waysF = _ := (L0_ug hop hj hk hww).trans (n_i_ug_SED)
  have e_ud : f_X1_instruction_ud mm fo fa fx fy fp fc mem ug ud lt ct hd la bt kindsF waysF = _ := (L0_ud hop hj hk hww).trans (n_i_ud_SED)
  have e_lt : f_X1_instruction_lt mm fo fa fx fy fp fc mem ug lt ct hd la bt kindsF waysF = _ := (L0_lt hop hj hk hww).trans (n_i_lt_SED)
  have e_ct : f_X1_instruction_ct mm fo fx fy fc mem ug lt ct hd la bt kindsF waysF = _ := (L0_ct hop hj hk hww).trans (n_i_ct_SED)
  have e_hd : f_X1_instruction_hd mm fo fx fy fc mem ug lt ct hd la bt kindsF waysF = _ := (L0_hd hop hj hk hww).trans (n_i_hd_SED)
  have e_la : f_X1_instruction_la mm fo fx fy fc mem ug lt ct hd la bt kindsF waysF = _ := (L0_la hop hj hk hww).trans (n_i_la_SED)
  have e_bt : f_X1_instruction_bt mm fo fa fx fy fp fc mem ug lt ct hd la bt kindsF waysF = _ := (L0_bt hop hj hk hww).trans (n_i_bt_SED)
  have g_gB : b_gB ug mm gB gA gX gY gS gP gC gR gM gL = _ := (B_ot_gB ho hkn h4 h5 hwy rfl).trans (n_ot_gB_SED)
  have g_gA : b_gA ug mm gB gA gX gY gS gP gC gR gM gL = _ := (B_ot_gA ho hkn h4 h5).trans (n_ot_gA_SED)
  have g_gX : b_gX ug mm gB gA gX gY gS gC gR gM gL = _ := (B_ot_gX ho hkn h4 h5).trans (n_ot_gX_SED)
  have g_gY : b_gY ug mm gB gA gX gY gC gR gM gL = _ := (B_ot_gY ho hkn h4 h5 hwy rfl).trans (n_ot_gY_SED)
  have g_gS : b_gS ug mm gB gX gS gC gR gM gL = _ := (B_ot_gS ho hkn h4 h5).trans (n_ot_gS_SED)
  have g_gP : b_gP ug mm gB gA gX gY gS gP gC gR gM gL = _ := (B_ot_gP ho hkn h4 h5 hwy rfl).trans (n_ot_gP_SED)
  have g_gC : b_gC ug mm gB gS gP gC gR gM gL = _ := (B_ot_gC ho hkn h4 h5 hwy rfl).trans (n_ot_gC_SED)
  have g_gR : b_gR ug mm gB gA gX gY gP gC gR gM gL = _ := (B_ot_gR ho hkn h4 h5 hwy rfl rfl).trans (n_ot_gR_SED)
  have g_gM : b_gM ug mm gB gX gY gC gR gM gL = _ := (B_ot_gM ho hkn h4 h5 hwy rfl rfl).trans (n_ot_gM_SED)
  have g_gL : b_gL ug mm gB gX gY gC gR gM gL = _ := (B_ot_gL ho hkn h4 h5 hwy rfl rfl).trans (n_ot_gL_SED)
  have g_un : b_un ug mm gB gA gX gY gP gC gR gM gL = _ := (B_ot_un ho hkn h4 h5 hwy rfl).trans (n_ot_un_SED)
  have g_ow : b_ow ug ud mm gB gA gX gY gP gC gR gM gL = _ := (B_ot_ow ho hkn h4 h5 hwy rfl).trans (n_ot_ow_SED)
  rw [e_fa, e_fx, e_fy, e_fs, e_fp, e_fc, e_mem, e_ug, e_ud, e_lt, e_ct, e_hd, e_la, e_bt, g_gB, g_gA, g_gX, g_gY, g_gS, g_gP, g_gC, g_gR, g_gM, g_gL, g_un, g_ow]
  exact op_SED hm hB hA hX hY hS hP fC fu hf hw
set_option maxRecDepth 100000 in
theorem as_BRK (hm : s_m mm fo) (hB : rm mm gB mem om) (hA : ra mm gA fa oa) (hX : ra mm gX fx ox) (hY : ra mm gY fy oy) (hS : ra mm gS fs os) (hP : rp mm gP fp op) (hC : rc mm gC fc oc) (hu : ru ug lt ct hd la bt gR gM gL) (hf : ∃ j : Nat, j < 64 ∧ ug = nI j) (hw : wB ud) (hj : j < 256) (hop : f_X1_read_r mm fo mem ug lt ct hd la bt fc = nI j) (hc : clsF j = 43) : SR mm oa ox oy os op oc om (f_X1_instruction_fa mm fo fa fx fy fs fp fc mem ug lt ct hd la bt kindsF waysF) (f_X1_instruction_fx mm fo fa fx fy fs fc mem ug lt ct hd la bt kindsF waysF) (f_X1_instruction_fy mm fo fa fx fy fc mem ug lt ct hd la bt kindsF waysF) (f_X1_instruction_fs mm fo fx fs fc mem ug lt ct hd la bt kindsF) (f_X1_instruction_fp mm fo fa fx fy fs fp fc mem ug lt ct hd la bt kindsF waysF) (f_X1_instruction_fc mm fo fx fy fs fp fc mem ug lt ct hd la bt kindsF waysF) (f_X1_instruction_mem mm fo fa fx fy fs fp fc mem ug lt ct hd la bt kindsF waysF) (f_X1_instruction_ug mm fo fa fx fy fp fc mem ug lt ct hd la bt kindsF waysF) (f_X1_instruction_ud mm fo fa fx fy fp fc mem ug ud lt ct hd la bt kindsF waysF) (f_X1_instruction_lt mm fo fa fx fy fp fc mem ug lt ct hd la bt kindsF waysF) (f_X1_instruction_ct mm fo fx fy fc mem ug lt ct hd la bt kindsF waysF) (f_X1_instruction_hd mm fo fx fy fc mem ug lt ct hd la bt kindsF waysF) (f_X1_instruction_la mm fo fx fy fc mem ug lt ct hd la bt kindsF waysF) (f_X1_instruction_bt mm fo fa fx fy fp fc mem ug lt ct hd la bt kindsF waysF) (b_gB ug mm gB gA gX gY gS gP gC gR gM gL) (b_gA ug mm gB gA gX gY gS gP gC gR gM gL) (b_gX ug mm gB gA gX gY gS gC gR gM gL) (b_gY ug mm gB gA gX gY gC gR gM gL) (b_gS ug mm gB gX gS gC gR gM gL) (b_gP ug mm gB gA gX gY gS gP gC gR gM gL) (b_gC ug mm gB gS gP gC gR gM gL) (b_gR ug mm gB gA gX gY gP gC gR gM gL) (b_gM ug mm gB gX gY gC gR gM gL) (b_gL ug mm gB gX gY gC gR gM gL) (b_un ug mm gB gA gX gY gP gC gR gM gL) (b_ow ug ud mm gB gA gX gY gP gC gR gM gL) := by
  have fe := sr_fetch hm hB hf hu hC
  obtain ⟨fv, fb, fu, fC⟩ := fe
  obtain rfl : j = 0 := (show ∀ j : Nat, j < 256 → clsF j = 43 → j = 0 by decide +kernel) j hj hc
  have ho : f_X5_fetch_r ug mm gB gC gR gM gL = (0 : Int32) := fv.trans hop
  have hkn : ¬ f_X5_isKnown_r (0 : Int32) = 0 := by decide +kernel
  have hk : kindsF 0 = 116 := by decide +kernel
  have hww : waysF 0 = 0 := by decide +kernel
  have h4 : ¬ (0 : Int32) - (0 : Int32) / 4 * 4 = 1 := by decide +kernel
  have h5 : ¬ (0 : Int32) - (0 : Int32) / 4 * 4 = 2 := by decide +kernel
  have hwy : f_X5_way_r (0 : Int32) = 0 := by decide +kernel
  have e_fa : f_X1_instruction_fa mm fo fa fx fy fs fp fc mem ug lt ct hd la bt kindsF waysF = _ := (L0_fa hop hj hk hww).trans (n_i_fa_BRK)
  have e_fx : f_X1_instruction_fx mm fo fa fx fy fs fc mem ug lt ct hd la bt kindsF waysF = _ := (L0_fx hop hj hk hww).trans (n_i_fx_BRK)
  have e_fy : f_X1_instruction_fy mm fo fa fx fy fc mem ug lt ct hd la bt kindsF waysF = _ := (L0_fy hop hj hk hww).trans (n_i_fy_BRK)
  have e_fs : f_X1_instruction_fs mm fo fx fs fc mem ug lt ct hd la bt kindsF = _ := (L0_fs hop hj hk).trans (n_i_fs_BRK)
  have e_fp : f_X1_instruction_fp mm fo fa fx fy fs fp fc mem ug lt ct hd la bt kindsF waysF = _ := (L0_fp hop hj hk hww).trans (n_i_fp_BRK)
  have e_fc : f_X1_instruction_fc mm fo fx fy fs fp fc mem ug lt ct hd la bt kindsF waysF = _ := (L0_fc hop hj hk hww).trans (n_i_fc_BRK)
  have e_mem : f_X1_instruction_mem mm fo fa fx fy fs fp fc mem ug lt ct hd la bt kindsF waysF = _ := (L0_mem hop hj hk hww).trans (n_i_mem_BRK)
  have e_ug : f_X1_instruction_ug mm fo fa fx fy fp fc mem ug lt ct hd la bt kindsF waysF = _ := (L0_ug hop hj hk hww).trans (n_i_ug_BRK)
  have e_ud : f_X1_instruction_ud mm fo fa fx fy fp fc mem ug ud lt ct hd la bt kindsF waysF = _ := (L0_ud hop hj hk hww).trans (n_i_ud_BRK)
  have e_lt : f_X1_instruction_lt mm fo fa fx fy fp fc mem ug lt ct hd la bt kindsF waysF = _ := (L0_lt hop hj hk hww).trans (n_i_lt_BRK)
  have e_ct : f_X1_instruction_ct mm fo fx fy fc mem ug lt ct hd la bt kindsF waysF = _ := (L0_ct hop hj hk hww).trans (n_i_ct_BRK)
  have e_hd : f_X1_instruction_hd mm fo fx fy fc mem ug lt ct hd la bt kindsF waysF = _ := (L0_hd hop hj hk hww).trans (n_i_hd_BRK)
  have e_la : f_X1_instruction_la mm fo fx fy fc mem ug lt ct hd la bt kindsF waysF = _ := (L0_la hop hj hk hww).trans (n_i_la_BRK)
  have e_bt : f_X1_instruction_bt mm fo fa fx fy fp fc mem ug lt ct hd la bt kindsF waysF = _ := (L0_bt hop hj hk hww).trans (n_i_bt_BRK)
  have g_gB : b_gB ug mm gB gA gX gY gS gP gC gR gM gL = _ := (B_ot_gB ho hkn h4 h5 hwy rfl).trans (n_ot_gB_BRK)
  have g_gA : b_gA ug mm gB gA gX gY gS gP gC gR gM gL = _ := (B_ot_gA ho hkn h4 h5).trans (n_ot_gA_BRK)
  have g_gX : b_gX ug mm gB gA gX gY gS gC gR gM gL = _ := (B_ot_gX ho hkn h4 h5).trans (n_ot_gX_BRK)
  have g_gY : b_gY ug mm gB gA gX gY gC gR gM gL = _ := (B_ot_gY ho hkn h4 h5 hwy rfl).trans (n_ot_gY_BRK)
  have g_gS : b_gS ug mm gB gX gS gC gR gM gL = _ := (B_ot_gS ho hkn h4 h5).trans (n_ot_gS_BRK)
  have g_gP : b_gP ug mm gB gA gX gY gS gP gC gR gM gL = _ := (B_ot_gP ho hkn h4 h5 hwy rfl).trans (n_ot_gP_BRK)
  have g_gC : b_gC ug mm gB gS gP gC gR gM gL = _ := (B_ot_gC ho hkn h4 h5 hwy rfl).trans (n_ot_gC_BRK)
  have g_gR : b_gR ug mm gB gA gX gY gP gC gR gM gL = _ := (B_ot_gR ho hkn h4 h5 hwy rfl rfl).trans (n_ot_gR_BRK)
  have g_gM : b_gM ug mm gB gX gY gC gR gM gL = _ := (B_ot_gM ho hkn h4 h5 hwy rfl rfl).trans (n_ot_gM_BRK)
  have g_gL : b_gL ug mm gB gX gY gC gR gM gL = _ := (B_ot_gL ho hkn h4 h5 hwy rfl rfl).trans (n_ot_gL_BRK)
  have g_un : b_un ug mm gB gA gX gY gP gC gR gM gL = _ := (B_ot_un ho hkn h4 h5 hwy rfl).trans (n_ot_un_BRK)
  have g_ow : b_ow ug ud mm gB gA gX gY gP gC gR gM gL = _ := (B_ot_ow ho hkn h4 h5 hwy rfl).trans (n_ot_ow_BRK)
  rw [e_fa, e_fx, e_fy, e_fs, e_fp, e_fc, e_mem, e_ug, e_ud, e_lt, e_ct, e_hd, e_la, e_bt, g_gB, g_gA, g_gX, g_gY, g_gS, g_gP, g_gC, g_gR, g_gM, g_gL, g_un, g_ow]
  exact op_BRK hm hB hA hX hY hS hP fC fu hf hw
set_option maxRecDepth 100000 in
theorem as_RTI (hm : s_m mm fo) (hB : rm mm gB mem om) (hA : ra mm gA fa oa) (hX : ra mm gX fx ox) (hY : ra mm gY fy oy) (hS : ra mm gS fs os) (hP : rp mm gP fp op) (hC : rc mm gC fc oc) (hu : ru ug lt ct hd la bt gR gM gL) (hf : ∃ j : Nat, j < 64 ∧ ug = nI j) (hw : wB ud) (hj : j < 256) (hop : f_X1_read_r mm fo mem ug lt ct hd la bt fc = nI j) (hc : clsF j = 44) : SR mm oa ox oy os op oc om (f_X1_instruction_fa mm fo fa fx fy fs fp fc mem ug lt ct hd la bt kindsF waysF) (f_X1_instruction_fx mm fo fa fx fy fs fc mem ug lt ct hd la bt kindsF waysF) (f_X1_instruction_fy mm fo fa fx fy fc mem ug lt ct hd la bt kindsF waysF) (f_X1_instruction_fs mm fo fx fs fc mem ug lt ct hd la bt kindsF) (f_X1_instruction_fp mm fo fa fx fy fs fp fc mem ug lt ct hd la bt kindsF waysF) (f_X1_instruction_fc mm fo fx fy fs fp fc mem ug lt ct hd la bt kindsF waysF) (f_X1_instruction_mem mm fo fa fx fy fs fp fc mem ug lt ct hd la bt kindsF waysF) (f_X1_instruction_ug mm fo fa fx fy fp fc mem ug lt ct hd la bt kindsF waysF) (f_X1_instruction_ud mm fo fa fx fy fp fc mem ug ud lt ct hd la bt kindsF waysF) (f_X1_instruction_lt mm fo fa fx fy fp fc mem ug lt ct hd la bt kindsF waysF) (f_X1_instruction_ct mm fo fx fy fc mem ug lt ct hd la bt kindsF waysF) (f_X1_instruction_hd mm fo fx fy fc mem ug lt ct hd la bt kindsF waysF) (f_X1_instruction_la mm fo fx fy fc mem ug lt ct hd la bt kindsF waysF) (f_X1_instruction_bt mm fo fa fx fy fp fc mem ug lt ct hd la bt kindsF waysF) (b_gB ug mm gB gA gX gY gS gP gC gR gM gL) (b_gA ug mm gB gA gX gY gS gP gC gR gM gL) (b_gX ug mm gB gA gX gY gS gC gR gM gL) (b_gY ug mm gB gA gX gY gC gR gM gL) (b_gS ug mm gB gX gS gC gR gM gL) (b_gP ug mm gB gA gX gY gS gP gC gR gM gL) (b_gC ug mm gB gS gP gC gR gM gL) (b_gR ug mm gB gA gX gY gP gC gR gM gL) (b_gM ug mm gB gX gY gC gR gM gL) (b_gL ug mm gB gX gY gC gR gM gL) (b_un ug mm gB gA gX gY gP gC gR gM gL) (b_ow ug ud mm gB gA gX gY gP gC gR gM gL) := by
  have fe := sr_fetch hm hB hf hu hC
  obtain ⟨fv, fb, fu, fC⟩ := fe
  obtain rfl : j = 64 := (show ∀ j : Nat, j < 256 → clsF j = 44 → j = 64 by decide +kernel) j hj hc
  have ho : f_X5_fetch_r ug mm gB gC gR gM gL = (64 : Int32) := fv.trans hop
  have hkn : ¬ f_X5_isKnown_r (64 : Int32) = 0 := by decide +kernel
  have hk : kindsF 64 = 115 := by decide +kernel
  have hww : waysF 64 = 0 := by decide +kernel
  have h4 : ¬ (64 : Int32) - (64 : Int32) / 4 * 4 = 1 := by decide +kernel
  have h5 : ¬ (64 : Int32) - (64 : Int32) / 4 * 4 = 2 := by decide +kernel
  have hwy : f_X5_way_r (64 : Int32) = 0 := by decide +kernel
  have e_fa : f_X1_instruction_fa mm fo fa fx fy fs fp fc mem ug lt ct hd la bt kindsF waysF = _ := (L0_fa hop hj hk hww).trans (n_i_fa_RTI)
  have e_fx : f_X1_instruction_fx mm fo fa fx fy fs fc mem ug lt ct hd la bt kindsF waysF = _ := (L0_fx hop hj hk hww).trans (n_i_fx_RTI)
  have e_fy : f_X1_instruction_fy mm fo fa fx fy fc mem ug lt ct hd la bt kindsF waysF = _ := (L0_fy hop hj hk hww).trans (n_i_fy_RTI)
  have e_fs : f_X1_instruction_fs mm fo fx fs fc mem ug lt ct hd la bt kindsF = _ := (L0_fs hop hj hk).trans (n_i_fs_RTI)
  have e_fp : f_X1_instruction_fp mm fo fa fx fy fs fp fc mem ug lt ct hd la bt kindsF waysF = _ := (L0_fp hop hj hk hww).trans (n_i_fp_RTI)
  have e_fc : f_X1_instruction_fc mm fo fx fy fs fp fc mem ug lt ct hd la bt kindsF waysF = _ := (L0_fc hop hj hk hww).trans (n_i_fc_RTI)
  have e_mem : f_X1_instruction_mem mm fo fa fx fy fs fp fc mem ug lt ct hd la bt kindsF waysF = _ := (L0_mem hop hj hk hww).trans (n_i_mem_RTI)
  have e_ug : f_X1_instruction_ug mm fo fa fx fy fp fc mem ug lt ct hd la bt kindsF waysF = _ := (L0_ug hop hj hk hww).trans (n_i_ug_RTI)
  have e_ud : f_X1_instruction_ud mm fo fa fx fy fp fc mem ug ud lt ct hd la bt kindsF waysF = _ := (L0_ud hop hj hk hww).trans (n_i_ud_RTI)
  have e_lt : f_X1_instruction_lt mm fo fa fx fy fp fc mem ug lt ct hd la bt kindsF waysF = _ := (L0_lt hop hj hk hww).trans (n_i_lt_RTI)
  have e_ct : f_X1_instruction_ct mm fo fx fy fc mem ug lt ct hd la bt kindsF waysF = _ := (L0_ct hop hj hk hww).trans (n_i_ct_RTI)
  have e_hd : f_X1_instruction_hd mm fo fx fy fc mem ug lt ct hd la bt kindsF waysF = _ := (L0_hd hop hj hk hww).trans (n_i_hd_RTI)
  have e_la : f_X1_instruction_la mm fo fx fy fc mem ug lt ct hd la bt kindsF waysF = _ := (L0_la hop hj hk hww).trans (n_i_la_RTI)
  have e_bt : f_X1_instruction_bt mm fo fa fx fy fp fc mem ug lt ct hd la bt kindsF waysF = _ := (L0_bt hop hj hk hww).trans (n_i_bt_RTI)
  have g_gB : b_gB ug mm gB gA gX gY gS gP gC gR gM gL = _ := (B_ot_gB ho hkn h4 h5 hwy rfl).trans (n_ot_gB_RTI)
  have g_gA : b_gA ug mm gB gA gX gY gS gP gC gR gM gL = _ := (B_ot_gA ho hkn h4 h5).trans (n_ot_gA_RTI)
  have g_gX : b_gX ug mm gB gA gX gY gS gC gR gM gL = _ := (B_ot_gX ho hkn h4 h5).trans (n_ot_gX_RTI)
  have g_gY : b_gY ug mm gB gA gX gY gC gR gM gL = _ := (B_ot_gY ho hkn h4 h5 hwy rfl).trans (n_ot_gY_RTI)
  have g_gS : b_gS ug mm gB gX gS gC gR gM gL = _ := (B_ot_gS ho hkn h4 h5).trans (n_ot_gS_RTI)
  have g_gP : b_gP ug mm gB gA gX gY gS gP gC gR gM gL = _ := (B_ot_gP ho hkn h4 h5 hwy rfl).trans (n_ot_gP_RTI)
  have g_gC : b_gC ug mm gB gS gP gC gR gM gL = _ := (B_ot_gC ho hkn h4 h5 hwy rfl).trans (n_ot_gC_RTI)
  have g_gR : b_gR ug mm gB gA gX gY gP gC gR gM gL = _ := (B_ot_gR ho hkn h4 h5 hwy rfl rfl).trans (n_ot_gR_RTI)
  have g_gM : b_gM ug mm gB gX gY gC gR gM gL = _ := (B_ot_gM ho hkn h4 h5 hwy rfl rfl).trans (n_ot_gM_RTI)
  have g_gL : b_gL ug mm gB gX gY gC gR gM gL = _ := (B_ot_gL ho hkn h4 h5 hwy rfl rfl).trans (n_ot_gL_RTI)
  have g_un : b_un ug mm gB gA gX gY gP gC gR gM gL = _ := (B_ot_un ho hkn h4 h5 hwy rfl).trans (n_ot_un_RTI)
  have g_ow : b_ow ug ud mm gB gA gX gY gP gC gR gM gL = _ := (B_ot_ow ho hkn h4 h5 hwy rfl).trans (n_ot_ow_RTI)
  rw [e_fa, e_fx, e_fy, e_fs, e_fp, e_fc, e_mem, e_ug, e_ud, e_lt, e_ct, e_hd, e_la, e_bt, g_gB, g_gA, g_gX, g_gY, g_gS, g_gP, g_gC, g_gR, g_gM, g_gL, g_un, g_ow]
  exact op_RTI hm hB hA hX hY hS hP fC fu hf hw
set_option maxRecDepth 100000 in
theorem as_RTS (hm : s_m mm fo) (hB : rm mm gB mem om) (hA : ra mm gA fa oa) (hX : ra mm gX fx ox) (hY : ra mm gY fy oy) (hS : ra mm gS fs os) (hP : rp mm gP fp op) (hC : rc mm gC fc oc) (hu : ru ug lt ct hd la bt gR gM gL) (hf : ∃ j : Nat, j < 64 ∧ ug = nI j) (hw : wB ud) (hj : j < 256) (hop : f_X1_read_r mm fo mem ug lt ct hd la bt fc = nI j) (hc : clsF j = 45) : SR mm oa ox oy os op oc om (f_X1_instruction_fa mm fo fa fx fy fs fp fc mem ug lt ct hd la bt kindsF waysF) (f_X1_instruction_fx mm fo fa fx fy fs fc mem ug lt ct hd la bt kindsF waysF) (f_X1_instruction_fy mm fo fa fx fy fc mem ug lt ct hd la bt kindsF waysF) (f_X1_instruction_fs mm fo fx fs fc mem ug lt ct hd la bt kindsF) (f_X1_instruction_fp mm fo fa fx fy fs fp fc mem ug lt ct hd la bt kindsF waysF) (f_X1_instruction_fc mm fo fx fy fs fp fc mem ug lt ct hd la bt kindsF waysF) (f_X1_instruction_mem mm fo fa fx fy fs fp fc mem ug lt ct hd la bt kindsF waysF) (f_X1_instruction_ug mm fo fa fx fy fp fc mem ug lt ct hd la bt kindsF waysF) (f_X1_instruction_ud mm fo fa fx fy fp fc mem ug ud lt ct hd la bt kindsF waysF) (f_X1_instruction_lt mm fo fa fx fy fp fc mem ug lt ct hd la bt kindsF waysF) (f_X1_instruction_ct mm fo fx fy fc mem ug lt ct hd la bt kindsF waysF) (f_X1_instruction_hd mm fo fx fy fc mem ug lt ct hd la bt kindsF waysF) (f_X1_instruction_la mm fo fx fy fc mem ug lt ct hd la bt kindsF waysF) (f_X1_instruction_bt mm fo fa fx fy fp fc mem ug lt ct hd la bt kindsF waysF) (b_gB ug mm gB gA gX gY gS gP gC gR gM gL) (b_gA ug mm gB gA gX gY gS gP gC gR gM gL) (b_gX ug mm gB gA gX gY gS gC gR gM gL) (b_gY ug mm gB gA gX gY gC gR gM gL) (b_gS ug mm gB gX gS gC gR gM gL) (b_gP ug mm gB gA gX gY gS gP gC gR gM gL) (b_gC ug mm gB gS gP gC gR gM gL) (b_gR ug mm gB gA gX gY gP gC gR gM gL) (b_gM ug mm gB gX gY gC gR gM gL) (b_gL ug mm gB gX gY gC gR gM gL) (b_un ug mm gB gA gX gY gP gC gR gM gL) (b_ow ug ud mm gB gA gX gY gP gC gR gM gL) := by
  have fe := sr_fetch hm hB hf hu hC
  obtain ⟨fv, fb, fu, fC⟩ := fe
  obtain rfl : j = 96 := (show ∀ j : Nat, j < 256 → clsF j = 45 → j = 96 by decide +kernel) j hj hc
  have ho : f_X5_fetch_r ug mm gB gC gR gM gL = (96 : Int32) := fv.trans hop
  have hkn : ¬ f_X5_isKnown_r (96 : Int32) = 0 := by decide +kernel
  have hk : kindsF 96 = 114 := by decide +kernel
  have hww : waysF 96 = 0 := by decide +kernel
  have h4 : ¬ (96 : Int32) - (96 : Int32) / 4 * 4 = 1 := by decide +kernel
  have h5 : ¬ (96 : Int32) - (96 : Int32) / 4 * 4 = 2 := by decide +kernel
  have hwy : f_X5_way_r (96 : Int32) = 0 := by decide +kernel
  have e_fa : f_X1_instruction_fa mm fo fa fx fy fs fp fc mem ug lt ct hd la bt kindsF waysF = _ := (L0_fa hop hj hk hww).trans (n_i_fa_RTS)
  have e_fx : f_X1_instruction_fx mm fo fa fx fy fs fc mem ug lt ct hd la bt kindsF waysF = _ := (L0_fx hop hj hk hww).trans (n_i_fx_RTS)
  have e_fy : f_X1_instruction_fy mm fo fa fx fy fc mem ug lt ct hd la bt kindsF waysF = _ := (L0_fy hop hj hk hww).trans (n_i_fy_RTS)
  have e_fs : f_X1_instruction_fs mm fo fx fs fc mem ug lt ct hd la bt kindsF = _ := (L0_fs hop hj hk).trans (n_i_fs_RTS)
  have e_fp : f_X1_instruction_fp mm fo fa fx fy fs fp fc mem ug lt ct hd la bt kindsF waysF = _ := (L0_fp hop hj hk hww).trans (n_i_fp_RTS)
  have e_fc : f_X1_instruction_fc mm fo fx fy fs fp fc mem ug lt ct hd la bt kindsF waysF = _ := (L0_fc hop hj hk hww).trans (n_i_fc_RTS)
  have e_mem : f_X1_instruction_mem mm fo fa fx fy fs fp fc mem ug lt ct hd la bt kindsF waysF = _ := (L0_mem hop hj hk hww).trans (n_i_mem_RTS)
  have e_ug : f_X1_instruction_ug mm fo fa fx fy fp fc mem ug lt ct hd la bt kindsF waysF = _ := (L0_ug hop hj hk hww).trans (n_i_ug_RTS)
  have e_ud : f_X1_instruction_ud mm fo fa fx fy fp fc mem ug ud lt ct hd la bt kindsF waysF = _ := (L0_ud hop hj hk hww).trans (n_i_ud_RTS)
  have e_lt : f_X1_instruction_lt mm fo fa fx fy fp fc mem ug lt ct hd la bt kindsF waysF = _ := (L0_lt hop hj hk hww).trans (n_i_lt_RTS)
  have e_ct : f_X1_instruction_ct mm fo fx fy fc mem ug lt ct hd la bt kindsF waysF = _ := (L0_ct hop hj hk hww).trans (n_i_ct_RTS)
  have e_hd : f_X1_instruction_hd mm fo fx fy fc mem ug lt ct hd la bt kindsF waysF = _ := (L0_hd hop hj hk hww).trans (n_i_hd_RTS)
  have e_la : f_X1_instruction_la mm fo fx fy fc mem ug lt ct hd la bt kindsF waysF = _ := (L0_la hop hj hk hww).trans (n_i_la_RTS)
  have e_bt : f_X1_instruction_bt mm fo fa fx fy fp fc mem ug lt ct hd la bt kindsF waysF = _ := (L0_bt hop hj hk hww).trans (n_i_bt_RTS)
  have g_gB : b_gB ug mm gB gA gX gY gS gP gC gR gM gL = _ := (B_ot_gB ho hkn h4 h5 hwy rfl).trans (n_ot_gB_RTS)
  have g_gA : b_gA ug mm gB gA gX gY gS gP gC gR gM gL = _ := (B_ot_gA ho hkn h4 h5).trans (n_ot_gA_RTS)
  have g_gX : b_gX ug mm gB gA gX gY gS gC gR gM gL = _ := (B_ot_gX ho hkn h4 h5).trans (n_ot_gX_RTS)
  have g_gY : b_gY ug mm gB gA gX gY gC gR gM gL = _ := (B_ot_gY ho hkn h4 h5 hwy rfl).trans (n_ot_gY_RTS)
  have g_gS : b_gS ug mm gB gX gS gC gR gM gL = _ := (B_ot_gS ho hkn h4 h5).trans (n_ot_gS_RTS)
  have g_gP : b_gP ug mm gB gA gX gY gS gP gC gR gM gL = _ := (B_ot_gP ho hkn h4 h5 hwy rfl).trans (n_ot_gP_RTS)
  have g_gC : b_gC ug mm gB gS gP gC gR gM gL = _ := (B_ot_gC ho hkn h4 h5 hwy rfl).trans (n_ot_gC_RTS)
  have g_gR : b_gR ug mm gB gA gX gY gP gC gR gM gL = _ := (B_ot_gR ho hkn h4 h5 hwy rfl rfl).trans (n_ot_gR_RTS)
  have g_gM : b_gM ug mm gB gX gY gC gR gM gL = _ := (B_ot_gM ho hkn h4 h5 hwy rfl rfl).trans (n_ot_gM_RTS)
  have g_gL : b_gL ug mm gB gX gY gC gR gM gL = _ := (B_ot_gL ho hkn h4 h5 hwy rfl rfl).trans (n_ot_gL_RTS)
  have g_un : b_un ug mm gB gA gX gY gP gC gR gM gL = _ := (B_ot_un ho hkn h4 h5 hwy rfl).trans (n_ot_un_RTS)
  have g_ow : b_ow ug ud mm gB gA gX gY gP gC gR gM gL = _ := (B_ot_ow ho hkn h4 h5 hwy rfl).trans (n_ot_ow_RTS)
  rw [e_fa, e_fx, e_fy, e_fs, e_fp, e_fc, e_mem, e_ug, e_ud, e_lt, e_ct, e_hd, e_la, e_bt, g_gB, g_gA, g_gX, g_gY, g_gS, g_gP, g_gC, g_gR, g_gM, g_gL, g_un, g_ow]
  exact op_RTS hm hB hA hX hY hS hP fC fu hf hw
set_option maxRecDepth 100000 in
theorem as_BPL (hm : s_m mm fo) (hB : rm mm gB mem om) (hA : ra mm gA fa oa) (hX : ra mm gX fx ox) (hY : ra mm gY fy oy) (hS : ra mm gS fs os) (hP : rp mm gP fp op) (hC : rc mm gC fc oc) (hu : ru ug lt ct hd la bt gR gM gL) (hf : ∃ j : Nat, j < 64 ∧ ug = nI j) (hw : wB ud) (hj : j < 256) (hop : f_X1_read_r mm fo mem ug lt ct hd la bt fc = nI j) (hc : clsF j = 46) : SR mm oa ox oy os op oc om (f_X1_instruction_fa mm fo fa fx fy fs fp fc mem ug lt ct hd la bt kindsF waysF) (f_X1_instruction_fx mm fo fa fx fy fs fc mem ug lt ct hd la bt kindsF waysF) (f_X1_instruction_fy mm fo fa fx fy fc mem ug lt ct hd la bt kindsF waysF) (f_X1_instruction_fs mm fo fx fs fc mem ug lt ct hd la bt kindsF) (f_X1_instruction_fp mm fo fa fx fy fs fp fc mem ug lt ct hd la bt kindsF waysF) (f_X1_instruction_fc mm fo fx fy fs fp fc mem ug lt ct hd la bt kindsF waysF) (f_X1_instruction_mem mm fo fa fx fy fs fp fc mem ug lt ct hd la bt kindsF waysF) (f_X1_instruction_ug mm fo fa fx fy fp fc mem ug lt ct hd la bt kindsF waysF) (f_X1_instruction_ud mm fo fa fx fy fp fc mem ug ud lt ct hd la bt kindsF waysF) (f_X1_instruction_lt mm fo fa fx fy fp fc mem ug lt ct hd la bt kindsF waysF) (f_X1_instruction_ct mm fo fx fy fc mem ug lt ct hd la bt kindsF waysF) (f_X1_instruction_hd mm fo fx fy fc mem ug lt ct hd la bt kindsF waysF) (f_X1_instruction_la mm fo fx fy fc mem ug lt ct hd la bt kindsF waysF) (f_X1_instruction_bt mm fo fa fx fy fp fc mem ug lt ct hd la bt kindsF waysF) (b_gB ug mm gB gA gX gY gS gP gC gR gM gL) (b_gA ug mm gB gA gX gY gS gP gC gR gM gL) (b_gX ug mm gB gA gX gY gS gC gR gM gL) (b_gY ug mm gB gA gX gY gC gR gM gL) (b_gS ug mm gB gX gS gC gR gM gL) (b_gP ug mm gB gA gX gY gS gP gC gR gM gL) (b_gC ug mm gB gS gP gC gR gM gL) (b_gR ug mm gB gA gX gY gP gC gR gM gL) (b_gM ug mm gB gX gY gC gR gM gL) (b_gL ug mm gB gX gY gC gR gM gL) (b_un ug mm gB gA gX gY gP gC gR gM gL) (b_ow ug ud mm gB gA gX gY gP gC gR gM gL) := by
  have fe := sr_fetch hm hB hf hu hC
  obtain ⟨fv, fb, fu, fC⟩ := fe
  obtain rfl : j = 16 := (show ∀ j : Nat, j < 256 → clsF j = 46 → j = 16 by decide +kernel) j hj hc
  have ho : f_X5_fetch_r ug mm gB gC gR gM gL = (16 : Int32) := fv.trans hop
  have hkn : ¬ f_X5_isKnown_r (16 : Int32) = 0 := by decide +kernel
  have hk : kindsF 16 = 128 := by decide +kernel
  have hww : waysF 16 = 1 := by decide +kernel
  have h4 : ¬ (16 : Int32) - (16 : Int32) / 4 * 4 = 1 := by decide +kernel
  have h5 : ¬ (16 : Int32) - (16 : Int32) / 4 * 4 = 2 := by decide +kernel
  have hwy : f_X5_way_r (16 : Int32) = 0 := by decide +kernel
  have e_fa : f_X1_instruction_fa mm fo fa fx fy fs fp fc mem ug lt ct hd la bt kindsF waysF = _ := (L1_fa hop hj hk hww).trans (n_i_fa_BPL)
  have e_fx : f_X1_instruction_fx mm fo fa fx fy fs fc mem ug lt ct hd la bt kindsF waysF = _ := (L1_fx hop hj hk hww).trans (n_i_fx_BPL)
  have e_fy : f_X1_instruction_fy mm fo fa fx fy fc mem ug lt ct hd la bt kindsF waysF = _ := (L1_fy hop hj hk hww).trans (n_i_fy_BPL)
  have e_fs : f_X1_instruction_fs mm fo fx fs fc mem ug lt ct hd la bt kindsF = _ := (L1_fs hop hj hk).trans (n_i_fs_BPL)
  have e_fp : f_X1_instruction_fp mm fo fa fx fy fs fp fc mem ug lt ct hd la bt kindsF waysF = _ := (L1_fp hop hj hk hww).trans (n_i_fp_BPL)
  have e_fc : f_X1_instruction_fc mm fo fx fy fs fp fc mem ug lt ct hd la bt kindsF waysF = _ := (L1_fc hop hj hk hww).trans (n_i_fc_BPL)
  have e_mem : f_X1_instruction_mem mm fo fa fx fy fs fp fc mem ug lt ct hd la bt kindsF waysF = _ := (L1_mem hop hj hk hww).trans (n_i_mem_BPL)
  have e_ug : f_X1_instruction_ug mm fo fa fx fy fp fc mem ug lt ct hd la bt kindsF waysF = _ := (L1_ug hop hj hk hww).trans (n_i_ug_BPL)
  have e_ud : f_X1_instruction_ud mm fo fa fx fy fp fc mem ug ud lt ct hd la bt kindsF waysF = _ := (L1_ud hop hj hk hww).trans (n_i_ud_BPL)
  have e_lt : f_X1_instruction_lt mm fo fa fx fy fp fc mem ug lt ct hd la bt kindsF waysF = _ := (L1_lt hop hj hk hww).trans (n_i_lt_BPL)
  have e_ct : f_X1_instruction_ct mm fo fx fy fc mem ug lt ct hd la bt kindsF waysF = _ := (L1_ct hop hj hk hww).trans (n_i_ct_BPL)
  have e_hd : f_X1_instruction_hd mm fo fx fy fc mem ug lt ct hd la bt kindsF waysF = _ := (L1_hd hop hj hk hww).trans (n_i_hd_BPL)
  have e_la : f_X1_instruction_la mm fo fx fy fc mem ug lt ct hd la bt kindsF waysF = _ := (L1_la hop hj hk hww).trans (n_i_la_BPL)
  have e_bt : f_X1_instruction_bt mm fo fa fx fy fp fc mem ug lt ct hd la bt kindsF waysF = _ := (L1_bt hop hj hk hww).trans (n_i_bt_BPL)
  have g_gB : b_gB ug mm gB gA gX gY gS gP gC gR gM gL = _ := (B_ot_gB ho hkn h4 h5 hwy rfl).trans (n_ot_gB_BPL)
  have g_gA : b_gA ug mm gB gA gX gY gS gP gC gR gM gL = _ := (B_ot_gA ho hkn h4 h5).trans (n_ot_gA_BPL)
  have g_gX : b_gX ug mm gB gA gX gY gS gC gR gM gL = _ := (B_ot_gX ho hkn h4 h5).trans (n_ot_gX_BPL)
  have g_gY : b_gY ug mm gB gA gX gY gC gR gM gL = _ := (B_ot_gY ho hkn h4 h5 hwy rfl).trans (n_ot_gY_BPL)
  have g_gS : b_gS ug mm gB gX gS gC gR gM gL = _ := (B_ot_gS ho hkn h4 h5).trans (n_ot_gS_BPL)
  have g_gP : b_gP ug mm gB gA gX gY gS gP gC gR gM gL = _ := (B_ot_gP ho hkn h4 h5 hwy rfl).trans (n_ot_gP_BPL)
  have g_gC : b_gC ug mm gB gS gP gC gR gM gL = _ := (B_ot_gC ho hkn h4 h5 hwy rfl).trans (n_ot_gC_BPL)
  have g_gR : b_gR ug mm gB gA gX gY gP gC gR gM gL = _ := (B_ot_gR ho hkn h4 h5 hwy rfl rfl).trans (n_ot_gR_BPL)
  have g_gM : b_gM ug mm gB gX gY gC gR gM gL = _ := (B_ot_gM ho hkn h4 h5 hwy rfl rfl).trans (n_ot_gM_BPL)
  have g_gL : b_gL ug mm gB gX gY gC gR gM gL = _ := (B_ot_gL ho hkn h4 h5 hwy rfl rfl).trans (n_ot_gL_BPL)
  have g_un : b_un ug mm gB gA gX gY gP gC gR gM gL = _ := (B_ot_un ho hkn h4 h5 hwy rfl).trans (n_ot_un_BPL)
  have g_ow : b_ow ug ud mm gB gA gX gY gP gC gR gM gL = _ := (B_ot_ow ho hkn h4 h5 hwy rfl).trans (n_ot_ow_BPL)
  rw [e_fa, e_fx, e_fy, e_fs, e_fp, e_fc, e_mem, e_ug, e_ud, e_lt, e_ct, e_hd, e_la, e_bt, g_gB, g_gA, g_gX, g_gY, g_gS, g_gP, g_gC, g_gR, g_gM, g_gL, g_un, g_ow]
  exact op_BPL hm hB hA hX hY hS hP fC fu hf hw
set_option maxRecDepth 100000 in
theorem as_BMI (hm : s_m mm fo) (hB : rm mm gB mem om) (hA : ra mm gA fa oa) (hX : ra mm gX fx ox) (hY : ra mm gY fy oy) (hS : ra mm gS fs os) (hP : rp mm gP fp op) (hC : rc mm gC fc oc) (hu : ru ug lt ct hd la bt gR gM gL) (hf : ∃ j : Nat, j < 64 ∧ ug = nI j) (hw : wB ud) (hj : j < 256) (hop : f_X1_read_r mm fo mem ug lt ct hd la bt fc = nI j) (hc : clsF j = 47) : SR mm oa ox oy os op oc om (f_X1_instruction_fa mm fo fa fx fy fs fp fc mem ug lt ct hd la bt kindsF waysF) (f_X1_instruction_fx mm fo fa fx fy fs fc mem ug lt ct hd la bt kindsF waysF) (f_X1_instruction_fy mm fo fa fx fy fc mem ug lt ct hd la bt kindsF waysF) (f_X1_instruction_fs mm fo fx fs fc mem ug lt ct hd la bt kindsF) (f_X1_instruction_fp mm fo fa fx fy fs fp fc mem ug lt ct hd la bt kindsF waysF) (f_X1_instruction_fc mm fo fx fy fs fp fc mem ug lt ct hd la bt kindsF waysF) (f_X1_instruction_mem mm fo fa fx fy fs fp fc mem ug lt ct hd la bt kindsF waysF) (f_X1_instruction_ug mm fo fa fx fy fp fc mem ug lt ct hd la bt kindsF waysF) (f_X1_instruction_ud mm fo fa fx fy fp fc mem ug ud lt ct hd la bt kindsF waysF) (f_X1_instruction_lt mm fo fa fx fy fp fc mem ug lt ct hd la bt kindsF waysF) (f_X1_instruction_ct mm fo fx fy fc mem ug lt ct hd la bt kindsF waysF) (f_X1_instruction_hd mm fo fx fy fc mem ug lt ct hd la bt kindsF waysF) (f_X1_instruction_la mm fo fx fy fc mem ug lt ct hd la bt kindsF waysF) (f_X1_instruction_bt mm fo fa fx fy fp fc mem ug lt ct hd la bt kindsF waysF) (b_gB ug mm gB gA gX gY gS gP gC gR gM gL) (b_gA ug mm gB gA gX gY gS gP gC gR gM gL) (b_gX ug mm gB gA gX gY gS gC gR gM gL) (b_gY ug mm gB gA gX gY gC gR gM gL) (b_gS ug mm gB gX gS gC gR gM gL) (b_gP ug mm gB gA gX gY gS gP gC gR gM gL) (b_gC ug mm gB gS gP gC gR gM gL) (b_gR ug mm gB gA gX gY gP gC gR gM gL) (b_gM ug mm gB gX gY gC gR gM gL) (b_gL ug mm gB gX gY gC gR gM gL) (b_un ug mm gB gA gX gY gP gC gR gM gL) (b_ow ug ud mm gB gA gX gY gP gC gR gM gL) := by
  have fe := sr_fetch hm hB hf hu hC
  obtain ⟨fv, fb, fu, fC⟩ := fe
  obtain rfl : j = 48 := (show ∀ j : Nat, j < 256 → clsF j = 47 → j = 48 by decide +kernel) j hj hc
  have ho : f_X5_fetch_r ug mm gB gC gR gM gL = (48 : Int32) := fv.trans hop
  have hkn : ¬ f_X5_isKnown_r (48 : Int32) = 0 := by decide +kernel
  have hk : kindsF 48 = 129 := by decide +kernel
  have hww : waysF 48 = 1 := by decide +kernel
  have h4 : ¬ (48 : Int32) - (48 : Int32) / 4 * 4 = 1 := by decide +kernel
  have h5 : ¬ (48 : Int32) - (48 : Int32) / 4 * 4 = 2 := by decide +kernel
  have hwy : f_X5_way_r (48 : Int32) = 0 := by decide +kernel
  have e_fa : f_X1_instruction_fa mm fo fa fx fy fs fp fc mem ug lt ct hd la bt kindsF waysF = _ := (L1_fa hop hj hk hww).trans (n_i_fa_BMI)
  have e_fx : f_X1_instruction_fx mm fo fa fx fy fs fc mem ug lt ct hd la bt kindsF waysF = _ := (L1_fx hop hj hk hww).trans (n_i_fx_BMI)
  have e_fy : f_X1_instruction_fy mm fo fa fx fy fc mem ug lt ct hd la bt kindsF waysF = _ := (L1_fy hop hj hk hww).trans (n_i_fy_BMI)
  have e_fs : f_X1_instruction_fs mm fo fx fs fc mem ug lt ct hd la bt kindsF = _ := (L1_fs hop hj hk).trans (n_i_fs_BMI)
  have e_fp : f_X1_instruction_fp mm fo fa fx fy fs fp fc mem ug lt ct hd la bt kindsF waysF = _ := (L1_fp hop hj hk hww).trans (n_i_fp_BMI)
  have e_fc : f_X1_instruction_fc mm fo fx fy fs fp fc mem ug lt ct hd la bt kindsF waysF = _ := (L1_fc hop hj hk hww).trans (n_i_fc_BMI)
  have e_mem : f_X1_instruction_mem mm fo fa fx fy fs fp fc mem ug lt ct hd la bt kindsF waysF = _ := (L1_mem hop hj hk hww).trans (n_i_mem_BMI)
  have e_ug : f_X1_instruction_ug mm fo fa fx fy fp fc mem ug lt ct hd la bt kindsF waysF = _ := (L1_ug hop hj hk hww).trans (n_i_ug_BMI)
  have e_ud : f_X1_instruction_ud mm fo fa fx fy fp fc mem ug ud lt ct hd la bt kindsF waysF = _ := (L1_ud hop hj hk hww).trans (n_i_ud_BMI)
  have e_lt : f_X1_instruction_lt mm fo fa fx fy fp fc mem ug lt ct hd la bt kindsF waysF = _ := (L1_lt hop hj hk hww).trans (n_i_lt_BMI)
  have e_ct : f_X1_instruction_ct mm fo fx fy fc mem ug lt ct hd la bt kindsF waysF = _ := (L1_ct hop hj hk hww).trans (n_i_ct_BMI)
  have e_hd : f_X1_instruction_hd mm fo fx fy fc mem ug lt ct hd la bt kindsF waysF = _ := (L1_hd hop hj hk hww).trans (n_i_hd_BMI)
  have e_la : f_X1_instruction_la mm fo fx fy fc mem ug lt ct hd la bt kindsF waysF = _ := (L1_la hop hj hk hww).trans (n_i_la_BMI)
  have e_bt : f_X1_instruction_bt mm fo fa fx fy fp fc mem ug lt ct hd la bt kindsF waysF = _ := (L1_bt hop hj hk hww).trans (n_i_bt_BMI)
  have g_gB : b_gB ug mm gB gA gX gY gS gP gC gR gM gL = _ := (B_ot_gB ho hkn h4 h5 hwy rfl).trans (n_ot_gB_BMI)
  have g_gA : b_gA ug mm gB gA gX gY gS gP gC gR gM gL = _ := (B_ot_gA ho hkn h4 h5).trans (n_ot_gA_BMI)
  have g_gX : b_gX ug mm gB gA gX gY gS gC gR gM gL = _ := (B_ot_gX ho hkn h4 h5).trans (n_ot_gX_BMI)
  have g_gY : b_gY ug mm gB gA gX gY gC gR gM gL = _ := (B_ot_gY ho hkn h4 h5 hwy rfl).trans (n_ot_gY_BMI)
  have g_gS : b_gS ug mm gB gX gS gC gR gM gL = _ := (B_ot_gS ho hkn h4 h5).trans (n_ot_gS_BMI)
  have g_gP : b_gP ug mm gB gA gX gY gS gP gC gR gM gL = _ := (B_ot_gP ho hkn h4 h5 hwy rfl).trans (n_ot_gP_BMI)
  have g_gC : b_gC ug mm gB gS gP gC gR gM gL = _ := (B_ot_gC ho hkn h4 h5 hwy rfl).trans (n_ot_gC_BMI)
  have g_gR : b_gR ug mm gB gA gX gY gP gC gR gM gL = _ := (B_ot_gR ho hkn h4 h5 hwy rfl rfl).trans (n_ot_gR_BMI)
  have g_gM : b_gM ug mm gB gX gY gC gR gM gL = _ := (B_ot_gM ho hkn h4 h5 hwy rfl rfl).trans (n_ot_gM_BMI)
  have g_gL : b_gL ug mm gB gX gY gC gR gM gL = _ := (B_ot_gL ho hkn h4 h5 hwy rfl rfl).trans (n_ot_gL_BMI)
  have g_un : b_un ug mm gB gA gX gY gP gC gR gM gL = _ := (B_ot_un ho hkn h4 h5 hwy rfl).trans (n_ot_un_BMI)
  have g_ow : b_ow ug ud mm gB gA gX gY gP gC gR gM gL = _ := (B_ot_ow ho hkn h4 h5 hwy rfl).trans (n_ot_ow_BMI)
  rw [e_fa, e_fx, e_fy, e_fs, e_fp, e_fc, e_mem, e_ug, e_ud, e_lt, e_ct, e_hd, e_la, e_bt, g_gB, g_gA, g_gX, g_gY, g_gS, g_gP, g_gC, g_gR, g_gM, g_gL, g_un, g_ow]
  exact op_BMI hm hB hA hX hY hS hP fC fu hf hw
set_option maxRecDepth 100000 in
theorem as_BVC (hm : s_m mm fo) (hB : rm mm gB mem om) (hA : ra mm gA fa oa) (hX : ra mm gX fx ox) (hY : ra mm gY fy oy) (hS : ra mm gS fs os) (hP : rp mm gP fp op) (hC : rc mm gC fc oc) (hu : ru ug lt ct hd la bt gR gM gL) (hf : ∃ j : Nat, j < 64 ∧ ug = nI j) (hw : wB ud) (hj : j < 256) (hop : f_X1_read_r mm fo mem ug lt ct hd la bt fc = nI j) (hc : clsF j = 48) : SR mm oa ox oy os op oc om (f_X1_instruction_fa mm fo fa fx fy fs fp fc mem ug lt ct hd la bt kindsF waysF) (f_X1_instruction_fx mm fo fa fx fy fs fc mem ug lt ct hd la bt kindsF waysF) (f_X1_instruction_fy mm fo fa fx fy fc mem ug lt ct hd la bt kindsF waysF) (f_X1_instruction_fs mm fo fx fs fc mem ug lt ct hd la bt kindsF) (f_X1_instruction_fp mm fo fa fx fy fs fp fc mem ug lt ct hd la bt kindsF waysF) (f_X1_instruction_fc mm fo fx fy fs fp fc mem ug lt ct hd la bt kindsF waysF) (f_X1_instruction_mem mm fo fa fx fy fs fp fc mem ug lt ct hd la bt kindsF waysF) (f_X1_instruction_ug mm fo fa fx fy fp fc mem ug lt ct hd la bt kindsF waysF) (f_X1_instruction_ud mm fo fa fx fy fp fc mem ug ud lt ct hd la bt kindsF waysF) (f_X1_instruction_lt mm fo fa fx fy fp fc mem ug lt ct hd la bt kindsF waysF) (f_X1_instruction_ct mm fo fx fy fc mem ug lt ct hd la bt kindsF waysF) (f_X1_instruction_hd mm fo fx fy fc mem ug lt ct hd la bt kindsF waysF) (f_X1_instruction_la mm fo fx fy fc mem ug lt ct hd la bt kindsF waysF) (f_X1_instruction_bt mm fo fa fx fy fp fc mem ug lt ct hd la bt kindsF waysF) (b_gB ug mm gB gA gX gY gS gP gC gR gM gL) (b_gA ug mm gB gA gX gY gS gP gC gR gM gL) (b_gX ug mm gB gA gX gY gS gC gR gM gL) (b_gY ug mm gB gA gX gY gC gR gM gL) (b_gS ug mm gB gX gS gC gR gM gL) (b_gP ug mm gB gA gX gY gS gP gC gR gM gL) (b_gC ug mm gB gS gP gC gR gM gL) (b_gR ug mm gB gA gX gY gP gC gR gM gL) (b_gM ug mm gB gX gY gC gR gM gL) (b_gL ug mm gB gX gY gC gR gM gL) (b_un ug mm gB gA gX gY gP gC gR gM gL) (b_ow ug ud mm gB gA gX gY gP gC gR gM gL) := by
  have fe := sr_fetch hm hB hf hu hC
  obtain ⟨fv, fb, fu, fC⟩ := fe
  obtain rfl : j = 80 := (show ∀ j : Nat, j < 256 → clsF j = 48 → j = 80 by decide +kernel) j hj hc
  have ho : f_X5_fetch_r ug mm gB gC gR gM gL = (80 : Int32) := fv.trans hop
  have hkn : ¬ f_X5_isKnown_r (80 : Int32) = 0 := by decide +kernel
  have hk : kindsF 80 = 130 := by decide +kernel
  have hww : waysF 80 = 1 := by decide +kernel
  have h4 : ¬ (80 : Int32) - (80 : Int32) / 4 * 4 = 1 := by decide +kernel
  have h5 : ¬ (80 : Int32) - (80 : Int32) / 4 * 4 = 2 := by decide +kernel
  have hwy : f_X5_way_r (80 : Int32) = 0 := by decide +kernel
  have e_fa : f_X1_instruction_fa mm fo fa fx fy fs fp fc mem ug lt ct hd la bt kindsF waysF = _ := (L1_fa hop hj hk hww).trans (n_i_fa_BVC)
  have e_fx : f_X1_instruction_fx mm fo fa fx fy fs fc mem ug lt ct hd la bt kindsF waysF = _ := (L1_fx hop hj hk hww).trans (n_i_fx_BVC)
  have e_fy : f_X1_instruction_fy mm fo fa fx fy fc mem ug lt ct hd la bt kindsF waysF = _ := (L1_fy hop hj hk hww).trans (n_i_fy_BVC)
  have e_fs : f_X1_instruction_fs mm fo fx fs fc mem ug lt ct hd la bt kindsF = _ := (L1_fs hop hj hk).trans (n_i_fs_BVC)
  have e_fp : f_X1_instruction_fp mm fo fa fx fy fs fp fc mem ug lt ct hd la bt kindsF waysF = _ := (L1_fp hop hj hk hww).trans (n_i_fp_BVC)
  have e_fc : f_X1_instruction_fc mm fo fx fy fs fp fc mem ug lt ct hd la bt kindsF waysF = _ := (L1_fc hop hj hk hww).trans (n_i_fc_BVC)
  have e_mem : f_X1_instruction_mem mm fo fa fx fy fs fp fc mem ug lt ct hd la bt kindsF waysF = _ := (L1_mem hop hj hk hww).trans (n_i_mem_BVC)
  have e_ug : f_X1_instruction_ug mm fo fa fx fy fp fc mem ug lt ct hd la bt kindsF waysF = _ := (L1_ug hop hj hk hww).trans (n_i_ug_BVC)
  have e_ud : f_X1_instruction_ud mm fo fa fx fy fp fc mem ug ud lt ct hd la bt kindsF waysF = _ := (L1_ud hop hj hk hww).trans (n_i_ud_BVC)
  have e_lt : f_X1_instruction_lt mm fo fa fx fy fp fc mem ug lt ct hd la bt kindsF waysF = _ := (L1_lt hop hj hk hww).trans (n_i_lt_BVC)
  have e_ct : f_X1_instruction_ct mm fo fx fy fc mem ug lt ct hd la bt kindsF waysF = _ := (L1_ct hop hj hk hww).trans (n_i_ct_BVC)
  have e_hd : f_X1_instruction_hd mm fo fx fy fc mem ug lt ct hd la bt kindsF waysF = _ := (L1_hd hop hj hk hww).trans (n_i_hd_BVC)
  have e_la : f_X1_instruction_la mm fo fx fy fc mem ug lt ct hd la bt kindsF waysF = _ := (L1_la hop hj hk hww).trans (n_i_la_BVC)
  have e_bt : f_X1_instruction_bt mm fo fa fx fy fp fc mem ug lt ct hd la bt kindsF waysF = _ := (L1_bt hop hj hk hww).trans (n_i_bt_BVC)
  have g_gB : b_gB ug mm gB gA gX gY gS gP gC gR gM gL = _ := (B_ot_gB ho hkn h4 h5 hwy rfl).trans (n_ot_gB_BVC)
  have g_gA : b_gA ug mm gB gA gX gY gS gP gC gR gM gL = _ := (B_ot_gA ho hkn h4 h5).trans (n_ot_gA_BVC)
  have g_gX : b_gX ug mm gB gA gX gY gS gC gR gM gL = _ := (B_ot_gX ho hkn h4 h5).trans (n_ot_gX_BVC)
  have g_gY : b_gY ug mm gB gA gX gY gC gR gM gL = _ := (B_ot_gY ho hkn h4 h5 hwy rfl).trans (n_ot_gY_BVC)
  have g_gS : b_gS ug mm gB gX gS gC gR gM gL = _ := (B_ot_gS ho hkn h4 h5).trans (n_ot_gS_BVC)
  have g_gP : b_gP ug mm gB gA gX gY gS gP gC gR gM gL = _ := (B_ot_gP ho hkn h4 h5 hwy rfl).trans (n_ot_gP_BVC)
  have g_gC : b_gC ug mm gB gS gP gC gR gM gL = _ := (B_ot_gC ho hkn h4 h5 hwy rfl).trans (n_ot_gC_BVC)
  have g_gR : b_gR ug mm gB gA gX gY gP gC gR gM gL = _ := (B_ot_gR ho hkn h4 h5 hwy rfl rfl).trans (n_ot_gR_BVC)
  have g_gM : b_gM ug mm gB gX gY gC gR gM gL = _ := (B_ot_gM ho hkn h4 h5 hwy rfl rfl).trans (n_ot_gM_BVC)
  have g_gL : b_gL ug mm gB gX gY gC gR gM gL = _ := (B_ot_gL ho hkn h4 h5 hwy rfl rfl).trans (n_ot_gL_BVC)
  have g_un : b_un ug mm gB gA gX gY gP gC gR gM gL = _ := (B_ot_un ho hkn h4 h5 hwy rfl).trans (n_ot_un_BVC)
  have g_ow : b_ow ug ud mm gB gA gX gY gP gC gR gM gL = _ := (B_ot_ow ho hkn h4 h5 hwy rfl).trans (n_ot_ow_BVC)
  rw [e_fa, e_fx, e_fy, e_fs, e_fp, e_fc, e_mem, e_ug, e_ud, e_lt, e_ct, e_hd, e_la, e_bt, g_gB, g_gA, g_gX, g_gY, g_gS, g_gP, g_gC, g_gR, g_gM, g_gL, g_un, g_ow]
  exact op_BVC hm hB hA hX hY hS hP fC fu hf hw
set_option maxRecDepth 100000 in
theorem as_BVS (hm : s_m mm fo) (hB : rm mm gB mem om) (hA : ra mm gA fa oa) (hX : ra mm gX fx ox) (hY : ra mm gY fy oy) (hS : ra mm gS fs os) (hP : rp mm gP fp op) (hC : rc mm gC fc oc) (hu : ru ug lt ct hd la bt gR gM gL) (hf : ∃ j : Nat, j < 64 ∧ ug = nI j) (hw : wB ud) (hj : j < 256) (hop : f_X1_read_r mm fo mem ug lt ct hd la bt fc = nI j) (hc : clsF j = 49) : SR mm oa ox oy os op oc om (f_X1_instruction_fa mm fo fa fx fy fs fp fc mem ug lt ct hd la bt kindsF waysF) (f_X1_instruction_fx mm fo fa fx fy fs fc mem ug lt ct hd la bt kindsF waysF) (f_X1_instruction_fy mm fo fa fx fy fc mem ug lt ct hd la bt kindsF waysF) (f_X1_instruction_fs mm fo fx fs fc mem ug lt ct hd la bt kindsF) (f_X1_instruction_fp mm fo fa fx fy fs fp fc mem ug lt ct hd la bt kindsF waysF) (f_X1_instruction_fc mm fo fx fy fs fp fc mem ug lt ct hd la bt kindsF waysF) (f_X1_instruction_mem mm fo fa fx fy fs fp fc mem ug lt ct hd la bt kindsF waysF) (f_X1_instruction_ug mm fo fa fx fy fp fc mem ug lt ct hd la bt kindsF waysF) (f_X1_instruction_ud mm fo fa fx fy fp fc mem ug ud lt ct hd la bt kindsF waysF) (f_X1_instruction_lt mm fo fa fx fy fp fc mem ug lt ct hd la bt kindsF waysF) (f_X1_instruction_ct mm fo fx fy fc mem ug lt ct hd la bt kindsF waysF) (f_X1_instruction_hd mm fo fx fy fc mem ug lt ct hd la bt kindsF waysF) (f_X1_instruction_la mm fo fx fy fc mem ug lt ct hd la bt kindsF waysF) (f_X1_instruction_bt mm fo fa fx fy fp fc mem ug lt ct hd la bt kindsF waysF) (b_gB ug mm gB gA gX gY gS gP gC gR gM gL) (b_gA ug mm gB gA gX gY gS gP gC gR gM gL) (b_gX ug mm gB gA gX gY gS gC gR gM gL) (b_gY ug mm gB gA gX gY gC gR gM gL) (b_gS ug mm gB gX gS gC gR gM gL) (b_gP ug mm gB gA gX gY gS gP gC gR gM gL) (b_gC ug mm gB gS gP gC gR gM gL) (b_gR ug mm gB gA gX gY gP gC gR gM gL) (b_gM ug mm gB gX gY gC gR gM gL) (b_gL ug mm gB gX gY gC gR gM gL) (b_un ug mm gB gA gX gY gP gC gR gM gL) (b_ow ug ud mm gB gA gX gY gP gC gR gM gL) := by
  have fe := sr_fetch hm hB hf hu hC
  obtain ⟨fv, fb, fu, fC⟩ := fe
  obtain rfl : j = 112 := (show ∀ j : Nat, j < 256 → clsF j = 49 → j = 112 by decide +kernel) j hj hc
  have ho : f_X5_fetch_r ug mm gB gC gR gM gL = (112 : Int32) := fv.trans hop
  have hkn : ¬ f_X5_isKnown_r (112 : Int32) = 0 := by decide +kernel
  have hk : kindsF 112 = 131 := by decide +kernel
  have hww : waysF 112 = 1 := by decide +kernel
  have h4 : ¬ (112 : Int32) - (112 : Int32) / 4 * 4 = 1 := by decide +kernel
  have h5 : ¬ (112 : Int32) - (112 : Int32) / 4 * 4 = 2 := by decide +kernel
  have hwy : f_X5_way_r (112 : Int32) = 0 := by decide +kernel
  have e_fa : f_X1_instruction_fa mm fo fa fx fy fs fp fc mem ug lt ct hd la bt kindsF waysF = _ := (L1_fa hop hj hk hww).trans (n_i_fa_BVS)
  have e_fx : f_X1_instruction_fx mm fo fa fx fy fs fc mem ug lt ct hd la bt kindsF waysF = _ := (L1_fx hop hj hk hww).trans (n_i_fx_BVS)
  have e_fy : f_X1_instruction_fy mm fo fa fx fy fc mem ug lt ct hd la bt kindsF waysF = _ := (L1_fy hop hj hk hww).trans (n_i_fy_BVS)
  have e_fs : f_X1_instruction_fs mm fo fx fs fc mem ug lt ct hd la bt kindsF = _ := (L1_fs hop hj hk).trans (n_i_fs_BVS)
  have e_fp : f_X1_instruction_fp mm fo fa fx fy fs fp fc mem ug lt ct hd la bt kindsF waysF = _ := (L1_fp hop hj hk hww).trans (n_i_fp_BVS)
  have e_fc : f_X1_instruction_fc mm fo fx fy fs fp fc mem ug lt ct hd la bt kindsF waysF = _ := (L1_fc hop hj hk hww).trans (n_i_fc_BVS)
  have e_mem : f_X1_instruction_mem mm fo fa fx fy fs fp fc mem ug lt ct hd la bt kindsF waysF = _ := (L1_mem hop hj hk hww).trans (n_i_mem_BVS)
  have e_ug : f_X1_instruction_ug mm fo fa fx fy fp fc mem ug lt ct hd la bt kindsF waysF = _ := (L1_ug hop hj hk hww).trans (n_i_ug_BVS)
  have e_ud : f_X1_instruction_ud mm fo fa fx fy fp fc mem ug ud lt ct hd la bt kindsF waysF = _ := (L1_ud hop hj hk hww).trans (n_i_ud_BVS)
  have e_lt : f_X1_instruction_lt mm fo fa fx fy fp fc mem ug lt ct hd la bt kindsF waysF = _ := (L1_lt hop hj hk hww).trans (n_i_lt_BVS)
  have e_ct : f_X1_instruction_ct mm fo fx fy fc mem ug lt ct hd la bt kindsF waysF = _ := (L1_ct hop hj hk hww).trans (n_i_ct_BVS)
  have e_hd : f_X1_instruction_hd mm fo fx fy fc mem ug lt ct hd la bt kindsF waysF = _ := (L1_hd hop hj hk hww).trans (n_i_hd_BVS)
  have e_la : f_X1_instruction_la mm fo fx fy fc mem ug lt ct hd la bt kindsF waysF = _ := (L1_la hop hj hk hww).trans (n_i_la_BVS)
  have e_bt : f_X1_instruction_bt mm fo fa fx fy fp fc mem ug lt ct hd la bt kindsF waysF = _ := (L1_bt hop hj hk hww).trans (n_i_bt_BVS)
  have g_gB : b_gB ug mm gB gA gX gY gS gP gC gR gM gL = _ := (B_ot_gB ho hkn h4 h5 hwy rfl).trans (n_ot_gB_BVS)
  have g_gA : b_gA ug mm gB gA gX gY gS gP gC gR gM gL = _ := (B_ot_gA ho hkn h4 h5).trans (n_ot_gA_BVS)
  have g_gX : b_gX ug mm gB gA gX gY gS gC gR gM gL = _ := (B_ot_gX ho hkn h4 h5).trans (n_ot_gX_BVS)
  have g_gY : b_gY ug mm gB gA gX gY gC gR gM gL = _ := (B_ot_gY ho hkn h4 h5 hwy rfl).trans (n_ot_gY_BVS)
  have g_gS : b_gS ug mm gB gX gS gC gR gM gL = _ := (B_ot_gS ho hkn h4 h5).trans (n_ot_gS_BVS)
  have g_gP : b_gP ug mm gB gA gX gY gS gP gC gR gM gL = _ := (B_ot_gP ho hkn h4 h5 hwy rfl).trans (n_ot_gP_BVS)
  have g_gC : b_gC ug mm gB gS gP gC gR gM gL = _ := (B_ot_gC ho hkn h4 h5 hwy rfl).trans (n_ot_gC_BVS)
  have g_gR : b_gR ug mm gB gA gX gY gP gC gR gM gL = _ := (B_ot_gR ho hkn h4 h5 hwy rfl rfl).trans (n_ot_gR_BVS)
  have g_gM : b_gM ug mm gB gX gY gC gR gM gL = _ := (B_ot_gM ho hkn h4 h5 hwy rfl rfl).trans (n_ot_gM_BVS)
  have g_gL : b_gL ug mm gB gX gY gC gR gM gL = _ := (B_ot_gL ho hkn h4 h5 hwy rfl rfl).trans (n_ot_gL_BVS)
  have g_un : b_un ug mm gB gA gX gY gP gC gR gM gL = _ := (B_ot_un ho hkn h4 h5 hwy rfl).trans (n_ot_un_BVS)
  have g_ow : b_ow ug ud mm gB gA gX gY gP gC gR gM gL = _ := (B_ot_ow ho hkn h4 h5 hwy rfl).trans (n_ot_ow_BVS)
  rw [e_fa, e_fx, e_fy, e_fs, e_fp, e_fc, e_mem, e_ug, e_ud, e_lt, e_ct, e_hd, e_la, e_bt, g_gB, g_gA, g_gX, g_gY, g_gS, g_gP, g_gC, g_gR, g_gM, g_gL, g_un, g_ow]
  exact op_BVS hm hB hA hX hY hS hP fC fu hf hw
set_option maxRecDepth 100000 in
theorem as_BCC (hm : s_m mm fo) (hB : rm mm gB mem om) (hA : ra mm gA fa oa) (hX : ra mm gX fx ox) (hY : ra mm gY fy oy) (hS : ra mm gS fs os) (hP : rp mm gP fp op) (hC : rc mm gC fc oc) (hu : ru ug lt ct hd la bt gR gM gL) (hf : ∃ j : Nat, j < 64 ∧ ug = nI j) (hw : wB ud) (hj : j < 256) (hop : f_X1_read_r mm fo mem ug lt ct hd la bt fc = nI j) (hc : clsF j = 50) : SR mm oa ox oy os op oc om (f_X1_instruction_fa mm fo fa fx fy fs fp fc mem ug lt ct hd la bt kindsF waysF) (f_X1_instruction_fx mm fo fa fx fy fs fc mem ug lt ct hd la bt kindsF waysF) (f_X1_instruction_fy mm fo fa fx fy fc mem ug lt ct hd la bt kindsF waysF) (f_X1_instruction_fs mm fo fx fs fc mem ug lt ct hd la bt kindsF) (f_X1_instruction_fp mm fo fa fx fy fs fp fc mem ug lt ct hd la bt kindsF waysF) (f_X1_instruction_fc mm fo fx fy fs fp fc mem ug lt ct hd la bt kindsF waysF) (f_X1_instruction_mem mm fo fa fx fy fs fp fc mem ug lt ct hd la bt kindsF waysF) (f_X1_instruction_ug mm fo fa fx fy fp fc mem ug lt ct hd la bt kindsF waysF) (f_X1_instruction_ud mm fo fa fx fy fp fc mem ug ud lt ct hd la bt kindsF waysF) (f_X1_instruction_lt mm fo fa fx fy fp fc mem ug lt ct hd la bt kindsF waysF) (f_X1_instruction_ct mm fo fx fy fc mem ug lt ct hd la bt kindsF waysF) (f_X1_instruction_hd mm fo fx fy fc mem ug lt ct hd la bt kindsF waysF) (f_X1_instruction_la mm fo fx fy fc mem ug lt ct hd la bt kindsF waysF) (f_X1_instruction_bt mm fo fa fx fy fp fc mem ug lt ct hd la bt kindsF waysF) (b_gB ug mm gB gA gX gY gS gP gC gR gM gL) (b_gA ug mm gB gA gX gY gS gP gC gR gM gL) (b_gX ug mm gB gA gX gY gS gC gR gM gL) (b_gY ug mm gB gA gX gY gC gR gM gL) (b_gS ug mm gB gX gS gC gR gM gL) (b_gP ug mm gB gA gX gY gS gP gC gR gM gL) (b_gC ug mm gB gS gP gC gR gM gL) (b_gR ug mm gB gA gX gY gP gC gR gM gL) (b_gM ug mm gB gX gY gC gR gM gL) (b_gL ug mm gB gX gY gC gR gM gL) (b_un ug mm gB gA gX gY gP gC gR gM gL) (b_ow ug ud mm gB gA gX gY gP gC gR gM gL) := by
  have fe := sr_fetch hm hB hf hu hC
  obtain ⟨fv, fb, fu, fC⟩ := fe
  obtain rfl : j = 144 := (show ∀ j : Nat, j < 256 → clsF j = 50 → j = 144 by decide +kernel) j hj hc
  have ho : f_X5_fetch_r ug mm gB gC gR gM gL = (144 : Int32) := fv.trans hop
  have hkn : ¬ f_X5_isKnown_r (144 : Int32) = 0 := by decide +kernel
  have hk : kindsF 144 = 132 := by decide +kernel
  have hww : waysF 144 = 1 := by decide +kernel
  have h4 : ¬ (144 : Int32) - (144 : Int32) / 4 * 4 = 1 := by decide +kernel
  have h5 : ¬ (144 : Int32) - (144 : Int32) / 4 * 4 = 2 := by decide +kernel
  have hwy : f_X5_way_r (144 : Int32) = 0 := by decide +kernel
  have e_fa : f_X1_instruction_fa mm fo fa fx fy fs fp fc mem ug lt ct hd la bt kindsF waysF = _ := (L1_fa hop hj hk hww).trans (n_i_fa_BCC)
  have e_fx : f_X1_instruction_fx mm fo fa fx fy fs fc mem ug lt ct hd la bt kindsF waysF = _ := (L1_fx hop hj hk hww).trans (n_i_fx_BCC)
  have e_fy : f_X1_instruction_fy mm fo fa fx fy fc mem ug lt ct hd la bt kindsF waysF = _ := (L1_fy hop hj hk hww).trans (n_i_fy_BCC)
  have e_fs : f_X1_instruction_fs mm fo fx fs fc mem ug lt ct hd la bt kindsF = _ := (L1_fs hop hj hk).trans (n_i_fs_BCC)
  have e_fp : f_X1_instruction_fp mm fo fa fx fy fs fp fc mem ug lt ct hd la bt kindsF waysF = _ := (L1_fp hop hj hk hww).trans (n_i_fp_BCC)
  have e_fc : f_X1_instruction_fc mm fo fx fy fs fp fc mem ug lt ct hd la bt kindsF waysF = _ := (L1_fc hop hj hk hww).trans (n_i_fc_BCC)
  have e_mem : f_X1_instruction_mem mm fo fa fx fy fs fp fc mem ug lt ct hd la bt kindsF waysF = _ := (L1_mem hop hj hk hww).trans (n_i_mem_BCC)
  have e_ug : f_X1_instruction_ug mm fo fa fx fy fp fc mem ug lt ct hd la bt kindsF waysF = _ := (L1_ug hop hj hk hww).trans (n_i_ug_BCC)
  have e_ud : f_X1_instruction_ud mm fo fa fx fy fp fc mem ug ud lt ct hd la bt kindsF waysF = _ := (L1_ud hop hj hk hww).trans (n_i_ud_BCC)
  have e_lt : f_X1_instruction_lt mm fo fa fx fy fp fc mem ug lt ct hd la bt kindsF waysF = _ := (L1_lt hop hj hk hww).trans (n_i_lt_BCC)
  have e_ct : f_X1_instruction_ct mm fo fx fy fc mem ug lt ct hd la bt kindsF waysF = _ := (L1_ct hop hj hk hww).trans (n_i_ct_BCC)
  have e_hd : f_X1_instruction_hd mm fo fx fy fc mem ug lt ct hd la bt kindsF waysF = _ := (L1_hd hop hj hk hww).trans (n_i_hd_BCC)
  have e_la : f_X1_instruction_la mm fo fx fy fc mem ug lt ct hd la bt kindsF waysF = _ := (L1_la hop hj hk hww).trans (n_i_la_BCC)
  have e_bt : f_X1_instruction_bt mm fo fa fx fy fp fc mem ug lt ct hd la bt kindsF waysF = _ := (L1_bt hop hj hk hww).trans (n_i_bt_BCC)
  have g_gB : b_gB ug mm gB gA gX gY gS gP gC gR gM gL = _ := (B_ot_gB ho hkn h4 h5 hwy rfl).trans (n_ot_gB_BCC)
  have g_gA : b_gA ug mm gB gA gX gY gS gP gC gR gM gL = _ := (B_ot_gA ho hkn h4 h5).trans (n_ot_gA_BCC)
  have g_gX : b_gX ug mm gB gA gX gY gS gC gR gM gL = _ := (B_ot_gX ho hkn h4 h5).trans (n_ot_gX_BCC)
  have g_gY : b_gY ug mm gB gA gX gY gC gR gM gL = _ := (B_ot_gY ho hkn h4 h5 hwy rfl).trans (n_ot_gY_BCC)
  have g_gS : b_gS ug mm gB gX gS gC gR gM gL = _ := (B_ot_gS ho hkn h4 h5).trans (n_ot_gS_BCC)
  have g_gP : b_gP ug mm gB gA gX gY gS gP gC gR gM gL = _ := (B_ot_gP ho hkn h4 h5 hwy rfl).trans (n_ot_gP_BCC)
  have g_gC : b_gC ug mm gB gS gP gC gR gM gL = _ := (B_ot_gC ho hkn h4 h5 hwy rfl).trans (n_ot_gC_BCC)
  have g_gR : b_gR ug mm gB gA gX gY gP gC gR gM gL = _ := (B_ot_gR ho hkn h4 h5 hwy rfl rfl).trans (n_ot_gR_BCC)
  have g_gM : b_gM ug mm gB gX gY gC gR gM gL = _ := (B_ot_gM ho hkn h4 h5 hwy rfl rfl).trans (n_ot_gM_BCC)
  have g_gL : b_gL ug mm gB gX gY gC gR gM gL = _ := (B_ot_gL ho hkn h4 h5 hwy rfl rfl).trans (n_ot_gL_BCC)
  have g_un : b_un ug mm gB gA gX gY gP gC gR gM gL = _ := (B_ot_un ho hkn h4 h5 hwy rfl).trans (n_ot_un_BCC)
  have g_ow : b_ow ug ud mm gB gA gX gY gP gC gR gM gL = _ := (B_ot_ow ho hkn h4 h5 hwy rfl).trans (n_ot_ow_BCC)
  rw [e_fa, e_fx, e_fy, e_fs, e_fp, e_fc, e_mem, e_ug, e_ud, e_lt, e_ct, e_hd, e_la, e_bt, g_gB, g_gA, g_gX, g_gY, g_gS, g_gP, g_gC, g_gR, g_gM, g_gL, g_un, g_ow]
  exact op_BCC hm hB hA hX hY hS hP fC fu hf hw
set_option maxRecDepth 100000 in
theorem as_BCS (hm : s_m mm fo) (hB : rm mm gB mem om) (hA : ra mm gA fa oa) (hX : ra mm gX fx ox) (hY : ra mm gY fy oy) (hS : ra mm gS fs os) (hP : rp mm gP fp op) (hC : rc mm gC fc oc) (hu : ru ug lt ct hd la bt gR gM gL) (hf : ∃ j : Nat, j < 64 ∧ ug = nI j) (hw : wB ud) (hj : j < 256) (hop : f_X1_read_r mm fo mem ug lt ct hd la bt fc = nI j) (hc : clsF j = 51) : SR mm oa ox oy os op oc om (f_X1_instruction_fa mm fo fa fx fy fs fp fc mem ug lt ct hd la bt kindsF waysF) (f_X1_instruction_fx mm fo fa fx fy fs fc mem ug lt ct hd la bt kindsF waysF) (f_X1_instruction_fy mm fo fa fx fy fc mem ug lt ct hd la bt kindsF waysF) (f_X1_instruction_fs mm fo fx fs fc mem ug lt ct hd la bt kindsF) (f_X1_instruction_fp mm fo fa fx fy fs fp fc mem ug lt ct hd la bt kindsF waysF) (f_X1_instruction_fc mm fo fx fy fs fp fc mem ug lt ct hd la bt kindsF waysF) (f_X1_instruction_mem mm fo fa fx fy fs fp fc mem ug lt ct hd la bt kindsF waysF) (f_X1_instruction_ug mm fo fa fx fy fp fc mem ug lt ct hd la bt kindsF waysF) (f_X1_instruction_ud mm fo fa fx fy fp fc mem ug ud lt ct hd la bt kindsF waysF) (f_X1_instruction_lt mm fo fa fx fy fp fc mem ug lt ct hd la bt kindsF waysF) (f_X1_instruction_ct mm fo fx fy fc mem ug lt ct hd la bt kindsF waysF) (f_X1_instruction_hd mm fo fx fy fc mem ug lt ct hd la bt kindsF waysF) (f_X1_instruction_la mm fo fx fy fc mem ug lt ct hd la bt kindsF waysF) (f_X1_instruction_bt mm fo fa fx fy fp fc mem ug lt ct hd la bt kindsF waysF) (b_gB ug mm gB gA gX gY gS gP gC gR gM gL) (b_gA ug mm gB gA gX gY gS gP gC gR gM gL) (b_gX ug mm gB gA gX gY gS gC gR gM gL) (b_gY ug mm gB gA gX gY gC gR gM gL) (b_gS ug mm gB gX gS gC gR gM gL) (b_gP ug mm gB gA gX gY gS gP gC gR gM gL) (b_gC ug mm gB gS gP gC gR gM gL) (b_gR ug mm gB gA gX gY gP gC gR gM gL) (b_gM ug mm gB gX gY gC gR gM gL) (b_gL ug mm gB gX gY gC gR gM gL) (b_un ug mm gB gA gX gY gP gC gR gM gL) (b_ow ug ud mm gB gA gX gY gP gC gR gM gL) := by
  have fe := sr_fetch hm hB hf hu hC
  obtain ⟨fv, fb, fu, fC⟩ := fe
  obtain rfl : j = 176 := (show ∀ j : Nat, j < 256 → clsF j = 51 → j = 176 by decide +kernel) j hj hc
  have ho : f_X5_fetch_r ug mm gB gC gR gM gL = (176 : Int32) := fv.trans hop
  have hkn : ¬ f_X5_isKnown_r (176 : Int32) = 0 := by decide +kernel
  have hk : kindsF 176 = 133 := by decide +kernel
  have hww : waysF 176 = 1 := by decide +kernel
  have h4 : ¬ (176 : Int32) - (176 : Int32) / 4 * 4 = 1 := by decide +kernel
  have h5 : ¬ (176 : Int32) - (176 : Int32) / 4 * 4 = 2 := by decide +kernel
  have hwy : f_X5_way_r (176 : Int32) = 0 := by decide +kernel
  have e_fa : f_X1_instruction_fa mm fo fa fx fy fs fp fc mem ug lt ct hd la bt kindsF waysF = _ := (L1_fa hop hj hk hww).trans (n_i_fa_BCS)
  have e_fx : f_X1_instruction_fx mm fo fa fx fy fs fc mem ug lt ct hd la bt kindsF waysF = _ := (L1_fx hop hj hk hww).trans (n_i_fx_BCS)
  have e_fy : f_X1_instruction_fy mm fo fa fx fy fc mem ug lt ct hd la bt kindsF waysF = _ := (L1_fy hop hj hk hww).trans (n_i_fy_BCS)
  have e_fs : f_X1_instruction_fs mm fo fx fs fc mem ug lt ct hd la bt kindsF = _ := (L1_fs hop hj hk).trans (n_i_fs_BCS)
  have e_fp : f_X1_instruction_fp mm fo fa fx fy fs fp fc mem ug lt ct hd la bt kindsF waysF = _ := (L1_fp hop hj hk hww).trans (n_i_fp_BCS)
  have e_fc : f_X1_instruction_fc mm fo fx fy fs fp fc mem ug lt ct hd la bt kindsF waysF = _ := (L1_fc hop hj hk hww).trans (n_i_fc_BCS)
  have e_mem : f_X1_instruction_mem mm fo fa fx fy fs fp fc mem ug lt ct hd la bt kindsF waysF = _ := (L1_mem hop hj hk hww).trans (n_i_mem_BCS)
  have e_ug : f_X1_instruction_ug mm fo fa fx fy fp fc mem ug lt ct hd la bt kindsF waysF = _ := (L1_ug hop hj hk hww).trans (n_i_ug_BCS)
  have e_ud : f_X1_instruction_ud mm fo fa fx fy fp fc mem ug ud lt ct hd la bt kindsF waysF = _ := (L1_ud hop hj hk hww).trans (n_i_ud_BCS)
  have e_lt : f_X1_instruction_lt mm fo fa fx fy fp fc mem ug lt ct hd la bt kindsF waysF = _ := (L1_lt hop hj hk hww).trans (n_i_lt_BCS)
  have e_ct : f_X1_instruction_ct mm fo fx fy fc mem ug lt ct hd la bt kindsF waysF = _ := (L1_ct hop hj hk hww).trans (n_i_ct_BCS)
  have e_hd : f_X1_instruction_hd mm fo fx fy fc mem ug lt ct hd la bt kindsF waysF = _ := (L1_hd hop hj hk hww).trans (n_i_hd_BCS)
  have e_la : f_X1_instruction_la mm fo fx fy fc mem ug lt ct hd la bt kindsF waysF = _ := (L1_la hop hj hk hww).trans (n_i_la_BCS)
  have e_bt : f_X1_instruction_bt mm fo fa fx fy fp fc mem ug lt ct hd la bt kindsF waysF = _ := (L1_bt hop hj hk hww).trans (n_i_bt_BCS)
  have g_gB : b_gB ug mm gB gA gX gY gS gP gC gR gM gL = _ := (B_ot_gB ho hkn h4 h5 hwy rfl).trans (n_ot_gB_BCS)
  have g_gA : b_gA ug mm gB gA gX gY gS gP gC gR gM gL = _ := (B_ot_gA ho hkn h4 h5).trans (n_ot_gA_BCS)
  have g_gX : b_gX ug mm gB gA gX gY gS gC gR gM gL = _ := (B_ot_gX ho hkn h4 h5).trans (n_ot_gX_BCS)
  have g_gY : b_gY ug mm gB gA gX gY gC gR gM gL = _ := (B_ot_gY ho hkn h4 h5 hwy rfl).trans (n_ot_gY_BCS)
  have g_gS : b_gS ug mm gB gX gS gC gR gM gL = _ := (B_ot_gS ho hkn h4 h5).trans (n_ot_gS_BCS)
  have g_gP : b_gP ug mm gB gA gX gY gS gP gC gR gM gL = _ := (B_ot_gP ho hkn h4 h5 hwy rfl).trans (n_ot_gP_BCS)
  have g_gC : b_gC ug mm gB gS gP gC gR gM gL = _ := (B_ot_gC ho hkn h4 h5 hwy rfl).trans (n_ot_gC_BCS)
  have g_gR : b_gR ug mm gB gA gX gY gP gC gR gM gL = _ := (B_ot_gR ho hkn h4 h5 hwy rfl rfl).trans (n_ot_gR_BCS)
  have g_gM : b_gM ug mm gB gX gY gC gR gM gL = _ := (B_ot_gM ho hkn h4 h5 hwy rfl rfl).trans (n_ot_gM_BCS)
  have g_gL : b_gL ug mm gB gX gY gC gR gM gL = _ := (B_ot_gL ho hkn h4 h5 hwy rfl rfl).trans (n_ot_gL_BCS)
  have g_un : b_un ug mm gB gA gX gY gP gC gR gM gL = _ := (B_ot_un ho hkn h4 h5 hwy rfl).trans (n_ot_un_BCS)
  have g_ow : b_ow ug ud mm gB gA gX gY gP gC gR gM gL = _ := (B_ot_ow ho hkn h4 h5 hwy rfl).trans (n_ot_ow_BCS)
  rw [e_fa, e_fx, e_fy, e_fs, e_fp, e_fc, e_mem, e_ug, e_ud, e_lt, e_ct, e_hd, e_la, e_bt, g_gB, g_gA, g_gX, g_gY, g_gS, g_gP, g_gC, g_gR, g_gM, g_gL, g_un, g_ow]
  exact op_BCS hm hB hA hX hY hS hP fC fu hf hw
set_option maxRecDepth 100000 in
theorem as_BNE (hm : s_m mm fo) (hB : rm mm gB mem om) (hA : ra mm gA fa oa) (hX : ra mm gX fx ox) (hY : ra mm gY fy oy) (hS : ra mm gS fs os) (hP : rp mm gP fp op) (hC : rc mm gC fc oc) (hu : ru ug lt ct hd la bt gR gM gL) (hf : ∃ j : Nat, j < 64 ∧ ug = nI j) (hw : wB ud) (hj : j < 256) (hop : f_X1_read_r mm fo mem ug lt ct hd la bt fc = nI j) (hc : clsF j = 52) : SR mm oa ox oy os op oc om (f_X1_instruction_fa mm fo fa fx fy fs fp fc mem ug lt ct hd la bt kindsF waysF) (f_X1_instruction_fx mm fo fa fx fy fs fc mem ug lt ct hd la bt kindsF waysF) (f_X1_instruction_fy mm fo fa fx fy fc mem ug lt ct hd la bt kindsF waysF) (f_X1_instruction_fs mm fo fx fs fc mem ug lt ct hd la bt kindsF) (f_X1_instruction_fp mm fo fa fx fy fs fp fc mem ug lt ct hd la bt kindsF waysF) (f_X1_instruction_fc mm fo fx fy fs fp fc mem ug lt ct hd la bt kindsF waysF) (f_X1_instruction_mem mm fo fa fx fy fs fp fc mem ug lt ct hd la bt kindsF waysF) (f_X1_instruction_ug mm fo fa fx fy fp fc mem ug lt ct hd la bt kindsF waysF) (f_X1_instruction_ud mm fo fa fx fy fp fc mem ug ud lt ct hd la bt kindsF waysF) (f_X1_instruction_lt mm fo fa fx fy fp fc mem ug lt ct hd la bt kindsF waysF) (f_X1_instruction_ct mm fo fx fy fc mem ug lt ct hd la bt kindsF waysF) (f_X1_instruction_hd mm fo fx fy fc mem ug lt ct hd la bt kindsF waysF) (f_X1_instruction_la mm fo fx fy fc mem ug lt ct hd la bt kindsF waysF) (f_X1_instruction_bt mm fo fa fx fy fp fc mem ug lt ct hd la bt kindsF waysF) (b_gB ug mm gB gA gX gY gS gP gC gR gM gL) (b_gA ug mm gB gA gX gY gS gP gC gR gM gL) (b_gX ug mm gB gA gX gY gS gC gR gM gL) (b_gY ug mm gB gA gX gY gC gR gM gL) (b_gS ug mm gB gX gS gC gR gM gL) (b_gP ug mm gB gA gX gY gS gP gC gR gM gL) (b_gC ug mm gB gS gP gC gR gM gL) (b_gR ug mm gB gA gX gY gP gC gR gM gL) (b_gM ug mm gB gX gY gC gR gM gL) (b_gL ug mm gB gX gY gC gR gM gL) (b_un ug mm gB gA gX gY gP gC gR gM gL) (b_ow ug ud mm gB gA gX gY gP gC gR gM gL) := by
  have fe := sr_fetch hm hB hf hu hC
  obtain ⟨fv, fb, fu, fC⟩ := fe
  obtain rfl : j = 208 := (show ∀ j : Nat, j < 256 → clsF j = 52 → j = 208 by decide +kernel) j hj hc
  have ho : f_X5_fetch_r ug mm gB gC gR gM gL = (208 : Int32) := fv.trans hop
  have hkn : ¬ f_X5_isKnown_r (208 : Int32) = 0 := by decide +kernel
  have hk : kindsF 208 = 134 := by decide +kernel
  have hww : waysF 208 = 1 := by decide +kernel
  have h4 : ¬ (208 : Int32) - (208 : Int32) / 4 * 4 = 1 := by decide +kernel
  have h5 : ¬ (208 : Int32) - (208 : Int32) / 4 * 4 = 2 := by decide +kernel
  have hwy : f_X5_way_r (208 : Int32) = 0 := by decide +kernel
  have e_fa : f_X1_instruction_fa mm fo fa fx fy fs fp fc mem ug lt ct hd la bt kindsF waysF = _ := (L1_fa hop hj hk hww).trans (n_i_fa_BNE)
  have e_fx : f_X1_instruction_fx mm fo fa fx fy fs fc mem ug lt ct hd la bt kindsF waysF = _ := (L1_fx hop hj hk hww).trans (n_i_fx_BNE)
  have e_fy : f_X1_instruction_fy mm fo fa fx fy fc mem ug lt ct hd la bt kindsF waysF = _ := (L1_fy hop hj hk hww).trans (n_i_fy_BNE)
  have e_fs : f_X1_instruction_fs mm fo fx fs fc mem ug lt ct hd la bt kindsF = _ := (L1_fs hop hj hk).trans (n_i_fs_BNE)
  have e_fp : f_X1_instruction_fp mm fo fa fx fy fs fp fc mem ug lt ct hd la bt kindsF waysF = _ := (L1_fp hop hj hk hww).trans (n_i_fp_BNE)
  have e_fc : f_X1_instruction_fc mm fo fx fy fs fp fc mem ug lt ct hd la bt kindsF waysF = _ := (L1_fc hop hj hk hww).trans (n_i_fc_BNE)
  have e_mem : f_X1_instruction_mem mm fo fa fx fy fs fp fc mem ug lt ct hd la bt kindsF waysF = _ := (L1_mem hop hj hk hww).trans (n_i_mem_BNE)
  have e_ug : f_X1_instruction_ug mm fo fa fx fy fp fc mem ug lt ct hd la bt kindsF waysF = _ := (L1_ug hop hj hk hww).trans (n_i_ug_BNE)
  have e_ud : f_X1_instruction_ud mm fo fa fx fy fp fc mem ug ud lt ct hd la bt kindsF waysF = _ := (L1_ud hop hj hk hww).trans (n_i_ud_BNE)
  have e_lt : f_X1_instruction_lt mm fo fa fx fy fp fc mem ug lt ct hd la bt kindsF waysF = _ := (L1_lt hop hj hk hww).trans (n_i_lt_BNE)
  have e_ct : f_X1_instruction_ct mm fo fx fy fc mem ug lt ct hd la bt kindsF waysF = _ := (L1_ct hop hj hk hww).trans (n_i_ct_BNE)
  have e_hd : f_X1_instruction_hd mm fo fx fy fc mem ug lt ct hd la bt kindsF waysF = _ := (L1_hd hop hj hk hww).trans (n_i_hd_BNE)
  have e_la : f_X1_instruction_la mm fo fx fy fc mem ug lt ct hd la bt kindsF waysF = _ := (L1_la hop hj hk hww).trans (n_i_la_BNE)
  have e_bt : f_X1_instruction_bt mm fo fa fx fy fp fc mem ug lt ct hd la bt kindsF waysF = _ := (L1_bt hop hj hk hww).trans (n_i_bt_BNE)
  have g_gB : b_gB ug mm gB gA gX gY gS gP gC gR gM gL = _ := (B_ot_gB ho hkn h4 h5 hwy rfl).trans (n_ot_gB_BNE)
  have g_gA : b_gA ug mm gB gA gX gY gS gP gC gR gM gL = _ := (B_ot_gA ho hkn h4 h5).trans (n_ot_gA_BNE)
  have g_gX : b_gX ug mm gB gA gX gY gS gC gR gM gL = _ := (B_ot_gX ho hkn h4 h5).trans (n_ot_gX_BNE)
  have g_gY : b_gY ug mm gB gA gX gY gC gR gM gL = _ := (B_ot_gY ho hkn h4 h5 hwy rfl).trans (n_ot_gY_BNE)
  have g_gS : b_gS ug mm gB gX gS gC gR gM gL = _ := (B_ot_gS ho hkn h4 h5).trans (n_ot_gS_BNE)
  have g_gP : b_gP ug mm gB gA gX gY gS gP gC gR gM gL = _ := (B_ot_gP ho hkn h4 h5 hwy rfl).trans (n_ot_gP_BNE)
  have g_gC : b_gC ug mm gB gS gP gC gR gM gL = _ := (B_ot_gC ho hkn h4 h5 hwy rfl).trans (n_ot_gC_BNE)
  have g_gR : b_gR ug mm gB gA gX gY gP gC gR gM gL = _ := (B_ot_gR ho hkn h4 h5 hwy rfl rfl).trans (n_ot_gR_BNE)
  have g_gM : b_gM ug mm gB gX gY gC gR gM gL = _ := (B_ot_gM ho hkn h4 h5 hwy rfl rfl).trans (n_ot_gM_BNE)
  have g_gL : b_gL ug mm gB gX gY gC gR gM gL = _ := (B_ot_gL ho hkn h4 h5 hwy rfl rfl).trans (n_ot_gL_BNE)
  have g_un : b_un ug mm gB gA gX gY gP gC gR gM gL = _ := (B_ot_un ho hkn h4 h5 hwy rfl).trans (n_ot_un_BNE)
  have g_ow : b_ow ug ud mm gB gA gX gY gP gC gR gM gL = _ := (B_ot_ow ho hkn h4 h5 hwy rfl).trans (n_ot_ow_BNE)
  rw [e_fa, e_fx, e_fy, e_fs, e_fp, e_fc, e_mem, e_ug, e_ud, e_lt, e_ct, e_hd, e_la, e_bt, g_gB, g_gA, g_gX, g_gY, g_gS, g_gP, g_gC, g_gR, g_gM, g_gL, g_un, g_ow]
  exact op_BNE hm hB hA hX hY hS hP fC fu hf hw
set_option maxRecDepth 100000 in
theorem as_BEQ (hm : s_m mm fo) (hB : rm mm gB mem om) (hA : ra mm gA fa oa) (hX : ra mm gX fx ox) (hY : ra mm gY fy oy) (hS : ra mm gS fs os) (hP : rp mm gP fp op) (hC : rc mm gC fc oc) (hu : ru ug lt ct hd la bt gR gM gL) (hf : ∃ j : Nat, j < 64 ∧ ug = nI j) (hw : wB ud) (hj : j < 256) (hop : f_X1_read_r mm fo mem ug lt ct hd la bt fc = nI j) (hc : clsF j = 53) : SR mm oa ox oy os op oc om (f_X1_instruction_fa mm fo fa fx fy fs fp fc mem ug lt ct hd la bt kindsF waysF) (f_X1_instruction_fx mm fo fa fx fy fs fc mem ug lt ct hd la bt kindsF waysF) (f_X1_instruction_fy mm fo fa fx fy fc mem ug lt ct hd la bt kindsF waysF) (f_X1_instruction_fs mm fo fx fs fc mem ug lt ct hd la bt kindsF) (f_X1_instruction_fp mm fo fa fx fy fs fp fc mem ug lt ct hd la bt kindsF waysF) (f_X1_instruction_fc mm fo fx fy fs fp fc mem ug lt ct hd la bt kindsF waysF) (f_X1_instruction_mem mm fo fa fx fy fs fp fc mem ug lt ct hd la bt kindsF waysF) (f_X1_instruction_ug mm fo fa fx fy fp fc mem ug lt ct hd la bt kindsF waysF) (f_X1_instruction_ud mm fo fa fx fy fp fc mem ug ud lt ct hd la bt kindsF waysF) (f_X1_instruction_lt mm fo fa fx fy fp fc mem ug lt ct hd la bt kindsF waysF) (f_X1_instruction_ct mm fo fx fy fc mem ug lt ct hd la bt kindsF waysF) (f_X1_instruction_hd mm fo fx fy fc mem ug lt ct hd la bt kindsF waysF) (f_X1_instruction_la mm fo fx fy fc mem ug lt ct hd la bt kindsF waysF) (f_X1_instruction_bt mm fo fa fx fy fp fc mem ug lt ct hd la bt kindsF waysF) (b_gB ug mm gB gA gX gY gS gP gC gR gM gL) (b_gA ug mm gB gA gX gY gS gP gC gR gM gL) (b_gX ug mm gB gA gX gY gS gC gR gM gL) (b_gY ug mm gB gA gX gY gC gR gM gL) (b_gS ug mm gB gX gS gC gR gM gL) (b_gP ug mm gB gA gX gY gS gP gC gR gM gL) (b_gC ug mm gB gS gP gC gR gM gL) (b_gR ug mm gB gA gX gY gP gC gR gM gL) (b_gM ug mm gB gX gY gC gR gM gL) (b_gL ug mm gB gX gY gC gR gM gL) (b_un ug mm gB gA gX gY gP gC gR gM gL) (b_ow ug ud mm gB gA gX gY gP gC gR gM gL) := by
  have fe := sr_fetch hm hB hf hu hC
  obtain ⟨fv, fb, fu, fC⟩ := fe
  obtain rfl : j = 240 := (show ∀ j : Nat, j < 256 → clsF j = 53 → j = 240 by decide +kernel) j hj hc
  have ho : f_X5_fetch_r ug mm gB gC gR gM gL = (240 : Int32) := fv.trans hop
  have hkn : ¬ f_X5_isKnown_r (240 : Int32) = 0 := by decide +kernel
  have hk : kindsF 240 = 135 := by decide +kernel
  have hww : waysF 240 = 1 := by decide +kernel
  have h4 : ¬ (240 : Int32) - (240 : Int32) / 4 * 4 = 1 := by decide +kernel
  have h5 : ¬ (240 : Int32) - (240 : Int32) / 4 * 4 = 2 := by decide +kernel
  have hwy : f_X5_way_r (240 : Int32) = 0 := by decide +kernel
  have e_fa : f_X1_instruction_fa mm fo fa fx fy fs fp fc mem ug lt ct hd la bt kindsF waysF = _ := (L1_fa hop hj hk hww).trans (n_i_fa_BEQ)
  have e_fx : f_X1_instruction_fx mm fo fa fx fy fs fc mem ug lt ct hd la bt kindsF waysF = _ := (L1_fx hop hj hk hww).trans (n_i_fx_BEQ)
  have e_fy : f_X1_instruction_fy mm fo fa fx fy fc mem ug lt ct hd la bt kindsF waysF = _ := (L1_fy hop hj hk hww).trans (n_i_fy_BEQ)
  have e_fs : f_X1_instruction_fs mm fo fx fs fc mem ug lt ct hd la bt kindsF = _ := (L1_fs hop hj hk).trans (n_i_fs_BEQ)
  have e_fp : f_X1_instruction_fp mm fo fa fx fy fs fp fc mem ug lt ct hd la bt kindsF waysF = _ := (L1_fp hop hj hk hww).trans (n_i_fp_BEQ)
  have e_fc : f_X1_instruction_fc mm fo fx fy fs fp fc mem ug lt ct hd la bt kindsF waysF = _ := (L1_fc hop hj hk hww).trans (n_i_fc_BEQ)
  have e_mem : f_X1_instruction_mem mm fo fa fx fy fs fp fc mem ug lt ct hd la bt kindsF waysF = _ := (L1_mem hop hj hk hww).trans (n_i_mem_BEQ)
  have e_ug : f_X1_instruction_ug mm fo fa fx fy fp fc mem ug lt ct hd la bt kindsF waysF = _ := (L1_ug hop hj hk hww).trans (n_i_ug_BEQ)
  have e_ud : f_X1_instruction_ud mm fo fa fx fy fp fc mem ug ud lt ct hd la bt kindsF waysF = _ := (L1_ud hop hj hk hww).trans (n_i_ud_BEQ)
  have e_lt : f_X1_instruction_lt mm fo fa fx fy fp fc mem ug lt ct hd la bt kindsF waysF = _ := (L1_lt hop hj hk hww).trans (n_i_lt_BEQ)
  have e_ct : f_X1_instruction_ct mm fo fx fy fc mem ug lt ct hd la bt kindsF waysF = _ := (L1_ct hop hj hk hww).trans (n_i_ct_BEQ)
  have e_hd : f_X1_instruction_hd mm fo fx fy fc mem ug lt ct hd la bt kindsF waysF = _ := (L1_hd hop hj hk hww).trans (n_i_hd_BEQ)
  have e_la : f_X1_instruction_la mm fo fx fy fc mem ug lt ct hd la bt kindsF waysF = _ := (L1_la hop hj hk hww).trans (n_i_la_BEQ)
  have e_bt : f_X1_instruction_bt mm fo fa fx fy fp fc mem ug lt ct hd la bt kindsF waysF = _ := (L1_bt hop hj hk hww).trans (n_i_bt_BEQ)
  have g_gB : b_gB ug mm gB gA gX gY gS gP gC gR gM gL = _ := (B_ot_gB ho hkn h4 h5 hwy rfl).trans (n_ot_gB_BEQ)
  have g_gA : b_gA ug mm gB gA gX gY gS gP gC gR gM gL = _ := (B_ot_gA ho hkn h4 h5).trans (n_ot_gA_BEQ)
  have g_gX : b_gX ug mm gB gA gX gY gS gC gR gM gL = _ := (B_ot_gX ho hkn h4 h5).trans (n_ot_gX_BEQ)
  have g_gY : b_gY ug mm gB gA gX gY gC gR gM gL = _ := (B_ot_gY ho hkn h4 h5 hwy rfl).trans (n_ot_gY_BEQ)
  have g_gS : b_gS ug mm gB gX gS gC gR gM gL = _ := (B_ot_gS ho hkn h4 h5).trans (n_ot_gS_BEQ)
  have g_gP : b_gP ug mm gB gA gX gY gS gP gC gR gM gL = _ := (B_ot_gP ho hkn h4 h5 hwy rfl).trans (n_ot_gP_BEQ)
  have g_gC : b_gC ug mm gB gS gP gC gR gM gL = _ := (B_ot_gC ho hkn h4 h5 hwy rfl).trans (n_ot_gC_BEQ)
  have g_gR : b_gR ug mm gB gA gX gY gP gC gR gM gL = _ := (B_ot_gR ho hkn h4 h5 hwy rfl rfl).trans (n_ot_gR_BEQ)
  have g_gM : b_gM ug mm gB gX gY gC gR gM gL = _ := (B_ot_gM ho hkn h4 h5 hwy rfl rfl).trans (n_ot_gM_BEQ)
  have g_gL : b_gL ug mm gB gX gY gC gR gM gL = _ := (B_ot_gL ho hkn h4 h5 hwy rfl rfl).trans (n_ot_gL_BEQ)
  have g_un : b_un ug mm gB gA gX gY gP gC gR gM gL = _ := (B_ot_un ho hkn h4 h5 hwy rfl).trans (n_ot_un_BEQ)
  have g_ow : b_ow ug ud mm gB gA gX gY gP gC gR gM gL = _ := (B_ot_ow ho hkn h4 h5 hwy rfl).trans (n_ot_ow_BEQ)
  rw [e_fa, e_fx, e_fy, e_fs, e_fp, e_fc, e_mem, e_ug, e_ud, e_lt, e_ct, e_hd, e_la, e_bt, g_gB, g_gA, g_gX, g_gY, g_gS, g_gP, g_gC, g_gR, g_gM, g_gL, g_un, g_ow]
  exact op_BEQ hm hB hA hX hY hS hP fC fu hf hw
set_option maxRecDepth 100000 in
theorem as_JSR (hm : s_m mm fo) (hB : rm mm gB mem om) (hA : ra mm gA fa oa) (hX : ra mm gX fx ox) (hY : ra mm gY fy oy) (hS : ra mm gS fs os) (hP : rp mm gP fp op) (hC : rc mm gC fc oc) (hu : ru ug lt ct hd la bt gR gM gL) (hf : ∃ j : Nat, j < 64 ∧ ug = nI j) (hw : wB ud) (hj : j < 256) (hop : f_X1_read_r mm fo mem ug lt ct hd la bt fc = nI j) (hc : clsF j = 54) : SR mm oa ox oy os op oc om (f_X1_instruction_fa mm fo fa fx fy fs fp fc mem ug lt ct hd la bt kindsF waysF) (f_X1_instruction_fx mm fo fa fx fy fs fc mem ug lt ct hd la bt kindsF waysF) (f_X1_instruction_fy mm fo fa fx fy fc mem ug lt ct hd la bt kindsF waysF) (f_X1_instruction_fs mm fo fx fs fc mem ug lt ct hd la bt kindsF) (f_X1_instruction_fp mm fo fa fx fy fs fp fc mem ug lt ct hd la bt kindsF waysF) (f_X1_instruction_fc mm fo fx fy fs fp fc mem ug lt ct hd la bt kindsF waysF) (f_X1_instruction_mem mm fo fa fx fy fs fp fc mem ug lt ct hd la bt kindsF waysF) (f_X1_instruction_ug mm fo fa fx fy fp fc mem ug lt ct hd la bt kindsF waysF) (f_X1_instruction_ud mm fo fa fx fy fp fc mem ug ud lt ct hd la bt kindsF waysF) (f_X1_instruction_lt mm fo fa fx fy fp fc mem ug lt ct hd la bt kindsF waysF) (f_X1_instruction_ct mm fo fx fy fc mem ug lt ct hd la bt kindsF waysF) (f_X1_instruction_hd mm fo fx fy fc mem ug lt ct hd la bt kindsF waysF) (f_X1_instruction_la mm fo fx fy fc mem ug lt ct hd la bt kindsF waysF) (f_X1_instruction_bt mm fo fa fx fy fp fc mem ug lt ct hd la bt kindsF waysF) (b_gB ug mm gB gA gX gY gS gP gC gR gM gL) (b_gA ug mm gB gA gX gY gS gP gC gR gM gL) (b_gX ug mm gB gA gX gY gS gC gR gM gL) (b_gY ug mm gB gA gX gY gC gR gM gL) (b_gS ug mm gB gX gS gC gR gM gL) (b_gP ug mm gB gA gX gY gS gP gC gR gM gL) (b_gC ug mm gB gS gP gC gR gM gL) (b_gR ug mm gB gA gX gY gP gC gR gM gL) (b_gM ug mm gB gX gY gC gR gM gL) (b_gL ug mm gB gX gY gC gR gM gL) (b_un ug mm gB gA gX gY gP gC gR gM gL) (b_ow ug ud mm gB gA gX gY gP gC gR gM gL) := by
  have fe := sr_fetch hm hB hf hu hC
  obtain ⟨fv, fb, fu, fC⟩ := fe
  obtain rfl : j = 32 := (show ∀ j : Nat, j < 256 → clsF j = 54 → j = 32 by decide +kernel) j hj hc
  have ho : f_X5_fetch_r ug mm gB gC gR gM gL = (32 : Int32) := fv.trans hop
  have hkn : ¬ f_X5_isKnown_r (32 : Int32) = 0 := by decide +kernel
  have hk : kindsF 32 = 113 := by decide +kernel
  have hww : waysF 32 = 5 := by decide +kernel
  have h4 : ¬ (32 : Int32) - (32 : Int32) / 4 * 4 = 1 := by decide +kernel
  have h5 : ¬ (32 : Int32) - (32 : Int32) / 4 * 4 = 2 := by decide +kernel
  have hwy : f_X5_way_r (32 : Int32) = 0 := by decide +kernel
  obtain ⟨pe, pw, pu, pC⟩ := sr_fetchWord hm hB hf fu fC
  have e_fa : f_X1_instruction_fa mm fo fa fx fy fs fp fc mem ug lt ct hd la bt kindsF waysF = _ := (L5_fa hop hj hk hww).trans (n_i_fa_JSR)
  have e_fx : f_X1_instruction_fx mm fo fa fx fy fs fc mem ug lt ct hd la bt kindsF waysF = _ := (L5_fx hop hj hk hww).trans (n_i_fx_JSR)
  have e_fy : f_X1_instruction_fy mm fo fa fx fy fc mem ug lt ct hd la bt kindsF waysF = _ := (L5_fy hop hj hk hww).trans (n_i_fy_JSR)
  have e_fs : f_X1_instruction_fs mm fo fx fs fc mem ug lt ct hd la bt kindsF = _ := (L5_fs hop hj hk).trans (n_i_fs_JSR)
  have e_fp : f_X1_instruction_fp mm fo fa fx fy fs fp fc mem ug lt ct hd la bt kindsF waysF = _ := (L5_fp hop hj hk hww).trans (n_i_fp_JSR)
  have e_fc : f_X1_instruction_fc mm fo fx fy fs fp fc mem ug lt ct hd la bt kindsF waysF = _ := (L5_fc hop hj hk hww).trans (n_i_fc_JSR)
  have e_mem : f_X1_instruction_mem mm fo fa fx fy fs fp fc mem ug lt ct hd la bt kindsF waysF = _ := (L5_mem hop hj hk hww).trans (n_i_mem_JSR)
  have e_ug : f_X1_instruction_ug mm fo fa fx fy fp fc mem ug lt ct hd la bt kindsF waysF = _ := (L5_ug hop hj hk hww).trans (n_i_ug_JSR)
  have e_ud : f_X1_instruction_ud mm fo fa fx fy fp fc mem ug ud lt ct hd la bt kindsF waysF = _ := (L5_ud hop hj hk hww).trans (n_i_ud_JSR)
  have e_lt : f_X1_instruction_lt mm fo fa fx fy fp fc mem ug lt ct hd la bt kindsF waysF = _ := (L5_lt hop hj hk hww).trans (n_i_lt_JSR)
  have e_ct : f_X1_instruction_ct mm fo fx fy fc mem ug lt ct hd la bt kindsF waysF = _ := (L5_ct hop hj hk hww).trans (n_i_ct_JSR)
  have e_hd : f_X1_instruction_hd mm fo fx fy fc mem ug lt ct hd la bt kindsF waysF = _ := (L5_hd hop hj hk hww).trans (n_i_hd_JSR)
  have e_la : f_X1_instruction_la mm fo fx fy fc mem ug lt ct hd la bt kindsF waysF = _ := (L5_la hop hj hk hww).trans (n_i_la_JSR)
  have e_bt : f_X1_instruction_bt mm fo fa fx fy fp fc mem ug lt ct hd la bt kindsF waysF = _ := (L5_bt hop hj hk hww).trans (n_i_bt_JSR)
  have g_gB : b_gB ug mm gB gA gX gY gS gP gC gR gM gL = _ := (B_ot_gB ho hkn h4 h5 hwy rfl).trans (n_ot_gB_JSR)
  have g_gA : b_gA ug mm gB gA gX gY gS gP gC gR gM gL = _ := (B_ot_gA ho hkn h4 h5).trans (n_ot_gA_JSR)
  have g_gX : b_gX ug mm gB gA gX gY gS gC gR gM gL = _ := (B_ot_gX ho hkn h4 h5).trans (n_ot_gX_JSR)
  have g_gY : b_gY ug mm gB gA gX gY gC gR gM gL = _ := (B_ot_gY ho hkn h4 h5 hwy rfl).trans (n_ot_gY_JSR)
  have g_gS : b_gS ug mm gB gX gS gC gR gM gL = _ := (B_ot_gS ho hkn h4 h5).trans (n_ot_gS_JSR)
  have g_gP : b_gP ug mm gB gA gX gY gS gP gC gR gM gL = _ := (B_ot_gP ho hkn h4 h5 hwy rfl).trans (n_ot_gP_JSR)
  have g_gC : b_gC ug mm gB gS gP gC gR gM gL = _ := (B_ot_gC ho hkn h4 h5 hwy pe).trans (n_ot_gC_JSR)
  have g_gR : b_gR ug mm gB gA gX gY gP gC gR gM gL = _ := (B_ot_gR ho hkn h4 h5 hwy rfl pe).trans (n_ot_gR_JSR)
  have g_gM : b_gM ug mm gB gX gY gC gR gM gL = _ := (B_ot_gM ho hkn h4 h5 hwy rfl pe).trans (n_ot_gM_JSR)
  have g_gL : b_gL ug mm gB gX gY gC gR gM gL = _ := (B_ot_gL ho hkn h4 h5 hwy rfl pe).trans (n_ot_gL_JSR)
  have g_un : b_un ug mm gB gA gX gY gP gC gR gM gL = _ := (B_ot_un ho hkn h4 h5 hwy rfl).trans (n_ot_un_JSR)
  have g_ow : b_ow ug ud mm gB gA gX gY gP gC gR gM gL = _ := (B_ot_ow ho hkn h4 h5 hwy rfl).trans (n_ot_ow_JSR)
  rw [e_fa, e_fx, e_fy, e_fs, e_fp, e_fc, e_mem, e_ug, e_ud, e_lt, e_ct, e_hd, e_la, e_bt, g_gB, g_gA, g_gX, g_gY, g_gS, g_gP, g_gC, g_gR, g_gM, g_gL, g_un, g_ow]
  exact op_JSR hm hB hA hX hY hS hP pC pu pw hf hw
set_option maxRecDepth 100000 in
theorem as_JMP (hm : s_m mm fo) (hB : rm mm gB mem om) (hA : ra mm gA fa oa) (hX : ra mm gX fx ox) (hY : ra mm gY fy oy) (hS : ra mm gS fs os) (hP : rp mm gP fp op) (hC : rc mm gC fc oc) (hu : ru ug lt ct hd la bt gR gM gL) (hf : ∃ j : Nat, j < 64 ∧ ug = nI j) (hw : wB ud) (hj : j < 256) (hop : f_X1_read_r mm fo mem ug lt ct hd la bt fc = nI j) (hc : clsF j = 55) : SR mm oa ox oy os op oc om (f_X1_instruction_fa mm fo fa fx fy fs fp fc mem ug lt ct hd la bt kindsF waysF) (f_X1_instruction_fx mm fo fa fx fy fs fc mem ug lt ct hd la bt kindsF waysF) (f_X1_instruction_fy mm fo fa fx fy fc mem ug lt ct hd la bt kindsF waysF) (f_X1_instruction_fs mm fo fx fs fc mem ug lt ct hd la bt kindsF) (f_X1_instruction_fp mm fo fa fx fy fs fp fc mem ug lt ct hd la bt kindsF waysF) (f_X1_instruction_fc mm fo fx fy fs fp fc mem ug lt ct hd la bt kindsF waysF) (f_X1_instruction_mem mm fo fa fx fy fs fp fc mem ug lt ct hd la bt kindsF waysF) (f_X1_instruction_ug mm fo fa fx fy fp fc mem ug lt ct hd la bt kindsF waysF) (f_X1_instruction_ud mm fo fa fx fy fp fc mem ug ud lt ct hd la bt kindsF waysF) (f_X1_instruction_lt mm fo fa fx fy fp fc mem ug lt ct hd la bt kindsF waysF) (f_X1_instruction_ct mm fo fx fy fc mem ug lt ct hd la bt kindsF waysF) (f_X1_instruction_hd mm fo fx fy fc mem ug lt ct hd la bt kindsF waysF) (f_X1_instruction_la mm fo fx fy fc mem ug lt ct hd la bt kindsF waysF) (f_X1_instruction_bt mm fo fa fx fy fp fc mem ug lt ct hd la bt kindsF waysF) (b_gB ug mm gB gA gX gY gS gP gC gR gM gL) (b_gA ug mm gB gA gX gY gS gP gC gR gM gL) (b_gX ug mm gB gA gX gY gS gC gR gM gL) (b_gY ug mm gB gA gX gY gC gR gM gL) (b_gS ug mm gB gX gS gC gR gM gL) (b_gP ug mm gB gA gX gY gS gP gC gR gM gL) (b_gC ug mm gB gS gP gC gR gM gL) (b_gR ug mm gB gA gX gY gP gC gR gM gL) (b_gM ug mm gB gX gY gC gR gM gL) (b_gL ug mm gB gX gY gC gR gM gL) (b_un ug mm gB gA gX gY gP gC gR gM gL) (b_ow ug ud mm gB gA gX gY gP gC gR gM gL) := by
  have fe := sr_fetch hm hB hf hu hC
  obtain ⟨fv, fb, fu, fC⟩ := fe
  obtain rfl : j = 76 := (show ∀ j : Nat, j < 256 → clsF j = 55 → j = 76 by decide +kernel) j hj hc
  have ho : f_X5_fetch_r ug mm gB gC gR gM gL = (76 : Int32) := fv.trans hop
  have hkn : ¬ f_X5_isKnown_r (76 : Int32) = 0 := by decide +kernel
  have hk : kindsF 76 = 112 := by decide +kernel
  have hww : waysF 76 = 5 := by decide +kernel
  have h4 : ¬ (76 : Int32) - (76 : Int32) / 4 * 4 = 1 := by decide +kernel
  have h5 : ¬ (76 : Int32) - (76 : Int32) / 4 * 4 = 2 := by decide +kernel
  have hwy : f_X5_way_r (76 : Int32) = 5 := by decide +kernel
  obtain ⟨pe, pw, pu, pC⟩ := sr_fetchWord hm hB hf fu fC
  have e_fa : f_X1_instruction_fa mm fo fa fx fy fs fp fc mem ug lt ct hd la bt kindsF waysF = _ := (L5_fa hop hj hk hww).trans (n_i_fa_JMP)
  have e_fx : f_X1_instruction_fx mm fo fa fx fy fs fc mem ug lt ct hd la bt kindsF waysF = _ := (L5_fx hop hj hk hww).trans (n_i_fx_JMP)
  have e_fy : f_X1_instruction_fy mm fo fa fx fy fc mem ug lt ct hd la bt kindsF waysF = _ := (L5_fy hop hj hk hww).trans (n_i_fy_JMP)
  have e_fs : f_X1_instruction_fs mm fo fx fs fc mem ug lt ct hd la bt kindsF = _ := (L5_fs hop hj hk).trans (n_i_fs_JMP)
  have e_fp : f_X1_instruction_fp mm fo fa fx fy fs fp fc mem ug lt ct hd la bt kindsF waysF = _ := (L5_fp hop hj hk hww).trans (n_i_fp_JMP)
  have e_fc : f_X1_instruction_fc mm fo fx fy fs fp fc mem ug lt ct hd la bt kindsF waysF = _ := (L5_fc hop hj hk hww).trans (n_i_fc_JMP)
  have e_mem : f_X1_instruction_mem mm fo fa fx fy fs fp fc mem ug lt ct hd la bt kindsF waysF = _ := (L5_mem hop hj hk hww).trans (n_i_mem_JMP)
  have e_ug : f_X1_instruction_ug mm fo fa fx fy fp fc mem ug lt ct hd la bt kindsF waysF = _ := (L5_ug hop hj hk hww).trans (n_i_ug_JMP)
  have e_ud : f_X1_instruction_ud mm fo fa fx fy fp fc mem ug ud lt ct hd la bt kindsF waysF = _ := (L5_ud hop hj hk hww).trans (n_i_ud_JMP)
  have e_lt : f_X1_instruction_lt mm fo fa fx fy fp fc mem ug lt ct hd la bt kindsF waysF = _ := (L5_lt hop hj hk hww).trans (n_i_lt_JMP)
  have e_ct : f_X1_instruction_ct mm fo fx fy fc mem ug lt ct hd la bt kindsF waysF = _ := (L5_ct hop hj hk hww).trans (n_i_ct_JMP)
  have e_hd : f_X1_instruction_hd mm fo fx fy fc mem ug lt ct hd la bt kindsF waysF = _ := (L5_hd hop hj hk hww).trans (n_i_hd_JMP)
  have e_la : f_X1_instruction_la mm fo fx fy fc mem ug lt ct hd la bt kindsF waysF = _ := (L5_la hop hj hk hww).trans (n_i_la_JMP)
  have e_bt : f_X1_instruction_bt mm fo fa fx fy fp fc mem ug lt ct hd la bt kindsF waysF = _ := (L5_bt hop hj hk hww).trans (n_i_bt_JMP)
  have g_gB : b_gB ug mm gB gA gX gY gS gP gC gR gM gL = _ := (B_ot_gB ho hkn h4 h5 hwy rfl).trans (n_ot_gB_JMP)
  have g_gA : b_gA ug mm gB gA gX gY gS gP gC gR gM gL = _ := (B_ot_gA ho hkn h4 h5).trans (n_ot_gA_JMP)
  have g_gX : b_gX ug mm gB gA gX gY gS gC gR gM gL = _ := (B_ot_gX ho hkn h4 h5).trans (n_ot_gX_JMP)
  have g_gY : b_gY ug mm gB gA gX gY gC gR gM gL = _ := (B_ot_gY ho hkn h4 h5 hwy rfl).trans (n_ot_gY_JMP)
  have g_gS : b_gS ug mm gB gX gS gC gR gM gL = _ := (B_ot_gS ho hkn h4 h5).trans (n_ot_gS_JMP)
  have g_gP : b_gP ug mm gB gA gX gY gS gP gC gR gM gL = _ := (B_ot_gP ho hkn h4 h5 hwy rfl).trans (n_ot_gP_JMP)
  have g_gC : b_gC ug mm gB gS gP gC gR gM gL = _ := (B_ot_gC ho hkn h4 h5 hwy pe).trans (n_ot_gC_JMP)
  have g_gR : b_gR ug mm gB gA gX gY gP gC gR gM gL = _ := (B_ot_gR ho hkn h4 h5 hwy rfl pe).trans (n_ot_gR_JMP)
  have g_gM : b_gM ug mm gB gX gY gC gR gM gL = _ := (B_ot_gM ho hkn h4 h5 hwy rfl pe).trans (n_ot_gM_JMP)
  have g_gL : b_gL ug mm gB gX gY gC gR gM gL = _ := (B_ot_gL ho hkn h4 h5 hwy rfl pe).trans (n_ot_gL_JMP)
  have g_un : b_un ug mm gB gA gX gY gP gC gR gM gL = _ := (B_ot_un ho hkn h4 h5 hwy rfl).trans (n_ot_un_JMP)
  have g_ow : b_ow ug ud mm gB gA gX gY gP gC gR gM gL = _ := (B_ot_ow ho hkn h4 h5 hwy rfl).trans (n_ot_ow_JMP)
  rw [e_fa, e_fx, e_fy, e_fs, e_fp, e_fc, e_mem, e_ug, e_ud, e_lt, e_ct, e_hd, e_la, e_bt, g_gB, g_gA, g_gX, g_gY, g_gS, g_gP, g_gC, g_gR, g_gM, g_gL, g_un, g_ow]
  exact op_JMP hm hB hA hX hY hS hP pC pu pw hf hw
set_option maxRecDepth 100000 in
theorem as_JMI (hm : s_m mm fo) (hB : rm mm gB mem om) (hA : ra mm gA fa oa) (hX : ra mm gX fx ox) (hY : ra mm gY fy oy) (hS : ra mm gS fs os) (hP : rp mm gP fp op) (hC : rc mm gC fc oc) (hu : ru ug lt ct hd la bt gR gM gL) (hf : ∃ j : Nat, j < 64 ∧ ug = nI j) (hw : wB ud) (hj : j < 256) (hop : f_X1_read_r mm fo mem ug lt ct hd la bt fc = nI j) (hc : clsF j = 56) : SR mm oa ox oy os op oc om (f_X1_instruction_fa mm fo fa fx fy fs fp fc mem ug lt ct hd la bt kindsF waysF) (f_X1_instruction_fx mm fo fa fx fy fs fc mem ug lt ct hd la bt kindsF waysF) (f_X1_instruction_fy mm fo fa fx fy fc mem ug lt ct hd la bt kindsF waysF) (f_X1_instruction_fs mm fo fx fs fc mem ug lt ct hd la bt kindsF) (f_X1_instruction_fp mm fo fa fx fy fs fp fc mem ug lt ct hd la bt kindsF waysF) (f_X1_instruction_fc mm fo fx fy fs fp fc mem ug lt ct hd la bt kindsF waysF) (f_X1_instruction_mem mm fo fa fx fy fs fp fc mem ug lt ct hd la bt kindsF waysF) (f_X1_instruction_ug mm fo fa fx fy fp fc mem ug lt ct hd la bt kindsF waysF) (f_X1_instruction_ud mm fo fa fx fy fp fc mem ug ud lt ct hd la bt kindsF waysF) (f_X1_instruction_lt mm fo fa fx fy fp fc mem ug lt ct hd la bt kindsF waysF) (f_X1_instruction_ct mm fo fx fy fc mem ug lt ct hd la bt kindsF waysF) (f_X1_instruction_hd mm fo fx fy fc mem ug lt ct hd la bt kindsF waysF) (f_X1_instruction_la mm fo fx fy fc mem ug lt ct hd la bt kindsF waysF) (f_X1_instruction_bt mm fo fa fx fy fp fc mem ug lt ct hd la bt kindsF waysF) (b_gB ug mm gB gA gX gY gS gP gC gR gM gL) (b_gA ug mm gB gA gX gY gS gP gC gR gM gL) (b_gX ug mm gB gA gX gY gS gC gR gM gL) (b_gY ug mm gB gA gX gY gC gR gM gL) (b_gS ug mm gB gX gS gC gR gM gL) (b_gP ug mm gB gA gX gY gS gP gC gR gM gL) (b_gC ug mm gB gS gP gC gR gM gL) (b_gR ug mm gB gA gX gY gP gC gR gM gL) (b_gM ug mm gB gX gY gC gR gM gL) (b_gL ug mm gB gX gY gC gR gM gL) (b_un ug mm gB gA gX gY gP gC gR gM gL) (b_ow ug ud mm gB gA gX gY gP gC gR gM gL) := by
  have fe := sr_fetch hm hB hf hu hC
  obtain ⟨fv, fb, fu, fC⟩ := fe
  obtain rfl : j = 108 := (show ∀ j : Nat, j < 256 → clsF j = 56 → j = 108 by decide +kernel) j hj hc
  have ho : f_X5_fetch_r ug mm gB gC gR gM gL = (108 : Int32) := fv.trans hop
  have hkn : ¬ f_X5_isKnown_r (108 : Int32) = 0 := by decide +kernel
  have hk : kindsF 108 = 112 := by decide +kernel
  have hww : waysF 108 = 10 := by decide +kernel
  have h4 : ¬ (108 : Int32) - (108 : Int32) / 4 * 4 = 1 := by decide +kernel
  have h5 : ¬ (108 : Int32) - (108 : Int32) / 4 * 4 = 2 := by decide +kernel
  have hwy : f_X5_way_r (108 : Int32) = 5 := by decide +kernel
  obtain ⟨pe, pw, pu, pC⟩ := sr_fetchWord hm hB hf fu fC
  obtain ⟨we, ww, wu⟩ := sr_wordAt hm hB hf pu pw
  have e_fa : f_X1_instruction_fa mm fo fa fx fy fs fp fc mem ug lt ct hd la bt kindsF waysF = _ := (L10_fa hop hj hk hww).trans (n_i_fa_JMP)
  have e_fx : f_X1_instruction_fx mm fo fa fx fy fs fc mem ug lt ct hd la bt kindsF waysF = _ := (L10_fx hop hj hk hww).trans (n_i_fx_JMP)
  have e_fy : f_X1_instruction_fy mm fo fa fx fy fc mem ug lt ct hd la bt kindsF waysF = _ := (L10_fy hop hj hk hww).trans (n_i_fy_JMP)
  have e_fs : f_X1_instruction_fs mm fo fx fs fc mem ug lt ct hd la bt kindsF = _ := (L10_fs hop hj hk).trans (n_i_fs_JMP)
  have e_fp : f_X1_instruction_fp mm fo fa fx fy fs fp fc mem ug lt ct hd la bt kindsF waysF = _ := (L10_fp hop hj hk hww).trans (n_i_fp_JMP)
  have e_fc : f_X1_instruction_fc mm fo fx fy fs fp fc mem ug lt ct hd la bt kindsF waysF = _ := (L10_fc hop hj hk hww).trans (n_i_fc_JMP)
  have e_mem : f_X1_instruction_mem mm fo fa fx fy fs fp fc mem ug lt ct hd la bt kindsF waysF = _ := (L10_mem hop hj hk hww).trans (n_i_mem_JMP)
  have e_ug : f_X1_instruction_ug mm fo fa fx fy fp fc mem ug lt ct hd la bt kindsF waysF = _ := (L10_ug hop hj hk hww).trans (n_i_ug_JMP)
  have e_ud : f_X1_instruction_ud mm fo fa fx fy fp fc mem ug ud lt ct hd la bt kindsF waysF = _ := (L10_ud hop hj hk hww).trans (n_i_ud_JMP)
  have e_lt : f_X1_instruction_lt mm fo fa fx fy fp fc mem ug lt ct hd la bt kindsF waysF = _ := (L10_lt hop hj hk hww).trans (n_i_lt_JMP)
  have e_ct : f_X1_instruction_ct mm fo fx fy fc mem ug lt ct hd la bt kindsF waysF = _ := (L10_ct hop hj hk hww).trans (n_i_ct_JMP)
  have e_hd : f_X1_instruction_hd mm fo fx fy fc mem ug lt ct hd la bt kindsF waysF = _ := (L10_hd hop hj hk hww).trans (n_i_hd_JMP)
  have e_la : f_X1_instruction_la mm fo fx fy fc mem ug lt ct hd la bt kindsF waysF = _ := (L10_la hop hj hk hww).trans (n_i_la_JMP)
  have e_bt : f_X1_instruction_bt mm fo fa fx fy fp fc mem ug lt ct hd la bt kindsF waysF = _ := (L10_bt hop hj hk hww).trans (n_i_bt_JMP)
  have g_gB : b_gB ug mm gB gA gX gY gS gP gC gR gM gL = _ := (B_ot_gB ho hkn h4 h5 hwy rfl).trans (n_ot_gB_JMI)
  have g_gA : b_gA ug mm gB gA gX gY gS gP gC gR gM gL = _ := (B_ot_gA ho hkn h4 h5).trans (n_ot_gA_JMI)
  have g_gX : b_gX ug mm gB gA gX gY gS gC gR gM gL = _ := (B_ot_gX ho hkn h4 h5).trans (n_ot_gX_JMI)
  have g_gY : b_gY ug mm gB gA gX gY gC gR gM gL = _ := (B_ot_gY ho hkn h4 h5 hwy rfl).trans (n_ot_gY_JMI)
  have g_gS : b_gS ug mm gB gX gS gC gR gM gL = _ := (B_ot_gS ho hkn h4 h5).trans (n_ot_gS_JMI)
  have g_gP : b_gP ug mm gB gA gX gY gS gP gC gR gM gL = _ := (B_ot_gP ho hkn h4 h5 hwy rfl).trans (n_ot_gP_JMI)
  have g_gC : b_gC ug mm gB gS gP gC gR gM gL = _ := (B_ot_gC ho hkn h4 h5 hwy pe).trans (n_ot_gC_JMI)
  have g_gR : b_gR ug mm gB gA gX gY gP gC gR gM gL = _ := (B_ot_gR ho hkn h4 h5 hwy rfl pe).trans (n_ot_gR_JMI)
  have g_gM : b_gM ug mm gB gX gY gC gR gM gL = _ := (B_ot_gM ho hkn h4 h5 hwy rfl pe).trans (n_ot_gM_JMI)
  have g_gL : b_gL ug mm gB gX gY gC gR gM gL = _ := (B_ot_gL ho hkn h4 h5 hwy rfl pe).trans (n_ot_gL_JMI)
  have g_un : b_un ug mm gB gA gX gY gP gC gR gM gL = _ := (B_ot_un ho hkn h4 h5 hwy rfl).trans (n_ot_un_JMI)
  have g_ow : b_ow ug ud mm gB gA gX gY gP gC gR gM gL = _ := (B_ot_ow ho hkn h4 h5 hwy rfl).trans (n_ot_ow_JMI)
  rw [e_fa, e_fx, e_fy, e_fs, e_fp, e_fc, e_mem, e_ug, e_ud, e_lt, e_ct, e_hd, e_la, e_bt, g_gB, g_gA, g_gX, g_gY, g_gS, g_gP, g_gC, g_gR, g_gM, g_gL, g_un, g_ow]
  exact op_JMI hm hB hA hX hY hS hP pC wu ww we hf hw
set_option maxRecDepth 100000 in
theorem as_STY84 (hm : s_m mm fo) (hB : rm mm gB mem om) (hA : ra mm gA fa oa) (hX : ra mm gX fx ox) (hY : ra mm gY fy oy) (hS : ra mm gS fs os) (hP : rp mm gP fp op) (hC : rc mm gC fc oc) (hu : ru ug lt ct hd la bt gR gM gL) (hf : ∃ j : Nat, j < 64 ∧ ug = nI j) (hw : wB ud) (hj : j < 256) (hop : f_X1_read_r mm fo mem ug lt ct hd la bt fc = nI j) (hc : clsF j = 57) : SR mm oa ox oy os op oc om (f_X1_instruction_fa mm fo fa fx fy fs fp fc mem ug lt ct hd la bt kindsF waysF) (f_X1_instruction_fx mm fo fa fx fy fs fc mem ug lt ct hd la bt kindsF waysF) (f_X1_instruction_fy mm fo fa fx fy fc mem ug lt ct hd la bt kindsF waysF) (f_X1_instruction_fs mm fo fx fs fc mem ug lt ct hd la bt kindsF) (f_X1_instruction_fp mm fo fa fx fy fs fp fc mem ug lt ct hd la bt kindsF waysF) (f_X1_instruction_fc mm fo fx fy fs fp fc mem ug lt ct hd la bt kindsF waysF) (f_X1_instruction_mem mm fo fa fx fy fs fp fc mem ug lt ct hd la bt kindsF waysF) (f_X1_instruction_ug mm fo fa fx fy fp fc mem ug lt ct hd la bt kindsF waysF) (f_X1_instruction_ud mm fo fa fx fy fp fc mem ug ud lt ct hd la bt kindsF waysF) (f_X1_instruction_lt mm fo fa fx fy fp fc mem ug lt ct hd la bt kindsF waysF) (f_X1_instruction_ct mm fo fx fy fc mem ug lt ct hd la bt kindsF waysF) (f_X1_instruction_hd mm fo fx fy fc mem ug lt ct hd la bt kindsF waysF) (f_X1_instruction_la mm fo fx fy fc mem ug lt ct hd la bt kindsF waysF) (f_X1_instruction_bt mm fo fa fx fy fp fc mem ug lt ct hd la bt kindsF waysF) (b_gB ug mm gB gA gX gY gS gP gC gR gM gL) (b_gA ug mm gB gA gX gY gS gP gC gR gM gL) (b_gX ug mm gB gA gX gY gS gC gR gM gL) (b_gY ug mm gB gA gX gY gC gR gM gL) (b_gS ug mm gB gX gS gC gR gM gL) (b_gP ug mm gB gA gX gY gS gP gC gR gM gL) (b_gC ug mm gB gS gP gC gR gM gL) (b_gR ug mm gB gA gX gY gP gC gR gM gL) (b_gM ug mm gB gX gY gC gR gM gL) (b_gL ug mm gB gX gY gC gR gM gL) (b_un ug mm gB gA gX gY gP gC gR gM gL) (b_ow ug ud mm gB gA gX gY gP gC gR gM gL) := by
  have fe := sr_fetch hm hB hf hu hC
  obtain ⟨fv, fb, fu, fC⟩ := fe
  obtain rfl : j = 132 := (show ∀ j : Nat, j < 256 → clsF j = 57 → j = 132 by decide +kernel) j hj hc
  have ho : f_X5_fetch_r ug mm gB gC gR gM gL = (132 : Int32) := fv.trans hop
  have hkn : ¬ f_X5_isKnown_r (132 : Int32) = 0 := by decide +kernel
  have hk : kindsF 132 = 34 := by decide +kernel
  have hww : waysF 132 = 2 := by decide +kernel
  have h4 : ¬ (132 : Int32) - (132 : Int32) / 4 * 4 = 1 := by decide +kernel
  have h5 : ¬ (132 : Int32) - (132 : Int32) / 4 * 4 = 2 := by decide +kernel
  have hwy : f_X5_way_r (132 : Int32) = 2 := by decide +kernel
  have hway : s_way 2 := (Or.inr (Or.inl rfl))
  obtain ⟨pe, pw, pu, pC⟩ := sr_place hway hm hB hf fu fC hX hY
  have hpl := s_wn pw
  have e_fa : f_X1_instruction_fa mm fo fa fx fy fs fp fc mem ug lt ct hd la bt kindsF waysF = _ := (Lw_fa hop hj hk hww).trans (n_i_fa_STY84)
  have e_fx : f_X1_instruction_fx mm fo fa fx fy fs fc mem ug lt ct hd la bt kindsF waysF = _ := (Lw_fx hop hj hk hww).trans (n_i_fx_STY84)
  have e_fy : f_X1_instruction_fy mm fo fa fx fy fc mem ug lt ct hd la bt kindsF waysF = _ := (Lw_fy hop hj hk hww).trans (n_i_fy_STY84)
  have e_fs : f_X1_instruction_fs mm fo fx fs fc mem ug lt ct hd la bt kindsF = _ := (Lw_fs hop hj hk).trans (n_i_fs_STY84)
  have e_fp : f_X1_instruction_fp mm fo fa fx fy fs fp fc mem ug lt ct hd la bt kindsF waysF = _ := (Lw_fp hop hj hk hww).trans (n_i_fp_STY84)
  have e_fc : f_X1_instruction_fc mm fo fx fy fs fp fc mem ug lt ct hd la bt kindsF waysF = _ := (Lw_fc hop hj hk hww).trans (n_i_fc_STY84)
  have e_mem : f_X1_instruction_mem mm fo fa fx fy fs fp fc mem ug lt ct hd la bt kindsF waysF = _ := (Lw_mem hop hj hk hww).trans (n_i_mem_STY84)
  have e_ug : f_X1_instruction_ug mm fo fa fx fy fp fc mem ug lt ct hd la bt kindsF waysF = _ := (Lw_ug hop hj hk hww).trans (n_i_ug_STY84)
  have e_ud : f_X1_instruction_ud mm fo fa fx fy fp fc mem ug ud lt ct hd la bt kindsF waysF = _ := (Lw_ud hop hj hk hww).trans (n_i_ud_STY84)
  have e_lt : f_X1_instruction_lt mm fo fa fx fy fp fc mem ug lt ct hd la bt kindsF waysF = _ := (Lw_lt hop hj hk hww).trans (n_i_lt_STY84)
  have e_ct : f_X1_instruction_ct mm fo fx fy fc mem ug lt ct hd la bt kindsF waysF = _ := (Lw_ct hop hj hk hww).trans (n_i_ct_STY84)
  have e_hd : f_X1_instruction_hd mm fo fx fy fc mem ug lt ct hd la bt kindsF waysF = _ := (Lw_hd hop hj hk hww).trans (n_i_hd_STY84)
  have e_la : f_X1_instruction_la mm fo fx fy fc mem ug lt ct hd la bt kindsF waysF = _ := (Lw_la hop hj hk hww).trans (n_i_la_STY84)
  have e_bt : f_X1_instruction_bt mm fo fa fx fy fp fc mem ug lt ct hd la bt kindsF waysF = _ := (Lw_bt hop hj hk hww).trans (n_i_bt_STY84)
  have g_gB : b_gB ug mm gB gA gX gY gS gP gC gR gM gL = _ := (B_ot_gB ho hkn h4 h5 hwy pe).trans (n_ot_gB_STY84)
  have g_gA : b_gA ug mm gB gA gX gY gS gP gC gR gM gL = _ := (B_ot_gA ho hkn h4 h5).trans (n_ot_gA_STY84)
  have g_gX : b_gX ug mm gB gA gX gY gS gC gR gM gL = _ := (B_ot_gX ho hkn h4 h5).trans (n_ot_gX_STY84)
  have g_gY : b_gY ug mm gB gA gX gY gC gR gM gL = _ := (B_ot_gY ho hkn h4 h5 hwy pe).trans (n_ot_gY_STY84)
  have g_gS : b_gS ug mm gB gX gS gC gR gM gL = _ := (B_ot_gS ho hkn h4 h5).trans (n_ot_gS_STY84)
  have g_gP : b_gP ug mm gB gA gX gY gS gP gC gR gM gL = _ := (B_ot_gP ho hkn h4 h5 hwy pe).trans (n_ot_gP_STY84)
  have g_gC : b_gC ug mm gB gS gP gC gR gM gL = _ := (B_ot_gC ho hkn h4 h5 hwy rfl).trans (n_ot_gC_STY84)
  have g_gR : b_gR ug mm gB gA gX gY gP gC gR gM gL = _ := (B_ot_gR ho hkn h4 h5 hwy pe rfl).trans (n_ot_gR_STY84)
  have g_gM : b_gM ug mm gB gX gY gC gR gM gL = _ := (B_ot_gM ho hkn h4 h5 hwy pe rfl).trans (n_ot_gM_STY84)
  have g_gL : b_gL ug mm gB gX gY gC gR gM gL = _ := (B_ot_gL ho hkn h4 h5 hwy pe rfl).trans (n_ot_gL_STY84)
  have g_un : b_un ug mm gB gA gX gY gP gC gR gM gL = _ := (B_ot_un ho hkn h4 h5 hwy pe).trans (n_ot_un_STY84)
  have g_ow : b_ow ug ud mm gB gA gX gY gP gC gR gM gL = _ := (B_ot_ow ho hkn h4 h5 hwy pe).trans (n_ot_ow_STY84)
  rw [e_fa, e_fx, e_fy, e_fs, e_fp, e_fc, e_mem, e_ug, e_ud, e_lt, e_ct, e_hd, e_la, e_bt, g_gB, g_gA, g_gX, g_gY, g_gS, g_gP, g_gC, g_gR, g_gM, g_gL, g_un, g_ow]
  exact op_STY84 hm hB hA hX hY hS hP pC pu pw hf hw
set_option maxRecDepth 100000 in
theorem as_STY94 (hm : s_m mm fo) (hB : rm mm gB mem om) (hA : ra mm gA fa oa) (hX : ra mm gX fx ox) (hY : ra mm gY fy oy) (hS : ra mm gS fs os) (hP : rp mm gP fp op) (hC : rc mm gC fc oc) (hu : ru ug lt ct hd la bt gR gM gL) (hf : ∃ j : Nat, j < 64 ∧ ug = nI j) (hw : wB ud) (hj : j < 256) (hop : f_X1_read_r mm fo mem ug lt ct hd la bt fc = nI j) (hc : clsF j = 58) : SR mm oa ox oy os op oc om (f_X1_instruction_fa mm fo fa fx fy fs fp fc mem ug lt ct hd la bt kindsF waysF) (f_X1_instruction_fx mm fo fa fx fy fs fc mem ug lt ct hd la bt kindsF waysF) (f_X1_instruction_fy mm fo fa fx fy fc mem ug lt ct hd la bt kindsF waysF) (f_X1_instruction_fs mm fo fx fs fc mem ug lt ct hd la bt kindsF) (f_X1_instruction_fp mm fo fa fx fy fs fp fc mem ug lt ct hd la bt kindsF waysF) (f_X1_instruction_fc mm fo fx fy fs fp fc mem ug lt ct hd la bt kindsF waysF) (f_X1_instruction_mem mm fo fa fx fy fs fp fc mem ug lt ct hd la bt kindsF waysF) (f_X1_instruction_ug mm fo fa fx fy fp fc mem ug lt ct hd la bt kindsF waysF) (f_X1_instruction_ud mm fo fa fx fy fp fc mem ug ud lt ct hd la bt kindsF waysF) (f_X1_instruction_lt mm fo fa fx fy fp fc mem ug lt ct hd la bt kindsF waysF) (f_X1_instruction_ct mm fo fx fy fc mem ug lt ct hd la bt kindsF waysF) (f_X1_instruction_hd mm fo fx fy fc mem ug lt ct hd la bt kindsF waysF) (f_X1_instruction_la mm fo fx fy fc mem ug lt ct hd la bt kindsF waysF) (f_X1_instruction_bt mm fo fa fx fy fp fc mem ug lt ct hd la bt kindsF waysF) (b_gB ug mm gB gA gX gY gS gP gC gR gM gL) (b_gA ug mm gB gA gX gY gS gP gC gR gM gL) (b_gX ug mm gB gA gX gY gS gC gR gM gL) (b_gY ug mm gB gA gX gY gC gR gM gL) (b_gS ug mm gB gX gS gC gR gM gL) (b_gP ug mm gB gA gX gY gS gP gC gR gM gL) (b_gC ug mm gB gS gP gC gR gM gL) (b_gR ug mm gB gA gX gY gP gC gR gM gL) (b_gM ug mm gB gX gY gC gR gM gL) (b_gL ug mm gB gX gY gC gR gM gL) (b_un ug mm gB gA gX gY gP gC gR gM gL) (b_ow ug ud mm gB gA gX gY gP gC gR gM gL) := by
  have fe := sr_fetch hm hB hf hu hC
  obtain ⟨fv, fb, fu, fC⟩ := fe
  obtain rfl : j = 148 := (show ∀ j : Nat, j < 256 → clsF j = 58 → j = 148 by decide +kernel) j hj hc
  have ho : f_X5_fetch_r ug mm gB gC gR gM gL = (148 : Int32) := fv.trans hop
  have hkn : ¬ f_X5_isKnown_r (148 : Int32) = 0 := by decide +kernel
  have hk : kindsF 148 = 34 := by decide +kernel
  have hww : waysF 148 = 3 := by decide +kernel
  have h4 : ¬ (148 : Int32) - (148 : Int32) / 4 * 4 = 1 := by decide +kernel
  have h5 : ¬ (148 : Int32) - (148 : Int32) / 4 * 4 = 2 := by decide +kernel
  have hwy : f_X5_way_r (148 : Int32) = 3 := by decide +kernel
  have hway : s_way 3 := (Or.inr (Or.inr (Or.inl rfl)))
  obtain ⟨pe, pw, pu, pC⟩ := sr_place hway hm hB hf fu fC hX hY
  have hpl := s_wn pw
  have e_fa : f_X1_instruction_fa mm fo fa fx fy fs fp fc mem ug lt ct hd la bt kindsF waysF = _ := (Lw_fa hop hj hk hww).trans (n_i_fa_STY84)
  have e_fx : f_X1_instruction_fx mm fo fa fx fy fs fc mem ug lt ct hd la bt kindsF waysF = _ := (Lw_fx hop hj hk hww).trans (n_i_fx_STY84)
  have e_fy : f_X1_instruction_fy mm fo fa fx fy fc mem ug lt ct hd la bt kindsF waysF = _ := (Lw_fy hop hj hk hww).trans (n_i_fy_STY84)
  have e_fs : f_X1_instruction_fs mm fo fx fs fc mem ug lt ct hd la bt kindsF = _ := (Lw_fs hop hj hk).trans (n_i_fs_STY84)
  have e_fp : f_X1_instruction_fp mm fo fa fx fy fs fp fc mem ug lt ct hd la bt kindsF waysF = _ := (Lw_fp hop hj hk hww).trans (n_i_fp_STY84)
  have e_fc : f_X1_instruction_fc mm fo fx fy fs fp fc mem ug lt ct hd la bt kindsF waysF = _ := (Lw_fc hop hj hk hww).trans (n_i_fc_STY84)
  have e_mem : f_X1_instruction_mem mm fo fa fx fy fs fp fc mem ug lt ct hd la bt kindsF waysF = _ := (Lw_mem hop hj hk hww).trans (n_i_mem_STY84)
  have e_ug : f_X1_instruction_ug mm fo fa fx fy fp fc mem ug lt ct hd la bt kindsF waysF = _ := (Lw_ug hop hj hk hww).trans (n_i_ug_STY84)
  have e_ud : f_X1_instruction_ud mm fo fa fx fy fp fc mem ug ud lt ct hd la bt kindsF waysF = _ := (Lw_ud hop hj hk hww).trans (n_i_ud_STY84)
  have e_lt : f_X1_instruction_lt mm fo fa fx fy fp fc mem ug lt ct hd la bt kindsF waysF = _ := (Lw_lt hop hj hk hww).trans (n_i_lt_STY84)
  have e_ct : f_X1_instruction_ct mm fo fx fy fc mem ug lt ct hd la bt kindsF waysF = _ := (Lw_ct hop hj hk hww).trans (n_i_ct_STY84)
  have e_hd : f_X1_instruction_hd mm fo fx fy fc mem ug lt ct hd la bt kindsF waysF = _ := (Lw_hd hop hj hk hww).trans (n_i_hd_STY84)
  have e_la : f_X1_instruction_la mm fo fx fy fc mem ug lt ct hd la bt kindsF waysF = _ := (Lw_la hop hj hk hww).trans (n_i_la_STY84)
  have e_bt : f_X1_instruction_bt mm fo fa fx fy fp fc mem ug lt ct hd la bt kindsF waysF = _ := (Lw_bt hop hj hk hww).trans (n_i_bt_STY84)
  have g_gB : b_gB ug mm gB gA gX gY gS gP gC gR gM gL = _ := (B_ot_gB ho hkn h4 h5 hwy pe).trans (n_ot_gB_STY94)
  have g_gA : b_gA ug mm gB gA gX gY gS gP gC gR gM gL = _ := (B_ot_gA ho hkn h4 h5).trans (n_ot_gA_STY94)
  have g_gX : b_gX ug mm gB gA gX gY gS gC gR gM gL = _ := (B_ot_gX ho hkn h4 h5).trans (n_ot_gX_STY94)
  have g_gY : b_gY ug mm gB gA gX gY gC gR gM gL = _ := (B_ot_gY ho hkn h4 h5 hwy pe).trans (n_ot_gY_STY94)
  have g_gS : b_gS ug mm gB gX gS gC gR gM gL = _ := (B_ot_gS ho hkn h4 h5).trans (n_ot_gS_STY94)
  have g_gP : b_gP ug mm gB gA gX gY gS gP gC gR gM gL = _ := (B_ot_gP ho hkn h4 h5 hwy pe).trans (n_ot_gP_STY94)
  have g_gC : b_gC ug mm gB gS gP gC gR gM gL = _ := (B_ot_gC ho hkn h4 h5 hwy rfl).trans (n_ot_gC_STY94)
  have g_gR : b_gR ug mm gB gA gX gY gP gC gR gM gL = _ := (B_ot_gR ho hkn h4 h5 hwy pe rfl).trans (n_ot_gR_STY94)
  have g_gM : b_gM ug mm gB gX gY gC gR gM gL = _ := (B_ot_gM ho hkn h4 h5 hwy pe rfl).trans (n_ot_gM_STY94)
  have g_gL : b_gL ug mm gB gX gY gC gR gM gL = _ := (B_ot_gL ho hkn h4 h5 hwy pe rfl).trans (n_ot_gL_STY94)
  have g_un : b_un ug mm gB gA gX gY gP gC gR gM gL = _ := (B_ot_un ho hkn h4 h5 hwy pe).trans (n_ot_un_STY94)
  have g_ow : b_ow ug ud mm gB gA gX gY gP gC gR gM gL = _ := (B_ot_ow ho hkn h4 h5 hwy pe).trans (n_ot_ow_STY94)
  rw [e_fa, e_fx, e_fy, e_fs, e_fp, e_fc, e_mem, e_ug, e_ud, e_lt, e_ct, e_hd, e_la, e_bt, g_gB, g_gA, g_gX, g_gY, g_gS, g_gP, g_gC, g_gR, g_gM, g_gL, g_un, g_ow]
  exact op_STY94 hm hB hA hX hY hS hP pC pu pw hf hw
set_option maxRecDepth 100000 in
theorem as_STY8C (hm : s_m mm fo) (hB : rm mm gB mem om) (hA : ra mm gA fa oa) (hX : ra mm gX fx ox) (hY : ra mm gY fy oy) (hS : ra mm gS fs os) (hP : rp mm gP fp op) (hC : rc mm gC fc oc) (hu : ru ug lt ct hd la bt gR gM gL) (hf : ∃ j : Nat, j < 64 ∧ ug = nI j) (hw : wB ud) (hj : j < 256) (hop : f_X1_read_r mm fo mem ug lt ct hd la bt fc = nI j) (hc : clsF j = 59) : SR mm oa ox oy os op oc om (f_X1_instruction_fa mm fo fa fx fy fs fp fc mem ug lt ct hd la bt kindsF waysF) (f_X1_instruction_fx mm fo fa fx fy fs fc mem ug lt ct hd la bt kindsF waysF) (f_X1_instruction_fy mm fo fa fx fy fc mem ug lt ct hd la bt kindsF waysF) (f_X1_instruction_fs mm fo fx fs fc mem ug lt ct hd la bt kindsF) (f_X1_instruction_fp mm fo fa fx fy fs fp fc mem ug lt ct hd la bt kindsF waysF) (f_X1_instruction_fc mm fo fx fy fs fp fc mem ug lt ct hd la bt kindsF waysF) (f_X1_instruction_mem mm fo fa fx fy fs fp fc mem ug lt ct hd la bt kindsF waysF) (f_X1_instruction_ug mm fo fa fx fy fp fc mem ug lt ct hd la bt kindsF waysF) (f_X1_instruction_ud mm fo fa fx fy fp fc mem ug ud lt ct hd la bt kindsF waysF) (f_X1_instruction_lt mm fo fa fx fy fp fc mem ug lt ct hd la bt kindsF waysF) (f_X1_instruction_ct mm fo fx fy fc mem ug lt ct hd la bt kindsF waysF) (f_X1_instruction_hd mm fo fx fy fc mem ug lt ct hd la bt kindsF waysF) (f_X1_instruction_la mm fo fx fy fc mem ug lt ct hd la bt kindsF waysF) (f_X1_instruction_bt mm fo fa fx fy fp fc mem ug lt ct hd la bt kindsF waysF) (b_gB ug mm gB gA gX gY gS gP gC gR gM gL) (b_gA ug mm gB gA gX gY gS gP gC gR gM gL) (b_gX ug mm gB gA gX gY gS gC gR gM gL) (b_gY ug mm gB gA gX gY gC gR gM gL) (b_gS ug mm gB gX gS gC gR gM gL) (b_gP ug mm gB gA gX gY gS gP gC gR gM gL) (b_gC ug mm gB gS gP gC gR gM gL) (b_gR ug mm gB gA gX gY gP gC gR gM gL) (b_gM ug mm gB gX gY gC gR gM gL) (b_gL ug mm gB gX gY gC gR gM gL) (b_un ug mm gB gA gX gY gP gC gR gM gL) (b_ow ug ud mm gB gA gX gY gP gC gR gM gL) := by
  have fe := sr_fetch hm hB hf hu hC
  obtain ⟨fv, fb, fu, fC⟩ := fe
  obtain rfl : j = 140 := (show ∀ j : Nat, j < 256 → clsF j = 59 → j = 140 by decide +kernel) j hj hc
  have ho : f_X5_fetch_r ug mm gB gC gR gM gL = (140 : Int32) := fv.trans hop
  have hkn : ¬ f_X5_isKnown_r (140 : Int32) = 0 := by decide +kernel
  have hk : kindsF 140 = 34 := by decide +kernel
  have hww : waysF 140 = 5 := by decide +kernel
  have h4 : ¬ (140 : Int32) - (140 : Int32) / 4 * 4 = 1 := by decide +kernel
  have h5 : ¬ (140 : Int32) - (140 : Int32) / 4 * 4 = 2 := by decide +kernel
  have hwy : f_X5_way_r (140 : Int32) = 5 := by decide +kernel
  have hway : s_way 5 := (Or.inr (Or.inr (Or.inr (Or.inr (Or.inl rfl)))))
  obtain ⟨pe, pw, pu, pC⟩ := sr_place hway hm hB hf fu fC hX hY
  have hpl := s_wn pw
  have e_fa : f_X1_instruction_fa mm fo fa fx fy fs fp fc mem ug lt ct hd la bt kindsF waysF = _ := (Lw_fa hop hj hk hww).trans (n_i_fa_STY84)
  have e_fx : f_X1_instruction_fx mm fo fa fx fy fs fc mem ug lt ct hd la bt kindsF waysF = _ := (Lw_fx hop hj hk hww).trans (n_i_fx_STY84)
  have e_fy : f_X1_instruction_fy mm fo fa fx fy fc mem ug lt ct hd la bt kindsF waysF = _ := (Lw_fy hop hj hk hww).trans (n_i_fy_STY84)
  have e_fs : f_X1_instruction_fs mm fo fx fs fc mem ug lt ct hd la bt kindsF = _ := (Lw_fs hop hj hk).trans (n_i_fs_STY84)
  have e_fp : f_X1_instruction_fp mm fo fa fx fy fs fp fc mem ug lt ct hd la bt kindsF waysF = _ := (Lw_fp hop hj hk hww).trans (n_i_fp_STY84)
  have e_fc : f_X1_instruction_fc mm fo fx fy fs fp fc mem ug lt ct hd la bt kindsF waysF = _ := (Lw_fc hop hj hk hww).trans (n_i_fc_STY84)
  have e_mem : f_X1_instruction_mem mm fo fa fx fy fs fp fc mem ug lt ct hd la bt kindsF waysF = _ := (Lw_mem hop hj hk hww).trans (n_i_mem_STY84)
  have e_ug : f_X1_instruction_ug mm fo fa fx fy fp fc mem ug lt ct hd la bt kindsF waysF = _ := (Lw_ug hop hj hk hww).trans (n_i_ug_STY84)
  have e_ud : f_X1_instruction_ud mm fo fa fx fy fp fc mem ug ud lt ct hd la bt kindsF waysF = _ := (Lw_ud hop hj hk hww).trans (n_i_ud_STY84)
  have e_lt : f_X1_instruction_lt mm fo fa fx fy fp fc mem ug lt ct hd la bt kindsF waysF = _ := (Lw_lt hop hj hk hww).trans (n_i_lt_STY84)
  have e_ct : f_X1_instruction_ct mm fo fx fy fc mem ug lt ct hd la bt kindsF waysF = _ := (Lw_ct hop hj hk hww).trans (n_i_ct_STY84)
  have e_hd : f_X1_instruction_hd mm fo fx fy fc mem ug lt ct hd la bt kindsF waysF = _ := (Lw_hd hop hj hk hww).trans (n_i_hd_STY84)
  have e_la : f_X1_instruction_la mm fo fx fy fc mem ug lt ct hd la bt kindsF waysF = _ := (Lw_la hop hj hk hww).trans (n_i_la_STY84)
  have e_bt : f_X1_instruction_bt mm fo fa fx fy fp fc mem ug lt ct hd la bt kindsF waysF = _ := (Lw_bt hop hj hk hww).trans (n_i_bt_STY84)
  have g_gB : b_gB ug mm gB gA gX gY gS gP gC gR gM gL = _ := (B_ot_gB ho hkn h4 h5 hwy pe).trans (n_ot_gB_STY8C)
  have g_gA : b_gA ug mm gB gA gX gY gS gP gC gR gM gL = _ := (B_ot_gA ho hkn h4 h5).trans (n_ot_gA_STY8C)
  have g_gX : b_gX ug mm gB gA gX gY gS gC gR gM gL = _ := (B_ot_gX ho hkn h4 h5).trans (n_ot_gX_STY8C)
  have g_gY : b_gY ug mm gB gA gX gY gC gR gM gL = _ := (B_ot_gY ho hkn h4 h5 hwy pe).trans (n_ot_gY_STY8C)
  have g_gS : b_gS ug mm gB gX gS gC gR gM gL = _ := (B_ot_gS ho hkn h4 h5).trans (n_ot_gS_STY8C)
  have g_gP : b_gP ug mm gB gA gX gY gS gP gC gR gM gL = _ := (B_ot_gP ho hkn h4 h5 hwy pe).trans (n_ot_gP_STY8C)
  have g_gC : b_gC ug mm gB gS gP gC gR gM gL = _ := (B_ot_gC ho hkn h4 h5 hwy rfl).trans (n_ot_gC_STY8C)
  have g_gR : b_gR ug mm gB gA gX gY gP gC gR gM gL = _ := (B_ot_gR ho hkn h4 h5 hwy pe rfl).trans (n_ot_gR_STY8C)
  have g_gM : b_gM ug mm gB gX gY gC gR gM gL = _ := (B_ot_gM ho hkn h4 h5 hwy pe rfl).trans (n_ot_gM_STY8C)
  have g_gL : b_gL ug mm gB gX gY gC gR gM gL = _ := (B_ot_gL ho hkn h4 h5 hwy pe rfl).trans (n_ot_gL_STY8C)
  have g_un : b_un ug mm gB gA gX gY gP gC gR gM gL = _ := (B_ot_un ho hkn h4 h5 hwy pe).trans (n_ot_un_STY8C)
  have g_ow : b_ow ug ud mm gB gA gX gY gP gC gR gM gL = _ := (B_ot_ow ho hkn h4 h5 hwy pe).trans (n_ot_ow_STY8C)
  rw [e_fa, e_fx, e_fy, e_fs, e_fp, e_fc, e_mem, e_ug, e_ud, e_lt, e_ct, e_hd, e_la, e_bt, g_gB, g_gA, g_gX, g_gY, g_gS, g_gP, g_gC, g_gR, g_gM, g_gL, g_un, g_ow]
  exact op_STY8C hm hB hA hX hY hS hP pC pu pw hf hw
set_option maxRecDepth 100000 in
theorem as_BIT24 (hm : s_m mm fo) (hB : rm mm gB mem om) (hA : ra mm gA fa oa) (hX : ra mm gX fx ox) (hY : ra mm gY fy oy) (hS : ra mm gS fs os) (hP : rp mm gP fp op) (hC : rc mm gC fc oc) (hu : ru ug lt ct hd la bt gR gM gL) (hf : ∃ j : Nat, j < 64 ∧ ug = nI j) (hw : wB ud) (hj : j < 256) (hop : f_X1_read_r mm fo mem ug lt ct hd la bt fc = nI j) (hc : clsF j = 60) : SR mm oa ox oy os op oc om (f_X1_instruction_fa mm fo fa fx fy fs fp fc mem ug lt ct hd la bt kindsF waysF) (f_X1_instruction_fx mm fo fa fx fy fs fc mem ug lt ct hd la bt kindsF waysF) (f_X1_instruction_fy mm fo fa fx fy fc mem ug lt ct hd la bt kindsF waysF) (f_X1_instruction_fs mm fo fx fs fc mem ug lt ct hd la bt kindsF) (f_X1_instruction_fp mm fo fa fx fy fs fp fc mem ug lt ct hd la bt kindsF waysF) (f_X1_instruction_fc mm fo fx fy fs fp fc mem ug lt ct hd la bt kindsF waysF) (f_X1_instruction_mem mm fo fa fx fy fs fp fc mem ug lt ct hd la bt kindsF waysF) (f_X1_instruction_ug mm fo fa fx fy fp fc mem ug lt ct hd la bt kindsF waysF) (f_X1_instruction_ud mm fo fa fx fy fp fc mem ug ud lt ct hd la bt kindsF waysF) (f_X1_instruction_lt mm fo fa fx fy fp fc mem ug lt ct hd la bt kindsF waysF) (f_X1_instruction_ct mm fo fx fy fc mem ug lt ct hd la bt kindsF waysF) (f_X1_instruction_hd mm fo fx fy fc mem ug lt ct hd la bt kindsF waysF) (f_X1_instruction_la mm fo fx fy fc mem ug lt ct hd la bt kindsF waysF) (f_X1_instruction_bt mm fo fa fx fy fp fc mem ug lt ct hd la bt kindsF waysF) (b_gB ug mm gB gA gX gY gS gP gC gR gM gL) (b_gA ug mm gB gA gX gY gS gP gC gR gM gL) (b_gX ug mm gB gA gX gY gS gC gR gM gL) (b_gY ug mm gB gA gX gY gC gR gM gL) (b_gS ug mm gB gX gS gC gR gM gL) (b_gP ug mm gB gA gX gY gS gP gC gR gM gL) (b_gC ug mm gB gS gP gC gR gM gL) (b_gR ug mm gB gA gX gY gP gC gR gM gL) (b_gM ug mm gB gX gY gC gR gM gL) (b_gL ug mm gB gX gY gC gR gM gL) (b_un ug mm gB gA gX gY gP gC gR gM gL) (b_ow ug ud mm gB gA gX gY gP gC gR gM gL) := by
  have fe := sr_fetch hm hB hf hu hC
  obtain ⟨fv, fb, fu, fC⟩ := fe
  obtain rfl : j = 36 := (show ∀ j : Nat, j < 256 → clsF j = 60 → j = 36 by decide +kernel) j hj hc
  have ho : f_X5_fetch_r ug mm gB gC gR gM gL = (36 : Int32) := fv.trans hop
  have hkn : ¬ f_X5_isKnown_r (36 : Int32) = 0 := by decide +kernel
  have hk : kindsF 36 = 27 := by decide +kernel
  have hww : waysF 36 = 2 := by decide +kernel
  have h4 : ¬ (36 : Int32) - (36 : Int32) / 4 * 4 = 1 := by decide +kernel
  have h5 : ¬ (36 : Int32) - (36 : Int32) / 4 * 4 = 2 := by decide +kernel
  have hwy : f_X5_way_r (36 : Int32) = 2 := by decide +kernel
  have hway : s_way 2 := (Or.inr (Or.inl rfl))
  obtain ⟨pe, pw, pu, pC⟩ := sr_place hway hm hB hf fu fC hX hY
  have hpl := s_wn pw
  have e_fa : f_X1_instruction_fa mm fo fa fx fy fs fp fc mem ug lt ct hd la bt kindsF waysF = _ := (Lw_fa hop hj hk hww).trans (n_i_fa_BIT24)
  have e_fx : f_X1_instruction_fx mm fo fa fx fy fs fc mem ug lt ct hd la bt kindsF waysF = _ := (Lw_fx hop hj hk hww).trans (n_i_fx_BIT24)
  have e_fy : f_X1_instruction_fy mm fo fa fx fy fc mem ug lt ct hd la bt kindsF waysF = _ := (Lw_fy hop hj hk hww).trans (n_i_fy_BIT24)
  have e_fs : f_X1_instruction_fs mm fo fx fs fc mem ug lt ct hd la bt kindsF = _ := (Lw_fs hop hj hk).trans (n_i_fs_BIT24)
  have e_fp : f_X1_instruction_fp mm fo fa fx fy fs fp fc mem ug lt ct hd la bt kindsF waysF = _ := (Lw_fp hop hj hk hww).trans (n_i_fp_BIT24)
  have e_fc : f_X1_instruction_fc mm fo fx fy fs fp fc mem ug lt ct hd la bt kindsF waysF = _ := (Lw_fc hop hj hk hww).trans (n_i_fc_BIT24)
  have e_mem : f_X1_instruction_mem mm fo fa fx fy fs fp fc mem ug lt ct hd la bt kindsF waysF = _ := (Lw_mem hop hj hk hww).trans (n_i_mem_BIT24)
  have e_ug : f_X1_instruction_ug mm fo fa fx fy fp fc mem ug lt ct hd la bt kindsF waysF = _ := (Lw_ug hop hj hk hww).trans (n_i_ug_BIT24)
  have e_ud : f_X1_instruction_ud mm fo fa fx fy fp fc mem ug ud lt ct hd la bt kindsF waysF = _ := (Lw_ud hop hj hk hww).trans (n_i_ud_BIT24)
  have e_lt : f_X1_instruction_lt mm fo fa fx fy fp fc mem ug lt ct hd la bt kindsF waysF = _ := (Lw_lt hop hj hk hww).trans (n_i_lt_BIT24)
  have e_ct : f_X1_instruction_ct mm fo fx fy fc mem ug lt ct hd la bt kindsF waysF = _ := (Lw_ct hop hj hk hww).trans (n_i_ct_BIT24)
  have e_hd : f_X1_instruction_hd mm fo fx fy fc mem ug lt ct hd la bt kindsF waysF = _ := (Lw_hd hop hj hk hww).trans (n_i_hd_BIT24)
  have e_la : f_X1_instruction_la mm fo fx fy fc mem ug lt ct hd la bt kindsF waysF = _ := (Lw_la hop hj hk hww).trans (n_i_la_BIT24)
  have e_bt : f_X1_instruction_bt mm fo fa fx fy fp fc mem ug lt ct hd la bt kindsF waysF = _ := (Lw_bt hop hj hk hww).trans (n_i_bt_BIT24)
  have g_gB : b_gB ug mm gB gA gX gY gS gP gC gR gM gL = _ := (B_ot_gB ho hkn h4 h5 hwy pe).trans (n_ot_gB_BIT24)
  have g_gA : b_gA ug mm gB gA gX gY gS gP gC gR gM gL = _ := (B_ot_gA ho hkn h4 h5).trans (n_ot_gA_BIT24)
  have g_gX : b_gX ug mm gB gA gX gY gS gC gR gM gL = _ := (B_ot_gX ho hkn h4 h5).trans (n_ot_gX_BIT24)
  have g_gY : b_gY ug mm gB gA gX gY gC gR gM gL = _ := (B_ot_gY ho hkn h4 h5 hwy pe).trans (n_ot_gY_BIT24)
  have g_gS : b_gS ug mm gB gX gS gC gR gM gL = _ := (B_ot_gS ho hkn h4 h5).trans (n_ot_gS_BIT24)
  have g_gP : b_gP ug mm gB gA gX gY gS gP gC gR gM gL = _ := (B_ot_gP ho hkn h4 h5 hwy pe).trans (n_ot_gP_BIT24)
  have g_gC : b_gC ug mm gB gS gP gC gR gM gL = _ := (B_ot_gC ho hkn h4 h5 hwy rfl).trans (n_ot_gC_BIT24)
  have g_gR : b_gR ug mm gB gA gX gY gP gC gR gM gL = _ := (B_ot_gR ho hkn h4 h5 hwy pe rfl).trans (n_ot_gR_BIT24)
  have g_gM : b_gM ug mm gB gX gY gC gR gM gL = _ := (B_ot_gM ho hkn h4 h5 hwy pe rfl).trans (n_ot_gM_BIT24)
  have g_gL : b_gL ug mm gB gX gY gC gR gM gL = _ := (B_ot_gL ho hkn h4 h5 hwy pe rfl).trans (n_ot_gL_BIT24)
  have g_un : b_un ug mm gB gA gX gY gP gC gR gM gL = _ := (B_ot_un ho hkn h4 h5 hwy pe).trans (n_ot_un_BIT24)
  have g_ow : b_ow ug ud mm gB gA gX gY gP gC gR gM gL = _ := (B_ot_ow ho hkn h4 h5 hwy pe).trans (n_ot_ow_BIT24)
  rw [e_fa, e_fx, e_fy, e_fs, e_fp, e_fc, e_mem, e_ug, e_ud, e_lt, e_ct, e_hd, e_la, e_bt, g_gB, g_gA, g_gX, g_gY, g_gS, g_gP, g_gC, g_gR, g_gM, g_gL, g_un, g_ow]
  exact op_BIT24 hm hB hA hX hY hS hP pC pu pw hf hw
set_option maxRecDepth 100000 in
theorem as_BIT2C (hm : s_m mm fo) (hB : rm mm gB mem om) (hA : ra mm gA fa oa) (hX : ra mm gX fx ox) (hY : ra mm gY fy oy) (hS : ra mm gS fs os) (hP : rp mm gP fp op) (hC : rc mm gC fc oc) (hu : ru ug lt ct hd la bt gR gM gL) (hf : ∃ j : Nat, j < 64 ∧ ug = nI j) (hw : wB ud) (hj : j < 256) (hop : f_X1_read_r mm fo mem ug lt ct hd la bt fc = nI j) (hc : clsF j = 61) : SR mm oa ox oy os op oc om (f_X1_instruction_fa mm fo fa fx fy fs fp fc mem ug lt ct hd la bt kindsF waysF) (f_X1_instruction_fx mm fo fa fx fy fs fc mem ug lt ct hd la bt kindsF waysF) (f_X1_instruction_fy mm fo fa fx fy fc mem ug lt ct hd la bt kindsF waysF) (f_X1_instruction_fs mm fo fx fs fc mem ug lt ct hd la bt kindsF) (f_X1_instruction_fp mm fo fa fx fy fs fp fc mem ug lt ct hd la bt kindsF waysF) (f_X1_instruction_fc mm fo fx fy fs fp fc mem ug lt ct hd la bt kindsF waysF) (f_X1_instruction_mem mm fo fa fx fy fs fp fc mem ug lt ct hd la bt kindsF waysF) (f_X1_instruction_ug mm fo fa fx fy fp fc mem ug lt ct hd la bt kindsF waysF) (f_X1_instruction_ud mm fo fa fx fy fp fc mem ug ud lt ct hd la bt kindsF waysF) (f_X1_instruction_lt mm fo fa fx fy fp fc mem ug lt ct hd la bt kindsF waysF) (f_X1_instruction_ct mm fo fx fy fc mem ug lt ct hd la bt kindsF waysF) (f_X1_instruction_hd mm fo fx fy fc mem ug lt ct hd la bt kindsF waysF) (f_X1_instruction_la mm fo fx fy fc mem ug lt ct hd la bt kindsF waysF) (f_X1_instruction_bt mm fo fa fx fy fp fc mem ug lt ct hd la bt kindsF waysF) (b_gB ug mm gB gA gX gY gS gP gC gR gM gL) (b_gA ug mm gB gA gX gY gS gP gC gR gM gL) (b_gX ug mm gB gA gX gY gS gC gR gM gL) (b_gY ug mm gB gA gX gY gC gR gM gL) (b_gS ug mm gB gX gS gC gR gM gL) (b_gP ug mm gB gA gX gY gS gP gC gR gM gL) (b_gC ug mm gB gS gP gC gR gM gL) (b_gR ug mm gB gA gX gY gP gC gR gM gL) (b_gM ug mm gB gX gY gC gR gM gL) (b_gL ug mm gB gX gY gC gR gM gL) (b_un ug mm gB gA gX gY gP gC gR gM gL) (b_ow ug ud mm gB gA gX gY gP gC gR gM gL) := by
  have fe := sr_fetch hm hB hf hu hC
  obtain ⟨fv, fb, fu, fC⟩ := fe
  obtain rfl : j = 44 := (show ∀ j : Nat, j < 256 → clsF j = 61 → j = 44 by decide +kernel) j hj hc
  have ho : f_X5_fetch_r ug mm gB gC gR gM gL = (44 : Int32) := fv.trans hop
  have hkn : ¬ f_X5_isKnown_r (44 : Int32) = 0 := by decide +kernel
  have hk : kindsF 44 = 27 := by decide +kernel
  have hww : waysF 44 = 5 := by decide +kernel
  have h4 : ¬ (44 : Int32) - (44 : Int32) / 4 * 4 = 1 := by decide +kernel
  have h5 : ¬ (44 : Int32) - (44 : Int32) / 4 * 4 = 2 := by decide +kernel
  have hwy : f_X5_way_r (44 : Int32) = 5 := by decide +kernel
  have hway : s_way 5 := (Or.inr (Or.inr (Or.inr (Or.inr (Or.inl rfl)))))
  obtain ⟨pe, pw, pu, pC⟩ := sr_place hway hm hB hf fu fC hX hY
  have hpl := s_wn pw
  have e_fa : f_X1_instruction_fa mm fo fa fx fy fs fp fc mem ug lt ct hd la bt kindsF waysF = _ := (Lw_fa hop hj hk hww).trans (n_i_fa_BIT24)
  have e_fx : f_X1_instruction_fx mm fo fa fx fy fs fc mem ug lt ct hd la bt kindsF waysF = _ := (Lw_fx hop hj hk hww).trans (n_i_fx_BIT24)
  have e_fy : f_X1_instruction_fy mm fo fa fx fy fc mem ug lt ct hd la bt kindsF waysF = _ := (Lw_fy hop hj hk hww).trans (n_i_fy_BIT24)
  have e_fs : f_X1_instruction_fs mm fo fx fs fc mem ug lt ct hd la bt kindsF = _ := (Lw_fs hop hj hk).trans (n_i_fs_BIT24)
  have e_fp : f_X1_instruction_fp mm fo fa fx fy fs fp fc mem ug lt ct hd la bt kindsF waysF = _ := (Lw_fp hop hj hk hww).trans (n_i_fp_BIT24)
  have e_fc : f_X1_instruction_fc mm fo fx fy fs fp fc mem ug lt ct hd la bt kindsF waysF = _ := (Lw_fc hop hj hk hww).trans (n_i_fc_BIT24)
  have e_mem : f_X1_instruction_mem mm fo fa fx fy fs fp fc mem ug lt ct hd la bt kindsF waysF = _ := (Lw_mem hop hj hk hww).trans (n_i_mem_BIT24)
  have e_ug : f_X1_instruction_ug mm fo fa fx fy fp fc mem ug lt ct hd la bt kindsF waysF = _ := (Lw_ug hop hj hk hww).trans (n_i_ug_BIT24)
  have e_ud : f_X1_instruction_ud mm fo fa fx fy fp fc mem ug ud lt ct hd la bt kindsF waysF = _ := (Lw_ud hop hj hk hww).trans (n_i_ud_BIT24)
  have e_lt : f_X1_instruction_lt mm fo fa fx fy fp fc mem ug lt ct hd la bt kindsF waysF = _ := (Lw_lt hop hj hk hww).trans (n_i_lt_BIT24)
  have e_ct : f_X1_instruction_ct mm fo fx fy fc mem ug lt ct hd la bt kindsF waysF = _ := (Lw_ct hop hj hk hww).trans (n_i_ct_BIT24)
  have e_hd : f_X1_instruction_hd mm fo fx fy fc mem ug lt ct hd la bt kindsF waysF = _ := (Lw_hd hop hj hk hww).trans (n_i_hd_BIT24)
  have e_la : f_X1_instruction_la mm fo fx fy fc mem ug lt ct hd la bt kindsF waysF = _ := (Lw_la hop hj hk hww).trans (n_i_la_BIT24)
  have e_bt : f_X1_instruction_bt mm fo fa fx fy fp fc mem ug lt ct hd la bt kindsF waysF = _ := (Lw_bt hop hj hk hww).trans (n_i_bt_BIT24)
  have g_gB : b_gB ug mm gB gA gX gY gS gP gC gR gM gL = _ := (B_ot_gB ho hkn h4 h5 hwy pe).trans (n_ot_gB_BIT2C)
  have g_gA : b_gA ug mm gB gA gX gY gS gP gC gR gM gL = _ := (B_ot_gA ho hkn h4 h5).trans (n_ot_gA_BIT2C)
  have g_gX : b_gX ug mm gB gA gX gY gS gC gR gM gL = _ := (B_ot_gX ho hkn h4 h5).trans (n_ot_gX_BIT2C)
  have g_gY : b_gY ug mm gB gA gX gY gC gR gM gL = _ := (B_ot_gY ho hkn h4 h5 hwy pe).trans (n_ot_gY_BIT2C)
  have g_gS : b_gS ug mm gB gX gS gC gR gM gL = _ := (B_ot_gS ho hkn h4 h5).trans (n_ot_gS_BIT2C)
  have g_gP : b_gP ug mm gB gA gX gY gS gP gC gR gM gL = _ := (B_ot_gP ho hkn h4 h5 hwy pe).trans (n_ot_gP_BIT2C)
  have g_gC : b_gC ug mm gB gS gP gC gR gM gL = _ := (B_ot_gC ho hkn h4 h5 hwy rfl).trans (n_ot_gC_BIT2C)
  have g_gR : b_gR ug mm gB gA gX gY gP gC gR gM gL = _ := (B_ot_gR ho hkn h4 h5 hwy pe rfl).trans (n_ot_gR_BIT2C)
  have g_gM : b_gM ug mm gB gX gY gC gR gM gL = _ := (B_ot_gM ho hkn h4 h5 hwy pe rfl).trans (n_ot_gM_BIT2C)
  have g_gL : b_gL ug mm gB gX gY gC gR gM gL = _ := (B_ot_gL ho hkn h4 h5 hwy pe rfl).trans (n_ot_gL_BIT2C)
  have g_un : b_un ug mm gB gA gX gY gP gC gR gM gL = _ := (B_ot_un ho hkn h4 h5 hwy pe).trans (n_ot_un_BIT2C)
  have g_ow : b_ow ug ud mm gB gA gX gY gP gC gR gM gL = _ := (B_ot_ow ho hkn h4 h5 hwy pe).trans (n_ot_ow_BIT2C)
  rw [e_fa, e_fx, e_fy, e_fs, e_fp, e_fc, e_mem, e_ug, e_ud, e_lt, e_ct, e_hd, e_la, e_bt, g_gB, g_gA, g_gX, g_gY, g_gS, g_gP, g_gC, g_gR, g_gM, g_gL, g_un, g_ow]
  exact op_BIT2C hm hB hA hX hY hS hP pC pu pw hf hw
set_option maxRecDepth 100000 in
theorem as_LDYA0 (hm : s_m mm fo) (hB : rm mm gB mem om) (hA : ra mm gA fa oa) (hX : ra mm gX fx ox) (hY : ra mm gY fy oy) (hS : ra mm gS fs os) (hP : rp mm gP fp op) (hC : rc mm gC fc oc) (hu : ru ug lt ct hd la bt gR gM gL) (hf : ∃ j : Nat, j < 64 ∧ ug = nI j) (hw : wB ud) (hj : j < 256) (hop : f_X1_read_r mm fo mem ug lt ct hd la bt fc = nI j) (hc : clsF j = 62) : SR mm oa ox oy os op oc om (f_X1_instruction_fa mm fo fa fx fy fs fp fc mem ug lt ct hd la bt kindsF waysF) (f_X1_instruction_fx mm fo fa fx fy fs fc mem ug lt ct hd la bt kindsF waysF) (f_X1_instruction_fy mm fo fa fx fy fc mem ug lt ct hd la bt kindsF waysF) (f_X1_instruction_fs mm fo fx fs fc mem ug lt ct hd la bt kindsF) (f_X1_instruction_fp mm fo fa fx fy fs fp fc mem ug lt ct hd la bt kindsF waysF) (f_X1_instruction_fc mm fo fx fy fs fp fc mem ug lt ct hd la bt kindsF waysF) (f_X1_instruction_mem mm fo fa fx fy fs fp fc mem ug lt ct hd la bt kindsF waysF) (f_X1_instruction_ug mm fo fa fx fy fp fc mem ug lt ct hd la bt kindsF waysF) (f_X1_instruction_ud mm fo fa fx fy fp fc mem ug ud lt ct hd la bt kindsF waysF) (f_X1_instruction_lt mm fo fa fx fy fp fc mem ug lt ct hd la bt kindsF waysF) (f_X1_instruction_ct mm fo fx fy fc mem ug lt ct hd la bt kindsF waysF) (f_X1_instruction_hd mm fo fx fy fc mem ug lt ct hd la bt kindsF waysF) (f_X1_instruction_la mm fo fx fy fc mem ug lt ct hd la bt kindsF waysF) (f_X1_instruction_bt mm fo fa fx fy fp fc mem ug lt ct hd la bt kindsF waysF) (b_gB ug mm gB gA gX gY gS gP gC gR gM gL) (b_gA ug mm gB gA gX gY gS gP gC gR gM gL) (b_gX ug mm gB gA gX gY gS gC gR gM gL) (b_gY ug mm gB gA gX gY gC gR gM gL) (b_gS ug mm gB gX gS gC gR gM gL) (b_gP ug mm gB gA gX gY gS gP gC gR gM gL) (b_gC ug mm gB gS gP gC gR gM gL) (b_gR ug mm gB gA gX gY gP gC gR gM gL) (b_gM ug mm gB gX gY gC gR gM gL) (b_gL ug mm gB gX gY gC gR gM gL) (b_un ug mm gB gA gX gY gP gC gR gM gL) (b_ow ug ud mm gB gA gX gY gP gC gR gM gL) := by
  have fe := sr_fetch hm hB hf hu hC
  obtain ⟨fv, fb, fu, fC⟩ := fe
  obtain rfl : j = 160 := (show ∀ j : Nat, j < 256 → clsF j = 62 → j = 160 by decide +kernel) j hj hc
  have ho : f_X5_fetch_r ug mm gB gC gR gM gL = (160 : Int32) := fv.trans hop
  have hkn : ¬ f_X5_isKnown_r (160 : Int32) = 0 := by decide +kernel
  have hk : kindsF 160 = 18 := by decide +kernel
  have hww : waysF 160 = 1 := by decide +kernel
  have h4 : ¬ (160 : Int32) - (160 : Int32) / 4 * 4 = 1 := by decide +kernel
  have h5 : ¬ (160 : Int32) - (160 : Int32) / 4 * 4 = 2 := by decide +kernel
  have hwy : f_X5_way_r (160 : Int32) = 1 := by decide +kernel
  have hway : s_way 1 := (Or.inl rfl)
  obtain ⟨pe, pw, pu, pC⟩ := sr_place hway hm hB hf fu fC hX hY
  have hpl := s_wn pw
  have e_fa : f_X1_instruction_fa mm fo fa fx fy fs fp fc mem ug lt ct hd la bt kindsF waysF = _ := (Lw_fa hop hj hk hww).trans (n_i_fa_LDYA0)
  have e_fx : f_X1_instruction_fx mm fo fa fx fy fs fc mem ug lt ct hd la bt kindsF waysF = _ := (Lw_fx hop hj hk hww).trans (n_i_fx_LDYA0)
  have e_fy : f_X1_instruction_fy mm fo fa fx fy fc mem ug lt ct hd la bt kindsF waysF = _ := (Lw_fy hop hj hk hww).trans (n_i_fy_LDYA0)
  have e_fs : f_X1_instruction_fs mm fo fx fs fc mem ug lt ct hd la bt kindsF = _ := (Lw_fs hop hj hk).trans (n_i_fs_LDYA0)
  have e_fp : f_X1_instruction_fp mm fo fa fx fy fs fp fc mem ug lt ct hd la bt kindsF waysF = _ := (Lw_fp hop hj hk hww).trans (n_i_fp_LDYA0)
  have e_fc : f_X1_instruction_fc mm fo fx fy fs fp fc mem ug lt ct hd la bt kindsF waysF = _ := (Lw_fc hop hj hk hww).trans (n_i_fc_LDYA0)
  have e_mem : f_X1_instruction_mem mm fo fa fx fy fs fp fc mem ug lt ct hd la bt kindsF waysF = _ := (Lw_mem hop hj hk hww).trans (n_i_mem_LDYA0)
  have e_ug : f_X1_instruction_ug mm fo fa fx fy fp fc mem ug lt ct hd la bt kindsF waysF = _ := (Lw_ug hop hj hk hww).trans (n_i_ug_LDYA0)
  have e_ud : f_X1_instruction_ud mm fo fa fx fy fp fc mem ug ud lt ct hd la bt kindsF waysF = _ := (Lw_ud hop hj hk hww).trans (n_i_ud_LDYA0)
  have e_lt : f_X1_instruction_lt mm fo fa fx fy fp fc mem ug lt ct hd la bt kindsF waysF = _ := (Lw_lt hop hj hk hww).trans (n_i_lt_LDYA0)
  have e_ct : f_X1_instruction_ct mm fo fx fy fc mem ug lt ct hd la bt kindsF waysF = _ := (Lw_ct hop hj hk hww).trans (n_i_ct_LDYA0)
  have e_hd : f_X1_instruction_hd mm fo fx fy fc mem ug lt ct hd la bt kindsF waysF = _ := (Lw_hd hop hj hk hww).trans (n_i_hd_LDYA0)
  have e_la : f_X1_instruction_la mm fo fx fy fc mem ug lt ct hd la bt kindsF waysF = _ := (Lw_la hop hj hk hww).trans (n_i_la_LDYA0)
  have e_bt : f_X1_instruction_bt mm fo fa fx fy fp fc mem ug lt ct hd la bt kindsF waysF = _ := (Lw_bt hop hj hk hww).trans (n_i_bt_LDYA0)
  have g_gB : b_gB ug mm gB gA gX gY gS gP gC gR gM gL = _ := (B_ot_gB ho hkn h4 h5 hwy pe).trans (n_ot_gB_LDYA0)
  have g_gA : b_gA ug mm gB gA gX gY gS gP gC gR gM gL = _ := (B_ot_gA ho hkn h4 h5).trans (n_ot_gA_LDYA0)
  have g_gX : b_gX ug mm gB gA gX gY gS gC gR gM gL = _ := (B_ot_gX ho hkn h4 h5).trans (n_ot_gX_LDYA0)
  have g_gY : b_gY ug mm gB gA gX gY gC gR gM gL = _ := (B_ot_gY ho hkn h4 h5 hwy pe).trans (n_ot_gY_LDYA0)
  have g_gS : b_gS ug mm gB gX gS gC gR gM gL = _ := (B_ot_gS ho hkn h4 h5).trans (n_ot_gS_LDYA0)
  have g_gP : b_gP ug mm gB gA gX gY gS gP gC gR gM gL = _ := (B_ot_gP ho hkn h4 h5 hwy pe).trans (n_ot_gP_LDYA0)
  have g_gC : b_gC ug mm gB gS gP gC gR gM gL = _ := (B_ot_gC ho hkn h4 h5 hwy rfl).trans (n_ot_gC_LDYA0)
  have g_gR : b_gR ug mm gB gA gX gY gP gC gR gM gL = _ := (B_ot_gR ho hkn h4 h5 hwy pe rfl).trans (n_ot_gR_LDYA0)
  have g_gM : b_gM ug mm gB gX gY gC gR gM gL = _ := (B_ot_gM ho hkn h4 h5 hwy pe rfl).trans (n_ot_gM_LDYA0)
  have g_gL : b_gL ug mm gB gX gY gC gR gM gL = _ := (B_ot_gL ho hkn h4 h5 hwy pe rfl).trans (n_ot_gL_LDYA0)
  have g_un : b_un ug mm gB gA gX gY gP gC gR gM gL = _ := (B_ot_un ho hkn h4 h5 hwy pe).trans (n_ot_un_LDYA0)
  have g_ow : b_ow ug ud mm gB gA gX gY gP gC gR gM gL = _ := (B_ot_ow ho hkn h4 h5 hwy pe).trans (n_ot_ow_LDYA0)
  rw [e_fa, e_fx, e_fy, e_fs, e_fp, e_fc, e_mem, e_ug, e_ud, e_lt, e_ct, e_hd, e_la, e_bt, g_gB, g_gA, g_gX, g_gY, g_gS, g_gP, g_gC, g_gR, g_gM, g_gL, g_un, g_ow]
  exact op_LDYA0 hm hB hA hX hY hS hP pC pu pw hf hw
set_option maxRecDepth 100000 in
theorem as_LDYA4 (hm : s_m mm fo) (hB : rm mm gB mem om) (hA : ra mm gA fa oa) (hX : ra mm gX fx ox) (hY : ra mm gY fy oy) (hS : ra mm gS fs os) (hP : rp mm gP fp op) (hC : rc mm gC fc oc) (hu : ru ug lt ct hd la bt gR gM gL) (hf : ∃ j : Nat, j < 64 ∧ ug = nI j) (hw : wB ud) (hj : j < 256) (hop : f_X1_read_r mm fo mem ug lt ct hd la bt fc = nI j) (hc : clsF j = 63) : SR mm oa ox oy os op oc om (f_X1_instruction_fa mm fo fa fx fy fs fp fc mem ug lt ct hd la bt kindsF waysF) (f_X1_instruction_fx mm fo fa fx fy fs fc mem ug lt ct hd la bt kindsF waysF) (f_X1_instruction_fy mm fo fa fx fy fc mem ug lt ct hd la bt kindsF waysF) (f_X1_instruction_fs mm fo fx fs fc mem ug lt ct hd la bt kindsF) (f_X1_instruction_fp mm fo fa fx fy fs fp fc mem ug lt ct hd la bt kindsF waysF) (f_X1_instruction_fc mm fo fx fy fs fp fc mem ug lt ct hd la bt kindsF waysF) (f_X1_instruction_mem mm fo fa fx fy fs fp fc mem ug lt ct hd la bt kindsF waysF) (f_X1_instruction_ug mm fo fa fx fy fp fc mem ug lt ct hd la bt kindsF waysF) (f_X1_instruction_ud mm fo fa fx fy fp fc mem ug ud lt ct hd la bt kindsF waysF) (f_X1_instruction_lt mm fo fa fx fy fp fc mem ug lt ct hd la bt kindsF waysF) (f_X1_instruction_ct mm fo fx fy fc mem ug lt ct hd la bt kindsF waysF) (f_X1_instruction_hd mm fo fx fy fc mem ug lt ct hd la bt kindsF waysF) (f_X1_instruction_la mm fo fx fy fc mem ug lt ct hd la bt kindsF waysF) (f_X1_instruction_bt mm fo fa fx fy fp fc mem ug lt ct hd la bt kindsF waysF) (b_gB ug mm gB gA gX gY gS gP gC gR gM gL) (b_gA ug mm gB gA gX gY gS gP gC gR gM gL) (b_gX ug mm gB gA gX gY gS gC gR gM gL) (b_gY ug mm gB gA gX gY gC gR gM gL) (b_gS ug mm gB gX gS gC gR gM gL) (b_gP ug mm gB gA gX gY gS gP gC gR gM gL) (b_gC ug mm gB gS gP gC gR gM gL) (b_gR ug mm gB gA gX gY gP gC gR gM gL) (b_gM ug mm gB gX gY gC gR gM gL) (b_gL ug mm gB gX gY gC gR gM gL) (b_un ug mm gB gA gX gY gP gC gR gM gL) (b_ow ug ud mm gB gA gX gY gP gC gR gM gL) := by
  have fe := sr_fetch hm hB hf hu hC
  obtain ⟨fv, fb, fu, fC⟩ := fe
  obtain rfl : j = 164 := (show ∀ j : Nat, j < 256 → clsF j = 63 → j = 164 by decide +kernel) j hj hc
  have ho : f_X5_fetch_r ug mm gB gC gR gM gL = (164 : Int32) := fv.trans hop
  have hkn : ¬ f_X5_isKnown_r (164 : Int32) = 0 := by decide +kernel
  have hk : kindsF 164 = 18 := by decide +kernel
  have hww : waysF 164 = 2 := by decide +kernel
  have h4 : ¬ (164 : Int32) - (164 : Int32) / 4 * 4 = 1 := by decide +kernel
  have h5 : ¬ (164 : Int32) - (164 : Int32) / 4 * 4 = 2 := by decide +kernel
  have hwy : f_X5_way_r (164 : Int32) = 2 := by decide +kernel
  have hway : s_way 2 := (Or.inr (Or.inl rfl))
  obtain ⟨pe, pw, pu, pC⟩ := sr_place hway hm hB hf fu fC hX hY
  have hpl := s_wn pw
  have e_fa : f_X1_instruction_fa mm fo fa fx fy fs fp fc mem ug lt ct hd la bt kindsF waysF = _ := (Lw_fa hop hj hk hww).trans (n_i_fa_LDYA0)
  have e_fx : f_X1_instruction_fx mm fo fa fx fy fs fc mem ug lt ct hd la bt kindsF waysF = _ := (Lw_fx hop hj hk hww).trans (n_i_fx_LDYA0)
  have e_fy : f_X1_instruction_fy mm fo fa fx fy fc mem ug lt ct hd la bt kindsF waysF = _ := (Lw_fy hop hj hk hww).trans (n_i_fy_LDYA0)
  have e_fs : f_X1_instruction_fs mm fo fx fs fc mem ug lt ct hd la bt kindsF = _ := (Lw_fs hop hj hk).trans (n_i_fs_LDYA0)
  have e_fp : f_X1_instruction_fp mm fo fa fx fy fs fp fc mem ug lt ct hd la bt kindsF waysF = _ := (Lw_fp hop hj hk hww).trans (n_i_fp_LDYA0)
  have e_fc : f_X1_instruction_fc mm fo fx fy fs fp fc mem ug lt ct hd la bt kindsF waysF = _ := (Lw_fc hop hj hk hww).trans (n_i_fc_LDYA0)
  have e_mem : f_X1_instruction_mem mm fo fa fx fy fs fp fc mem ug lt ct hd la bt kindsF waysF = _ := (Lw_mem hop hj hk hww).trans (n_i_mem_LDYA0)
  have e_ug : f_X1_instruction_ug mm fo fa fx fy fp fc mem ug lt ct hd la bt kindsF waysF = _ := (Lw_ug hop hj hk hww).trans (n_i_ug_LDYA0)
  have e_ud : f_X1_instruction_ud mm fo fa fx fy fp fc mem ug ud lt ct hd la bt kindsF waysF = _ := (Lw_ud hop hj hk hww).trans (n_i_ud_LDYA0)
  have e_lt : f_X1_instruction_lt mm fo fa fx fy fp fc mem ug lt ct hd la bt kindsF waysF = _ := (Lw_lt hop hj hk hww).trans (n_i_lt_LDYA0)
  have e_ct : f_X1_instruction_ct mm fo fx fy fc mem ug lt ct hd la bt kindsF waysF = _ := (Lw_ct hop hj hk hww).trans (n_i_ct_LDYA0)
  have e_hd : f_X1_instruction_hd mm fo fx fy fc mem ug lt ct hd la bt kindsF waysF = _ := (Lw_hd hop hj hk hww).trans (n_i_hd_LDYA0)
  have e_la : f_X1_instruction_la mm fo fx fy fc mem ug lt ct hd la bt kindsF waysF = _ := (Lw_la hop hj hk hww).trans (n_i_la_LDYA0)
  have e_bt : f_X1_instruction_bt mm fo fa fx fy fp fc mem ug lt ct hd la bt kindsF waysF = _ := (Lw_bt hop hj hk hww).trans (n_i_bt_LDYA0)
  have g_gB : b_gB ug mm gB gA gX gY gS gP gC gR gM gL = _ := (B_ot_gB ho hkn h4 h5 hwy pe).trans (n_ot_gB_LDYA4)
  have g_gA : b_gA ug mm gB gA gX gY gS gP gC gR gM gL = _ := (B_ot_gA ho hkn h4 h5).trans (n_ot_gA_LDYA4)
  have g_gX : b_gX ug mm gB gA gX gY gS gC gR gM gL = _ := (B_ot_gX ho hkn h4 h5).trans (n_ot_gX_LDYA4)
  have g_gY : b_gY ug mm gB gA gX gY gC gR gM gL = _ := (B_ot_gY ho hkn h4 h5 hwy pe).trans (n_ot_gY_LDYA4)
  have g_gS : b_gS ug mm gB gX gS gC gR gM gL = _ := (B_ot_gS ho hkn h4 h5).trans (n_ot_gS_LDYA4)
  have g_gP : b_gP ug mm gB gA gX gY gS gP gC gR gM gL = _ := (B_ot_gP ho hkn h4 h5 hwy pe).trans (n_ot_gP_LDYA4)
  have g_gC : b_gC ug mm gB gS gP gC gR gM gL = _ := (B_ot_gC ho hkn h4 h5 hwy rfl).trans (n_ot_gC_LDYA4)
  have g_gR : b_gR ug mm gB gA gX gY gP gC gR gM gL = _ := (B_ot_gR ho hkn h4 h5 hwy pe rfl).trans (n_ot_gR_LDYA4)
  have g_gM : b_gM ug mm gB gX gY gC gR gM gL = _ := (B_ot_gM ho hkn h4 h5 hwy pe rfl).trans (n_ot_gM_LDYA4)
  have g_gL : b_gL ug mm gB gX gY gC gR gM gL = _ := (B_ot_gL ho hkn h4 h5 hwy pe rfl).trans (n_ot_gL_LDYA4)
  have g_un : b_un ug mm gB gA gX gY gP gC gR gM gL = _ := (B_ot_un ho hkn h4 h5 hwy pe).trans (n_ot_un_LDYA4)
  have g_ow : b_ow ug ud mm gB gA gX gY gP gC gR gM gL = _ := (B_ot_ow ho hkn h4 h5 hwy pe).trans (n_ot_ow_LDYA4)
  rw [e_fa, e_fx, e_fy, e_fs, e_fp, e_fc, e_mem, e_ug, e_ud, e_lt, e_ct, e_hd, e_la, e_bt, g_gB, g_gA, g_gX, g_gY, g_gS, g_gP, g_gC, g_gR, g_gM, g_gL, g_un, g_ow]
  exact op_LDYA4 hm hB hA hX hY hS hP pC pu pw hf hw
set_option maxRecDepth 100000 in
theorem as_LDYB4 (hm : s_m mm fo) (hB : rm mm gB mem om) (hA : ra mm gA fa oa) (hX : ra mm gX fx ox) (hY : ra mm gY fy oy) (hS : ra mm gS fs os) (hP : rp mm gP fp op) (hC : rc mm gC fc oc) (hu : ru ug lt ct hd la bt gR gM gL) (hf : ∃ j : Nat, j < 64 ∧ ug = nI j) (hw : wB ud) (hj : j < 256) (hop : f_X1_read_r mm fo mem ug lt ct hd la bt fc = nI j) (hc : clsF j = 64) : SR mm oa ox oy os op oc om (f_X1_instruction_fa mm fo fa fx fy fs fp fc mem ug lt ct hd la bt kindsF waysF) (f_X1_instruction_fx mm fo fa fx fy fs fc mem ug lt ct hd la bt kindsF waysF) (f_X1_instruction_fy mm fo fa fx fy fc mem ug lt ct hd la bt kindsF waysF) (f_X1_instruction_fs mm fo fx fs fc mem ug lt ct hd la bt kindsF) (f_X1_instruction_fp mm fo fa fx fy fs fp fc mem ug lt ct hd la bt kindsF waysF) (f_X1_instruction_fc mm fo fx fy fs fp fc mem ug lt ct hd la bt kindsF waysF) (f_X1_instruction_mem mm fo fa fx fy fs fp fc mem ug lt ct hd la bt kindsF waysF) (f_X1_instruction_ug mm fo fa fx fy fp fc mem ug lt ct hd la bt kindsF waysF) (f_X1_instruction_ud mm fo fa fx fy fp fc mem ug ud lt ct hd la bt kindsF waysF) (f_X1_instruction_lt mm fo fa fx fy fp fc mem ug lt ct hd la bt kindsF waysF) (f_X1_instruction_ct mm fo fx fy fc mem ug lt ct hd la bt kindsF waysF) (f_X1_instruction_hd mm fo fx fy fc mem ug lt ct hd la bt kindsF waysF) (f_X1_instruction_la mm fo fx fy fc mem ug lt ct hd la bt kindsF waysF) (f_X1_instruction_bt mm fo fa fx fy fp fc mem ug lt ct hd la bt kindsF waysF) (b_gB ug mm gB gA gX gY gS gP gC gR gM gL) (b_gA ug mm gB gA gX gY gS gP gC gR gM gL) (b_gX ug mm gB gA gX gY gS gC gR gM gL) (b_gY ug mm gB gA gX gY gC gR gM gL) (b_gS ug mm gB gX gS gC gR gM gL) (b_gP ug mm gB gA gX gY gS gP gC gR gM gL) (b_gC ug mm gB gS gP gC gR gM gL) (b_gR ug mm gB gA gX gY gP gC gR gM gL) (b_gM ug mm gB gX gY gC gR gM gL) (b_gL ug mm gB gX gY gC gR gM gL) (b_un ug mm gB gA gX gY gP gC gR gM gL) (b_ow ug ud mm gB gA gX gY gP gC gR gM gL) := by
  have fe := sr_fetch hm hB hf hu hC
  obtain ⟨fv, fb, fu, fC⟩ := fe
  obtain rfl : j = 180 := (show ∀ j : Nat, j < 256 → clsF j = 64 → j = 180 by decide +kernel) j hj hc
  have ho : f_X5_fetch_r ug mm gB gC gR gM gL = (180 : Int32) := fv.trans hop
  have hkn : ¬ f_X5_isKnown_r (180 : Int32) = 0 := by decide +kernel
  have hk : kindsF 180 = 18 := by decide +kernel
  have hww : waysF 180 = 3 := by decide +kernel
  have h4 : ¬ (180 : Int32) - (180 : Int32) / 4 * 4 = 1 := by decide +kernel
  have h5 : ¬ (180 : Int32) - (180 : Int32) / 4 * 4 = 2 := by decide +kernel
  have hwy : f_X5_way_r (180 : Int32) = 3 := by decide +kernel
  have hway : s_way 3 := (Or.inr (Or.inr (Or.inl rfl)))
  obtain ⟨pe, pw, pu, pC⟩ := sr_place hway hm hB hf fu fC hX hY
  have hpl := s_wn pw
  have e_fa : f_X1_instruction_fa mm fo fa fx fy fs fp fc mem ug lt ct hd la bt kindsF waysF = _ := (Lw_fa hop hj hk hww).trans (n_i_fa_LDYA0)
  have e_fx : f_X1_instruction_fx mm fo fa fx fy fs fc mem ug lt ct hd la bt kindsF waysF = _ := (Lw_fx hop hj hk hww).trans (n_i_fx_LDYA0)
  have e_fy : f_X1_instruction_fy mm fo fa fx fy fc mem ug lt ct hd la bt kindsF waysF = _ := (Lw_fy hop hj hk hww).trans (n_i_fy_LDYA0)
  have e_fs : f_X1_instruction_fs mm fo fx fs fc mem ug lt ct hd la bt kindsF = _ := (Lw_fs hop hj hk).trans (n_i_fs_LDYA0)
  have e_fp : f_X1_instruction_fp mm fo fa fx fy fs fp fc mem ug lt ct hd la bt kindsF waysF = _ := (Lw_fp hop hj hk hww).trans (n_i_fp_LDYA0)
  have e_fc : f_X1_instruction_fc mm fo fx fy fs fp fc mem ug lt ct hd la bt kindsF waysF = _ := (Lw_fc hop hj hk hww).trans (n_i_fc_LDYA0)
  have e_mem : f_X1_instruction_mem mm fo fa fx fy fs fp fc mem ug lt ct hd la bt kindsF waysF = _ := (Lw_mem hop hj hk hww).trans (n_i_mem_LDYA0)
  have e_ug : f_X1_instruction_ug mm fo fa fx fy fp fc mem ug lt ct hd la bt kindsF waysF = _ := (Lw_ug hop hj hk hww).trans (n_i_ug_LDYA0)
  have e_ud : f_X1_instruction_ud mm fo fa fx fy fp fc mem ug ud lt ct hd la bt kindsF waysF = _ := (Lw_ud hop hj hk hww).trans (n_i_ud_LDYA0)
  have e_lt : f_X1_instruction_lt mm fo fa fx fy fp fc mem ug lt ct hd la bt kindsF waysF = _ := (Lw_lt hop hj hk hww).trans (n_i_lt_LDYA0)
  have e_ct : f_X1_instruction_ct mm fo fx fy fc mem ug lt ct hd la bt kindsF waysF = _ := (Lw_ct hop hj hk hww).trans (n_i_ct_LDYA0)
  have e_hd : f_X1_instruction_hd mm fo fx fy fc mem ug lt ct hd la bt kindsF waysF = _ := (Lw_hd hop hj hk hww).trans (n_i_hd_LDYA0)
  have e_la : f_X1_instruction_la mm fo fx fy fc mem ug lt ct hd la bt kindsF waysF = _ := (Lw_la hop hj hk hww).trans (n_i_la_LDYA0)
  have e_bt : f_X1_instruction_bt mm fo fa fx fy fp fc mem ug lt ct hd la bt kindsF waysF = _ := (Lw_bt hop hj hk hww).trans (n_i_bt_LDYA0)
  have g_gB : b_gB ug mm gB gA gX gY gS gP gC gR gM gL = _ := (B_ot_gB ho hkn h4 h5 hwy pe).trans (n_ot_gB_LDYB4)
  have g_gA : b_gA ug mm gB gA gX gY gS gP gC gR gM gL = _ := (B_ot_gA ho hkn h4 h5).trans (n_ot_gA_LDYB4)
  have g_gX : b_gX ug mm gB gA gX gY gS gC gR gM gL = _ := (B_ot_gX ho hkn h4 h5).trans (n_ot_gX_LDYB4)
  have g_gY : b_gY ug mm gB gA gX gY gC gR gM gL = _ := (B_ot_gY ho hkn h4 h5 hwy pe).trans (n_ot_gY_LDYB4)
  have g_gS : b_gS ug mm gB gX gS gC gR gM gL = _ := (B_ot_gS ho hkn h4 h5).trans (n_ot_gS_LDYB4)
  have g_gP : b_gP ug mm gB gA gX gY gS gP gC gR gM gL = _ := (B_ot_gP ho hkn h4 h5 hwy pe).trans (n_ot_gP_LDYB4)
  have g_gC : b_gC ug mm gB gS gP gC gR gM gL = _ := (B_ot_gC ho hkn h4 h5 hwy rfl).trans (n_ot_gC_LDYB4)
  have g_gR : b_gR ug mm gB gA gX gY gP gC gR gM gL = _ := (B_ot_gR ho hkn h4 h5 hwy pe rfl).trans (n_ot_gR_LDYB4)
  have g_gM : b_gM ug mm gB gX gY gC gR gM gL = _ := (B_ot_gM ho hkn h4 h5 hwy pe rfl).trans (n_ot_gM_LDYB4)
  have g_gL : b_gL ug mm gB gX gY gC gR gM gL = _ := (B_ot_gL ho hkn h4 h5 hwy pe rfl).trans (n_ot_gL_LDYB4)
  have g_un : b_un ug mm gB gA gX gY gP gC gR gM gL = _ := (B_ot_un ho hkn h4 h5 hwy pe).trans (n_ot_un_LDYB4)
  have g_ow : b_ow ug ud mm gB gA gX gY gP gC gR gM gL = _ := (B_ot_ow ho hkn h4 h5 hwy pe).trans (n_ot_ow_LDYB4)
  rw [e_fa, e_fx, e_fy, e_fs, e_fp, e_fc, e_mem, e_ug, e_ud, e_lt, e_ct, e_hd, e_la, e_bt, g_gB, g_gA, g_gX, g_gY, g_gS, g_gP, g_gC, g_gR, g_gM, g_gL, g_un, g_ow]
  exact op_LDYB4 hm hB hA hX hY hS hP pC pu pw hf hw
set_option maxRecDepth 100000 in
theorem as_LDYAC (hm : s_m mm fo) (hB : rm mm gB mem om) (hA : ra mm gA fa oa) (hX : ra mm gX fx ox) (hY : ra mm gY fy oy) (hS : ra mm gS fs os) (hP : rp mm gP fp op) (hC : rc mm gC fc oc) (hu : ru ug lt ct hd la bt gR gM gL) (hf : ∃ j : Nat, j < 64 ∧ ug = nI j) (hw : wB ud) (hj : j < 256) (hop : f_X1_read_r mm fo mem ug lt ct hd la bt fc = nI j) (hc : clsF j = 65) : SR mm oa ox oy os op oc om (f_X1_instruction_fa mm fo fa fx fy fs fp fc mem ug lt ct hd la bt kindsF waysF) (f_X1_instruction_fx mm fo fa fx fy fs fc mem ug lt ct hd la bt kindsF waysF) (f_X1_instruction_fy mm fo fa fx fy fc mem ug lt ct hd la bt kindsF waysF) (f_X1_instruction_fs mm fo fx fs fc mem ug lt ct hd la bt kindsF) (f_X1_instruction_fp mm fo fa fx fy fs fp fc mem ug lt ct hd la bt kindsF waysF) (f_X1_instruction_fc mm fo fx fy fs fp fc mem ug lt ct hd la bt kindsF waysF) (f_X1_instruction_mem mm fo fa fx fy fs fp fc mem ug lt ct hd la bt kindsF waysF) (f_X1_instruction_ug mm fo fa fx fy fp fc mem ug lt ct hd la bt kindsF waysF) (f_X1_instruction_ud mm fo fa fx fy fp fc mem ug ud lt ct hd la bt kindsF waysF) (f_X1_instruction_lt mm fo fa fx fy fp fc mem ug lt ct hd la bt kindsF waysF) (f_X1_instruction_ct mm fo fx fy fc mem ug lt ct hd la bt kindsF waysF) (f_X1_instruction_hd mm fo fx fy fc mem ug lt ct hd la bt kindsF waysF) (f_X1_instruction_la mm fo fx fy fc mem ug lt ct hd la bt kindsF waysF) (f_X1_instruction_bt mm fo fa fx fy fp fc mem ug lt ct hd la bt kindsF waysF) (b_gB ug mm gB gA gX gY gS gP gC gR gM gL) (b_gA ug mm gB gA gX gY gS gP gC gR gM gL) (b_gX ug mm gB gA gX gY gS gC gR gM gL) (b_gY ug mm gB gA gX gY gC gR gM gL) (b_gS ug mm gB gX gS gC gR gM gL) (b_gP ug mm gB gA gX gY gS gP gC gR gM gL) (b_gC ug mm gB gS gP gC gR gM gL) (b_gR ug mm gB gA gX gY gP gC gR gM gL) (b_gM ug mm gB gX gY gC gR gM gL) (b_gL ug mm gB gX gY gC gR gM gL) (b_un ug mm gB gA gX gY gP gC gR gM gL) (b_ow ug ud mm gB gA gX gY gP gC gR gM gL) := by
  have fe := sr_fetch hm hB hf hu hC
  obtain ⟨fv, fb, fu, fC⟩ := fe
  obtain rfl : j = 172 := (show ∀ j : Nat, j < 256 → clsF j = 65 → j = 172 by decide +kernel) j hj hc
  have ho : f_X5_fetch_r ug mm gB gC gR gM gL = (172 : Int32) := fv.trans hop
  have hkn : ¬ f_X5_isKnown_r (172 : Int32) = 0 := by decide +kernel
  have hk : kindsF 172 = 18 := by decide +kernel
  have hww : waysF 172 = 5 := by decide +kernel
  have h4 : ¬ (172 : Int32) - (172 : Int32) / 4 * 4 = 1 := by decide +kernel
  have h5 : ¬ (172 : Int32) - (172 : Int32) / 4 * 4 = 2 := by decide +kernel
  have hwy : f_X5_way_r (172 : Int32) = 5 := by decide +kernel
  have hway : s_way 5 := (Or.inr (Or.inr (Or.inr (Or.inr (Or.inl rfl)))))
  obtain ⟨pe, pw, pu, pC⟩ := sr_place hway hm hB hf fu fC hX hY
  have hpl := s_wn pw
  have e_fa : f_X1_instruction_fa mm fo fa fx fy fs fp fc mem ug lt ct hd la bt kindsF waysF = _ := (Lw_fa hop hj hk hww).trans (n_i_fa_LDYA0)
  have e_fx : f_X1_instruction_fx mm fo fa fx fy fs fc mem ug lt ct hd la bt kindsF waysF = _ := (Lw_fx hop hj hk hww).trans (n_i_fx_LDYA0)
  have e_fy : f_X1_instruction_fy mm fo fa fx fy fc mem ug lt ct hd la bt kindsF waysF = _ := (Lw_fy hop hj hk hww).trans (n_i_fy_LDYA0)
  have e_fs : f_X1_instruction_fs mm fo fx fs fc mem ug lt ct hd la bt kindsF = _ := (Lw_fs hop hj hk).trans (n_i_fs_LDYA0)
  have e_fp : f_X1_instruction_fp mm fo fa fx fy fs fp fc mem ug lt ct hd la bt kindsF waysF = _ := (Lw_fp hop hj hk hww).trans (n_i_fp_LDYA0)
  have e_fc : f_X1_instruction_fc mm fo fx fy fs fp fc mem ug lt ct hd la bt kindsF waysF = _ := (Lw_fc hop hj hk hww).trans (n_i_fc_LDYA0)
  have e_mem : f_X1_instruction_mem mm fo fa fx fy fs fp fc mem ug lt ct hd la bt kindsF waysF = _ := (Lw_mem hop hj hk hww).trans (n_i_mem_LDYA0)
  have e_ug : f_X1_instruction_ug mm fo fa fx fy fp fc mem ug lt ct hd la bt kindsF waysF = _ := (Lw_ug hop hj hk hww).trans (n_i_ug_LDYA0)
  have e_ud : f_X1_instruction_ud mm fo fa fx fy fp fc mem ug ud lt ct hd la bt kindsF waysF = _ := (Lw_ud hop hj hk hww).trans (n_i_ud_LDYA0)
  have e_lt : f_X1_instruction_lt mm fo fa fx fy fp fc mem ug lt ct hd la bt kindsF waysF = _ := (Lw_lt hop hj hk hww).trans (n_i_lt_LDYA0)
  have e_ct : f_X1_instruction_ct mm fo fx fy fc mem ug lt ct hd la bt kindsF waysF = _ := (Lw_ct hop hj hk hww).trans (n_i_ct_LDYA0)
  have e_hd : f_X1_instruction_hd mm fo fx fy fc mem ug lt ct hd la bt kindsF waysF = _ := (Lw_hd hop hj hk hww).trans (n_i_hd_LDYA0)
  have e_la : f_X1_instruction_la mm fo fx fy fc mem ug lt ct hd la bt kindsF waysF = _ := (Lw_la hop hj hk hww).trans (n_i_la_LDYA0)
  have e_bt : f_X1_instruction_bt mm fo fa fx fy fp fc mem ug lt ct hd la bt kindsF waysF = _ := (Lw_bt hop hj hk hww).trans (n_i_bt_LDYA0)
  have g_gB : b_gB ug mm gB gA gX gY gS gP gC gR gM gL = _ := (B_ot_gB ho hkn h4 h5 hwy pe).trans (n_ot_gB_LDYAC)
  have g_gA : b_gA ug mm gB gA gX gY gS gP gC gR gM gL = _ := (B_ot_gA ho hkn h4 h5).trans (n_ot_gA_LDYAC)
  have g_gX : b_gX ug mm gB gA gX gY gS gC gR gM gL = _ := (B_ot_gX ho hkn h4 h5).trans (n_ot_gX_LDYAC)
  have g_gY : b_gY ug mm gB gA gX gY gC gR gM gL = _ := (B_ot_gY ho hkn h4 h5 hwy pe).trans (n_ot_gY_LDYAC)
  have g_gS : b_gS ug mm gB gX gS gC gR gM gL = _ := (B_ot_gS ho hkn h4 h5).trans (n_ot_gS_LDYAC)
  have g_gP : b_gP ug mm gB gA gX gY gS gP gC gR gM gL = _ := (B_ot_gP ho hkn h4 h5 hwy pe).trans (n_ot_gP_LDYAC)
  have g_gC : b_gC ug mm gB gS gP gC gR gM gL = _ := (B_ot_gC ho hkn h4 h5 hwy rfl).trans (n_ot_gC_LDYAC)
  have g_gR : b_gR ug mm gB gA gX gY gP gC gR gM gL = _ := (B_ot_gR ho hkn h4 h5 hwy pe rfl).trans (n_ot_gR_LDYAC)
  have g_gM : b_gM ug mm gB gX gY gC gR gM gL = _ := (B_ot_gM ho hkn h4 h5 hwy pe rfl).trans (n_ot_gM_LDYAC)
  have g_gL : b_gL ug mm gB gX gY gC gR gM gL = _ := (B_ot_gL ho hkn h4 h5 hwy pe rfl).trans (n_ot_gL_LDYAC)
  have g_un : b_un ug mm gB gA gX gY gP gC gR gM gL = _ := (B_ot_un ho hkn h4 h5 hwy pe).trans (n_ot_un_LDYAC)
  have g_ow : b_ow ug ud mm gB gA gX gY gP gC gR gM gL = _ := (B_ot_ow ho hkn h4 h5 hwy pe).trans (n_ot_ow_LDYAC)
  rw [e_fa, e_fx, e_fy, e_fs, e_fp, e_fc, e_mem, e_ug, e_ud, e_lt, e_ct, e_hd, e_la, e_bt, g_gB, g_gA, g_gX, g_gY, g_gS, g_gP, g_gC, g_gR, g_gM, g_gL, g_un, g_ow]
  exact op_LDYAC hm hB hA hX hY hS hP pC pu pw hf hw
set_option maxRecDepth 100000 in
theorem as_LDYBC (hm : s_m mm fo) (hB : rm mm gB mem om) (hA : ra mm gA fa oa) (hX : ra mm gX fx ox) (hY : ra mm gY fy oy) (hS : ra mm gS fs os) (hP : rp mm gP fp op) (hC : rc mm gC fc oc) (hu : ru ug lt ct hd la bt gR gM gL) (hf : ∃ j : Nat, j < 64 ∧ ug = nI j) (hw : wB ud) (hj : j < 256) (hop : f_X1_read_r mm fo mem ug lt ct hd la bt fc = nI j) (hc : clsF j = 66) : SR mm oa ox oy os op oc om (f_X1_instruction_fa mm fo fa fx fy fs fp fc mem ug lt ct hd la bt kindsF waysF) (f_X1_instruction_fx mm fo fa fx fy fs fc mem ug lt ct hd la bt kindsF waysF) (f_X1_instruction_fy mm fo fa fx fy fc mem ug lt ct hd la bt kindsF waysF) (f_X1_instruction_fs mm fo fx fs fc mem ug lt ct hd la bt kindsF) (f_X1_instruction_fp mm fo fa fx fy fs fp fc mem ug lt ct hd la bt kindsF waysF) (f_X1_instruction_fc mm fo fx fy fs fp fc mem ug lt ct hd la bt kindsF waysF) (f_X1_instruction_mem mm fo fa fx fy fs fp fc mem ug lt ct hd la bt kindsF waysF) (f_X1_instruction_ug mm fo fa fx fy fp fc mem ug lt ct hd la bt kindsF waysF) (f_X1_instruction_ud mm fo fa fx fy fp fc mem ug ud lt ct hd la bt kindsF waysF) (f_X1_instruction_lt mm fo fa fx fy fp fc mem ug lt ct hd la bt kindsF waysF) (f_X1_instruction_ct mm fo fx fy fc mem ug lt ct hd la bt kindsF waysF) (f_X1_instruction_hd mm fo fx fy fc mem ug lt ct hd la bt kindsF waysF) (f_X1_instruction_la mm fo fx fy fc mem ug lt ct hd la bt kindsF waysF) (f_X1_instruction_bt mm fo fa fx fy fp fc mem ug lt ct hd la bt kindsF waysF) (b_gB ug mm gB gA gX gY gS gP gC gR gM gL) (b_gA ug mm gB gA gX gY gS gP gC gR gM gL) (b_gX ug mm gB gA gX gY gS gC gR gM gL) (b_gY ug mm gB gA gX gY gC gR gM gL) (b_gS ug mm gB gX gS gC gR gM gL) (b_gP ug mm gB gA gX gY gS gP gC gR gM gL) (b_gC ug mm gB gS gP gC gR gM gL) (b_gR ug mm gB gA gX gY gP gC gR gM gL) (b_gM ug mm gB gX gY gC gR gM gL) (b_gL ug mm gB gX gY gC gR gM gL) (b_un ug mm gB gA gX gY gP gC gR gM gL) (b_ow ug ud mm gB gA gX gY gP gC gR gM gL) := by
  have fe := sr_fetch hm hB hf hu hC
  obtain ⟨fv, fb, fu, fC⟩ := fe
  obtain rfl : j = 188 := (show ∀ j : Nat, j < 256 → clsF j = 66 → j = 188 by decide +kernel) j hj hc
  have ho : f_X5_fetch_r ug mm gB gC gR gM gL = (188 : Int32) := fv.trans hop
  have hkn : ¬ f_X5_isKnown_r (188 : Int32) = 0 := by decide +kernel
  have hk : kindsF 188 = 18 := by decide +kernel
  have hww : waysF 188 = 6 := by decide +kernel
  have h4 : ¬ (188 : Int32) - (188 : Int32) / 4 * 4 = 1 := by decide +kernel
  have h5 : ¬ (188 : Int32) - (188 : Int32) / 4 * 4 = 2 := by decide +kernel
  have hwy : f_X5_way_r (188 : Int32) = 6 := by decide +kernel
  have hway : s_way 6 := (Or.inr (Or.inr (Or.inr (Or.inr (Or.inr (Or.inl rfl))))))
  obtain ⟨pe, pw, pu, pC⟩ := sr_place hway hm hB hf fu fC hX hY
  have hpl := s_wn pw
  have e_fa : f_X1_instruction_fa mm fo fa fx fy fs fp fc mem ug lt ct hd la bt kindsF waysF = _ := (Lw_fa hop hj hk hww).trans (n_i_fa_LDYA0)
  have e_fx : f_X1_instruction_fx mm fo fa fx fy fs fc mem ug lt ct hd la bt kindsF waysF = _ := (Lw_fx hop hj hk hww).trans (n_i_fx_LDYA0)
  have e_fy : f_X1_instruction_fy mm fo fa fx fy fc mem ug lt ct hd la bt kindsF waysF = _ := (Lw_fy hop hj hk hww).trans (n_i_fy_LDYA0)
  have e_fs : f_X1_instruction_fs mm fo fx fs fc mem ug lt ct hd la bt kindsF = _ := (Lw_fs hop hj hk).trans (n_i_fs_LDYA0)
  have e_fp : f_X1_instruction_fp mm fo fa fx fy fs fp fc mem ug lt ct hd la bt kindsF waysF = _ := (Lw_fp hop hj hk hww).trans (n_i_fp_LDYA0)
  have e_fc : f_X1_instruction_fc mm fo fx fy fs fp fc mem ug lt ct hd la bt kindsF waysF = _ := (Lw_fc hop hj hk hww).trans (n_i_fc_LDYA0)
  have e_mem : f_X1_instruction_mem mm fo fa fx fy fs fp fc mem ug lt ct hd la bt kindsF waysF = _ := (Lw_mem hop hj hk hww).trans (n_i_mem_LDYA0)
  have e_ug : f_X1_instruction_ug mm fo fa fx fy fp fc mem ug lt ct hd la bt kindsF waysF = _ := (Lw_ug hop hj hk hww).trans (n_i_ug_LDYA0)
  have e_ud : f_X1_instruction_ud mm fo fa fx fy fp fc mem ug ud lt ct hd la bt kindsF waysF = _ := (Lw_ud hop hj hk hww).trans (n_i_ud_LDYA0)
  have e_lt : f_X1_instruction_lt mm fo fa fx fy fp fc mem ug lt ct hd la bt kindsF waysF = _ := (Lw_lt hop hj hk hww).trans (n_i_lt_LDYA0)
  have e_ct : f_X1_instruction_ct mm fo fx fy fc mem ug lt ct hd la bt kindsF waysF = _ := (Lw_ct hop hj hk hww).trans (n_i_ct_LDYA0)
  have e_hd : f_X1_instruction_hd mm fo fx fy fc mem ug lt ct hd la bt kindsF waysF = _ := (Lw_hd hop hj hk hww).trans (n_i_hd_LDYA0)
  have e_la : f_X1_instruction_la mm fo fx fy fc mem ug lt ct hd la bt kindsF waysF = _ := (Lw_la hop hj hk hww).trans (n_i_la_LDYA0)
  have e_bt : f_X1_instruction_bt mm fo fa fx fy fp fc mem ug lt ct hd la bt kindsF waysF = _ := (Lw_bt hop hj hk hww).trans (n_i_bt_LDYA0)
  have g_gB : b_gB ug mm gB gA gX gY gS gP gC gR gM gL = _ := (B_ot_gB ho hkn h4 h5 hwy pe).trans (n_ot_gB_LDYBC)
  have g_gA : b_gA ug mm gB gA gX gY gS gP gC gR gM gL = _ := (B_ot_gA ho hkn h4 h5).trans (n_ot_gA_LDYBC)
  have g_gX : b_gX ug mm gB gA gX gY gS gC gR gM gL = _ := (B_ot_gX ho hkn h4 h5).trans (n_ot_gX_LDYBC)
  have g_gY : b_gY ug mm gB gA gX gY gC gR gM gL = _ := (B_ot_gY ho hkn h4 h5 hwy pe).trans (n_ot_gY_LDYBC)
  have g_gS : b_gS ug mm gB gX gS gC gR gM gL = _ := (B_ot_gS ho hkn h4 h5).trans (n_ot_gS_LDYBC)
  have g_gP : b_gP ug mm gB gA gX gY gS gP gC gR gM gL = _ := (B_ot_gP ho hkn h4 h5 hwy pe).trans (n_ot_gP_LDYBC)
  have g_gC : b_gC ug mm gB gS gP gC gR gM gL = _ := (B_ot_gC ho hkn h4 h5 hwy rfl).trans (n_ot_gC_LDYBC)
  have g_gR : b_gR ug mm gB gA gX gY gP gC gR gM gL = _ := (B_ot_gR ho hkn h4 h5 hwy pe rfl).trans (n_ot_gR_LDYBC)
  have g_gM : b_gM ug mm gB gX gY gC gR gM gL = _ := (B_ot_gM ho hkn h4 h5 hwy pe rfl).trans (n_ot_gM_LDYBC)
  have g_gL : b_gL ug mm gB gX gY gC gR gM gL = _ := (B_ot_gL ho hkn h4 h5 hwy pe rfl).trans (n_ot_gL_LDYBC)
  have g_un : b_un ug mm gB gA gX gY gP gC gR gM gL = _ := (B_ot_un ho hkn h4 h5 hwy pe).trans (n_ot_un_LDYBC)
  have g_ow : b_ow ug ud mm gB gA gX gY gP gC gR gM gL = _ := (B_ot_ow ho hkn h4 h5 hwy pe).trans (n_ot_ow_LDYBC)
  rw [e_fa, e_fx, e_fy, e_fs, e_fp, e_fc, e_mem, e_ug, e_ud, e_lt, e_ct, e_hd, e_la, e_bt, g_gB, g_gA, g_gX, g_gY, g_gS, g_gP, g_gC, g_gR, g_gM, g_gL, g_un, g_ow]
  exact op_LDYBC hm hB hA hX hY hS hP pC pu pw hf hw
set_option maxRecDepth 100000 in
theorem as_CPYC0 (hm : s_m mm fo) (hB : rm mm gB mem om) (hA : ra mm gA fa oa) (hX : ra mm gX fx ox) (hY : ra mm gY fy oy) (hS : ra mm gS fs os) (hP : rp mm gP fp op) (hC : rc mm gC fc oc) (hu : ru ug lt ct hd la bt gR gM gL) (hf : ∃ j : Nat, j < 64 ∧ ug = nI j) (hw : wB ud) (hj : j < 256) (hop : f_X1_read_r mm fo mem ug lt ct hd la bt fc = nI j) (hc : clsF j = 67) : SR mm oa ox oy os op oc om (f_X1_instruction_fa mm fo fa fx fy fs fp fc mem ug lt ct hd la bt kindsF waysF) (f_X1_instruction_fx mm fo fa fx fy fs fc mem ug lt ct hd la bt kindsF waysF) (f_X1_instruction_fy mm fo fa fx fy fc mem ug lt ct hd la bt kindsF waysF) (f_X1_instruction_fs mm fo fx fs fc mem ug lt ct hd la bt kindsF) (f_X1_instruction_fp mm fo fa fx fy fs fp fc mem ug lt ct hd la bt kindsF waysF) (f_X1_instruction_fc mm fo fx fy fs fp fc mem ug lt ct hd la bt kindsF waysF) (f_X1_instruction_mem mm fo fa fx fy fs fp fc mem ug lt ct hd la bt kindsF waysF) (f_X1_instruction_ug mm fo fa fx fy fp fc mem ug lt ct hd la bt kindsF waysF) (f_X1_instruction_ud mm fo fa fx fy fp fc mem ug ud lt ct hd la bt kindsF waysF) (f_X1_instruction_lt mm fo fa fx fy fp fc mem ug lt ct hd la bt kindsF waysF) (f_X1_instruction_ct mm fo fx fy fc mem ug lt ct hd la bt kindsF waysF) (f_X1_instruction_hd mm fo fx fy fc mem ug lt ct hd la bt kindsF waysF) (f_X1_instruction_la mm fo fx fy fc mem ug lt ct hd la bt kindsF waysF) (f_X1_instruction_bt mm fo fa fx fy fp fc mem ug lt ct hd la bt kindsF waysF) (b_gB ug mm gB gA gX gY gS gP gC gR gM gL) (b_gA ug mm gB gA gX gY gS gP gC gR gM gL) (b_gX ug mm gB gA gX gY gS gC gR gM gL) (b_gY ug mm gB gA gX gY gC gR gM gL) (b_gS ug mm gB gX gS gC gR gM gL) (b_gP ug mm gB gA gX gY gS gP gC gR gM gL) (b_gC ug mm gB gS gP gC gR gM gL) (b_gR ug mm gB gA gX gY gP gC gR gM gL) (b_gM ug mm gB gX gY gC gR gM gL) (b_gL ug mm gB gX gY gC gR gM gL) (b_un ug mm gB gA gX gY gP gC gR gM gL) (b_ow ug ud mm gB gA gX gY gP gC gR gM gL) := by
  have fe := sr_fetch hm hB hf hu hC
  obtain ⟨fv, fb, fu, fC⟩ := fe
  obtain rfl : j = 192 := (show ∀ j : Nat, j < 256 → clsF j = 67 → j = 192 by decide +kernel) j hj hc
  have ho : f_X5_fetch_r ug mm gB gC gR gM gL = (192 : Int32) := fv.trans hop
  have hkn : ¬ f_X5_isKnown_r (192 : Int32) = 0 := by decide +kernel
  have hk : kindsF 192 = 26 := by decide +kernel
  have hww : waysF 192 = 1 := by decide +kernel
  have h4 : ¬ (192 : Int32) - (192 : Int32) / 4 * 4 = 1 := by decide +kernel
  have h5 : ¬ (192 : Int32) - (192 : Int32) / 4 * 4 = 2 := by decide +kernel
  have hwy : f_X5_way_r (192 : Int32) = 1 := by decide +kernel
  have hway : s_way 1 := (Or.inl rfl)
  obtain ⟨pe, pw, pu, pC⟩ := sr_place hway hm hB hf fu fC hX hY
  have hpl := s_wn pw
  have e_fa : f_X1_instruction_fa mm fo fa fx fy fs fp fc mem ug lt ct hd la bt kindsF waysF = _ := (Lw_fa hop hj hk hww).trans (n_i_fa_CPYC0)
  have e_fx : f_X1_instruction_fx mm fo fa fx fy fs fc mem ug lt ct hd la bt kindsF waysF = _ := (Lw_fx hop hj hk hww).trans (n_i_fx_CPYC0)
  have e_fy : f_X1_instruction_fy mm fo fa fx fy fc mem ug lt ct hd la bt kindsF waysF = _ := (Lw_fy hop hj hk hww).trans (n_i_fy_CPYC0)
  have e_fs : f_X1_instruction_fs mm fo fx fs fc mem ug lt ct hd la bt kindsF = _ := (Lw_fs hop hj hk).trans (n_i_fs_CPYC0)
  have e_fp : f_X1_instruction_fp mm fo fa fx fy fs fp fc mem ug lt ct hd la bt kindsF waysF = _ := (Lw_fp hop hj hk hww).trans (n_i_fp_CPYC0)
  have e_fc : f_X1_instruction_fc mm fo fx fy fs fp fc mem ug lt ct hd la bt kindsF waysF = _ := (Lw_fc hop hj hk hww).trans (n_i_fc_CPYC0)
  have e_mem : f_X1_instruction_mem mm fo fa fx fy fs fp fc mem ug lt ct hd la bt kindsF waysF = _ := (Lw_mem hop hj hk hww).trans (n_i_mem_CPYC0)
  have e_ug : f_X1_instruction_ug mm fo fa fx fy fp fc mem ug lt ct hd la bt kindsF waysF = _ := (Lw_ug hop hj hk hww).trans (n_i_ug_CPYC0)
  have e_ud : f_X1_instruction_ud mm fo fa fx fy fp fc mem ug ud lt ct hd la bt kindsF waysF = _ := (Lw_ud hop hj hk hww).trans (n_i_ud_CPYC0)
  have e_lt : f_X1_instruction_lt mm fo fa fx fy fp fc mem ug lt ct hd la bt kindsF waysF = _ := (Lw_lt hop hj hk hww).trans (n_i_lt_CPYC0)
  have e_ct : f_X1_instruction_ct mm fo fx fy fc mem ug lt ct hd la bt kindsF waysF = _ := (Lw_ct hop hj hk hww).trans (n_i_ct_CPYC0)
  have e_hd : f_X1_instruction_hd mm fo fx fy fc mem ug lt ct hd la bt kindsF waysF = _ := (Lw_hd hop hj hk hww).trans (n_i_hd_CPYC0)
  have e_la : f_X1_instruction_la mm fo fx fy fc mem ug lt ct hd la bt kindsF waysF = _ := (Lw_la hop hj hk hww).trans (n_i_la_CPYC0)
  have e_bt : f_X1_instruction_bt mm fo fa fx fy fp fc mem ug lt ct hd la bt kindsF waysF = _ := (Lw_bt hop hj hk hww).trans (n_i_bt_CPYC0)
  have g_gB : b_gB ug mm gB gA gX gY gS gP gC gR gM gL = _ := (B_ot_gB ho hkn h4 h5 hwy pe).trans (n_ot_gB_CPYC0)
  have g_gA : b_gA ug mm gB gA gX gY gS gP gC gR gM gL = _ := (B_ot_gA ho hkn h4 h5).trans (n_ot_gA_CPYC0)
  have g_gX : b_gX ug mm gB gA gX gY gS gC gR gM gL = _ := (B_ot_gX ho hkn h4 h5).trans (n_ot_gX_CPYC0)
  have g_gY : b_gY ug mm gB gA gX gY gC gR gM gL = _ := (B_ot_gY ho hkn h4 h5 hwy pe).trans (n_ot_gY_CPYC0)
  have g_gS : b_gS ug mm gB gX gS gC gR gM gL = _ := (B_ot_gS ho hkn h4 h5).trans (n_ot_gS_CPYC0)
  have g_gP : b_gP ug mm gB gA gX gY gS gP gC gR gM gL = _ := (B_ot_gP ho hkn h4 h5 hwy pe).trans (n_ot_gP_CPYC0)
  have g_gC : b_gC ug mm gB gS gP gC gR gM gL = _ := (B_ot_gC ho hkn h4 h5 hwy rfl).trans (n_ot_gC_CPYC0)
  have g_gR : b_gR ug mm gB gA gX gY gP gC gR gM gL = _ := (B_ot_gR ho hkn h4 h5 hwy pe rfl).trans (n_ot_gR_CPYC0)
  have g_gM : b_gM ug mm gB gX gY gC gR gM gL = _ := (B_ot_gM ho hkn h4 h5 hwy pe rfl).trans (n_ot_gM_CPYC0)
  have g_gL : b_gL ug mm gB gX gY gC gR gM gL = _ := (B_ot_gL ho hkn h4 h5 hwy pe rfl).trans (n_ot_gL_CPYC0)
  have g_un : b_un ug mm gB gA gX gY gP gC gR gM gL = _ := (B_ot_un ho hkn h4 h5 hwy pe).trans (n_ot_un_CPYC0)
  have g_ow : b_ow ug ud mm gB gA gX gY gP gC gR gM gL = _ := (B_ot_ow ho hkn h4 h5 hwy pe).trans (n_ot_ow_CPYC0)
  rw [e_fa, e_fx, e_fy, e_fs, e_fp, e_fc, e_mem, e_ug, e_ud, e_lt, e_ct, e_hd, e_la, e_bt, g_gB, g_gA, g_gX, g_gY, g_gS, g_gP, g_gC, g_gR, g_gM, g_gL, g_un, g_ow]
  exact op_CPYC0 hm hB hA hX hY hS hP pC pu pw hf hw
set_option maxRecDepth 100000 in
theorem as_CPYC4 (hm : s_m mm fo) (hB : rm mm gB mem om) (hA : ra mm gA fa oa) (hX : ra mm gX fx ox) (hY : ra mm gY fy oy) (hS : ra mm gS fs os) (hP : rp mm gP fp op) (hC : rc mm gC fc oc) (hu : ru ug lt ct hd la bt gR gM gL) (hf : ∃ j : Nat, j < 64 ∧ ug = nI j) (hw : wB ud) (hj : j < 256) (hop : f_X1_read_r mm fo mem ug lt ct hd la bt fc = nI j) (hc : clsF j = 68) : SR mm oa ox oy os op oc om (f_X1_instruction_fa mm fo fa fx fy fs fp fc mem ug lt ct hd la bt kindsF waysF) (f_X1_instruction_fx mm fo fa fx fy fs fc mem ug lt ct hd la bt kindsF waysF) (f_X1_instruction_fy mm fo fa fx fy fc mem ug lt ct hd la bt kindsF waysF) (f_X1_instruction_fs mm fo fx fs fc mem ug lt ct hd la bt kindsF) (f_X1_instruction_fp mm fo fa fx fy fs fp fc mem ug lt ct hd la bt kindsF waysF) (f_X1_instruction_fc mm fo fx fy fs fp fc mem ug lt ct hd la bt kindsF waysF) (f_X1_instruction_mem mm fo fa fx fy fs fp fc mem ug lt ct hd la bt kindsF waysF) (f_X1_instruction_ug mm fo fa fx fy fp fc mem ug lt ct hd la bt kindsF waysF) (f_X1_instruction_ud mm fo fa fx fy fp fc mem ug ud lt ct hd la bt kindsF waysF) (f_X1_instruction_lt mm fo fa fx fy fp fc mem ug lt ct hd la bt kindsF waysF) (f_X1_instruction_ct mm fo fx fy fc mem ug lt ct hd la bt kindsF waysF) (f_X1_instruction_hd mm fo fx fy fc mem ug lt ct hd la bt kindsF waysF) (f_X1_instruction_la mm fo fx fy fc mem ug lt ct hd la bt kindsF waysF) (f_X1_instruction_bt mm fo fa fx fy fp fc mem ug lt ct hd la bt kindsF waysF) (b_gB ug mm gB gA gX gY gS gP gC gR gM gL) (b_gA ug mm gB gA gX gY gS gP gC gR gM gL) (b_gX ug mm gB gA gX gY gS gC gR gM gL) (b_gY ug mm gB gA gX gY gC gR gM gL) (b_gS ug mm gB gX gS gC gR gM gL) (b_gP ug mm gB gA gX gY gS gP gC gR gM gL) (b_gC ug mm gB gS gP gC gR gM gL) (b_gR ug mm gB gA gX gY gP gC gR gM gL) (b_gM ug mm gB gX gY gC gR gM gL) (b_gL ug mm gB gX gY gC gR gM gL) (b_un ug mm gB gA gX gY gP gC gR gM gL) (b_ow ug ud mm gB gA gX gY gP gC gR gM gL) := by
  have fe := sr_fetch hm hB hf hu hC
  obtain ⟨fv, fb, fu, fC⟩ := fe
  obtain rfl : j = 196 := (show ∀ j : Nat, j < 256 → clsF j = 68 → j = 196 by decide +kernel) j hj hc
  have ho : f_X5_fetch_r ug mm gB gC gR gM gL = (196 : Int32) := fv.trans hop
  have hkn : ¬ f_X5_isKnown_r (196 : Int32) = 0 := by decide +kernel
  have hk : kindsF 196 = 26 := by decide +kernel
  have hww : waysF 196 = 2 := by decide +kernel
  have h4 : ¬ (196 : Int32) - (196 : Int32) / 4 * 4 = 1 := by decide +kernel
  have h5 : ¬ (196 : Int32) - (196 : Int32) / 4 * 4 = 2 := by decide +kernel
  have hwy : f_X5_way_r (196 : Int32) = 2 := by decide +kernel
  have hway : s_way 2 := (Or.inr (Or.inl rfl))
  obtain ⟨pe, pw, pu, pC⟩ := sr_place hway hm hB hf fu fC hX hY
  have hpl := s_wn pw
  have e_fa : f_X1_instruction_fa mm fo fa fx fy fs fp fc mem ug lt ct hd la bt kindsF waysF = _ := (Lw_fa hop hj hk hww).trans (n_i_fa_CPYC0)
  have e_fx : f_X1_instruction_fx mm fo fa fx fy fs fc mem ug lt ct hd la bt kindsF waysF = _ := (Lw_fx hop hj hk hww).trans (n_i_fx_CPYC0)
  have e_fy : f_X1_instruction_fy mm fo fa fx fy fc mem ug lt ct hd la bt kindsF waysF = _ := (Lw_fy hop hj hk hww).trans (n_i_fy_CPYC0)
  have e_fs : f_X1_instruction_fs mm fo fx fs fc mem ug lt ct hd la bt kindsF = _ := (Lw_fs hop hj hk).trans (n_i_fs_CPYC0)
  have e_fp : f_X1_instruction_fp mm fo fa fx fy fs fp fc mem ug lt ct hd la bt kindsF waysF = _ := (Lw_fp hop hj hk hww).trans (n_i_fp_CPYC0)
  have e_fc : f_X1_instruction_fc mm fo fx fy fs fp fc mem ug lt ct hd la bt kindsF waysF = _ := (Lw_fc hop hj hk hww).trans (n_i_fc_CPYC0)
  have e_mem : f_X1_instruction_mem mm fo fa fx fy fs fp fc mem ug lt ct hd la bt kindsF waysF = _ := (Lw_mem hop hj hk hww).trans (n_i_mem_CPYC0)
  have e_ug : f_X1_instruction_ug mm fo fa fx fy fp fc mem ug lt ct hd la bt kindsF waysF = _ := (Lw_ug hop hj hk hww).trans (n_i_ug_CPYC0)
  have e_ud : f_X1_instruction_ud mm fo fa fx fy fp fc mem ug ud lt ct hd la bt kindsF waysF = _ := (Lw_ud hop hj hk hww).trans (n_i_ud_CPYC0)
  have e_lt : f_X1_instruction_lt mm fo fa fx fy fp fc mem ug lt ct hd la bt kindsF waysF = _ := (Lw_lt hop hj hk hww).trans (n_i_lt_CPYC0)
  have e_ct : f_X1_instruction_ct mm fo fx fy fc mem ug lt ct hd la bt kindsF waysF = _ := (Lw_ct hop hj hk hww).trans (n_i_ct_CPYC0)
  have e_hd : f_X1_instruction_hd mm fo fx fy fc mem ug lt ct hd la bt kindsF waysF = _ := (Lw_hd hop hj hk hww).trans (n_i_hd_CPYC0)
  have e_la : f_X1_instruction_la mm fo fx fy fc mem ug lt ct hd la bt kindsF waysF = _ := (Lw_la hop hj hk hww).trans (n_i_la_CPYC0)
  have e_bt : f_X1_instruction_bt mm fo fa fx fy fp fc mem ug lt ct hd la bt kindsF waysF = _ := (Lw_bt hop hj hk hww).trans (n_i_bt_CPYC0)
  have g_gB : b_gB ug mm gB gA gX gY gS gP gC gR gM gL = _ := (B_ot_gB ho hkn h4 h5 hwy pe).trans (n_ot_gB_CPYC4)
  have g_gA : b_gA ug mm gB gA gX gY gS gP gC gR gM gL = _ := (B_ot_gA ho hkn h4 h5).trans (n_ot_gA_CPYC4)
  have g_gX : b_gX ug mm gB gA gX gY gS gC gR gM gL = _ := (B_ot_gX ho hkn h4 h5).trans (n_ot_gX_CPYC4)
  have g_gY : b_gY ug mm gB gA gX gY gC gR gM gL = _ := (B_ot_gY ho hkn h4 h5 hwy pe).trans (n_ot_gY_CPYC4)
  have g_gS : b_gS ug mm gB gX gS gC gR gM gL = _ := (B_ot_gS ho hkn h4 h5).trans (n_ot_gS_CPYC4)
  have g_gP : b_gP ug mm gB gA gX gY gS gP gC gR gM gL = _ := (B_ot_gP ho hkn h4 h5 hwy pe).trans (n_ot_gP_CPYC4)
  have g_gC : b_gC ug mm gB gS gP gC gR gM gL = _ := (B_ot_gC ho hkn h4 h5 hwy rfl).trans (n_ot_gC_CPYC4)
  have g_gR : b_gR ug mm gB gA gX gY gP gC gR gM gL = _ := (B_ot_gR ho hkn h4 h5 hwy pe rfl).trans (n_ot_gR_CPYC4)
  have g_gM : b_gM ug mm gB gX gY gC gR gM gL = _ := (B_ot_gM ho hkn h4 h5 hwy pe rfl).trans (n_ot_gM_CPYC4)
  have g_gL : b_gL ug mm gB gX gY gC gR gM gL = _ := (B_ot_gL ho hkn h4 h5 hwy pe rfl).trans (n_ot_gL_CPYC4)
  have g_un : b_un ug mm gB gA gX gY gP gC gR gM gL = _ := (B_ot_un ho hkn h4 h5 hwy pe).trans (n_ot_un_CPYC4)
  have g_ow : b_ow ug ud mm gB gA gX gY gP gC gR gM gL = _ := (B_ot_ow ho hkn h4 h5 hwy pe).trans (n_ot_ow_CPYC4)
  rw [e_fa, e_fx, e_fy, e_fs, e_fp, e_fc, e_mem, e_ug, e_ud, e_lt, e_ct, e_hd, e_la, e_bt, g_gB, g_gA, g_gX, g_gY, g_gS, g_gP, g_gC, g_gR, g_gM, g_gL, g_un, g_ow]
  exact op_CPYC4 hm hB hA hX hY hS hP pC pu pw hf hw
set_option maxRecDepth 100000 in
theorem as_CPYCC (hm : s_m mm fo) (hB : rm mm gB mem om) (hA : ra mm gA fa oa) (hX : ra mm gX fx ox) (hY : ra mm gY fy oy) (hS : ra mm gS fs os) (hP : rp mm gP fp op) (hC : rc mm gC fc oc) (hu : ru ug lt ct hd la bt gR gM gL) (hf : ∃ j : Nat, j < 64 ∧ ug = nI j) (hw : wB ud) (hj : j < 256) (hop : f_X1_read_r mm fo mem ug lt ct hd la bt fc = nI j) (hc : clsF j = 69) : SR mm oa ox oy os op oc om (f_X1_instruction_fa mm fo fa fx fy fs fp fc mem ug lt ct hd la bt kindsF waysF) (f_X1_instruction_fx mm fo fa fx fy fs fc mem ug lt ct hd la bt kindsF waysF) (f_X1_instruction_fy mm fo fa fx fy fc mem ug lt ct hd la bt kindsF waysF) (f_X1_instruction_fs mm fo fx fs fc mem ug lt ct hd la bt kindsF) (f_X1_instruction_fp mm fo fa fx fy fs fp fc mem ug lt ct hd la bt kindsF waysF) (f_X1_instruction_fc mm fo fx fy fs fp fc mem ug lt ct hd la bt kindsF waysF) (f_X1_instruction_mem mm fo fa fx fy fs fp fc mem ug lt ct hd la bt kindsF waysF) (f_X1_instruction_ug mm fo fa fx fy fp fc mem ug lt ct hd la bt kindsF waysF) (f_X1_instruction_ud mm fo fa fx fy fp fc mem ug ud lt ct hd la bt kindsF waysF) (f_X1_instruction_lt mm fo fa fx fy fp fc mem ug lt ct hd la bt kindsF waysF) (f_X1_instruction_ct mm fo fx fy fc mem ug lt ct hd la bt kindsF waysF) (f_X1_instruction_hd mm fo fx fy fc mem ug lt ct hd la bt kindsF waysF) (f_X1_instruction_la mm fo fx fy fc mem ug lt ct hd la bt kindsF waysF) (f_X1_instruction_bt mm fo fa fx fy fp fc mem ug lt ct hd la bt kindsF waysF) (b_gB ug mm gB gA gX gY gS gP gC gR gM gL) (b_gA ug mm gB gA gX gY gS gP gC gR gM gL) (b_gX ug mm gB gA gX gY gS gC gR gM gL) (b_gY ug mm gB gA gX gY gC gR gM gL) (b_gS ug mm gB gX gS gC gR gM gL) (b_gP ug mm gB gA gX gY gS gP gC gR gM gL) (b_gC ug mm gB gS gP gC gR gM gL) (b_gR ug mm gB gA gX gY gP gC gR gM gL) (b_gM ug mm gB gX gY gC gR gM gL) (b_gL ug mm gB gX gY gC gR gM gL) (b_un ug mm gB gA gX gY gP gC gR gM gL) (b_ow ug ud mm gB gA gX gY gP gC gR gM gL) := by
  have fe := sr_fetch hm hB hf hu hC
  obtain ⟨fv, fb, fu, fC⟩ := fe
  obtain rfl : j = 204 := (show ∀ j : Nat, j < 256 → clsF j = 69 → j = 204 by decide +kernel) j hj hc
  have ho : f_X5_fetch_r ug mm gB gC gR gM gL = (204 : Int32) := fv.trans hop
  have hkn : ¬ f_X5_isKnown_r (204 : Int32) = 0 := by decide +kernel
  have hk : kindsF 204 = 26 := by decide +kernel
  have hww : waysF 204 = 5 := by decide +kernel
  have h4 : ¬ (204 : Int32) - (204 : Int32) / 4 * 4 = 1 := by decide +kernel
  have h5 : ¬ (204 : Int32) - (204 : Int32) / 4 * 4 = 2 := by decide +kernel
  have hwy : f_X5_way_r (204 : Int32) = 5 := by decide +kernel
  have hway : s_way 5 := (Or.inr (Or.inr (Or.inr (Or.inr (Or.inl rfl)))))
  obtain ⟨pe, pw, pu, pC⟩ := sr_place hway hm hB hf fu fC hX hY
  have hpl := s_wn pw
  have e_fa : f_X1_instruction_fa mm fo fa fx fy fs fp fc mem ug lt ct hd la bt kindsF waysF = _ := (Lw_fa hop hj hk hww).trans (n_i_fa_CPYC0)
  have e_fx : f_X1_instruction_fx mm fo fa fx fy fs fc mem ug lt ct hd la bt kindsF waysF = _ := (Lw_fx hop hj hk hww).trans (n_i_fx_CPYC0)
  have e_fy : f_X1_instruction_fy mm fo fa fx fy fc mem ug lt ct hd la bt kindsF waysF = _ := (Lw_fy hop hj hk hww).trans (n_i_fy_CPYC0)
  have e_fs : f_X1_instruction_fs mm fo fx fs fc mem ug lt ct hd la bt kindsF = _ := (Lw_fs hop hj hk).trans (n_i_fs_CPYC0)
  have e_fp : f_X1_instruction_fp mm fo fa fx fy fs fp fc mem ug lt ct hd la bt kindsF waysF = _ := (Lw_fp hop hj hk hww).trans (n_i_fp_CPYC0)
  have e_fc : f_X1_instruction_fc mm fo fx fy fs fp fc mem ug lt ct hd la bt kindsF waysF = _ := (Lw_fc hop hj hk hww).trans (n_i_fc_CPYC0)
  have e_mem : f_X1_instruction_mem mm fo fa fx fy fs fp fc mem ug lt ct hd la bt kindsF waysF = _ := (Lw_mem hop hj hk hww).trans (n_i_mem_CPYC0)
  have e_ug : f_X1_instruction_ug mm fo fa fx fy fp fc mem ug lt ct hd la bt kindsF waysF = _ := (Lw_ug hop hj hk hww).trans (n_i_ug_CPYC0)
  have e_ud : f_X1_instruction_ud mm fo fa fx fy fp fc mem ug ud lt ct hd la bt kindsF waysF = _ := (Lw_ud hop hj hk hww).trans (n_i_ud_CPYC0)
  have e_lt : f_X1_instruction_lt mm fo fa fx fy fp fc mem ug lt ct hd la bt kindsF waysF = _ := (Lw_lt hop hj hk hww).trans (n_i_lt_CPYC0)
  have e_ct : f_X1_instruction_ct mm fo fx fy fc mem ug lt ct hd la bt kindsF waysF = _ := (Lw_ct hop hj hk hww).trans (n_i_ct_CPYC0)
  have e_hd : f_X1_instruction_hd mm fo fx fy fc mem ug lt ct hd la bt kindsF waysF = _ := (Lw_hd hop hj hk hww).trans (n_i_hd_CPYC0)
  have e_la : f_X1_instruction_la mm fo fx fy fc mem ug lt ct hd la bt kindsF waysF = _ := (Lw_la hop hj hk hww).trans (n_i_la_CPYC0)
  have e_bt : f_X1_instruction_bt mm fo fa fx fy fp fc mem ug lt ct hd la bt kindsF waysF = _ := (Lw_bt hop hj hk hww).trans (n_i_bt_CPYC0)
  have g_gB : b_gB ug mm gB gA gX gY gS gP gC gR gM gL = _ := (B_ot_gB ho hkn h4 h5 hwy pe).trans (n_ot_gB_CPYCC)
  have g_gA : b_gA ug mm gB gA gX gY gS gP gC gR gM gL = _ := (B_ot_gA ho hkn h4 h5).trans (n_ot_gA_CPYCC)
  have g_gX : b_gX ug mm gB gA gX gY gS gC gR gM gL = _ := (B_ot_gX ho hkn h4 h5).trans (n_ot_gX_CPYCC)
  have g_gY : b_gY ug mm gB gA gX gY gC gR gM gL = _ := (B_ot_gY ho hkn h4 h5 hwy pe).trans (n_ot_gY_CPYCC)
  have g_gS : b_gS ug mm gB gX gS gC gR gM gL = _ := (B_ot_gS ho hkn h4 h5).trans (n_ot_gS_CPYCC)
  have g_gP : b_gP ug mm gB gA gX gY gS gP gC gR gM gL = _ := (B_ot_gP ho hkn h4 h5 hwy pe).trans (n_ot_gP_CPYCC)
  have g_gC : b_gC ug mm gB gS gP gC gR gM gL = _ := (B_ot_gC ho hkn h4 h5 hwy rfl).trans (n_ot_gC_CPYCC)
  have g_gR : b_gR ug mm gB gA gX gY gP gC gR gM gL = _ := (B_ot_gR ho hkn h4 h5 hwy pe rfl).trans (n_ot_gR_CPYCC)
  have g_gM : b_gM ug mm gB gX gY gC gR gM gL = _ := (B_ot_gM ho hkn h4 h5 hwy pe rfl).trans (n_ot_gM_CPYCC)
  have g_gL : b_gL ug mm gB gX gY gC gR gM gL = _ := (B_ot_gL ho hkn h4 h5 hwy pe rfl).trans (n_ot_gL_CPYCC)
  have g_un : b_un ug mm gB gA gX gY gP gC gR gM gL = _ := (B_ot_un ho hkn h4 h5 hwy pe).trans (n_ot_un_CPYCC)
  have g_ow : b_ow ug ud mm gB gA gX gY gP gC gR gM gL = _ := (B_ot_ow ho hkn h4 h5 hwy pe).trans (n_ot_ow_CPYCC)
  rw [e_fa, e_fx, e_fy, e_fs, e_fp, e_fc, e_mem, e_ug, e_ud, e_lt, e_ct, e_hd, e_la, e_bt, g_gB, g_gA, g_gX, g_gY, g_gS, g_gP, g_gC, g_gR, g_gM, g_gL, g_un, g_ow]
  exact op_CPYCC hm hB hA hX hY hS hP pC pu pw hf hw
set_option maxRecDepth 100000 in
theorem as_CPXE0 (hm : s_m mm fo) (hB : rm mm gB mem om) (hA : ra mm gA fa oa) (hX : ra mm gX fx ox) (hY : ra mm gY fy oy) (hS : ra mm gS fs os) (hP : rp mm gP fp op) (hC : rc mm gC fc oc) (hu : ru ug lt ct hd la bt gR gM gL) (hf : ∃ j : Nat, j < 64 ∧ ug = nI j) (hw : wB ud) (hj : j < 256) (hop : f_X1_read_r mm fo mem ug lt ct hd la bt fc = nI j) (hc : clsF j = 70) : SR mm oa ox oy os op oc om (f_X1_instruction_fa mm fo fa fx fy fs fp fc mem ug lt ct hd la bt kindsF waysF) (f_X1_instruction_fx mm fo fa fx fy fs fc mem ug lt ct hd la bt kindsF waysF) (f_X1_instruction_fy mm fo fa fx fy fc mem ug lt ct hd la bt kindsF waysF) (f_X1_instruction_fs mm fo fx fs fc mem ug lt ct hd la bt kindsF) (f_X1_instruction_fp mm fo fa fx fy fs fp fc mem ug lt ct hd la bt kindsF waysF) (f_X1_instruction_fc mm fo fx fy fs fp fc mem ug lt ct hd la bt kindsF waysF) (f_X1_instruction_mem mm fo fa fx fy fs fp fc mem ug lt ct hd la bt kindsF waysF) (f_X1_instruction_ug mm fo fa fx fy fp fc mem ug lt ct hd la bt kindsF waysF) (f_X1_instruction_ud mm fo fa fx fy fp fc mem ug ud lt ct hd la bt kindsF waysF) (f_X1_instruction_lt mm fo fa fx fy fp fc mem ug lt ct hd la bt kindsF waysF) (f_X1_instruction_ct mm fo fx fy fc mem ug lt ct hd la bt kindsF waysF) (f_X1_instruction_hd mm fo fx fy fc mem ug lt ct hd la bt kindsF waysF) (f_X1_instruction_la mm fo fx fy fc mem ug lt ct hd la bt kindsF waysF) (f_X1_instruction_bt mm fo fa fx fy fp fc mem ug lt ct hd la bt kindsF waysF) (b_gB ug mm gB gA gX gY gS gP gC gR gM gL) (b_gA ug mm gB gA gX gY gS gP gC gR gM gL) (b_gX ug mm gB gA gX gY gS gC gR gM gL) (b_gY ug mm gB gA gX gY gC gR gM gL) (b_gS ug mm gB gX gS gC gR gM gL) (b_gP ug mm gB gA gX gY gS gP gC gR gM gL) (b_gC ug mm gB gS gP gC gR gM gL) (b_gR ug mm gB gA gX gY gP gC gR gM gL) (b_gM ug mm gB gX gY gC gR gM gL) (b_gL ug mm gB gX gY gC gR gM gL) (b_un ug mm gB gA gX gY gP gC gR gM gL) (b_ow ug ud mm gB gA gX gY gP gC gR gM gL) := by
  have fe := sr_fetch hm hB hf hu hC
  obtain ⟨fv, fb, fu, fC⟩ := fe
  obtain rfl : j = 224 := (show ∀ j : Nat, j < 256 → clsF j = 70 → j = 224 by decide +kernel) j hj hc
  have ho : f_X5_fetch_r ug mm gB gC gR gM gL = (224 : Int32) := fv.trans hop
  have hkn : ¬ f_X5_isKnown_r (224 : Int32) = 0 := by decide +kernel
  have hk : kindsF 224 = 25 := by decide +kernel
  have hww : waysF 224 = 1 := by decide +kernel
  have h4 : ¬ (224 : Int32) - (224 : Int32) / 4 * 4 = 1 := by decide +kernel
  have h5 : ¬ (224 : Int32) - (224 : Int32) / 4 * 4 = 2 := by decide +kernel
  have hwy : f_X5_way_r (224 : Int32) = 1 := by decide +kernel
  have hway : s_way 1 := (Or.inl rfl)
  obtain ⟨pe, pw, pu, pC⟩ := sr_place hway hm hB hf fu fC hX hY
  have hpl := s_wn pw
  have e_fa : f_X1_instruction_fa mm fo fa fx fy fs fp fc mem ug lt ct hd la bt kindsF waysF = _ := (Lw_fa hop hj hk hww).trans (n_i_fa_CPXE0)
  have e_fx : f_X1_instruction_fx mm fo fa fx fy fs fc mem ug lt ct hd la bt kindsF waysF = _ := (Lw_fx hop hj hk hww).trans (n_i_fx_CPXE0)
  have e_fy : f_X1_instruction_fy mm fo fa fx fy fc mem ug lt ct hd la bt kindsF waysF = _ := (Lw_fy hop hj hk hww).trans (n_i_fy_CPXE0)
  have e_fs : f_X1_instruction_fs mm fo fx fs fc mem ug lt ct hd la bt kindsF = _ := (Lw_fs hop hj hk).trans (n_i_fs_CPXE0)
  have e_fp : f_X1_instruction_fp mm fo fa fx fy fs fp fc mem ug lt ct hd la bt kindsF waysF = _ := (Lw_fp hop hj hk hww).trans (n_i_fp_CPXE0)
  have e_fc : f_X1_instruction_fc mm fo fx fy fs fp fc mem ug lt ct hd la bt kindsF waysF = _ := (Lw_fc hop hj hk hww).trans (n_i_fc_CPXE0)
  have e_mem : f_X1_instruction_mem mm fo fa fx fy fs fp fc mem ug lt ct hd la bt kindsF waysF = _ := (Lw_mem hop hj hk hww).trans (n_i_mem_CPXE0)
  have e_ug : f_X1_instruction_ug mm fo fa fx fy fp fc mem ug lt ct hd la bt kindsF waysF = _ := (Lw_ug hop hj hk hww).trans (n_i_ug_CPXE0)
  have e_ud : f_X1_instruction_ud mm fo fa fx fy fp fc mem ug ud lt ct hd la bt kindsF waysF = _ := (Lw_ud hop hj hk hww).trans (n_i_ud_CPXE0)
  have e_lt : f_X1_instruction_lt mm fo fa fx fy fp fc mem ug lt ct hd la bt kindsF waysF = _ := (Lw_lt hop hj hk hww).trans (n_i_lt_CPXE0)
  have e_ct : f_X1_instruction_ct mm fo fx fy fc mem ug lt ct hd la bt kindsF waysF = _ := (Lw_ct hop hj hk hww).trans (n_i_ct_CPXE0)
  have e_hd : f_X1_instruction_hd mm fo fx fy fc mem ug lt ct hd la bt kindsF waysF = _ := (Lw_hd hop hj hk hww).trans (n_i_hd_CPXE0)
  have e_la : f_X1_instruction_la mm fo fx fy fc mem ug lt ct hd la bt kindsF waysF = _ := (Lw_la hop hj hk hww).trans (n_i_la_CPXE0)
  have e_bt : f_X1_instruction_bt mm fo fa fx fy fp fc mem ug lt ct hd la bt kindsF waysF = _ := (Lw_bt hop hj hk hww).trans (n_i_bt_CPXE0)
  have g_gB : b_gB ug mm gB gA gX gY gS gP gC gR gM gL = _ := (B_ot_gB ho hkn h4 h5 hwy pe).trans (n_ot_gB_CPXE0)
  have g_gA : b_gA ug mm gB gA gX gY gS gP gC gR gM gL = _ := (B_ot_gA ho hkn h4 h5).trans (n_ot_gA_CPXE0)
  have g_gX : b_gX ug mm gB gA gX gY gS gC gR gM gL = _ := (B_ot_gX ho hkn h4 h5).trans (n_ot_gX_CPXE0)
  have g_gY : b_gY ug mm gB gA gX gY gC gR gM gL = _ := (B_ot_gY ho hkn h4 h5 hwy pe).trans (n_ot_gY_CPXE0)
  have g_gS : b_gS ug mm gB gX gS gC gR gM gL = _ := (B_ot_gS ho hkn h4 h5).trans (n_ot_gS_CPXE0)
  have g_gP : b_gP ug mm gB gA gX gY gS gP gC gR gM gL = _ := (B_ot_gP ho hkn h4 h5 hwy pe).trans (n_ot_gP_CPXE0)
  have g_gC : b_gC ug mm gB gS gP gC gR gM gL = _ := (B_ot_gC ho hkn h4 h5 hwy rfl).trans (n_ot_gC_CPXE0)
  have g_gR : b_gR ug mm gB gA gX gY gP gC gR gM gL = _ := (B_ot_gR ho hkn h4 h5 hwy pe rfl).trans (n_ot_gR_CPXE0)
  have g_gM : b_gM ug mm gB gX gY gC gR gM gL = _ := (B_ot_gM ho hkn h4 h5 hwy pe rfl).trans (n_ot_gM_CPXE0)
  have g_gL : b_gL ug mm gB gX gY gC gR gM gL = _ := (B_ot_gL ho hkn h4 h5 hwy pe rfl).trans (n_ot_gL_CPXE0)
  have g_un : b_un ug mm gB gA gX gY gP gC gR gM gL = _ := (B_ot_un ho hkn h4 h5 hwy pe).trans (n_ot_un_CPXE0)
  have g_ow : b_ow ug ud mm gB gA gX gY gP gC gR gM gL = _ := (B_ot_ow ho hkn h4 h5 hwy pe).trans (n_ot_ow_CPXE0)
  rw [e_fa, e_fx, e_fy, e_fs, e_fp, e_fc, e_mem, e_ug, e_ud, e_lt, e_ct, e_hd, e_la, e_bt, g_gB, g_gA, g_gX, g_gY, g_gS, g_gP, g_gC, g_gR, g_gM, g_gL, g_un, g_ow]
  exact op_CPXE0 hm hB hA hX hY hS hP pC pu pw hf hw
set_option maxRecDepth 100000 in
theorem as_CPXE4 (hm : s_m mm fo) (hB : rm mm gB mem om) (hA : ra mm gA fa oa) (hX : ra mm gX fx ox) (hY : ra mm gY fy oy) (hS : ra mm gS fs os) (hP : rp mm gP fp op) (hC : rc mm gC fc oc) (hu : ru ug lt ct hd la bt gR gM gL) (hf : ∃ j : Nat, j < 64 ∧ ug = nI j) (hw : wB ud) (hj : j < 256) (hop : f_X1_read_r mm fo mem ug lt ct hd la bt fc = nI j) (hc : clsF j = 71) : SR mm oa ox oy os op oc om (f_X1_instruction_fa mm fo fa fx fy fs fp fc mem ug lt ct hd la bt kindsF waysF) (f_X1_instruction_fx mm fo fa fx fy fs fc mem ug lt ct hd la bt kindsF waysF) (f_X1_instruction_fy mm fo fa fx fy fc mem ug lt ct hd la bt kindsF waysF) (f_X1_instruction_fs mm fo fx fs fc mem ug lt ct hd la bt kindsF) (f_X1_instruction_fp mm fo fa fx fy fs fp fc mem ug lt ct hd la bt kindsF waysF) (f_X1_instruction_fc mm fo fx fy fs fp fc mem ug lt ct hd la bt kindsF waysF) (f_X1_instruction_mem mm fo fa fx fy fs fp fc mem ug lt ct hd la bt kindsF waysF) (f_X1_instruction_ug mm fo fa fx fy fp fc mem ug lt ct hd la bt kindsF waysF) (f_X1_instruction_ud mm fo fa fx fy fp fc mem ug ud lt ct hd la bt kindsF waysF) (f_X1_instruction_lt mm fo fa fx fy fp fc mem ug lt ct hd la bt kindsF waysF) (f_X1_instruction_ct mm fo fx fy fc mem ug lt ct hd la bt kindsF waysF) (f_X1_instruction_hd mm fo fx fy fc mem ug lt ct hd la bt kindsF waysF) (f_X1_instruction_la mm fo fx fy fc mem ug lt ct hd la bt kindsF waysF) (f_X1_instruction_bt mm fo fa fx fy fp fc mem ug lt ct hd la bt kindsF waysF) (b_gB ug mm gB gA gX gY gS gP gC gR gM gL) (b_gA ug mm gB gA gX gY gS gP gC gR gM gL) (b_gX ug mm gB gA gX gY gS gC gR gM gL) (b_gY ug mm gB gA gX gY gC gR gM gL) (b_gS ug mm gB gX gS gC gR gM gL) (b_gP ug mm gB gA gX gY gS gP gC gR gM gL) (b_gC ug mm gB gS gP gC gR gM gL) (b_gR ug mm gB gA gX gY gP gC gR gM gL) (b_gM ug mm gB gX gY gC gR gM gL) (b_gL ug mm gB gX gY gC gR gM gL) (b_un ug mm gB gA gX gY gP gC gR gM gL) (b_ow ug ud mm gB gA gX gY gP gC gR gM gL) := by
  have fe := sr_fetch hm hB hf hu hC
  obtain ⟨fv, fb, fu, fC⟩ := fe
  obtain rfl : j = 228 := (show ∀ j : Nat, j < 256 → clsF j = 71 → j = 228 by decide +kernel) j hj hc
  have ho : f_X5_fetch_r ug mm gB gC gR gM gL = (228 : Int32) := fv.trans hop
  have hkn : ¬ f_X5_isKnown_r (228 : Int32) = 0 := by decide +kernel
  have hk : kindsF 228 = 25 := by decide +kernel
  have hww : waysF 228 = 2 := by decide +kernel
  have h4 : ¬ (228 : Int32) - (228 : Int32) / 4 * 4 = 1 := by decide +kernel
  have h5 : ¬ (228 : Int32) - (228 : Int32) / 4 * 4 = 2 := by decide +kernel
  have hwy : f_X5_way_r (228 : Int32) = 2 := by decide +kernel
  have hway : s_way 2 := (Or.inr (Or.inl rfl))
  obtain ⟨pe, pw, pu, pC⟩ := sr_place hway hm hB hf fu fC hX hY
  have hpl := s_wn pw
  have e_fa : f_X1_instruction_fa mm fo fa fx fy fs fp fc mem ug lt ct hd la bt kindsF waysF = _ := (Lw_fa hop hj hk hww).trans (n_i_fa_CPXE0)
  have e_fx : f_X1_instruction_fx mm fo fa fx fy fs fc mem ug lt ct hd la bt kindsF waysF = _ := (Lw_fx hop hj hk hww).trans (n_i_fx_CPXE0)
  have e_fy : f_X1_instruction_fy mm fo fa fx fy fc mem ug lt ct hd la bt kindsF waysF = _ := (Lw_fy hop hj hk hww).trans (n_i_fy_CPXE0)
  have e_fs : f_X1_instruction_fs mm fo fx fs fc mem ug lt ct hd la bt kindsF = _ := (Lw_fs hop hj hk).trans (n_i_fs_CPXE0)
  have e_fp : f_X1_instruction_fp mm fo fa fx fy fs fp fc mem ug lt ct hd la bt kindsF waysF = _ := (Lw_fp hop hj hk hww).trans (n_i_fp_CPXE0)
  have e_fc : f_X1_instruction_fc mm fo fx fy fs fp fc mem ug lt ct hd la bt kindsF waysF = _ := (Lw_fc hop hj hk hww).trans (n_i_fc_CPXE0)
  have e_mem : f_X1_instruction_mem mm fo fa fx fy fs fp fc mem ug lt ct hd la bt kindsF waysF = _ := (Lw_mem hop hj hk hww).trans (n_i_mem_CPXE0)
  have e_ug : f_X1_instruction_ug mm fo fa fx fy fp fc mem ug lt ct hd la bt kindsF waysF = _ := (Lw_ug hop hj hk hww).trans (n_i_ug_CPXE0)
  have e_ud : f_X1_instruction_ud mm fo fa fx fy fp fc mem ug ud lt ct hd la bt kindsF waysF = _ := (Lw_ud hop hj hk hww).trans (n_i_ud_CPXE0)
  have e_lt : f_X1_instruction_lt mm fo fa fx fy fp fc mem ug lt ct hd la bt kindsF waysF = _ := (Lw_lt hop hj hk hww).trans (n_i_lt_CPXE0)
  have e_ct : f_X1_instruction_ct mm fo fx fy fc mem ug lt ct hd la bt kindsF waysF = _ := (Lw_ct hop hj hk hww).trans (n_i_ct_CPXE0)
  have e_hd : f_X1_instruction_hd mm fo fx fy fc mem ug lt ct hd la bt kindsF waysF = _ := (Lw_hd hop hj hk hww).trans (n_i_hd_CPXE0)
  have e_la : f_X1_instruction_la mm fo fx fy fc mem ug lt ct hd la bt kindsF waysF = _ := (Lw_la hop hj hk hww).trans (n_i_la_CPXE0)
  have e_bt : f_X1_instruction_bt mm fo fa fx fy fp fc mem ug lt ct hd la bt kindsF waysF = _ := (Lw_bt hop hj hk hww).trans (n_i_bt_CPXE0)
  have g_gB : b_gB ug mm gB gA gX gY gS gP gC gR gM gL = _ := (B_ot_gB ho hkn h4 h5 hwy pe).trans (n_ot_gB_CPXE4)
  have g_gA : b_gA ug mm gB gA gX gY gS gP gC gR gM gL = _ := (B_ot_gA ho hkn h4 h5).trans (n_ot_gA_CPXE4)
  have g_gX : b_gX ug mm gB gA gX gY gS gC gR gM gL = _ := (B_ot_gX ho hkn h4 h5).trans (n_ot_gX_CPXE4)
  have g_gY : b_gY ug mm gB gA gX gY gC gR gM gL = _ := (B_ot_gY ho hkn h4 h5 hwy pe).trans (n_ot_gY_CPXE4)
  have g_gS : b_gS ug mm gB gX gS gC gR gM gL = _ := (B_ot_gS ho hkn h4 h5).trans (n_ot_gS_CPXE4)
  have g_gP : b_gP ug mm gB gA gX gY gS gP gC gR gM gL = _ := (B_ot_gP ho hkn h4 h5 hwy pe).trans (n_ot_gP_CPXE4)
  have g_gC : b_gC ug mm gB gS gP gC gR gM gL = _ := (B_ot_gC ho hkn h4 h5 hwy rfl).trans (n_ot_gC_CPXE4)
  have g_gR : b_gR ug mm gB gA gX gY gP gC gR gM gL = _ := (B_ot_gR ho hkn h4 h5 hwy pe rfl).trans (n_ot_gR_CPXE4)
  have g_gM : b_gM ug mm gB gX gY gC gR gM gL = _ := (B_ot_gM ho hkn h4 h5 hwy pe rfl).trans (n_ot_gM_CPXE4)
  have g_gL : b_gL ug mm gB gX gY gC gR gM gL = _ := (B_ot_gL ho hkn h4 h5 hwy pe rfl).trans (n_ot_gL_CPXE4)
  have g_un : b_un ug mm gB gA gX gY gP gC gR gM gL = _ := (B_ot_un ho hkn h4 h5 hwy pe).trans (n_ot_un_CPXE4)
  have g_ow : b_ow ug ud mm gB gA gX gY gP gC gR gM gL = _ := (B_ot_ow ho hkn h4 h5 hwy pe).trans (n_ot_ow_CPXE4)
  rw [e_fa, e_fx, e_fy, e_fs, e_fp, e_fc, e_mem, e_ug, e_ud, e_lt, e_ct, e_hd, e_la, e_bt, g_gB, g_gA, g_gX, g_gY, g_gS, g_gP, g_gC, g_gR, g_gM, g_gL, g_un, g_ow]
  exact op_CPXE4 hm hB hA hX hY hS hP pC pu pw hf hw
set_option maxRecDepth 100000 in
theorem as_CPXEC (hm : s_m mm fo) (hB : rm mm gB mem om) (hA : ra mm gA fa oa) (hX : ra mm gX fx ox) (hY : ra mm gY fy oy) (hS : ra mm gS fs os) (hP : rp mm gP fp op) (hC : rc mm gC fc oc) (hu : ru ug lt ct hd la bt gR gM gL) (hf : ∃ j : Nat, j < 64 ∧ ug = nI j) (hw : wB ud) (hj : j < 256) (hop : f_X1_read_r mm fo mem ug lt ct hd la bt fc = nI j) (hc : clsF j = 72) : SR mm oa ox oy os op oc om (f_X1_instruction_fa mm fo fa fx fy fs fp fc mem ug lt ct hd la bt kindsF waysF) (f_X1_instruction_fx mm fo fa fx fy fs fc mem ug lt ct hd la bt kindsF waysF) (f_X1_instruction_fy mm fo fa fx fy fc mem ug lt ct hd la bt kindsF waysF) (f_X1_instruction_fs mm fo fx fs fc mem ug lt ct hd la bt kindsF) (f_X1_instruction_fp mm fo fa fx fy fs fp fc mem ug lt ct hd la bt kindsF waysF) (f_X1_instruction_fc mm fo fx fy fs fp fc mem ug lt ct hd la bt kindsF waysF) (f_X1_instruction_mem mm fo fa fx fy fs fp fc mem ug lt ct hd la bt kindsF waysF) (f_X1_instruction_ug mm fo fa fx fy fp fc mem ug lt ct hd la bt kindsF waysF) (f_X1_instruction_ud mm fo fa fx fy fp fc mem ug ud lt ct hd la bt kindsF waysF) (f_X1_instruction_lt mm fo fa fx fy fp fc mem ug lt ct hd la bt kindsF waysF) (f_X1_instruction_ct mm fo fx fy fc mem ug lt ct hd la bt kindsF waysF) (f_X1_instruction_hd mm fo fx fy fc mem ug lt ct hd la bt kindsF waysF) (f_X1_instruction_la mm fo fx fy fc mem ug lt ct hd la bt kindsF waysF) (f_X1_instruction_bt mm fo fa fx fy fp fc mem ug lt ct hd la bt kindsF waysF) (b_gB ug mm gB gA gX gY gS gP gC gR gM gL) (b_gA ug mm gB gA gX gY gS gP gC gR gM gL) (b_gX ug mm gB gA gX gY gS gC gR gM gL) (b_gY ug mm gB gA gX gY gC gR gM gL) (b_gS ug mm gB gX gS gC gR gM gL) (b_gP ug mm gB gA gX gY gS gP gC gR gM gL) (b_gC ug mm gB gS gP gC gR gM gL) (b_gR ug mm gB gA gX gY gP gC gR gM gL) (b_gM ug mm gB gX gY gC gR gM gL) (b_gL ug mm gB gX gY gC gR gM gL) (b_un ug mm gB gA gX gY gP gC gR gM gL) (b_ow ug ud mm gB gA gX gY gP gC gR gM gL) := by
  have fe := sr_fetch hm hB hf hu hC
  obtain ⟨fv, fb, fu, fC⟩ := fe
  obtain rfl : j = 236 := (show ∀ j : Nat, j < 256 → clsF j = 72 → j = 236 by decide +kernel) j hj hc
  have ho : f_X5_fetch_r ug mm gB gC gR gM gL = (236 : Int32) := fv.trans hop
  have hkn : ¬ f_X5_isKnown_r (236 : Int32) = 0 := by decide +kernel
  have hk : kindsF 236 = 25 := by decide +kernel
  have hww : waysF 236 = 5 := by decide +kernel
  have h4 : ¬ (236 : Int32) - (236 : Int32) / 4 * 4 = 1 := by decide +kernel
  have h5 : ¬ (236 : Int32) - (236 : Int32) / 4 * 4 = 2 := by decide +kernel
  have hwy : f_X5_way_r (236 : Int32) = 5 := by decide +kernel
  have hway : s_way 5 := (Or.inr (Or.inr (Or.inr (Or.inr (Or.inl rfl)))))
  obtain ⟨pe, pw, pu, pC⟩ := sr_place hway hm hB hf fu fC hX hY
  have hpl := s_wn pw
  have e_fa : f_X1_instruction_fa mm fo fa fx fy fs fp fc mem ug lt ct hd la bt kindsF waysF = _ := (Lw_fa hop hj hk hww).trans (n_i_fa_CPXE0)
  have e_fx : f_X1_instruction_fx mm fo fa fx fy fs fc mem ug lt ct hd la bt kindsF waysF = _ := (Lw_fx hop hj hk hww).trans (n_i_fx_CPXE0)
  have e_fy : f_X1_instruction_fy mm fo fa fx fy fc mem ug lt ct hd la bt kindsF waysF = _ := (Lw_fy hop hj hk hww).trans (n_i_fy_CPXE0)
  have e_fs : f_X1_instruction_fs mm fo fx fs fc mem ug lt ct hd la bt kindsF = _ := (Lw_fs hop hj hk).trans (n_i_fs_CPXE0)
  have e_fp : f_X1_instruction_fp mm fo fa fx fy fs fp fc mem ug lt ct hd la bt kindsF waysF = _ := (Lw_fp hop hj hk hww).trans (n_i_fp_CPXE0)
  have e_fc : f_X1_instruction_fc mm fo fx fy fs fp fc mem ug lt ct hd la bt kindsF waysF = _ := (Lw_fc hop hj hk hww).trans (n_i_fc_CPXE0)
  have e_mem : f_X1_instruction_mem mm fo fa fx fy fs fp fc mem ug lt ct hd la bt kindsF waysF = _ := (Lw_mem hop hj hk hww).trans (n_i_mem_CPXE0)
  have e_ug : f_X1_instruction_ug mm fo fa fx fy fp fc mem ug lt ct hd la bt kindsF waysF = _ := (Lw_ug hop hj hk hww).trans (n_i_ug_CPXE0)
  have e_ud : f_X1_instruction_ud mm fo fa fx fy fp fc mem ug ud lt ct hd la bt kindsF waysF = _ := (Lw_ud hop hj hk hww).trans (n_i_ud_CPXE0)
  have e_lt : f_X1_instruction_lt mm fo fa fx fy fp fc mem ug lt ct hd la bt kindsF waysF = _ := (Lw_lt hop hj hk hww).trans (n_i_lt_CPXE0)
  have e_ct : f_X1_instruction_ct mm fo fx fy fc mem ug lt ct hd la bt kindsF waysF = _ := (Lw_ct hop hj hk hww).trans (n_i_ct_CPXE0)
  have e_hd : f_X1_instruction_hd mm fo fx fy fc mem ug lt ct hd la bt kindsF waysF = _ := (Lw_hd hop hj hk hww).trans (n_i_hd_CPXE0)
  have e_la : f_X1_instruction_la mm fo fx fy fc mem ug lt ct hd la bt kindsF waysF = _ := (Lw_la hop hj hk hww).trans (n_i_la_CPXE0)
  have e_bt : f_X1_instruction_bt mm fo fa fx fy fp fc mem ug lt ct hd la bt kindsF waysF = _ := (Lw_bt hop hj hk hww).trans (n_i_bt_CPXE0)
  have g_gB : b_gB ug mm gB gA gX gY gS gP gC gR gM gL = _ := (B_ot_gB ho hkn h4 h5 hwy pe).trans (n_ot_gB_CPXEC)
  have g_gA : b_gA ug mm gB gA gX gY gS gP gC gR gM gL = _ := (B_ot_gA ho hkn h4 h5).trans (n_ot_gA_CPXEC)
  have g_gX : b_gX ug mm gB gA gX gY gS gC gR gM gL = _ := (B_ot_gX ho hkn h4 h5).trans (n_ot_gX_CPXEC)
  have g_gY : b_gY ug mm gB gA gX gY gC gR gM gL = _ := (B_ot_gY ho hkn h4 h5 hwy pe).trans (n_ot_gY_CPXEC)
  have g_gS : b_gS ug mm gB gX gS gC gR gM gL = _ := (B_ot_gS ho hkn h4 h5).trans (n_ot_gS_CPXEC)
  have g_gP : b_gP ug mm gB gA gX gY gS gP gC gR gM gL = _ := (B_ot_gP ho hkn h4 h5 hwy pe).trans (n_ot_gP_CPXEC)
  have g_gC : b_gC ug mm gB gS gP gC gR gM gL = _ := (B_ot_gC ho hkn h4 h5 hwy rfl).trans (n_ot_gC_CPXEC)
  have g_gR : b_gR ug mm gB gA gX gY gP gC gR gM gL = _ := (B_ot_gR ho hkn h4 h5 hwy pe rfl).trans (n_ot_gR_CPXEC)
  have g_gM : b_gM ug mm gB gX gY gC gR gM gL = _ := (B_ot_gM ho hkn h4 h5 hwy pe rfl).trans (n_ot_gM_CPXEC)
  have g_gL : b_gL ug mm gB gX gY gC gR gM gL = _ := (B_ot_gL ho hkn h4 h5 hwy pe rfl).trans (n_ot_gL_CPXEC)
  have g_un : b_un ug mm gB gA gX gY gP gC gR gM gL = _ := (B_ot_un ho hkn h4 h5 hwy pe).trans (n_ot_un_CPXEC)
  have g_ow : b_ow ug ud mm gB gA gX gY gP gC gR gM gL = _ := (B_ot_ow ho hkn h4 h5 hwy pe).trans (n_ot_ow_CPXEC)
  rw [e_fa, e_fx, e_fy, e_fs, e_fp, e_fc, e_mem, e_ug, e_ud, e_lt, e_ct, e_hd, e_la, e_bt, g_gB, g_gA, g_gX, g_gY, g_gS, g_gP, g_gC, g_gR, g_gM, g_gL, g_un, g_ow]
  exact op_CPXEC hm hB hA hX hY hS hP pC pu pw hf hw
end AS
