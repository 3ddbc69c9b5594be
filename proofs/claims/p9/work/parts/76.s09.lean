set_option maxRecDepth 100000 in
theorem n0_i_fa {fn fo fa fx fy fs fp ug pl : Int32} {mem lt t2 d2 l2 : Nat → Int32} {bt : Nat → Nat → Int32} : ic_fa fn fo fa fx fy fs fp mem ug lt bt t2 d2 l2 pl 0 = fa := by unfold ic_fa; rw [if_pos (show (0 : Int32) = 0 by decide)]
set_option maxRecDepth 100000 in
theorem n0_i_fx {fn fo fa fx fs ug pl : Int32} {mem lt t2 d2 l2 : Nat → Int32} {bt : Nat → Nat → Int32} : ic_fx fn fo fa fx fs mem ug lt bt t2 d2 l2 pl 0 = fx := by unfold ic_fx; rw [if_pos (show (0 : Int32) = 0 by decide)]
set_option maxRecDepth 100000 in
theorem n0_i_fy {fn fo fa fy ug pl : Int32} {mem lt t2 d2 l2 : Nat → Int32} {bt : Nat → Nat → Int32} : ic_fy fn fo fa fy mem ug lt bt t2 d2 l2 pl 0 = fy := by unfold ic_fy; rw [if_pos (show (0 : Int32) = 0 by decide)]
set_option maxRecDepth 100000 in
theorem n0_i_fs {fx fs : Int32} : ic_fs fx fs 0 = fs := by unfold ic_fs; rw [if_pos (show (0 : Int32) = 0 by decide)]
set_option maxRecDepth 100000 in
theorem n0_i_fp {fn fo fa fx fy fs fp ug pl : Int32} {mem lt t2 d2 l2 : Nat → Int32} {bt : Nat → Nat → Int32} : ic_fp fn fo fa fx fy fs fp mem ug lt bt t2 d2 l2 pl 0 = fp := by unfold ic_fp; rw [if_pos (show (0 : Int32) = 0 by decide)]
set_option maxRecDepth 100000 in
theorem n0_i_fc {fn fo fs fp fc ug c2 pl : Int32} {mem lt t2 d2 l2 : Nat → Int32} {bt : Nat → Nat → Int32} : ic_fc fn fo fs fp fc mem ug lt bt c2 t2 d2 l2 pl 0 = fc := by unfold ic_fc; rw [if_pos (show (0 : Int32) = 0 by decide)]
set_option maxRecDepth 100000 in
theorem n0_i_fd {fd : Int32} : ic_fd fd 0 = 1 := by unfold ic_fd; rw [if_pos (show (0 : Int32) = 0 by decide)]
set_option maxRecDepth 100000 in
theorem n0_i_mem {fn fo fa fx fy fs fp ug c2 pl : Int32} {mem lt t2 d2 l2 : Nat → Int32} {bt : Nat → Nat → Int32} : ic_mem fn fo fa fx fy fs fp mem ug lt bt c2 t2 d2 l2 pl 0 = mem := by unfold ic_mem; rw [if_pos (show (0 : Int32) = 0 by decide)]
set_option maxRecDepth 100000 in
theorem n0_i_ug {fn fo fa fx fy fp ug pl : Int32} {mem lt t2 d2 l2 : Nat → Int32} {bt : Nat → Nat → Int32} : ic_ug fn fo fa fx fy fp mem ug lt bt t2 d2 l2 pl 0 = ug := by unfold ic_ug; rw [if_pos (show (0 : Int32) = 0 by decide)]
set_option maxRecDepth 100000 in
theorem n0_i_ud {fn fo fa fx fy fp ug ud pl : Int32} {mem lt t2 d2 l2 : Nat → Int32} {bt : Nat → Nat → Int32} : ic_ud fn fo fa fx fy fp mem ug ud lt bt t2 d2 l2 pl 0 = ud := by unfold ic_ud; rw [if_pos (show (0 : Int32) = 0 by decide)]
set_option maxRecDepth 100000 in
theorem n0_i_lt {fn fo fa fx fy fp ug pl : Int32} {mem lt t2 d2 l2 : Nat → Int32} {bt : Nat → Nat → Int32} : ic_lt fn fo fa fx fy fp mem ug lt bt t2 d2 l2 pl 0 = lt := by unfold ic_lt; rw [if_pos (show (0 : Int32) = 0 by decide)]
set_option maxRecDepth 100000 in
theorem n0_i_ct {fn fo pl : Int32} {lt t1 t2 : Nat → Int32} : ic_ct fn fo lt t1 t2 pl 0 = t1 := by unfold ic_ct; rw [if_pos (show (0 : Int32) = 0 by decide)]
set_option maxRecDepth 100000 in
theorem n0_i_hd {fn fo pl : Int32} {d1 t2 d2 : Nat → Int32} : ic_hd fn fo d1 t2 d2 pl 0 = d1 := by unfold ic_hd; rw [if_pos (show (0 : Int32) = 0 by decide)]
set_option maxRecDepth 100000 in
theorem n0_i_la {fn fo pl : Int32} {bt : Nat → Nat → Int32} {l1 t2 d2 l2 : Nat → Int32} : ic_la fn fo bt l1 t2 d2 l2 pl 0 = l1 := by unfold ic_la; rw [if_pos (show (0 : Int32) = 0 by decide)]
set_option maxRecDepth 100000 in
theorem n0_i_bt {fn fo fa fx fy fp ug pl : Int32} {mem lt t2 d2 l2 : Nat → Int32} {bt : Nat → Nat → Int32} : ic_bt fn fo fa fx fy fp mem ug lt bt t2 d2 l2 pl 0 = bt := by unfold ic_bt; rw [if_pos (show (0 : Int32) = 0 by decide)]
set_option maxRecDepth 100000 in
theorem B0_gB {un mm o : Int32} {gB gA gX gY gS gP gC gR gM gL : Nat → Int32} (ho : f_X5_fetch_r un mm gB gC gR gM gL = o) (hk : f_X5_isKnown_r o = 0) : b_gB un mm gB gA gX gY gS gP gC gR gM gL = gB := by
  unfold b_gB
  rw [ho, if_pos hk]
set_option maxRecDepth 100000 in
theorem B0_gA {un mm o : Int32} {gB gA gX gY gS gP gC gR gM gL : Nat → Int32} (ho : f_X5_fetch_r un mm gB gC gR gM gL = o) (hk : f_X5_isKnown_r o = 0) : b_gA un mm gB gA gX gY gS gP gC gR gM gL = gA := by
  unfold b_gA
  rw [ho, if_pos hk]
set_option maxRecDepth 100000 in
theorem B0_gX {un mm o : Int32} {gB gA gX gY gS gC gR gM gL : Nat → Int32} (ho : f_X5_fetch_r un mm gB gC gR gM gL = o) (hk : f_X5_isKnown_r o = 0) : b_gX un mm gB gA gX gY gS gC gR gM gL = gX := by
  unfold b_gX
  rw [ho, if_pos hk]
set_option maxRecDepth 100000 in
theorem B0_gY {un mm o : Int32} {gB gA gX gY gC gR gM gL : Nat → Int32} (ho : f_X5_fetch_r un mm gB gC gR gM gL = o) (hk : f_X5_isKnown_r o = 0) : b_gY un mm gB gA gX gY gC gR gM gL = gY := by
  unfold b_gY
  rw [ho, if_pos hk]
set_option maxRecDepth 100000 in
theorem B0_gS {un mm o : Int32} {gB gX gS gC gR gM gL : Nat → Int32} (ho : f_X5_fetch_r un mm gB gC gR gM gL = o) (hk : f_X5_isKnown_r o = 0) : b_gS un mm gB gX gS gC gR gM gL = gS := by
  unfold b_gS
  rw [ho, if_pos hk]
set_option maxRecDepth 100000 in
theorem B0_gP {un mm o : Int32} {gB gA gX gY gS gP gC gR gM gL : Nat → Int32} (ho : f_X5_fetch_r un mm gB gC gR gM gL = o) (hk : f_X5_isKnown_r o = 0) : b_gP un mm gB gA gX gY gS gP gC gR gM gL = gP := by
  unfold b_gP
  rw [ho, if_pos hk]
set_option maxRecDepth 100000 in
theorem B0_gC {un mm o : Int32} {gB gS gP gC gR gM gL : Nat → Int32} (ho : f_X5_fetch_r un mm gB gC gR gM gL = o) (hk : f_X5_isKnown_r o = 0) : b_gC un mm gB gS gP gC gR gM gL = (upd (f_X5_fetch_gC mm gC) mm.toNatClampNeg (gC mm.toNatClampNeg)) := by
  unfold b_gC
  rw [ho, if_pos hk]
set_option maxRecDepth 100000 in
theorem B0_gR {un mm o : Int32} {gB gA gX gY gP gC gR gM gL : Nat → Int32} (ho : f_X5_fetch_r un mm gB gC gR gM gL = o) (hk : f_X5_isKnown_r o = 0) : b_gR un mm gB gA gX gY gP gC gR gM gL = (f_X5_fetch_gR mm gC gR gM) := by
  unfold b_gR
  rw [ho, if_pos hk]
set_option maxRecDepth 100000 in
theorem B0_gM {un mm o : Int32} {gB gX gY gC gR gM gL : Nat → Int32} (ho : f_X5_fetch_r un mm gB gC gR gM gL = o) (hk : f_X5_isKnown_r o = 0) : b_gM un mm gB gX gY gC gR gM gL = (f_X5_fetch_gM mm gC gM) := by
  unfold b_gM
  rw [ho, if_pos hk]
set_option maxRecDepth 100000 in
theorem B0_gL {un mm o : Int32} {gB gX gY gC gR gM gL : Nat → Int32} (ho : f_X5_fetch_r un mm gB gC gR gM gL = o) (hk : f_X5_isKnown_r o = 0) : b_gL un mm gB gX gY gC gR gM gL = (f_X5_fetch_gL un mm gC gR gM gL) := by
  unfold b_gL
  rw [ho, if_pos hk]
set_option maxRecDepth 100000 in
theorem B0_un {un mm o : Int32} {gB gA gX gY gP gC gR gM gL : Nat → Int32} (ho : f_X5_fetch_r un mm gB gC gR gM gL = o) (hk : f_X5_isKnown_r o = 0) : b_un un mm gB gA gX gY gP gC gR gM gL = un := by
  unfold b_un
  rw [ho, if_pos hk]
set_option maxRecDepth 100000 in
theorem B0_ow {un ow mm o : Int32} {gB gA gX gY gP gC gR gM gL : Nat → Int32} (ho : f_X5_fetch_r un mm gB gC gR gM gL = o) (hk : f_X5_isKnown_r o = 0) : b_ow un ow mm gB gA gX gY gP gC gR gM gL = ow := by
  unfold b_ow
  rw [ho, if_pos hk]
set_option maxRecDepth 100000 in
theorem B0_gD {un mm o : Int32} {gB gC gD gR gM gL : Nat → Int32} (ho : f_X5_fetch_r un mm gB gC gR gM gL = o) (hk : f_X5_isKnown_r o = 0) : b_gD un mm gB gC gD gR gM gL = (upd gD mm.toNatClampNeg 1) := by
  unfold b_gD
  rw [ho, if_pos hk]
set_option maxRecDepth 100000 in
theorem B1_gD {un mm o : Int32} {gB gC gD gR gM gL : Nat → Int32} (ho : f_X5_fetch_r un mm gB gC gR gM gL = o) (hk : ¬ f_X5_isKnown_r o = 0) : b_gD un mm gB gC gD gR gM gL = gD := by
  unfold b_gD
  rw [ho, if_neg hk]
section AU
variable {mm fo oa ox oy os op oc fa fx fy fs fp fc ug ud : Int32} {om mem lt ct hd la gB gA gX gY gS gP gC gR gM gL : Nat → Int32} {bt : Nat → Nat → Int32} {j : Nat}
set_option maxRecDepth 100000 in
theorem as_un (hm : s_m mm fo) (hB : rm mm gB mem om) (hA : ra mm gA fa oa) (hX : ra mm gX fx ox) (hY : ra mm gY fy oy) (hS : ra mm gS fs os) (hP : rp mm gP fp op) (hC : rc mm gC fc oc) (hu : ru ug lt ct hd la bt gR gM gL) (hf : ∃ j : Nat, j < 64 ∧ ug = nI j) (hw : wB ud) (hj : j < 256) (hop : f_X1_read_r mm fo mem ug lt ct hd la bt fc = nI j) (hc : clsF j = 0) : SR mm oa ox oy os op oc om (f_X1_instruction_fa mm fo fa fx fy fs fp fc mem ug lt ct hd la bt kindsF waysF) (f_X1_instruction_fx mm fo fa fx fy fs fc mem ug lt ct hd la bt kindsF waysF) (f_X1_instruction_fy mm fo fa fx fy fc mem ug lt ct hd la bt kindsF waysF) (f_X1_instruction_fs mm fo fx fs fc mem ug lt ct hd la bt kindsF) (f_X1_instruction_fp mm fo fa fx fy fs fp fc mem ug lt ct hd la bt kindsF waysF) (f_X1_instruction_fc mm fo fx fy fs fp fc mem ug lt ct hd la bt kindsF waysF) (f_X1_instruction_mem mm fo fa fx fy fs fp fc mem ug lt ct hd la bt kindsF waysF) (f_X1_instruction_ug mm fo fa fx fy fp fc mem ug lt ct hd la bt kindsF waysF) (f_X1_instruction_ud mm fo fa fx fy fp fc mem ug ud lt ct hd la bt kindsF waysF) (f_X1_instruction_lt mm fo fa fx fy fp fc mem ug lt ct hd la bt kindsF waysF) (f_X1_instruction_ct mm fo fx fy fc mem ug lt ct hd la bt kindsF waysF) (f_X1_instruction_hd mm fo fx fy fc mem ug lt ct hd la bt kindsF waysF) (f_X1_instruction_la mm fo fx fy fc mem ug lt ct hd la bt kindsF waysF) (f_X1_instruction_bt mm fo fa fx fy fp fc mem ug lt ct hd la bt kindsF waysF) (b_gB ug mm gB gA gX gY gS gP gC gR gM gL) (b_gA ug mm gB gA gX gY gS gP gC gR gM gL) (b_gX ug mm gB gA gX gY gS gC gR gM gL) (b_gY ug mm gB gA gX gY gC gR gM gL) (b_gS ug mm gB gX gS gC gR gM gL) (b_gP ug mm gB gA gX gY gS gP gC gR gM gL) (b_gC ug mm gB gS gP gC gR gM gL) (b_gR ug mm gB gA gX gY gP gC gR gM gL) (b_gM ug mm gB gX gY gC gR gM gL) (b_gL ug mm gB gX gY gC gR gM gL) (b_un ug mm gB gA gX gY gP gC gR gM gL) (b_ow ug ud mm gB gA gX gY gP gC gR gM gL) := by
  have fe := sr_fetch hm hB hf hu hC
  obtain ⟨fv, fb, fu, fC⟩ := fe
  obtain ⟨hk, hkn⟩ := cl_un j hj hc
  have ho : f_X5_fetch_r ug mm gB gC gR gM gL = nI j := fv.trans hop
  have hF : rf ug ud ug ud := ⟨rfl, rfl, hf, hw⟩
  have e_fa : f_X1_instruction_fa mm fo fa fx fy fs fp fc mem ug lt ct hd la bt kindsF waysF = _ := (Lw_fa hop hj hk rfl).trans n0_i_fa
  have e_fx : f_X1_instruction_fx mm fo fa fx fy fs fc mem ug lt ct hd la bt kindsF waysF = _ := (Lw_fx hop hj hk rfl).trans n0_i_fx
  have e_fy : f_X1_instruction_fy mm fo fa fx fy fc mem ug lt ct hd la bt kindsF waysF = _ := (Lw_fy hop hj hk rfl).trans n0_i_fy
  have e_fs : f_X1_instruction_fs mm fo fx fs fc mem ug lt ct hd la bt kindsF = _ := (Lw_fs hop hj hk).trans n0_i_fs
  have e_fp : f_X1_instruction_fp mm fo fa fx fy fs fp fc mem ug lt ct hd la bt kindsF waysF = _ := (Lw_fp hop hj hk rfl).trans n0_i_fp
  have e_fc : f_X1_instruction_fc mm fo fx fy fs fp fc mem ug lt ct hd la bt kindsF waysF = _ := (Lw_fc hop hj hk rfl).trans n0_i_fc
  have e_mem : f_X1_instruction_mem mm fo fa fx fy fs fp fc mem ug lt ct hd la bt kindsF waysF = _ := (Lw_mem hop hj hk rfl).trans n0_i_mem
  have e_ug : f_X1_instruction_ug mm fo fa fx fy fp fc mem ug lt ct hd la bt kindsF waysF = _ := (Lw_ug hop hj hk rfl).trans n0_i_ug
  have e_ud : f_X1_instruction_ud mm fo fa fx fy fp fc mem ug ud lt ct hd la bt kindsF waysF = _ := (Lw_ud hop hj hk rfl).trans n0_i_ud
  have e_lt : f_X1_instruction_lt mm fo fa fx fy fp fc mem ug lt ct hd la bt kindsF waysF = _ := (Lw_lt hop hj hk rfl).trans n0_i_lt
  have e_ct : f_X1_instruction_ct mm fo fx fy fc mem ug lt ct hd la bt kindsF waysF = _ := (Lw_ct hop hj hk rfl).trans n0_i_ct
  have e_hd : f_X1_instruction_hd mm fo fx fy fc mem ug lt ct hd la bt kindsF waysF = _ := (Lw_hd hop hj hk rfl).trans n0_i_hd
  have e_la : f_X1_instruction_la mm fo fx fy fc mem ug lt ct hd la bt kindsF waysF = _ := (Lw_la hop hj hk rfl).trans n0_i_la
  have e_bt : f_X1_instruction_bt mm fo fa fx fy fp fc mem ug lt ct hd la bt kindsF waysF = _ := (Lw_bt hop hj hk rfl).trans n0_i_bt
  have g_gB : b_gB ug mm gB gA gX gY gS gP gC gR gM gL = _ := B0_gB ho hkn
  have g_gA : b_gA ug mm gB gA gX gY gS gP gC gR gM gL = _ := B0_gA ho hkn
  have g_gX : b_gX ug mm gB gA gX gY gS gC gR gM gL = _ := B0_gX ho hkn
  have g_gY : b_gY ug mm gB gA gX gY gC gR gM gL = _ := B0_gY ho hkn
  have g_gS : b_gS ug mm gB gX gS gC gR gM gL = _ := B0_gS ho hkn
  have g_gP : b_gP ug mm gB gA gX gY gS gP gC gR gM gL = _ := B0_gP ho hkn
  have g_gC : b_gC ug mm gB gS gP gC gR gM gL = _ := B0_gC ho hkn
  have g_gR : b_gR ug mm gB gA gX gY gP gC gR gM gL = _ := B0_gR ho hkn
  have g_gM : b_gM ug mm gB gX gY gC gR gM gL = _ := B0_gM ho hkn
  have g_gL : b_gL ug mm gB gX gY gC gR gM gL = _ := B0_gL ho hkn
  have g_un : b_un ug mm gB gA gX gY gP gC gR gM gL = _ := B0_un ho hkn
  have g_ow : b_ow ug ud mm gB gA gX gY gP gC gR gM gL = _ := B0_ow ho hkn
  rw [e_fa, e_fx, e_fy, e_fs, e_fp, e_fc, e_mem, e_ug, e_ud, e_lt, e_ct, e_hd, e_la, e_bt, g_gB, g_gA, g_gX, g_gY, g_gS, g_gP, g_gC, g_gR, g_gM, g_gL, g_un, g_ow, hC.1]
  exact ⟨hB, hA, hX, hY, hS, hP, rc_u fC hC.2.2, hF, fu⟩
set_option maxRecDepth 100000 in
/-- an instruction -/
theorem sr_instr (hm : s_m mm fo) (hB : rm mm gB mem om) (hA : ra mm gA fa oa) (hX : ra mm gX fx ox) (hY : ra mm gY fy oy) (hS : ra mm gS fs os) (hP : rp mm gP fp op) (hC : rc mm gC fc oc) (hu : ru ug lt ct hd la bt gR gM gL) (hf : ∃ j : Nat, j < 64 ∧ ug = nI j) (hw : wB ud) : SR mm oa ox oy os op oc om (f_X1_instruction_fa mm fo fa fx fy fs fp fc mem ug lt ct hd la bt kindsF waysF) (f_X1_instruction_fx mm fo fa fx fy fs fc mem ug lt ct hd la bt kindsF waysF) (f_X1_instruction_fy mm fo fa fx fy fc mem ug lt ct hd la bt kindsF waysF) (f_X1_instruction_fs mm fo fx fs fc mem ug lt ct hd la bt kindsF) (f_X1_instruction_fp mm fo fa fx fy fs fp fc mem ug lt ct hd la bt kindsF waysF) (f_X1_instruction_fc mm fo fx fy fs fp fc mem ug lt ct hd la bt kindsF waysF) (f_X1_instruction_mem mm fo fa fx fy fs fp fc mem ug lt ct hd la bt kindsF waysF) (f_X1_instruction_ug mm fo fa fx fy fp fc mem ug lt ct hd la bt kindsF waysF) (f_X1_instruction_ud mm fo fa fx fy fp fc mem ug ud lt ct hd la bt kindsF waysF) (f_X1_instruction_lt mm fo fa fx fy fp fc mem ug lt ct hd la bt kindsF waysF) (f_X1_instruction_ct mm fo fx fy fc mem ug lt ct hd la bt kindsF waysF) (f_X1_instruction_hd mm fo fx fy fc mem ug lt ct hd la bt kindsF waysF) (f_X1_instruction_la mm fo fx fy fc mem ug lt ct hd la bt kindsF waysF) (f_X1_instruction_bt mm fo fa fx fy fp fc mem ug lt ct hd la bt kindsF waysF) (b_gB ug mm gB gA gX gY gS gP gC gR gM gL) (b_gA ug mm gB gA gX gY gS gP gC gR gM gL) (b_gX ug mm gB gA gX gY gS gC gR gM gL) (b_gY ug mm gB gA gX gY gC gR gM gL) (b_gS ug mm gB gX gS gC gR gM gL) (b_gP ug mm gB gA gX gY gS gP gC gR gM gL) (b_gC ug mm gB gS gP gC gR gM gL) (b_gR ug mm gB gA gX gY gP gC gR gM gL) (b_gM ug mm gB gX gY gC gR gM gL) (b_gL ug mm gB gX gY gC gR gM gL) (b_un ug mm gB gA gX gY gP gC gR gM gL) (b_ow ug ud mm gB gA gX gY gP gC gR gM gL) := by
  obtain ⟨j, hj, hop⟩ := (sr_fetch hm hB hf hu hC).2.1
  match hc : clsF j, cl_lt j hj with
  | 0, _ => exact as_un hm hB hA hX hY hS hP hC hu hf hw hj hop hc
  | 1, _ => exact as_ORA hm hB hA hX hY hS hP hC hu hf hw hj hop hc
  | 2, _ => exact as_AND hm hB hA hX hY hS hP hC hu hf hw hj hop hc
  | 3, _ => exact as_EOR hm hB hA hX hY hS hP hC hu hf hw hj hop hc
  | 4, _ => exact as_ADC hm hB hA hX hY hS hP hC hu hf hw hj hop hc
  | 5, _ => exact as_STA hm hB hA hX hY hS hP hC hu hf hw hj hop hc
  | 6, _ => exact as_LDA hm hB hA hX hY hS hP hC hu hf hw hj hop hc
  | 7, _ => exact as_CMP hm hB hA hX hY hS hP hC hu hf hw hj hop hc
  | 8, _ => exact as_SBC hm hB hA hX hY hS hP hC hu hf hw hj hop hc
  | 9, _ => exact as_ASLm hm hB hA hX hY hS hP hC hu hf hw hj hop hc
  | 10, _ => exact as_ROLm hm hB hA hX hY hS hP hC hu hf hw hj hop hc
  | 11, _ => exact as_LSRm hm hB hA hX hY hS hP hC hu hf hw hj hop hc
  | 12, _ => exact as_RORm hm hB hA hX hY hS hP hC hu hf hw hj hop hc
  | 13, _ => exact as_STXm hm hB hA hX hY hS hP hC hu hf hw hj hop hc
  | 14, _ => exact as_LDXm hm hB hA hX hY hS hP hC hu hf hw hj hop hc
  | 15, _ => exact as_DECm hm hB hA hX hY hS hP hC hu hf hw hj hop hc
  | 16, _ => exact as_INCm hm hB hA hX hY hS hP hC hu hf hw hj hop hc
  | 17, _ => exact as_ASLa hm hB hA hX hY hS hP hC hu hf hw hj hop hc
  | 18, _ => exact as_ROLa hm hB hA hX hY hS hP hC hu hf hw hj hop hc
  | 19, _ => exact as_LSRa hm hB hA hX hY hS hP hC hu hf hw hj hop hc
  | 20, _ => exact as_RORa hm hB hA hX hY hS hP hC hu hf hw hj hop hc
  | 21, _ => exact as_TXA hm hB hA hX hY hS hP hC hu hf hw hj hop hc
  | 22, _ => exact as_TXS hm hB hA hX hY hS hP hC hu hf hw hj hop hc
  | 23, _ => exact as_TAX hm hB hA hX hY hS hP hC hu hf hw hj hop hc
  | 24, _ => exact as_TSX hm hB hA hX hY hS hP hC hu hf hw hj hop hc
  | 25, _ => exact as_DEX hm hB hA hX hY hS hP hC hu hf hw hj hop hc
  | 26, _ => exact as_NOP hm hB hA hX hY hS hP hC hu hf hw hj hop hc
  | 27, _ => exact as_PHP hm hB hA hX hY hS hP hC hu hf hw hj hop hc
  | 28, _ => exact as_PLP hm hB hA hX hY hS hP hC hu hf hw hj hop hc
  | 29, _ => exact as_PHA hm hB hA hX hY hS hP hC hu hf hw hj hop hc
  | 30, _ => exact as_PLA hm hB hA hX hY hS hP hC hu hf hw hj hop hc
  | 31, _ => exact as_DEY hm hB hA hX hY hS hP hC hu hf hw hj hop hc
  | 32, _ => exact as_TAY hm hB hA hX hY hS hP hC hu hf hw hj hop hc
  | 33, _ => exact as_INY hm hB hA hX hY hS hP hC hu hf hw hj hop hc
  | 34, _ => exact as_INX hm hB hA hX hY hS hP hC hu hf hw hj hop hc
  | 35, _ => exact as_CLC hm hB hA hX hY hS hP hC hu hf hw hj hop hc
  | 36, _ => exact as_SEC hm hB hA hX hY hS hP hC hu hf hw hj hop hc
  | 37, _ => exact as_CLI hm hB hA hX hY hS hP hC hu hf hw hj hop hc
  | 38, _ => exact as_SEI hm hB hA hX hY hS hP hC hu hf hw hj hop hc
  | 39, _ => exact as_TYA hm hB hA hX hY hS hP hC hu hf hw hj hop hc
  | 40, _ => exact as_CLV hm hB hA hX hY hS hP hC hu hf hw hj hop hc
  | 41, _ => exact as_CLD hm hB hA hX hY hS hP hC hu hf hw hj hop hc
  | 42, _ => exact as_SED hm hB hA hX hY hS hP hC hu hf hw hj hop hc
  | 43, _ => exact as_BRK hm hB hA hX hY hS hP hC hu hf hw hj hop hc
  | 44, _ => exact as_RTI hm hB hA hX hY hS hP hC hu hf hw hj hop hc
  | 45, _ => exact as_RTS hm hB hA hX hY hS hP hC hu hf hw hj hop hc
  | 46, _ => exact as_BPL hm hB hA hX hY hS hP hC hu hf hw hj hop hc
  | 47, _ => exact as_BMI hm hB hA hX hY hS hP hC hu hf hw hj hop hc
  | 48, _ => exact as_BVC hm hB hA hX hY hS hP hC hu hf hw hj hop hc
  | 49, _ => exact as_BVS hm hB hA hX hY hS hP hC hu hf hw hj hop hc
  | 50, _ => exact as_BCC hm hB hA hX hY hS hP hC hu hf hw hj hop hc
  | 51, _ => exact as_BCS hm hB hA hX hY hS hP hC hu hf hw hj hop hc
  | 52, _ => exact as_BNE hm hB hA hX hY hS hP hC hu hf hw hj hop hc
  | 53, _ => exact as_BEQ hm hB hA hX hY hS hP hC hu hf hw hj hop hc
  | 54, _ => exact as_JSR hm hB hA hX hY hS hP hC hu hf hw hj hop hc
  | 55, _ => exact as_JMP hm hB hA hX hY hS hP hC hu hf hw hj hop hc
  | 56, _ => exact as_JMI hm hB hA hX hY hS hP hC hu hf hw hj hop hc
  | 57, _ => exact as_STY84 hm hB hA hX hY hS hP hC hu hf hw hj hop hc
  | 58, _ => exact as_STY94 hm hB hA hX hY hS hP hC hu hf hw hj hop hc
  | 59, _ => exact as_STY8C hm hB hA hX hY hS hP hC hu hf hw hj hop hc
  | 60, _ => exact as_BIT24 hm hB hA hX hY hS hP hC hu hf hw hj hop hc
  | 61, _ => exact as_BIT2C hm hB hA hX hY hS hP hC hu hf hw hj hop hc
  | 62, _ => exact as_LDYA0 hm hB hA hX hY hS hP hC hu hf hw hj hop hc
  | 63, _ => exact as_LDYA4 hm hB hA hX hY hS hP hC hu hf hw hj hop hc
  | 64, _ => exact as_LDYB4 hm hB hA hX hY hS hP hC hu hf hw hj hop hc
  | 65, _ => exact as_LDYAC hm hB hA hX hY hS hP hC hu hf hw hj hop hc
  | 66, _ => exact as_LDYBC hm hB hA hX hY hS hP hC hu hf hw hj hop hc
  | 67, _ => exact as_CPYC0 hm hB hA hX hY hS hP hC hu hf hw hj hop hc
  | 68, _ => exact as_CPYC4 hm hB hA hX hY hS hP hC hu hf hw hj hop hc
  | 69, _ => exact as_CPYCC hm hB hA hX hY hS hP hC hu hf hw hj hop hc
  | 70, _ => exact as_CPXE0 hm hB hA hX hY hS hP hC hu hf hw hj hop hc
  | 71, _ => exact as_CPXE4 hm hB hA hX hY hS hP hC hu hf hw hj hop hc
  | 72, _ => exact as_CPXEC hm hB hA hX hY hS hP hC hu hf hw hj hop hc
  | n + 73, h => exact absurd h (by omega)
set_option maxRecDepth 100000 in
def rr (mm : Int32) (g : Nat → Int32) (v o : Int32) : Prop := g mm.toNatClampNeg = v ∧ g (1 - mm.toNatClampNeg) = o
set_option maxRecDepth 100000 in
theorem sr_instrD {fd od : Int32} {gD : Nat → Int32} (hm : s_m mm fo) (hB : rm mm gB mem om) (hA : ra mm gA fa oa) (hX : ra mm gX fx ox) (hY : ra mm gY fy oy) (hS : ra mm gS fs os) (hP : rp mm gP fp op) (hC : rc mm gC fc oc) (hu : ru ug lt ct hd la bt gR gM gL) (hf : ∃ j : Nat, j < 64 ∧ ug = nI j) (hw : wB ud) (hD : rr mm gD fd od) (hwd : wB fd) : rr mm (b_gD ug mm gB gC gD gR gM gL) (f_X1_instruction_fd mm fo fc fd mem ug lt ct hd la bt kindsF) od ∧ wB (f_X1_instruction_fd mm fo fc fd mem ug lt ct hd la bt kindsF) := by
  obtain ⟨fv, ⟨j, hj, hop⟩, fu, fC⟩ := sr_fetch hm hB hf hu hC
  have ho : f_X5_fetch_r ug mm gB gC gR gM gL = nI j := fv.trans hop
  rcases cl_kn j hj with ⟨k1, k2⟩ | ⟨k1, k2⟩
  · have e1 : f_X1_instruction_fd mm fo fc fd mem ug lt ct hd la bt kindsF = _ := (Lw_fd hop hj k1).trans n0_i_fd
    rw [e1, B0_gD ho k2]
    exact ⟨⟨pk_us, (pk_un s_kk).trans hD.2⟩, Or.inr rfl⟩
  · have e1 : f_X1_instruction_fd mm fo fc fd mem ug lt ct hd la bt kindsF = fd := by
      rw [Lw_fd hop hj rfl]
      unfold ic_fd
      rw [if_neg k1]
      repeat' split
      all_goals rfl
    rw [e1, B1_gD ho k2]
    exact ⟨hD, hwd⟩
end AU
