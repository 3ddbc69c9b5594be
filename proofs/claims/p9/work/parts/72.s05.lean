/-! Each instruction, in the class and in the reference. -/
set_option maxRecDepth 100000 in
def rf' (un ow ug ud : Int32) : Prop := rf un ow ug ud
set_option maxRecDepth 100000 in
def SR (mm oa ox oy os op oc : Int32) (om : Nat → Int32) (fa fx fy fs fp fc : Int32) (mem : Nat → Int32) (ug ud : Int32) (lt ct hd la : Nat → Int32) (bt : Nat → Nat → Int32) (gB gA gX gY gS gP gC gR gM gL : Nat → Int32) (un ow : Int32) : Prop :=
  rm mm gB mem om ∧ ra mm gA fa oa ∧ ra mm gX fx ox ∧ ra mm gY fy oy ∧ ra mm gS fs os ∧ rp mm gP fp op ∧ rc mm gC fc oc ∧ rf un ow ug ud ∧ ru ug lt ct hd la bt gR gM gL
set_option maxRecDepth 100000 in
theorem s_bin {x : Int32} (h : x.toNatClampNeg < 256 ∧ x = nI x.toNatClampNeg) : s_b x := ⟨x.toNatClampNeg, h.1, h.2⟩
set_option maxRecDepth 100000 in
theorem s_nn {a b : Int32} (ha : s_b a) (f : Int32 → Int32 → Int32) (h : ∀ x y : Int32, f (x &&& 255) y = f x y &&& 255) : s_b (f a b) := by
  rw [← s_b255 ha, h]; exact s_and255 _
set_option maxRecDepth 100000 in
theorem s_bor {a b : Int32} (ha : s_b a) (hb : s_b b) : s_b (a ||| b) := by
  obtain ⟨i, hi, rfl⟩ := ha
  obtain ⟨j, hj, rfl⟩ := hb
  refine ⟨i ||| j, Nat.or_lt_two_pow (n := 8) hi hj, ?_⟩
  apply Int32.toBitVec_inj.mp
  rw [Int32.toBitVec_or]
  show BitVec.ofNat 32 i ||| BitVec.ofNat 32 j = BitVec.ofNat 32 (i ||| j)
  rw [BitVec.ofNat_or]
set_option maxRecDepth 100000 in
theorem s_band {a b : Int32} (ha : s_b a) (hb : s_b b) : s_b (a &&& b) := by
  obtain ⟨i, hi, rfl⟩ := ha
  obtain ⟨j, hj, rfl⟩ := hb
  refine ⟨i &&& j, Nat.lt_of_le_of_lt Nat.and_le_left hi, ?_⟩
  apply Int32.toBitVec_inj.mp
  rw [Int32.toBitVec_and]
  show BitVec.ofNat 32 i &&& BitVec.ofNat 32 j = BitVec.ofNat 32 (i &&& j)
  rw [BitVec.ofNat_and]
set_option maxRecDepth 100000 in
theorem s_bxor {a b : Int32} (ha : s_b a) (hb : s_b b) : s_b (a ^^^ b) := by
  obtain ⟨i, hi, rfl⟩ := ha
  obtain ⟨j, hj, rfl⟩ := hb
  refine ⟨i ^^^ j, Nat.xor_lt_two_pow (n := 8) hi hj, ?_⟩
  apply Int32.toBitVec_inj.mp
  rw [Int32.toBitVec_xor]
  show BitVec.ofNat 32 i ^^^ BitVec.ofNat 32 j = BitVec.ofNat 32 (i ^^^ j)
  rw [BitVec.ofNat_xor]
set_option maxRecDepth 100000 in
theorem s_shr (x : Int32) : f_X1_shown_r x = x := rfl
set_option maxRecDepth 100000 in
theorem s_php {p : Int32} (h : s_p p) : (p ||| 16) &&& 255 = ((p ||| 16) ||| 32) &&& 255 := by
  obtain ⟨j, hj, rfl, hb⟩ := h
  exact (show ∀ j : Nat, j < 256 → s_pb j = true → (nI j ||| 16) &&& 255 = ((nI j ||| 16) ||| 32) &&& 255 by decide +kernel) j hj hb
set_option maxRecDepth 100000 in
theorem s_plp {v : Int32} (h : s_b v) : s_p ((v &&& (-17)) ||| 32) := by
  obtain ⟨j, hj, rfl⟩ := h
  apply s_pin
  exact (show ∀ j : Nat, j < 256 → ((nI j &&& (-17)) ||| 32).toNatClampNeg < 256 ∧ (nI j &&& (-17)) ||| 32 = nI ((nI j &&& (-17)) ||| 32).toNatClampNeg ∧ s_pb ((nI j &&& (-17)) ||| 32).toNatClampNeg = true by decide +kernel) j hj
set_option maxRecDepth 100000 in
theorem s_brkp {p : Int32} (h : s_p p) : (p &&& (-17)) ||| 32 = p := by
  obtain ⟨j, hj, rfl, hb⟩ := h
  exact (show ∀ j : Nat, j < 256 → s_pb j = true → (nI j &&& (-17)) ||| 32 = nI j by decide +kernel) j hj hb
set_option maxRecDepth 100000 in
theorem s_jsr {c : Int32} (h : s_w c) : (c - 1) &&& 255 = ((c - 1) &&& 65535) &&& 255 ∧ ((c - 1) >>> ((8 : Int32) &&& 31)) &&& 255 = (((c - 1) &&& 65535) >>> ((8 : Int32) &&& 31)) &&& 255 := by
  obtain ⟨j, hj, rfl⟩ := h
  by_cases z : j = 0
  · subst z; decide +kernel
  · have e : nI j - 1 = nI (j - 1) := pk_sub (b := 1) (by omega)
    rw [e, pk_andN (m := 65535) (k := 16) (by omega) (by decide), Nat.mod_eq_of_lt (a := j - 1) (by omega)]
    exact ⟨rfl, rfl⟩
set_option maxRecDepth 100000 in
theorem s_brk {c : Int32} (h : s_w c) : (c + 1) &&& 255 = ((c + 1) &&& 65535) &&& 255 ∧ ((c + 1) >>> ((8 : Int32) &&& 31)) &&& 255 = (((c + 1) &&& 65535) >>> ((8 : Int32) &&& 31)) &&& 255 := by
  obtain ⟨j, hj, rfl⟩ := h
  by_cases z : j = 65535
  · subst z; decide +kernel
  · rw [nI_1, pk_andN (m := 65535) (k := 16) (by omega) (by decide), Nat.mod_eq_of_lt (a := j + 1) (by omega)]
    exact ⟨rfl, rfl⟩
set_option maxRecDepth 100000 in
theorem sr_br {mm c2 oc x y : Int32} {C' : Nat → Int32} {c d : Prop} [Decidable c] [Decidable d] (hC : rc mm C' c2 oc) (e : x = y) (h : c ↔ ¬ d) : rc mm (if d then upd C' mm.toNatClampNeg ((C' mm.toNatClampNeg + x) &&& 65535) else C') (if c then c2 else ((c2 + y) &&& 65535)) oc := by
  by_cases z : d
  · rw [if_pos z, if_neg (fun w => h.mp w z), hC.1, e]
    exact rc_u hC (s_and65535 _)
  · rw [if_neg z, if_pos (h.mpr z)]
    exact hC
set_option maxRecDepth 100000 in
theorem sr_bit {mm fa fp op v : Int32} {gP : Nat → Int32} (hP : rp mm gP fp op) (hv : s_b v) : rp mm (if (fa &&& v) = 0 then (if v ≤ 127 then (if (v &&& 64) = 0 then (f_X5_set_gP mm (f_X5_set_gP mm (f_X5_set_gP mm gP 2 1) 128 0) 64 0) else (f_X5_set_gP mm (f_X5_set_gP mm (f_X5_set_gP mm gP 2 1) 128 0) 64 1)) else (if (v &&& 64) = 0 then (f_X5_set_gP mm (f_X5_set_gP mm (f_X5_set_gP mm gP 2 1) 128 1) 64 0) else (f_X5_set_gP mm (f_X5_set_gP mm (f_X5_set_gP mm gP 2 1) 128 1) 64 1))) else (if v ≤ 127 then (if (v &&& 64) = 0 then (f_X5_set_gP mm (f_X5_set_gP mm (f_X5_set_gP mm gP 2 0) 128 0) 64 0) else (f_X5_set_gP mm (f_X5_set_gP mm (f_X5_set_gP mm gP 2 0) 128 0) 64 1)) else (if (v &&& 64) = 0 then (f_X5_set_gP mm (f_X5_set_gP mm (f_X5_set_gP mm gP 2 0) 128 1) 64 0) else (f_X5_set_gP mm (f_X5_set_gP mm (f_X5_set_gP mm gP 2 0) 128 1) 64 1)))) (f_X1_testBits_fp fa fp v) op := by
  have hh : ∀ x y z : Int32, rp mm (f_X5_set_gP mm (f_X5_set_gP mm (f_X5_set_gP mm gP 2 x) 128 y) 64 z) (f_X1_setFlag_fp (f_X1_setFlag_fp (f_X1_setFlag_fp fp 2 x) 128 y) 64 z) op := fun x y z => rp_set (rp_set (rp_set hP F2) F128) F64
  have hn : (v ≤ 127 ∧ v &&& 128 = 0) ∨ (¬ v ≤ 127 ∧ ¬ v &&& 128 = 0) := by
    obtain ⟨j, hj, rfl⟩ := hv
    by_cases c : nI j ≤ 127
    · exact Or.inl ⟨c, (s_n7 j hj).1 c⟩
    · exact Or.inr ⟨c, by rw [((s_n7 j hj).2 c).1]; decide⟩
  unfold f_X1_testBits_fp
  rcases hn with ⟨n1, n2⟩ | ⟨n1, n2⟩ <;> by_cases c1 : fa &&& v = 0 <;> by_cases c3 : v &&& 64 = 0 <;> simp only [n1, n2, c1, c3, if_true, if_false] <;> exact hh _ _ _
set_option maxRecDepth 100000 in
/-- a break -/
theorem sr_break {mm fs os fp op fc oc st vc : Int32} {gB mem om gS gP gC : Nat → Int32} {back : Int32} (hm : wB mm) (hB : rm mm gB mem om) (hS : ra mm gS fs os) (hP : rp mm gP fp op) (hC : rc mm gC fc oc) {vr : Nat} (hv : vr < 4096) {back' st' : Int32}
    (e1 : back &&& 255 = back' &&& 255) (e2 : (back >>> ((8 : Int32) &&& 31)) &&& 255 = (back' >>> ((8 : Int32) &&& 31)) &&& 255) (e3 : st &&& 255 = st' &&& 255) (ev : vc = nI (61440 + vr)) :
    rm mm (f_X5_push_gB mm (f_X5_pushWord_gB mm gB gS back') (f_X5_pushWord_gS mm gS) st') (f_X1_breakTo_mem fs mem back st) om ∧ ra mm (f_X5_push_gS mm (f_X5_pushWord_gS mm gS)) (f_X1_breakTo_fs fs) os ∧ rp mm (f_X5_set_gP mm gP 4 1) (f_X1_breakTo_fp fp) op ∧
    rc mm (upd gC mm.toNatClampNeg (f_X5_plainWord_r mm (f_X5_push_gB mm (f_X5_pushWord_gB mm gB gS back') (f_X5_pushWord_gS mm gS) st') (nI vr))) (f_X1_breakTo_fc fs mem vc back st) oc := by
  obtain ⟨a1, a2⟩ := sr_pushWord hm hB hS e1 e2
  obtain ⟨b1, b2⟩ := sr_push hm a1 a2 e3
  refine ⟨b1, b2, rp_set hP F4, ?_⟩
  obtain ⟨w1, w2⟩ := rm_word hm b1 (i := vr) (j := 61440 + vr) (by omega) (by omega) (by omega)
  rw [w1]
  unfold f_X1_breakTo_fc
  rw [ev]
  exact rc_u hC w2
set_option maxRecDepth 100000 in
theorem op_ORA {mm fo oa ox oy os op oc fa fx fy fs fp ug ud c2 pl : Int32} {om mem lt t2 d2 l2 gB gA gX gY gS gP C2 R2 M2 L2 : Nat → Int32} {bt : Nat → Nat → Int32} (hm : s_m mm fo) (hB : rm mm gB mem om) (hA : ra mm gA fa oa) (hX : ra mm gX fx ox) (hY : ra mm gY fy oy) (hS : ra mm gS fs os) (hP : rp mm gP fp op) (hC : rc mm C2 c2 oc) (hu : ru ug lt t2 d2 l2 bt R2 M2 L2) (hp : s_w pl) (hf : ∃ j : Nat, j < 64 ∧ ug = nI j) (hw : wB ud) : SR mm oa ox oy os op oc om (f_X1_shown_r (fa ||| (f_X1_read_r mm fo mem ug lt t2 d2 l2 bt pl))) fx fy fs (f_X1_shown_fp fp (fa ||| (f_X1_read_r mm fo mem ug lt t2 d2 l2 bt pl))) c2 mem ug ud lt (f_X1_read_ct mm fo t2 pl) (f_X1_read_hd mm fo t2 d2 pl) (f_X1_read_la mm fo t2 d2 l2 bt pl) bt gB (upd gA mm.toNatClampNeg (f_X5_seen_r ((gA mm.toNatClampNeg) ||| (f_X5_read_r ug mm gB R2 M2 L2 pl)))) gX gY gS (f_X5_seen_gP mm gP ((gA mm.toNatClampNeg) ||| (f_X5_read_r ug mm gB R2 M2 L2 pl))) C2 (f_X5_read_gR mm R2 M2 pl) (f_X5_read_gM mm M2 pl) (f_X5_read_gL ug mm R2 M2 L2 pl) ug ud := by
  have hF : rf ug ud ug ud := ⟨rfl, rfl, hf, hw⟩
  unfold SR
  have rd := sr_read hm hp hB hf hu
  rw [rd.1, hA.1]
  exact ⟨hB, ra_s hA (s_bor hA.2.2 rd.2.1), hX, hY, hS, rp_seenb hP (s_bor hA.2.2 rd.2.1), hC, hF, rd.2.2⟩
set_option maxRecDepth 100000 in
theorem op_AND {mm fo oa ox oy os op oc fa fx fy fs fp ug ud c2 pl : Int32} {om mem lt t2 d2 l2 gB gA gX gY gS gP C2 R2 M2 L2 : Nat → Int32} {bt : Nat → Nat → Int32} (hm : s_m mm fo) (hB : rm mm gB mem om) (hA : ra mm gA fa oa) (hX : ra mm gX fx ox) (hY : ra mm gY fy oy) (hS : ra mm gS fs os) (hP : rp mm gP fp op) (hC : rc mm C2 c2 oc) (hu : ru ug lt t2 d2 l2 bt R2 M2 L2) (hp : s_w pl) (hf : ∃ j : Nat, j < 64 ∧ ug = nI j) (hw : wB ud) : SR mm oa ox oy os op oc om (f_X1_shown_r (fa &&& (f_X1_read_r mm fo mem ug lt t2 d2 l2 bt pl))) fx fy fs (f_X1_shown_fp fp (fa &&& (f_X1_read_r mm fo mem ug lt t2 d2 l2 bt pl))) c2 mem ug ud lt (f_X1_read_ct mm fo t2 pl) (f_X1_read_hd mm fo t2 d2 pl) (f_X1_read_la mm fo t2 d2 l2 bt pl) bt gB (upd gA mm.toNatClampNeg (f_X5_seen_r ((gA mm.toNatClampNeg) &&& (f_X5_read_r ug mm gB R2 M2 L2 pl)))) gX gY gS (f_X5_seen_gP mm gP ((gA mm.toNatClampNeg) &&& (f_X5_read_r ug mm gB R2 M2 L2 pl))) C2 (f_X5_read_gR mm R2 M2 pl) (f_X5_read_gM mm M2 pl) (f_X5_read_gL ug mm R2 M2 L2 pl) ug ud := by
  have hF : rf ug ud ug ud := ⟨rfl, rfl, hf, hw⟩
  unfold SR
  have rd := sr_read hm hp hB hf hu
  rw [rd.1, hA.1]
  exact ⟨hB, ra_s hA (s_band hA.2.2 rd.2.1), hX, hY, hS, rp_seenb hP (s_band hA.2.2 rd.2.1), hC, hF, rd.2.2⟩
set_option maxRecDepth 100000 in
theorem op_EOR {mm fo oa ox oy os op oc fa fx fy fs fp ug ud c2 pl : Int32} {om mem lt t2 d2 l2 gB gA gX gY gS gP C2 R2 M2 L2 : Nat → Int32} {bt : Nat → Nat → Int32} (hm : s_m mm fo) (hB : rm mm gB mem om) (hA : ra mm gA fa oa) (hX : ra mm gX fx ox) (hY : ra mm gY fy oy) (hS : ra mm gS fs os) (hP : rp mm gP fp op) (hC : rc mm C2 c2 oc) (hu : ru ug lt t2 d2 l2 bt R2 M2 L2) (hp : s_w pl) (hf : ∃ j : Nat, j < 64 ∧ ug = nI j) (hw : wB ud) : SR mm oa ox oy os op oc om (f_X1_shown_r (fa ^^^ (f_X1_read_r mm fo mem ug lt t2 d2 l2 bt pl))) fx fy fs (f_X1_shown_fp fp (fa ^^^ (f_X1_read_r mm fo mem ug lt t2 d2 l2 bt pl))) c2 mem ug ud lt (f_X1_read_ct mm fo t2 pl) (f_X1_read_hd mm fo t2 d2 pl) (f_X1_read_la mm fo t2 d2 l2 bt pl) bt gB (upd gA mm.toNatClampNeg (f_X5_seen_r ((gA mm.toNatClampNeg) ^^^ (f_X5_read_r ug mm gB R2 M2 L2 pl)))) gX gY gS (f_X5_seen_gP mm gP ((gA mm.toNatClampNeg) ^^^ (f_X5_read_r ug mm gB R2 M2 L2 pl))) C2 (f_X5_read_gR mm R2 M2 pl) (f_X5_read_gM mm M2 pl) (f_X5_read_gL ug mm R2 M2 L2 pl) ug ud := by
  have hF : rf ug ud ug ud := ⟨rfl, rfl, hf, hw⟩
  unfold SR
  have rd := sr_read hm hp hB hf hu
  rw [rd.1, hA.1]
  exact ⟨hB, ra_s hA (s_bxor hA.2.2 rd.2.1), hX, hY, hS, rp_seenb hP (s_bxor hA.2.2 rd.2.1), hC, hF, rd.2.2⟩
set_option maxRecDepth 100000 in
theorem op_ADC {mm fo oa ox oy os op oc fa fx fy fs fp ug ud c2 pl : Int32} {om mem lt t2 d2 l2 gB gA gX gY gS gP C2 R2 M2 L2 : Nat → Int32} {bt : Nat → Nat → Int32} (hm : s_m mm fo) (hB : rm mm gB mem om) (hA : ra mm gA fa oa) (hX : ra mm gX fx ox) (hY : ra mm gY fy oy) (hS : ra mm gS fs os) (hP : rp mm gP fp op) (hC : rc mm C2 c2 oc) (hu : ru ug lt t2 d2 l2 bt R2 M2 L2) (hp : s_w pl) (hf : ∃ j : Nat, j < 64 ∧ ug = nI j) (hw : wB ud) : SR mm oa ox oy os op oc om (f_X1_add_fa fa fp (f_X1_read_r mm fo mem ug lt t2 d2 l2 bt pl)) fx fy fs (f_X1_add_fp fa fp (f_X1_read_r mm fo mem ug lt t2 d2 l2 bt pl)) c2 mem ug ud lt (f_X1_read_ct mm fo t2 pl) (f_X1_read_hd mm fo t2 d2 pl) (f_X1_read_la mm fo t2 d2 l2 bt pl) bt gB (f_X5_add_gA mm gA gP (f_X5_read_r ug mm gB R2 M2 L2 pl)) gX gY gS (f_X5_add_gP mm gA gP (f_X5_read_r ug mm gB R2 M2 L2 pl)) C2 (f_X5_read_gR mm R2 M2 pl) (f_X5_read_gM mm M2 pl) (f_X5_read_gL ug mm R2 M2 L2 pl) ug ud := by
  have hF : rf ug ud ug ud := ⟨rfl, rfl, hf, hw⟩
  unfold SR
  have rd := sr_read hm hp hB hf hu
  rw [rd.1]
  exact ⟨hB, (sr_add hA hP _).1, hX, hY, hS, (sr_add hA hP _).2, hC, hF, rd.2.2⟩
set_option maxRecDepth 100000 in
theorem op_STA {mm fo oa ox oy os op oc fa fx fy fs fp ug ud c2 pl : Int32} {om mem lt t2 d2 l2 gB gA gX gY gS gP C2 R2 M2 L2 : Nat → Int32} {bt : Nat → Nat → Int32} (hm : s_m mm fo) (hB : rm mm gB mem om) (hA : ra mm gA fa oa) (hX : ra mm gX fx ox) (hY : ra mm gY fy oy) (hS : ra mm gS fs os) (hP : rp mm gP fp op) (hC : rc mm C2 c2 oc) (hu : ru ug lt t2 d2 l2 bt R2 M2 L2) (hp : s_w pl) (hf : ∃ j : Nat, j < 64 ∧ ug = nI j) (hw : wB ud) : SR mm oa ox oy os op oc om fa fx fy fs fp c2 (f_X1_write_mem fo mem pl fa) (f_X1_write_ug mm fo ug pl fa) (f_X1_write_ud mm fo ug ud pl fa) (f_X1_write_lt mm fo ug lt pl fa) (f_X1_write_ct mm fo lt t2 pl) d2 l2 (f_X1_write_bt mm fo lt t2 d2 bt pl fa) (f_X5_write_gB mm gB pl (gA mm.toNatClampNeg)) gA gX gY gS gP C2 (f_X5_write_gR ug mm R2 M2 pl (gA mm.toNatClampNeg)) (f_X5_write_gM ug mm M2 pl) L2 (f_X5_write_un ug mm pl (gA mm.toNatClampNeg)) (f_X5_write_ow ug ud mm pl (gA mm.toNatClampNeg)) := by
  have hF : rf ug ud ug ud := ⟨rfl, rfl, hf, hw⟩
  unfold SR
  rw [hA.1]
  have wr := sr_write hm hp hA.2.2 hB hF hu
  exact ⟨wr.1, hA, hX, hY, hS, hP, hC, wr.2.1, wr.2.2⟩
set_option maxRecDepth 100000 in
theorem op_LDA {mm fo oa ox oy os op oc fa fx fy fs fp ug ud c2 pl : Int32} {om mem lt t2 d2 l2 gB gA gX gY gS gP C2 R2 M2 L2 : Nat → Int32} {bt : Nat → Nat → Int32} (hm : s_m mm fo) (hB : rm mm gB mem om) (hA : ra mm gA fa oa) (hX : ra mm gX fx ox) (hY : ra mm gY fy oy) (hS : ra mm gS fs os) (hP : rp mm gP fp op) (hC : rc mm C2 c2 oc) (hu : ru ug lt t2 d2 l2 bt R2 M2 L2) (hp : s_w pl) (hf : ∃ j : Nat, j < 64 ∧ ug = nI j) (hw : wB ud) : SR mm oa ox oy os op oc om (f_X1_shown_r (f_X1_read_r mm fo mem ug lt t2 d2 l2 bt pl)) fx fy fs (f_X1_shown_fp fp (f_X1_read_r mm fo mem ug lt t2 d2 l2 bt pl)) c2 mem ug ud lt (f_X1_read_ct mm fo t2 pl) (f_X1_read_hd mm fo t2 d2 pl) (f_X1_read_la mm fo t2 d2 l2 bt pl) bt gB (upd gA mm.toNatClampNeg (f_X5_seen_r (f_X5_read_r ug mm gB R2 M2 L2 pl))) gX gY gS (f_X5_seen_gP mm gP (f_X5_read_r ug mm gB R2 M2 L2 pl)) C2 (f_X5_read_gR mm R2 M2 pl) (f_X5_read_gM mm M2 pl) (f_X5_read_gL ug mm R2 M2 L2 pl) ug ud := by
  have hF : rf ug ud ug ud := ⟨rfl, rfl, hf, hw⟩
  unfold SR
  have rd := sr_read hm hp hB hf hu
  rw [rd.1]
  exact ⟨hB, ra_s hA rd.2.1, hX, hY, hS, rp_seenb hP rd.2.1, hC, hF, rd.2.2⟩
set_option maxRecDepth 100000 in
theorem op_CMP {mm fo oa ox oy os op oc fa fx fy fs fp ug ud c2 pl : Int32} {om mem lt t2 d2 l2 gB gA gX gY gS gP C2 R2 M2 L2 : Nat → Int32} {bt : Nat → Nat → Int32} (hm : s_m mm fo) (hB : rm mm gB mem om) (hA : ra mm gA fa oa) (hX : ra mm gX fx ox) (hY : ra mm gY fy oy) (hS : ra mm gS fs os) (hP : rp mm gP fp op) (hC : rc mm C2 c2 oc) (hu : ru ug lt t2 d2 l2 bt R2 M2 L2) (hp : s_w pl) (hf : ∃ j : Nat, j < 64 ∧ ug = nI j) (hw : wB ud) : SR mm oa ox oy os op oc om fa fx fy fs (f_X1_compare_fp fp fa (f_X1_read_r mm fo mem ug lt t2 d2 l2 bt pl)) c2 mem ug ud lt (f_X1_read_ct mm fo t2 pl) (f_X1_read_hd mm fo t2 d2 pl) (f_X1_read_la mm fo t2 d2 l2 bt pl) bt gB gA gX gY gS (f_X5_compare_gP mm gP (gA mm.toNatClampNeg) (f_X5_read_r ug mm gB R2 M2 L2 pl)) C2 (f_X5_read_gR mm R2 M2 pl) (f_X5_read_gM mm M2 pl) (f_X5_read_gL ug mm R2 M2 L2 pl) ug ud := by
  have hF : rf ug ud ug ud := ⟨rfl, rfl, hf, hw⟩
  unfold SR
  have rd := sr_read hm hp hB hf hu
  rw [rd.1, hA.1]
  exact ⟨hB, hA, hX, hY, hS, sr_cmp hP _ _, hC, hF, rd.2.2⟩
set_option maxRecDepth 100000 in
theorem op_SBC {mm fo oa ox oy os op oc fa fx fy fs fp ug ud c2 pl : Int32} {om mem lt t2 d2 l2 gB gA gX gY gS gP C2 R2 M2 L2 : Nat → Int32} {bt : Nat → Nat → Int32} (hm : s_m mm fo) (hB : rm mm gB mem om) (hA : ra mm gA fa oa) (hX : ra mm gX fx ox) (hY : ra mm gY fy oy) (hS : ra mm gS fs os) (hP : rp mm gP fp op) (hC : rc mm C2 c2 oc) (hu : ru ug lt t2 d2 l2 bt R2 M2 L2) (hp : s_w pl) (hf : ∃ j : Nat, j < 64 ∧ ug = nI j) (hw : wB ud) : SR mm oa ox oy os op oc om (f_X1_add_fa fa fp ((f_X1_read_r mm fo mem ug lt t2 d2 l2 bt pl) ^^^ 255)) fx fy fs (f_X1_add_fp fa fp ((f_X1_read_r mm fo mem ug lt t2 d2 l2 bt pl) ^^^ 255)) c2 mem ug ud lt (f_X1_read_ct mm fo t2 pl) (f_X1_read_hd mm fo t2 d2 pl) (f_X1_read_la mm fo t2 d2 l2 bt pl) bt gB (f_X5_add_gA mm gA gP ((f_X5_read_r ug mm gB R2 M2 L2 pl) ^^^ 255)) gX gY gS (f_X5_add_gP mm gA gP ((f_X5_read_r ug mm gB R2 M2 L2 pl) ^^^ 255)) C2 (f_X5_read_gR mm R2 M2 pl) (f_X5_read_gM mm M2 pl) (f_X5_read_gL ug mm R2 M2 L2 pl) ug ud := by
  have hF : rf ug ud ug ud := ⟨rfl, rfl, hf, hw⟩
  unfold SR
  have rd := sr_read hm hp hB hf hu
  rw [rd.1]
  exact ⟨hB, (sr_add hA hP _).1, hX, hY, hS, (sr_add hA hP _).2, hC, hF, rd.2.2⟩
set_option maxRecDepth 100000 in
theorem op_ASLm {mm fo oa ox oy os op oc fa fx fy fs fp ug ud c2 pl : Int32} {om mem lt t2 d2 l2 gB gA gX gY gS gP C2 R2 M2 L2 : Nat → Int32} {bt : Nat → Nat → Int32} (hm : s_m mm fo) (hB : rm mm gB mem om) (hA : ra mm gA fa oa) (hX : ra mm gX fx ox) (hY : ra mm gY fy oy) (hS : ra mm gS fs os) (hP : rp mm gP fp op) (hC : rc mm C2 c2 oc) (hu : ru ug lt t2 d2 l2 bt R2 M2 L2) (hp : s_w pl) (hf : ∃ j : Nat, j < 64 ∧ ug = nI j) (hw : wB ud) : SR mm oa ox oy os op oc om fa fx fy fs (f_X1_shown_fp (f_X1_changed_fp fp 48 (f_X1_read_r mm fo mem ug lt t2 d2 l2 bt pl)) (f_X1_changed_r fp 48 (f_X1_read_r mm fo mem ug lt t2 d2 l2 bt pl))) c2 (f_X1_write_mem fo mem pl (f_X1_shown_r (f_X1_changed_r fp 48 (f_X1_read_r mm fo mem ug lt t2 d2 l2 bt pl)))) (f_X1_write_ug mm fo ug pl (f_X1_shown_r (f_X1_changed_r fp 48 (f_X1_read_r mm fo mem ug lt t2 d2 l2 bt pl)))) (f_X1_write_ud mm fo ug ud pl (f_X1_shown_r (f_X1_changed_r fp 48 (f_X1_read_r mm fo mem ug lt t2 d2 l2 bt pl)))) (f_X1_write_lt mm fo ug lt pl (f_X1_shown_r (f_X1_changed_r fp 48 (f_X1_read_r mm fo mem ug lt t2 d2 l2 bt pl)))) (f_X1_write_ct mm fo lt (f_X1_read_ct mm fo t2 pl) pl) (f_X1_read_hd mm fo t2 d2 pl) (f_X1_read_la mm fo t2 d2 l2 bt pl) (f_X1_write_bt mm fo lt (f_X1_read_ct mm fo t2 pl) (f_X1_read_hd mm fo t2 d2 pl) bt pl (f_X1_shown_r (f_X1_changed_r fp 48 (f_X1_read_r mm fo mem ug lt t2 d2 l2 bt pl)))) (f_X5_write_gB mm gB pl (f_X5_changed_r mm gP 0 (f_X5_read_r ug mm gB R2 M2 L2 pl))) gA gX gY gS (f_X5_changed_gP mm gP 0 (f_X5_read_r ug mm gB R2 M2 L2 pl)) C2 (f_X5_write_gR ug mm (f_X5_read_gR mm R2 M2 pl) (f_X5_read_gM mm M2 pl) pl (f_X5_changed_r mm gP 0 (f_X5_read_r ug mm gB R2 M2 L2 pl))) (f_X5_write_gM ug mm (f_X5_read_gM mm M2 pl) pl) (f_X5_read_gL ug mm R2 M2 L2 pl) (f_X5_write_un ug mm pl (f_X5_changed_r mm gP 0 (f_X5_read_r ug mm gB R2 M2 L2 pl))) (f_X5_write_ow ug ud mm pl (f_X5_changed_r mm gP 0 (f_X5_read_r ug mm gB R2 M2 L2 pl))) := by
  have hF : rf ug ud ug ud := ⟨rfl, rfl, hf, hw⟩
  unfold SR
  have rd := sr_read hm hp hB hf hu
  have cg := sr_changed (q := 0) (k := 48) (Or.inl ⟨rfl, rfl⟩) hP rd.2.1
  rw [rd.1, cg.1]
  simp only [s_shr]
  have wr := sr_write hm hp cg.2.1 hB hF rd.2.2
  exact ⟨wr.1, hA, hX, hY, hS, cg.2.2, hC, wr.2.1, wr.2.2⟩
set_option maxRecDepth 100000 in
theorem op_ROLm {mm fo oa ox oy os op oc fa fx fy fs fp ug ud c2 pl : Int32} {om mem lt t2 d2 l2 gB gA gX gY gS gP C2 R2 M2 L2 : Nat → Int32} {bt : Nat → Nat → Int32} (hm : s_m mm fo) (hB : rm mm gB mem om) (hA : ra mm gA fa oa) (hX : ra mm gX fx ox) (hY : ra mm gY fy oy) (hS : ra mm gS fs os) (hP : rp mm gP fp op) (hC : rc mm C2 c2 oc) (hu : ru ug lt t2 d2 l2 bt R2 M2 L2) (hp : s_w pl) (hf : ∃ j : Nat, j < 64 ∧ ug = nI j) (hw : wB ud) : SR mm oa ox oy os op oc om fa fx fy fs (f_X1_shown_fp (f_X1_changed_fp fp 49 (f_X1_read_r mm fo mem ug lt t2 d2 l2 bt pl)) (f_X1_changed_r fp 49 (f_X1_read_r mm fo mem ug lt t2 d2 l2 bt pl))) c2 (f_X1_write_mem fo mem pl (f_X1_shown_r (f_X1_changed_r fp 49 (f_X1_read_r mm fo mem ug lt t2 d2 l2 bt pl)))) (f_X1_write_ug mm fo ug pl (f_X1_shown_r (f_X1_changed_r fp 49 (f_X1_read_r mm fo mem ug lt t2 d2 l2 bt pl)))) (f_X1_write_ud mm fo ug ud pl (f_X1_shown_r (f_X1_changed_r fp 49 (f_X1_read_r mm fo mem ug lt t2 d2 l2 bt pl)))) (f_X1_write_lt mm fo ug lt pl (f_X1_shown_r (f_X1_changed_r fp 49 (f_X1_read_r mm fo mem ug lt t2 d2 l2 bt pl)))) (f_X1_write_ct mm fo lt (f_X1_read_ct mm fo t2 pl) pl) (f_X1_read_hd mm fo t2 d2 pl) (f_X1_read_la mm fo t2 d2 l2 bt pl) (f_X1_write_bt mm fo lt (f_X1_read_ct mm fo t2 pl) (f_X1_read_hd mm fo t2 d2 pl) bt pl (f_X1_shown_r (f_X1_changed_r fp 49 (f_X1_read_r mm fo mem ug lt t2 d2 l2 bt pl)))) (f_X5_write_gB mm gB pl (f_X5_changed_r mm gP 1 (f_X5_read_r ug mm gB R2 M2 L2 pl))) gA gX gY gS (f_X5_changed_gP mm gP 1 (f_X5_read_r ug mm gB R2 M2 L2 pl)) C2 (f_X5_write_gR ug mm (f_X5_read_gR mm R2 M2 pl) (f_X5_read_gM mm M2 pl) pl (f_X5_changed_r mm gP 1 (f_X5_read_r ug mm gB R2 M2 L2 pl))) (f_X5_write_gM ug mm (f_X5_read_gM mm M2 pl) pl) (f_X5_read_gL ug mm R2 M2 L2 pl) (f_X5_write_un ug mm pl (f_X5_changed_r mm gP 1 (f_X5_read_r ug mm gB R2 M2 L2 pl))) (f_X5_write_ow ug ud mm pl (f_X5_changed_r mm gP 1 (f_X5_read_r ug mm gB R2 M2 L2 pl))) := by
  have hF : rf ug ud ug ud := ⟨rfl, rfl, hf, hw⟩
  unfold SR
  have rd := sr_read hm hp hB hf hu
  have cg := sr_changed (q := 1) (k := 49) (Or.inr (Or.inl ⟨rfl, rfl⟩)) hP rd.2.1
  rw [rd.1, cg.1]
  simp only [s_shr]
  have wr := sr_write hm hp cg.2.1 hB hF rd.2.2
  exact ⟨wr.1, hA, hX, hY, hS, cg.2.2, hC, wr.2.1, wr.2.2⟩
set_option maxRecDepth 100000 in
theorem op_LSRm {mm fo oa ox oy os op oc fa fx fy fs fp ug ud c2 pl : Int32} {om mem lt t2 d2 l2 gB gA gX gY gS gP C2 R2 M2 L2 : Nat → Int32} {bt : Nat → Nat → Int32} (hm : s_m mm fo) (hB : rm mm gB mem om) (hA : ra mm gA fa oa) (hX : ra mm gX fx ox) (hY : ra mm gY fy oy) (hS : ra mm gS fs os) (hP : rp mm gP fp op) (hC : rc mm C2 c2 oc) (hu : ru ug lt t2 d2 l2 bt R2 M2 L2) (hp : s_w pl) (hf : ∃ j : Nat, j < 64 ∧ ug = nI j) (hw : wB ud) : SR mm oa ox oy os op oc om fa fx fy fs (f_X1_shown_fp (f_X1_changed_fp fp 50 (f_X1_read_r mm fo mem ug lt t2 d2 l2 bt pl)) (f_X1_changed_r fp 50 (f_X1_read_r mm fo mem ug lt t2 d2 l2 bt pl))) c2 (f_X1_write_mem fo mem pl (f_X1_shown_r (f_X1_changed_r fp 50 (f_X1_read_r mm fo mem ug lt t2 d2 l2 bt pl)))) (f_X1_write_ug mm fo ug pl (f_X1_shown_r (f_X1_changed_r fp 50 (f_X1_read_r mm fo mem ug lt t2 d2 l2 bt pl)))) (f_X1_write_ud mm fo ug ud pl (f_X1_shown_r (f_X1_changed_r fp 50 (f_X1_read_r mm fo mem ug lt t2 d2 l2 bt pl)))) (f_X1_write_lt mm fo ug lt pl (f_X1_shown_r (f_X1_changed_r fp 50 (f_X1_read_r mm fo mem ug lt t2 d2 l2 bt pl)))) (f_X1_write_ct mm fo lt (f_X1_read_ct mm fo t2 pl) pl) (f_X1_read_hd mm fo t2 d2 pl) (f_X1_read_la mm fo t2 d2 l2 bt pl) (f_X1_write_bt mm fo lt (f_X1_read_ct mm fo t2 pl) (f_X1_read_hd mm fo t2 d2 pl) bt pl (f_X1_shown_r (f_X1_changed_r fp 50 (f_X1_read_r mm fo mem ug lt t2 d2 l2 bt pl)))) (f_X5_write_gB mm gB pl (f_X5_changed_r mm gP 2 (f_X5_read_r ug mm gB R2 M2 L2 pl))) gA gX gY gS (f_X5_changed_gP mm gP 2 (f_X5_read_r ug mm gB R2 M2 L2 pl)) C2 (f_X5_write_gR ug mm (f_X5_read_gR mm R2 M2 pl) (f_X5_read_gM mm M2 pl) pl (f_X5_changed_r mm gP 2 (f_X5_read_r ug mm gB R2 M2 L2 pl))) (f_X5_write_gM ug mm (f_X5_read_gM mm M2 pl) pl) (f_X5_read_gL ug mm R2 M2 L2 pl) (f_X5_write_un ug mm pl (f_X5_changed_r mm gP 2 (f_X5_read_r ug mm gB R2 M2 L2 pl))) (f_X5_write_ow ug ud mm pl (f_X5_changed_r mm gP 2 (f_X5_read_r ug mm gB R2 M2 L2 pl))) := by
  have hF : rf ug ud ug ud := ⟨rfl, rfl, hf, hw⟩
  unfold SR
  have rd := sr_read hm hp hB hf hu
  have cg := sr_changed (q := 2) (k := 50) (Or.inr (Or.inr (Or.inl ⟨rfl, rfl⟩))) hP rd.2.1
  rw [rd.1, cg.1]
  simp only [s_shr]
  have wr := sr_write hm hp cg.2.1 hB hF rd.2.2
  exact ⟨wr.1, hA, hX, hY, hS, cg.2.2, hC, wr.2.1, wr.2.2⟩
set_option maxRecDepth 100000 in
theorem op_RORm {mm fo oa ox oy os op oc fa fx fy fs fp ug ud c2 pl : Int32} {om mem lt t2 d2 l2 gB gA gX gY gS gP C2 R2 M2 L2 : Nat → Int32} {bt : Nat → Nat → Int32} (hm : s_m mm fo) (hB : rm mm gB mem om) (hA : ra mm gA fa oa) (hX : ra mm gX fx ox) (hY : ra mm gY fy oy) (hS : ra mm gS fs os) (hP : rp mm gP fp op) (hC : rc mm C2 c2 oc) (hu : ru ug lt t2 d2 l2 bt R2 M2 L2) (hp : s_w pl) (hf : ∃ j : Nat, j < 64 ∧ ug = nI j) (hw : wB ud) : SR mm oa ox oy os op oc om fa fx fy fs (f_X1_shown_fp (f_X1_changed_fp fp 51 (f_X1_read_r mm fo mem ug lt t2 d2 l2 bt pl)) (f_X1_changed_r fp 51 (f_X1_read_r mm fo mem ug lt t2 d2 l2 bt pl))) c2 (f_X1_write_mem fo mem pl (f_X1_shown_r (f_X1_changed_r fp 51 (f_X1_read_r mm fo mem ug lt t2 d2 l2 bt pl)))) (f_X1_write_ug mm fo ug pl (f_X1_shown_r (f_X1_changed_r fp 51 (f_X1_read_r mm fo mem ug lt t2 d2 l2 bt pl)))) (f_X1_write_ud mm fo ug ud pl (f_X1_shown_r (f_X1_changed_r fp 51 (f_X1_read_r mm fo mem ug lt t2 d2 l2 bt pl)))) (f_X1_write_lt mm fo ug lt pl (f_X1_shown_r (f_X1_changed_r fp 51 (f_X1_read_r mm fo mem ug lt t2 d2 l2 bt pl)))) (f_X1_write_ct mm fo lt (f_X1_read_ct mm fo t2 pl) pl) (f_X1_read_hd mm fo t2 d2 pl) (f_X1_read_la mm fo t2 d2 l2 bt pl) (f_X1_write_bt mm fo lt (f_X1_read_ct mm fo t2 pl) (f_X1_read_hd mm fo t2 d2 pl) bt pl (f_X1_shown_r (f_X1_changed_r fp 51 (f_X1_read_r mm fo mem ug lt t2 d2 l2 bt pl)))) (f_X5_write_gB mm gB pl (f_X5_changed_r mm gP 3 (f_X5_read_r ug mm gB R2 M2 L2 pl))) gA gX gY gS (f_X5_changed_gP mm gP 3 (f_X5_read_r ug mm gB R2 M2 L2 pl)) C2 (f_X5_write_gR ug mm (f_X5_read_gR mm R2 M2 pl) (f_X5_read_gM mm M2 pl) pl (f_X5_changed_r mm gP 3 (f_X5_read_r ug mm gB R2 M2 L2 pl))) (f_X5_write_gM ug mm (f_X5_read_gM mm M2 pl) pl) (f_X5_read_gL ug mm R2 M2 L2 pl) (f_X5_write_un ug mm pl (f_X5_changed_r mm gP 3 (f_X5_read_r ug mm gB R2 M2 L2 pl))) (f_X5_write_ow ug ud mm pl (f_X5_changed_r mm gP 3 (f_X5_read_r ug mm gB R2 M2 L2 pl))) := by
  have hF : rf ug ud ug ud := ⟨rfl, rfl, hf, hw⟩
  unfold SR
  have rd := sr_read hm hp hB hf hu
  have cg := sr_changed (q := 3) (k := 51) (Or.inr (Or.inr (Or.inr (Or.inl ⟨rfl, rfl⟩)))) hP rd.2.1
  rw [rd.1, cg.1]
  simp only [s_shr]
  have wr := sr_write hm hp cg.2.1 hB hF rd.2.2
  exact ⟨wr.1, hA, hX, hY, hS, cg.2.2, hC, wr.2.1, wr.2.2⟩
set_option maxRecDepth 100000 in
theorem op_STXm {mm fo oa ox oy os op oc fa fx fy fs fp ug ud c2 pl : Int32} {om mem lt t2 d2 l2 gB gA gX gY gS gP C2 R2 M2 L2 : Nat → Int32} {bt : Nat → Nat → Int32} (hm : s_m mm fo) (hB : rm mm gB mem om) (hA : ra mm gA fa oa) (hX : ra mm gX fx ox) (hY : ra mm gY fy oy) (hS : ra mm gS fs os) (hP : rp mm gP fp op) (hC : rc mm C2 c2 oc) (hu : ru ug lt t2 d2 l2 bt R2 M2 L2) (hp : s_w pl) (hf : ∃ j : Nat, j < 64 ∧ ug = nI j) (hw : wB ud) : SR mm oa ox oy os op oc om fa fx fy fs fp c2 (f_X1_write_mem fo mem pl fx) (f_X1_write_ug mm fo ug pl fx) (f_X1_write_ud mm fo ug ud pl fx) (f_X1_write_lt mm fo ug lt pl fx) (f_X1_write_ct mm fo lt t2 pl) d2 l2 (f_X1_write_bt mm fo lt t2 d2 bt pl fx) (f_X5_write_gB mm gB pl (gX mm.toNatClampNeg)) gA gX gY gS gP C2 (f_X5_write_gR ug mm R2 M2 pl (gX mm.toNatClampNeg)) (f_X5_write_gM ug mm M2 pl) L2 (f_X5_write_un ug mm pl (gX mm.toNatClampNeg)) (f_X5_write_ow ug ud mm pl (gX mm.toNatClampNeg)) := by
  have hF : rf ug ud ug ud := ⟨rfl, rfl, hf, hw⟩
  unfold SR
  rw [hX.1]
  have wr := sr_write hm hp hX.2.2 hB hF hu
  exact ⟨wr.1, hA, hX, hY, hS, hP, hC, wr.2.1, wr.2.2⟩
set_option maxRecDepth 100000 in
theorem op_LDXm {mm fo oa ox oy os op oc fa fx fy fs fp ug ud c2 pl : Int32} {om mem lt t2 d2 l2 gB gA gX gY gS gP C2 R2 M2 L2 : Nat → Int32} {bt : Nat → Nat → Int32} (hm : s_m mm fo) (hB : rm mm gB mem om) (hA : ra mm gA fa oa) (hX : ra mm gX fx ox) (hY : ra mm gY fy oy) (hS : ra mm gS fs os) (hP : rp mm gP fp op) (hC : rc mm C2 c2 oc) (hu : ru ug lt t2 d2 l2 bt R2 M2 L2) (hp : s_w pl) (hf : ∃ j : Nat, j < 64 ∧ ug = nI j) (hw : wB ud) : SR mm oa ox oy os op oc om fa (f_X1_shown_r (f_X1_read_r mm fo mem ug lt t2 d2 l2 bt pl)) fy fs (f_X1_shown_fp fp (f_X1_read_r mm fo mem ug lt t2 d2 l2 bt pl)) c2 mem ug ud lt (f_X1_read_ct mm fo t2 pl) (f_X1_read_hd mm fo t2 d2 pl) (f_X1_read_la mm fo t2 d2 l2 bt pl) bt gB gA (upd gX mm.toNatClampNeg (f_X5_seen_r (f_X5_read_r ug mm gB R2 M2 L2 pl))) gY gS (f_X5_seen_gP mm gP (f_X5_read_r ug mm gB R2 M2 L2 pl)) C2 (f_X5_read_gR mm R2 M2 pl) (f_X5_read_gM mm M2 pl) (f_X5_read_gL ug mm R2 M2 L2 pl) ug ud := by
  have hF : rf ug ud ug ud := ⟨rfl, rfl, hf, hw⟩
  unfold SR
  have rd := sr_read hm hp hB hf hu
  rw [rd.1]
  exact ⟨hB, hA, ra_s hX rd.2.1, hY, hS, rp_seenb hP rd.2.1, hC, hF, rd.2.2⟩
set_option maxRecDepth 100000 in
theorem op_DECm {mm fo oa ox oy os op oc fa fx fy fs fp ug ud c2 pl : Int32} {om mem lt t2 d2 l2 gB gA gX gY gS gP C2 R2 M2 L2 : Nat → Int32} {bt : Nat → Nat → Int32} (hm : s_m mm fo) (hB : rm mm gB mem om) (hA : ra mm gA fa oa) (hX : ra mm gX fx ox) (hY : ra mm gY fy oy) (hS : ra mm gS fs os) (hP : rp mm gP fp op) (hC : rc mm C2 c2 oc) (hu : ru ug lt t2 d2 l2 bt R2 M2 L2) (hp : s_w pl) (hf : ∃ j : Nat, j < 64 ∧ ug = nI j) (hw : wB ud) : SR mm oa ox oy os op oc om fa fx fy fs (f_X1_shown_fp (f_X1_changed_fp fp 52 (f_X1_read_r mm fo mem ug lt t2 d2 l2 bt pl)) (f_X1_changed_r fp 52 (f_X1_read_r mm fo mem ug lt t2 d2 l2 bt pl))) c2 (f_X1_write_mem fo mem pl (f_X1_shown_r (f_X1_changed_r fp 52 (f_X1_read_r mm fo mem ug lt t2 d2 l2 bt pl)))) (f_X1_write_ug mm fo ug pl (f_X1_shown_r (f_X1_changed_r fp 52 (f_X1_read_r mm fo mem ug lt t2 d2 l2 bt pl)))) (f_X1_write_ud mm fo ug ud pl (f_X1_shown_r (f_X1_changed_r fp 52 (f_X1_read_r mm fo mem ug lt t2 d2 l2 bt pl)))) (f_X1_write_lt mm fo ug lt pl (f_X1_shown_r (f_X1_changed_r fp 52 (f_X1_read_r mm fo mem ug lt t2 d2 l2 bt pl)))) (f_X1_write_ct mm fo lt (f_X1_read_ct mm fo t2 pl) pl) (f_X1_read_hd mm fo t2 d2 pl) (f_X1_read_la mm fo t2 d2 l2 bt pl) (f_X1_write_bt mm fo lt (f_X1_read_ct mm fo t2 pl) (f_X1_read_hd mm fo t2 d2 pl) bt pl (f_X1_shown_r (f_X1_changed_r fp 52 (f_X1_read_r mm fo mem ug lt t2 d2 l2 bt pl)))) (f_X5_write_gB mm gB pl (f_X5_changed_r mm gP 6 (f_X5_read_r ug mm gB R2 M2 L2 pl))) gA gX gY gS (f_X5_changed_gP mm gP 6 (f_X5_read_r ug mm gB R2 M2 L2 pl)) C2 (f_X5_write_gR ug mm (f_X5_read_gR mm R2 M2 pl) (f_X5_read_gM mm M2 pl) pl (f_X5_changed_r mm gP 6 (f_X5_read_r ug mm gB R2 M2 L2 pl))) (f_X5_write_gM ug mm (f_X5_read_gM mm M2 pl) pl) (f_X5_read_gL ug mm R2 M2 L2 pl) (f_X5_write_un ug mm pl (f_X5_changed_r mm gP 6 (f_X5_read_r ug mm gB R2 M2 L2 pl))) (f_X5_write_ow ug ud mm pl (f_X5_changed_r mm gP 6 (f_X5_read_r ug mm gB R2 M2 L2 pl))) := by
  have hF : rf ug ud ug ud := ⟨rfl, rfl, hf, hw⟩
  unfold SR
  have rd := sr_read hm hp hB hf hu
  have cg := sr_changed (q := 6) (k := 52) (Or.inr (Or.inr (Or.inr (Or.inr (Or.inl ⟨rfl, rfl⟩))))) hP rd.2.1
  rw [rd.1, cg.1]
  simp only [s_shr]
  have wr := sr_write hm hp cg.2.1 hB hF rd.2.2
  exact ⟨wr.1, hA, hX, hY, hS, cg.2.2, hC, wr.2.1, wr.2.2⟩
set_option maxRecDepth 100000 in
theorem op_INCm {mm fo oa ox oy os op oc fa fx fy fs fp ug ud c2 pl : Int32} {om mem lt t2 d2 l2 gB gA gX gY gS gP C2 R2 M2 L2 : Nat → Int32} {bt : Nat → Nat → Int32} (hm : s_m mm fo) (hB : rm mm gB mem om) (hA : ra mm gA fa oa) (hX : ra mm gX fx ox) (hY : ra mm gY fy oy) (hS : ra mm gS fs os) (hP : rp mm gP fp op) (hC : rc mm C2 c2 oc) (hu : ru ug lt t2 d2 l2 bt R2 M2 L2) (hp : s_w pl) (hf : ∃ j : Nat, j < 64 ∧ ug = nI j) (hw : wB ud) : SR mm oa ox oy os op oc om fa fx fy fs (f_X1_shown_fp (f_X1_changed_fp fp 53 (f_X1_read_r mm fo mem ug lt t2 d2 l2 bt pl)) (f_X1_changed_r fp 53 (f_X1_read_r mm fo mem ug lt t2 d2 l2 bt pl))) c2 (f_X1_write_mem fo mem pl (f_X1_shown_r (f_X1_changed_r fp 53 (f_X1_read_r mm fo mem ug lt t2 d2 l2 bt pl)))) (f_X1_write_ug mm fo ug pl (f_X1_shown_r (f_X1_changed_r fp 53 (f_X1_read_r mm fo mem ug lt t2 d2 l2 bt pl)))) (f_X1_write_ud mm fo ug ud pl (f_X1_shown_r (f_X1_changed_r fp 53 (f_X1_read_r mm fo mem ug lt t2 d2 l2 bt pl)))) (f_X1_write_lt mm fo ug lt pl (f_X1_shown_r (f_X1_changed_r fp 53 (f_X1_read_r mm fo mem ug lt t2 d2 l2 bt pl)))) (f_X1_write_ct mm fo lt (f_X1_read_ct mm fo t2 pl) pl) (f_X1_read_hd mm fo t2 d2 pl) (f_X1_read_la mm fo t2 d2 l2 bt pl) (f_X1_write_bt mm fo lt (f_X1_read_ct mm fo t2 pl) (f_X1_read_hd mm fo t2 d2 pl) bt pl (f_X1_shown_r (f_X1_changed_r fp 53 (f_X1_read_r mm fo mem ug lt t2 d2 l2 bt pl)))) (f_X5_write_gB mm gB pl (f_X5_changed_r mm gP 7 (f_X5_read_r ug mm gB R2 M2 L2 pl))) gA gX gY gS (f_X5_changed_gP mm gP 7 (f_X5_read_r ug mm gB R2 M2 L2 pl)) C2 (f_X5_write_gR ug mm (f_X5_read_gR mm R2 M2 pl) (f_X5_read_gM mm M2 pl) pl (f_X5_changed_r mm gP 7 (f_X5_read_r ug mm gB R2 M2 L2 pl))) (f_X5_write_gM ug mm (f_X5_read_gM mm M2 pl) pl) (f_X5_read_gL ug mm R2 M2 L2 pl) (f_X5_write_un ug mm pl (f_X5_changed_r mm gP 7 (f_X5_read_r ug mm gB R2 M2 L2 pl))) (f_X5_write_ow ug ud mm pl (f_X5_changed_r mm gP 7 (f_X5_read_r ug mm gB R2 M2 L2 pl))) := by
  have hF : rf ug ud ug ud := ⟨rfl, rfl, hf, hw⟩
  unfold SR
  have rd := sr_read hm hp hB hf hu
  have cg := sr_changed (q := 7) (k := 53) (Or.inr (Or.inr (Or.inr (Or.inr (Or.inr ⟨rfl, rfl⟩))))) hP rd.2.1
  rw [rd.1, cg.1]
  simp only [s_shr]
  have wr := sr_write hm hp cg.2.1 hB hF rd.2.2
  exact ⟨wr.1, hA, hX, hY, hS, cg.2.2, hC, wr.2.1, wr.2.2⟩
set_option maxRecDepth 100000 in
theorem op_ASLa {mm fo oa ox oy os op oc fa fx fy fs fp ug ud c2 : Int32} {om mem lt t2 d2 l2 gB gA gX gY gS gP gC gR gM gL : Nat → Int32} {bt : Nat → Nat → Int32} (hm : s_m mm fo) (hB : rm mm gB mem om) (hA : ra mm gA fa oa) (hX : ra mm gX fx ox) (hY : ra mm gY fy oy) (hS : ra mm gS fs os) (hP : rp mm gP fp op) (hC : rc mm gC c2 oc) (hu : ru ug lt t2 d2 l2 bt gR gM gL) (hf : ∃ j : Nat, j < 64 ∧ ug = nI j) (hw : wB ud) : SR mm oa ox oy os op oc om (f_X1_shown_r (f_X1_changed_r fp 48 fa)) fx fy fs (f_X1_shown_fp (f_X1_changed_fp fp 48 fa) (f_X1_changed_r fp 48 fa)) c2 mem ug ud lt t2 d2 l2 bt gB (upd gA mm.toNatClampNeg (f_X5_changed_r mm gP 0 (gA mm.toNatClampNeg))) gX gY gS (f_X5_changed_gP mm gP 0 (gA mm.toNatClampNeg)) gC gR gM gL ug ud := by
  have hF : rf ug ud ug ud := ⟨rfl, rfl, hf, hw⟩
  unfold SR
  have cg := sr_changed (q := 0) (k := 48) (Or.inl ⟨rfl, rfl⟩) hP hA.2.2
  rw [hA.1, cg.1, s_shr]
  exact ⟨hB, ra_u hA cg.2.1, hX, hY, hS, cg.2.2, hC, hF, hu⟩
set_option maxRecDepth 100000 in
theorem op_ROLa {mm fo oa ox oy os op oc fa fx fy fs fp ug ud c2 : Int32} {om mem lt t2 d2 l2 gB gA gX gY gS gP gC gR gM gL : Nat → Int32} {bt : Nat → Nat → Int32} (hm : s_m mm fo) (hB : rm mm gB mem om) (hA : ra mm gA fa oa) (hX : ra mm gX fx ox) (hY : ra mm gY fy oy) (hS : ra mm gS fs os) (hP : rp mm gP fp op) (hC : rc mm gC c2 oc) (hu : ru ug lt t2 d2 l2 bt gR gM gL) (hf : ∃ j : Nat, j < 64 ∧ ug = nI j) (hw : wB ud) : SR mm oa ox oy os op oc om (f_X1_shown_r (f_X1_changed_r fp 49 fa)) fx fy fs (f_X1_shown_fp (f_X1_changed_fp fp 49 fa) (f_X1_changed_r fp 49 fa)) c2 mem ug ud lt t2 d2 l2 bt gB (upd gA mm.toNatClampNeg (f_X5_changed_r mm gP 1 (gA mm.toNatClampNeg))) gX gY gS (f_X5_changed_gP mm gP 1 (gA mm.toNatClampNeg)) gC gR gM gL ug ud := by
  have hF : rf ug ud ug ud := ⟨rfl, rfl, hf, hw⟩
  unfold SR
  have cg := sr_changed (q := 1) (k := 49) (Or.inr (Or.inl ⟨rfl, rfl⟩)) hP hA.2.2
  rw [hA.1, cg.1, s_shr]
  exact ⟨hB, ra_u hA cg.2.1, hX, hY, hS, cg.2.2, hC, hF, hu⟩
set_option maxRecDepth 100000 in
theorem op_LSRa {mm fo oa ox oy os op oc fa fx fy fs fp ug ud c2 : Int32} {om mem lt t2 d2 l2 gB gA gX gY gS gP gC gR gM gL : Nat → Int32} {bt : Nat → Nat → Int32} (hm : s_m mm fo) (hB : rm mm gB mem om) (hA : ra mm gA fa oa) (hX : ra mm gX fx ox) (hY : ra mm gY fy oy) (hS : ra mm gS fs os) (hP : rp mm gP fp op) (hC : rc mm gC c2 oc) (hu : ru ug lt t2 d2 l2 bt gR gM gL) (hf : ∃ j : Nat, j < 64 ∧ ug = nI j) (hw : wB ud) : SR mm oa ox oy os op oc om (f_X1_shown_r (f_X1_changed_r fp 50 fa)) fx fy fs (f_X1_shown_fp (f_X1_changed_fp fp 50 fa) (f_X1_changed_r fp 50 fa)) c2 mem ug ud lt t2 d2 l2 bt gB (upd gA mm.toNatClampNeg (f_X5_changed_r mm gP 2 (gA mm.toNatClampNeg))) gX gY gS (f_X5_changed_gP mm gP 2 (gA mm.toNatClampNeg)) gC gR gM gL ug ud := by
  have hF : rf ug ud ug ud := ⟨rfl, rfl, hf, hw⟩
  unfold SR
  have cg := sr_changed (q := 2) (k := 50) (Or.inr (Or.inr (Or.inl ⟨rfl, rfl⟩))) hP hA.2.2
  rw [hA.1, cg.1, s_shr]
  exact ⟨hB, ra_u hA cg.2.1, hX, hY, hS, cg.2.2, hC, hF, hu⟩
set_option maxRecDepth 100000 in
theorem op_RORa {mm fo oa ox oy os op oc fa fx fy fs fp ug ud c2 : Int32} {om mem lt t2 d2 l2 gB gA gX gY gS gP gC gR gM gL : Nat → Int32} {bt : Nat → Nat → Int32} (hm : s_m mm fo) (hB : rm mm gB mem om) (hA : ra mm gA fa oa) (hX : ra mm gX fx ox) (hY : ra mm gY fy oy) (hS : ra mm gS fs os) (hP : rp mm gP fp op) (hC : rc mm gC c2 oc) (hu : ru ug lt t2 d2 l2 bt gR gM gL) (hf : ∃ j : Nat, j < 64 ∧ ug = nI j) (hw : wB ud) : SR mm oa ox oy os op oc om (f_X1_shown_r (f_X1_changed_r fp 51 fa)) fx fy fs (f_X1_shown_fp (f_X1_changed_fp fp 51 fa) (f_X1_changed_r fp 51 fa)) c2 mem ug ud lt t2 d2 l2 bt gB (upd gA mm.toNatClampNeg (f_X5_changed_r mm gP 3 (gA mm.toNatClampNeg))) gX gY gS (f_X5_changed_gP mm gP 3 (gA mm.toNatClampNeg)) gC gR gM gL ug ud := by
  have hF : rf ug ud ug ud := ⟨rfl, rfl, hf, hw⟩
  unfold SR
  have cg := sr_changed (q := 3) (k := 51) (Or.inr (Or.inr (Or.inr (Or.inl ⟨rfl, rfl⟩)))) hP hA.2.2
  rw [hA.1, cg.1, s_shr]
  exact ⟨hB, ra_u hA cg.2.1, hX, hY, hS, cg.2.2, hC, hF, hu⟩
set_option maxRecDepth 100000 in
theorem op_TXA {mm fo oa ox oy os op oc fa fx fy fs fp ug ud c2 : Int32} {om mem lt t2 d2 l2 gB gA gX gY gS gP gC gR gM gL : Nat → Int32} {bt : Nat → Nat → Int32} (hm : s_m mm fo) (hB : rm mm gB mem om) (hA : ra mm gA fa oa) (hX : ra mm gX fx ox) (hY : ra mm gY fy oy) (hS : ra mm gS fs os) (hP : rp mm gP fp op) (hC : rc mm gC c2 oc) (hu : ru ug lt t2 d2 l2 bt gR gM gL) (hf : ∃ j : Nat, j < 64 ∧ ug = nI j) (hw : wB ud) : SR mm oa ox oy os op oc om (f_X1_shown_r fx) fx fy fs (f_X1_shown_fp fp fx) c2 mem ug ud lt t2 d2 l2 bt gB (upd gA mm.toNatClampNeg (f_X5_seen_r (gX mm.toNatClampNeg))) gX gY gS (f_X5_seen_gP mm gP (gX mm.toNatClampNeg)) gC gR gM gL ug ud := by
  have hF : rf ug ud ug ud := ⟨rfl, rfl, hf, hw⟩
  unfold SR
  rw [hX.1]
  exact ⟨hB, ra_s hA hX.2.2, hX, hY, hS, rp_seenb hP hX.2.2, hC, hF, hu⟩
set_option maxRecDepth 100000 in
theorem op_TXS {mm fo oa ox oy os op oc fa fx fy fs fp ug ud c2 : Int32} {om mem lt t2 d2 l2 gB gA gX gY gS gP gC gR gM gL : Nat → Int32} {bt : Nat → Nat → Int32} (hm : s_m mm fo) (hB : rm mm gB mem om) (hA : ra mm gA fa oa) (hX : ra mm gX fx ox) (hY : ra mm gY fy oy) (hS : ra mm gS fs os) (hP : rp mm gP fp op) (hC : rc mm gC c2 oc) (hu : ru ug lt t2 d2 l2 bt gR gM gL) (hf : ∃ j : Nat, j < 64 ∧ ug = nI j) (hw : wB ud) : SR mm oa ox oy os op oc om fa fx fy fx fp c2 mem ug ud lt t2 d2 l2 bt gB gA gX gY (upd gS mm.toNatClampNeg (gX mm.toNatClampNeg)) gP gC gR gM gL ug ud := by
  have hF : rf ug ud ug ud := ⟨rfl, rfl, hf, hw⟩
  unfold SR
  rw [hX.1]
  exact ⟨hB, hA, hX, hY, ra_u hS hX.2.2, hP, hC, hF, hu⟩
set_option maxRecDepth 100000 in
theorem op_TAX {mm fo oa ox oy os op oc fa fx fy fs fp ug ud c2 : Int32} {om mem lt t2 d2 l2 gB gA gX gY gS gP gC gR gM gL : Nat → Int32} {bt : Nat → Nat → Int32} (hm : s_m mm fo) (hB : rm mm gB mem om) (hA : ra mm gA fa oa) (hX : ra mm gX fx ox) (hY : ra mm gY fy oy) (hS : ra mm gS fs os) (hP : rp mm gP fp op) (hC : rc mm gC c2 oc) (hu : ru ug lt t2 d2 l2 bt gR gM gL) (hf : ∃ j : Nat, j < 64 ∧ ug = nI j) (hw : wB ud) : SR mm oa ox oy os op oc om fa (f_X1_shown_r fa) fy fs (f_X1_shown_fp fp fa) c2 mem ug ud lt t2 d2 l2 bt gB gA (upd gX mm.toNatClampNeg (f_X5_seen_r (gA mm.toNatClampNeg))) gY gS (f_X5_seen_gP mm gP (gA mm.toNatClampNeg)) gC gR gM gL ug ud := by
  have hF : rf ug ud ug ud := ⟨rfl, rfl, hf, hw⟩
  unfold SR
  rw [hA.1]
  exact ⟨hB, hA, ra_s hX hA.2.2, hY, hS, rp_seenb hP hA.2.2, hC, hF, hu⟩
set_option maxRecDepth 100000 in
theorem op_TSX {mm fo oa ox oy os op oc fa fx fy fs fp ug ud c2 : Int32} {om mem lt t2 d2 l2 gB gA gX gY gS gP gC gR gM gL : Nat → Int32} {bt : Nat → Nat → Int32} (hm : s_m mm fo) (hB : rm mm gB mem om) (hA : ra mm gA fa oa) (hX : ra mm gX fx ox) (hY : ra mm gY fy oy) (hS : ra mm gS fs os) (hP : rp mm gP fp op) (hC : rc mm gC c2 oc) (hu : ru ug lt t2 d2 l2 bt gR gM gL) (hf : ∃ j : Nat, j < 64 ∧ ug = nI j) (hw : wB ud) : SR mm oa ox oy os op oc om fa (f_X1_shown_r fs) fy fs (f_X1_shown_fp fp fs) c2 mem ug ud lt t2 d2 l2 bt gB gA (upd gX mm.toNatClampNeg (f_X5_seen_r (gS mm.toNatClampNeg))) gY gS (f_X5_seen_gP mm gP (gS mm.toNatClampNeg)) gC gR gM gL ug ud := by
  have hF : rf ug ud ug ud := ⟨rfl, rfl, hf, hw⟩
  unfold SR
  rw [hS.1]
  exact ⟨hB, hA, ra_s hX hS.2.2, hY, hS, rp_seenb hP hS.2.2, hC, hF, hu⟩
set_option maxRecDepth 100000 in
theorem op_DEX {mm fo oa ox oy os op oc fa fx fy fs fp ug ud c2 : Int32} {om mem lt t2 d2 l2 gB gA gX gY gS gP gC gR gM gL : Nat → Int32} {bt : Nat → Nat → Int32} (hm : s_m mm fo) (hB : rm mm gB mem om) (hA : ra mm gA fa oa) (hX : ra mm gX fx ox) (hY : ra mm gY fy oy) (hS : ra mm gS fs os) (hP : rp mm gP fp op) (hC : rc mm gC c2 oc) (hu : ru ug lt t2 d2 l2 bt gR gM gL) (hf : ∃ j : Nat, j < 64 ∧ ug = nI j) (hw : wB ud) : SR mm oa ox oy os op oc om fa (f_X1_shown_r ((fx - 1) &&& 255)) fy fs (f_X1_shown_fp fp ((fx - 1) &&& 255)) c2 mem ug ud lt t2 d2 l2 bt gB gA (upd gX mm.toNatClampNeg (f_X5_seen_r ((gX mm.toNatClampNeg) - 1))) gY gS (f_X5_seen_gP mm gP ((gX mm.toNatClampNeg) - 1)) gC gR gM gL ug ud := by
  have hF : rf ug ud ug ud := ⟨rfl, rfl, hf, hw⟩
  unfold SR
  rw [hX.1]
  exact ⟨hB, hA, ra_m hX _, hY, hS, rp_seen hP _, hC, hF, hu⟩
set_option maxRecDepth 100000 in
theorem op_NOP {mm fo oa ox oy os op oc fa fx fy fs fp ug ud c2 : Int32} {om mem lt t2 d2 l2 gB gA gX gY gS gP gC gR gM gL : Nat → Int32} {bt : Nat → Nat → Int32} (hm : s_m mm fo) (hB : rm mm gB mem om) (hA : ra mm gA fa oa) (hX : ra mm gX fx ox) (hY : ra mm gY fy oy) (hS : ra mm gS fs os) (hP : rp mm gP fp op) (hC : rc mm gC c2 oc) (hu : ru ug lt t2 d2 l2 bt gR gM gL) (hf : ∃ j : Nat, j < 64 ∧ ug = nI j) (hw : wB ud) : SR mm oa ox oy os op oc om fa fx fy fs fp c2 mem ug ud lt t2 d2 l2 bt gB gA gX gY gS gP gC gR gM gL ug ud := by
  have hF : rf ug ud ug ud := ⟨rfl, rfl, hf, hw⟩
  unfold SR
  exact ⟨hB, hA, hX, hY, hS, hP, hC, hF, hu⟩
set_option maxRecDepth 100000 in
theorem op_PHP {mm fo oa ox oy os op oc fa fx fy fs fp ug ud c2 : Int32} {om mem lt t2 d2 l2 gB gA gX gY gS gP gC gR gM gL : Nat → Int32} {bt : Nat → Nat → Int32} (hm : s_m mm fo) (hB : rm mm gB mem om) (hA : ra mm gA fa oa) (hX : ra mm gX fx ox) (hY : ra mm gY fy oy) (hS : ra mm gS fs os) (hP : rp mm gP fp op) (hC : rc mm gC c2 oc) (hu : ru ug lt t2 d2 l2 bt gR gM gL) (hf : ∃ j : Nat, j < 64 ∧ ug = nI j) (hw : wB ud) : SR mm oa ox oy os op oc om fa fx fy (f_X1_push_fs fs) fp c2 (f_X1_push_mem fs mem (fp ||| 16)) ug ud lt t2 d2 l2 bt (f_X5_push_gB mm gB gS (((gP mm.toNatClampNeg) ||| 16) ||| 32)) gA gX gY (f_X5_push_gS mm gS) gP gC gR gM gL ug ud := by
  have hF : rf ug ud ug ud := ⟨rfl, rfl, hf, hw⟩
  unfold SR
  rw [hP.1]
  have ps := sr_push (s_mB hm) hB hS (s_php hP.2.2)
  exact ⟨ps.1, hA, hX, hY, ps.2, hP, hC, hF, hu⟩
set_option maxRecDepth 100000 in
theorem op_PLP {mm fo oa ox oy os op oc fa fx fy fs fp ug ud c2 : Int32} {om mem lt t2 d2 l2 gB gA gX gY gS gP gC gR gM gL : Nat → Int32} {bt : Nat → Nat → Int32} (hm : s_m mm fo) (hB : rm mm gB mem om) (hA : ra mm gA fa oa) (hX : ra mm gX fx ox) (hY : ra mm gY fy oy) (hS : ra mm gS fs os) (hP : rp mm gP fp op) (hC : rc mm gC c2 oc) (hu : ru ug lt t2 d2 l2 bt gR gM gL) (hf : ∃ j : Nat, j < 64 ∧ ug = nI j) (hw : wB ud) : SR mm oa ox oy os op oc om fa fx fy (f_X1_pullStatus_fs fs) (f_X1_pullStatus_fp fs mem) c2 mem ug ud lt t2 d2 l2 bt gB gA gX gY (f_X5_pull_gS mm gS) (upd gP mm.toNatClampNeg (((f_X5_pull_r mm gB gS) &&& (-17)) ||| 32)) gC gR gM gL ug ud := by
  have hF : rf ug ud ug ud := ⟨rfl, rfl, hf, hw⟩
  unfold SR
  have ps := sr_pull (s_mB hm) hB hS
  rw [ps.1]
  exact ⟨hB, hA, hX, hY, ps.2.2, rp_u hP (s_plp ps.2.1), hC, hF, hu⟩
set_option maxRecDepth 100000 in
theorem op_PHA {mm fo oa ox oy os op oc fa fx fy fs fp ug ud c2 : Int32} {om mem lt t2 d2 l2 gB gA gX gY gS gP gC gR gM gL : Nat → Int32} {bt : Nat → Nat → Int32} (hm : s_m mm fo) (hB : rm mm gB mem om) (hA : ra mm gA fa oa) (hX : ra mm gX fx ox) (hY : ra mm gY fy oy) (hS : ra mm gS fs os) (hP : rp mm gP fp op) (hC : rc mm gC c2 oc) (hu : ru ug lt t2 d2 l2 bt gR gM gL) (hf : ∃ j : Nat, j < 64 ∧ ug = nI j) (hw : wB ud) : SR mm oa ox oy os op oc om fa fx fy (f_X1_push_fs fs) fp c2 (f_X1_push_mem fs mem fa) ug ud lt t2 d2 l2 bt (f_X5_push_gB mm gB gS (gA mm.toNatClampNeg)) gA gX gY (f_X5_push_gS mm gS) gP gC gR gM gL ug ud := by
  have hF : rf ug ud ug ud := ⟨rfl, rfl, hf, hw⟩
  unfold SR
  rw [hA.1]
  have ps := sr_push (s_mB hm) hB hS (v := fa) (w := fa) rfl
  exact ⟨ps.1, hA, hX, hY, ps.2, hP, hC, hF, hu⟩
set_option maxRecDepth 100000 in
theorem op_PLA {mm fo oa ox oy os op oc fa fx fy fs fp ug ud c2 : Int32} {om mem lt t2 d2 l2 gB gA gX gY gS gP gC gR gM gL : Nat → Int32} {bt : Nat → Nat → Int32} (hm : s_m mm fo) (hB : rm mm gB mem om) (hA : ra mm gA fa oa) (hX : ra mm gX fx ox) (hY : ra mm gY fy oy) (hS : ra mm gS fs os) (hP : rp mm gP fp op) (hC : rc mm gC c2 oc) (hu : ru ug lt t2 d2 l2 bt gR gM gL) (hf : ∃ j : Nat, j < 64 ∧ ug = nI j) (hw : wB ud) : SR mm oa ox oy os op oc om (f_X1_shown_r (f_X1_pull_r fs mem)) fx fy (f_X1_pull_fs fs) (f_X1_shown_fp fp (f_X1_pull_r fs mem)) c2 mem ug ud lt t2 d2 l2 bt gB (upd gA mm.toNatClampNeg (f_X5_seen_r (f_X5_pull_r mm gB gS))) gX gY (f_X5_pull_gS mm gS) (f_X5_seen_gP mm gP (f_X5_pull_r mm gB gS)) gC gR gM gL ug ud := by
  have hF : rf ug ud ug ud := ⟨rfl, rfl, hf, hw⟩
  unfold SR
  have ps := sr_pull (s_mB hm) hB hS
  rw [ps.1]
  exact ⟨hB, ra_s hA ps.2.1, hX, hY, ps.2.2, rp_seenb hP ps.2.1, hC, hF, hu⟩
set_option maxRecDepth 100000 in
theorem op_DEY {mm fo oa ox oy os op oc fa fx fy fs fp ug ud c2 : Int32} {om mem lt t2 d2 l2 gB gA gX gY gS gP gC gR gM gL : Nat → Int32} {bt : Nat → Nat → Int32} (hm : s_m mm fo) (hB : rm mm gB mem om) (hA : ra mm gA fa oa) (hX : ra mm gX fx ox) (hY : ra mm gY fy oy) (hS : ra mm gS fs os) (hP : rp mm gP fp op) (hC : rc mm gC c2 oc) (hu : ru ug lt t2 d2 l2 bt gR gM gL) (hf : ∃ j : Nat, j < 64 ∧ ug = nI j) (hw : wB ud) : SR mm oa ox oy os op oc om fa fx (f_X1_shown_r ((fy - 1) &&& 255)) fs (f_X1_shown_fp fp ((fy - 1) &&& 255)) c2 mem ug ud lt t2 d2 l2 bt gB gA gX (upd gY mm.toNatClampNeg (f_X5_seen_r ((gY mm.toNatClampNeg) - 1))) gS (f_X5_seen_gP mm gP ((gY mm.toNatClampNeg) - 1)) gC gR gM gL ug ud := by
  have hF : rf ug ud ug ud := ⟨rfl, rfl, hf, hw⟩
  unfold SR
  rw [hY.1]
  exact ⟨hB, hA, hX, ra_m hY _, hS, rp_seen hP _, hC, hF, hu⟩
set_option maxRecDepth 100000 in
theorem op_TAY {mm fo oa ox oy os op oc fa fx fy fs fp ug ud c2 : Int32} {om mem lt t2 d2 l2 gB gA gX gY gS gP gC gR gM gL : Nat → Int32} {bt : Nat → Nat → Int32} (hm : s_m mm fo) (hB : rm mm gB mem om) (hA : ra mm gA fa oa) (hX : ra mm gX fx ox) (hY : ra mm gY fy oy) (hS : ra mm gS fs os) (hP : rp mm gP fp op) (hC : rc mm gC c2 oc) (hu : ru ug lt t2 d2 l2 bt gR gM gL) (hf : ∃ j : Nat, j < 64 ∧ ug = nI j) (hw : wB ud) : SR mm oa ox oy os op oc om fa fx (f_X1_shown_r fa) fs (f_X1_shown_fp fp fa) c2 mem ug ud lt t2 d2 l2 bt gB gA gX (upd gY mm.toNatClampNeg (f_X5_seen_r (gA mm.toNatClampNeg))) gS (f_X5_seen_gP mm gP (gA mm.toNatClampNeg)) gC gR gM gL ug ud := by
  have hF : rf ug ud ug ud := ⟨rfl, rfl, hf, hw⟩
  unfold SR
  rw [hA.1]
  exact ⟨hB, hA, hX, ra_s hY hA.2.2, hS, rp_seenb hP hA.2.2, hC, hF, hu⟩
set_option maxRecDepth 100000 in
theorem op_INY {mm fo oa ox oy os op oc fa fx fy fs fp ug ud c2 : Int32} {om mem lt t2 d2 l2 gB gA gX gY gS gP gC gR gM gL : Nat → Int32} {bt : Nat → Nat → Int32} (hm : s_m mm fo) (hB : rm mm gB mem om) (hA : ra mm gA fa oa) (hX : ra mm gX fx ox) (hY : ra mm gY fy oy) (hS : ra mm gS fs os) (hP : rp mm gP fp op) (hC : rc mm gC c2 oc) (hu : ru ug lt t2 d2 l2 bt gR gM gL) (hf : ∃ j : Nat, j < 64 ∧ ug = nI j) (hw : wB ud) : SR mm oa ox oy os op oc om fa fx (f_X1_shown_r ((fy + 1) &&& 255)) fs (f_X1_shown_fp fp ((fy + 1) &&& 255)) c2 mem ug ud lt t2 d2 l2 bt gB gA gX (upd gY mm.toNatClampNeg (f_X5_seen_r ((gY mm.toNatClampNeg) + 1))) gS (f_X5_seen_gP mm gP ((gY mm.toNatClampNeg) + 1)) gC gR gM gL ug ud := by
  have hF : rf ug ud ug ud := ⟨rfl, rfl, hf, hw⟩
  unfold SR
  rw [hY.1]
  exact ⟨hB, hA, hX, ra_m hY _, hS, rp_seen hP _, hC, hF, hu⟩
set_option maxRecDepth 100000 in
theorem op_INX {mm fo oa ox oy os op oc fa fx fy fs fp ug ud c2 : Int32} {om mem lt t2 d2 l2 gB gA gX gY gS gP gC gR gM gL : Nat → Int32} {bt : Nat → Nat → Int32} (hm : s_m mm fo) (hB : rm mm gB mem om) (hA : ra mm gA fa oa) (hX : ra mm gX fx ox) (hY : ra mm gY fy oy) (hS : ra mm gS fs os) (hP : rp mm gP fp op) (hC : rc mm gC c2 oc) (hu : ru ug lt t2 d2 l2 bt gR gM gL) (hf : ∃ j : Nat, j < 64 ∧ ug = nI j) (hw : wB ud) : SR mm oa ox oy os op oc om fa (f_X1_shown_r ((fx + 1) &&& 255)) fy fs (f_X1_shown_fp fp ((fx + 1) &&& 255)) c2 mem ug ud lt t2 d2 l2 bt gB gA (upd gX mm.toNatClampNeg (f_X5_seen_r ((gX mm.toNatClampNeg) + 1))) gY gS (f_X5_seen_gP mm gP ((gX mm.toNatClampNeg) + 1)) gC gR gM gL ug ud := by
  have hF : rf ug ud ug ud := ⟨rfl, rfl, hf, hw⟩
  unfold SR
  rw [hX.1]
  exact ⟨hB, hA, ra_m hX _, hY, hS, rp_seen hP _, hC, hF, hu⟩
set_option maxRecDepth 100000 in
theorem op_CLC {mm fo oa ox oy os op oc fa fx fy fs fp ug ud c2 : Int32} {om mem lt t2 d2 l2 gB gA gX gY gS gP gC gR gM gL : Nat → Int32} {bt : Nat → Nat → Int32} (hm : s_m mm fo) (hB : rm mm gB mem om) (hA : ra mm gA fa oa) (hX : ra mm gX fx ox) (hY : ra mm gY fy oy) (hS : ra mm gS fs os) (hP : rp mm gP fp op) (hC : rc mm gC c2 oc) (hu : ru ug lt t2 d2 l2 bt gR gM gL) (hf : ∃ j : Nat, j < 64 ∧ ug = nI j) (hw : wB ud) : SR mm oa ox oy os op oc om fa fx fy fs (f_X1_setFlag_fp fp 1 0) c2 mem ug ud lt t2 d2 l2 bt gB gA gX gY gS (f_X5_set_gP mm gP 1 0) gC gR gM gL ug ud := by
  have hF : rf ug ud ug ud := ⟨rfl, rfl, hf, hw⟩
  unfold SR
  exact ⟨hB, hA, hX, hY, hS, rp_set hP F1, hC, hF, hu⟩
set_option maxRecDepth 100000 in
theorem op_SEC {mm fo oa ox oy os op oc fa fx fy fs fp ug ud c2 : Int32} {om mem lt t2 d2 l2 gB gA gX gY gS gP gC gR gM gL : Nat → Int32} {bt : Nat → Nat → Int32} (hm : s_m mm fo) (hB : rm mm gB mem om) (hA : ra mm gA fa oa) (hX : ra mm gX fx ox) (hY : ra mm gY fy oy) (hS : ra mm gS fs os) (hP : rp mm gP fp op) (hC : rc mm gC c2 oc) (hu : ru ug lt t2 d2 l2 bt gR gM gL) (hf : ∃ j : Nat, j < 64 ∧ ug = nI j) (hw : wB ud) : SR mm oa ox oy os op oc om fa fx fy fs (f_X1_setFlag_fp fp 1 1) c2 mem ug ud lt t2 d2 l2 bt gB gA gX gY gS (f_X5_set_gP mm gP 1 1) gC gR gM gL ug ud := by
  have hF : rf ug ud ug ud := ⟨rfl, rfl, hf, hw⟩
  unfold SR
  exact ⟨hB, hA, hX, hY, hS, rp_set hP F1, hC, hF, hu⟩
set_option maxRecDepth 100000 in
theorem op_CLI {mm fo oa ox oy os op oc fa fx fy fs fp ug ud c2 : Int32} {om mem lt t2 d2 l2 gB gA gX gY gS gP gC gR gM gL : Nat → Int32} {bt : Nat → Nat → Int32} (hm : s_m mm fo) (hB : rm mm gB mem om) (hA : ra mm gA fa oa) (hX : ra mm gX fx ox) (hY : ra mm gY fy oy) (hS : ra mm gS fs os) (hP : rp mm gP fp op) (hC : rc mm gC c2 oc) (hu : ru ug lt t2 d2 l2 bt gR gM gL) (hf : ∃ j : Nat, j < 64 ∧ ug = nI j) (hw : wB ud) : SR mm oa ox oy os op oc om fa fx fy fs (f_X1_setFlag_fp fp 4 0) c2 mem ug ud lt t2 d2 l2 bt gB gA gX gY gS (f_X5_set_gP mm gP 4 0) gC gR gM gL ug ud := by
  have hF : rf ug ud ug ud := ⟨rfl, rfl, hf, hw⟩
  unfold SR
  exact ⟨hB, hA, hX, hY, hS, rp_set hP F4, hC, hF, hu⟩
set_option maxRecDepth 100000 in
theorem op_SEI {mm fo oa ox oy os op oc fa fx fy fs fp ug ud c2 : Int32} {om mem lt t2 d2 l2 gB gA gX gY gS gP gC gR gM gL : Nat → Int32} {bt : Nat → Nat → Int32} (hm : s_m mm fo) (hB : rm mm gB mem om) (hA : ra mm gA fa oa) (hX : ra mm gX fx ox) (hY : ra mm gY fy oy) (hS : ra mm gS fs os) (hP : rp mm gP fp op) (hC : rc mm gC c2 oc) (hu : ru ug lt t2 d2 l2 bt gR gM gL) (hf : ∃ j : Nat, j < 64 ∧ ug = nI j) (hw : wB ud) : SR mm oa ox oy os op oc om fa fx fy fs (f_X1_setFlag_fp fp 4 1) c2 mem ug ud lt t2 d2 l2 bt gB gA gX gY gS (f_X5_set_gP mm gP 4 1) gC gR gM gL ug ud := by
  have hF : rf ug ud ug ud := ⟨rfl, rfl, hf, hw⟩
  unfold SR
  exact ⟨hB, hA, hX, hY, hS, rp_set hP F4, hC, hF, hu⟩
set_option maxRecDepth 100000 in
theorem op_TYA {mm fo oa ox oy os op oc fa fx fy fs fp ug ud c2 : Int32} {om mem lt t2 d2 l2 gB gA gX gY gS gP gC gR gM gL : Nat → Int32} {bt : Nat → Nat → Int32} (hm : s_m mm fo) (hB : rm mm gB mem om) (hA : ra mm gA fa oa) (hX : ra mm gX fx ox) (hY : ra mm gY fy oy) (hS : ra mm gS fs os) (hP : rp mm gP fp op) (hC : rc mm gC c2 oc) (hu : ru ug lt t2 d2 l2 bt gR gM gL) (hf : ∃ j : Nat, j < 64 ∧ ug = nI j) (hw : wB ud) : SR mm oa ox oy os op oc om (f_X1_shown_r fy) fx fy fs (f_X1_shown_fp fp fy) c2 mem ug ud lt t2 d2 l2 bt gB (upd gA mm.toNatClampNeg (f_X5_seen_r (gY mm.toNatClampNeg))) gX gY gS (f_X5_seen_gP mm gP (gY mm.toNatClampNeg)) gC gR gM gL ug ud := by
  have hF : rf ug ud ug ud := ⟨rfl, rfl, hf, hw⟩
  unfold SR
  rw [hY.1]
  exact ⟨hB, ra_s hA hY.2.2, hX, hY, hS, rp_seenb hP hY.2.2, hC, hF, hu⟩
set_option maxRecDepth 100000 in
theorem op_CLV {mm fo oa ox oy os op oc fa fx fy fs fp ug ud c2 : Int32} {om mem lt t2 d2 l2 gB gA gX gY gS gP gC gR gM gL : Nat → Int32} {bt : Nat → Nat → Int32} (hm : s_m mm fo) (hB : rm mm gB mem om) (hA : ra mm gA fa oa) (hX : ra mm gX fx ox) (hY : ra mm gY fy oy) (hS : ra mm gS fs os) (hP : rp mm gP fp op) (hC : rc mm gC c2 oc) (hu : ru ug lt t2 d2 l2 bt gR gM gL) (hf : ∃ j : Nat, j < 64 ∧ ug = nI j) (hw : wB ud) : SR mm oa ox oy os op oc om fa fx fy fs (f_X1_setFlag_fp fp 64 0) c2 mem ug ud lt t2 d2 l2 bt gB gA gX gY gS (f_X5_set_gP mm gP 64 0) gC gR gM gL ug ud := by
  have hF : rf ug ud ug ud := ⟨rfl, rfl, hf, hw⟩
  unfold SR
  exact ⟨hB, hA, hX, hY, hS, rp_set hP F64, hC, hF, hu⟩
set_option maxRecDepth 100000 in
theorem op_CLD {mm fo oa ox oy os op oc fa fx fy fs fp ug ud c2 : Int32} {om mem lt t2 d2 l2 gB gA gX gY gS gP gC gR gM gL : Nat → Int32} {bt : Nat → Nat → Int32} (hm : s_m mm fo) (hB : rm mm gB mem om) (hA : ra mm gA fa oa) (hX : ra mm gX fx ox) (hY : ra mm gY fy oy) (hS : ra mm gS fs os) (hP : rp mm gP fp op) (hC : rc mm gC c2 oc) (hu : ru ug lt t2 d2 l2 bt gR gM gL) (hf : ∃ j : Nat, j < 64 ∧ ug = nI j) (hw : wB ud) : SR mm oa ox oy os op oc om fa fx fy fs (f_X1_setFlag_fp fp 8 0) c2 mem ug ud lt t2 d2 l2 bt gB gA gX gY gS (f_X5_set_gP mm gP 8 0) gC gR gM gL ug ud := by
  have hF : rf ug ud ug ud := ⟨rfl, rfl, hf, hw⟩
  unfold SR
  exact ⟨hB, hA, hX, hY, hS, rp_set hP F8, hC, hF, hu⟩
set_option maxRecDepth 100000 in
theorem op_SED {mm fo oa ox oy os op oc fa fx fy fs fp ug ud c2 : Int32} {om mem lt t2 d2 l2 gB gA gX gY gS gP gC gR gM gL : Nat → Int32} {bt : Nat → Nat → Int32} (hm : s_m mm fo) (hB : rm mm gB mem om) (hA : ra mm gA fa oa) (hX : ra mm gX fx ox) (hY : ra mm gY fy oy) (hS : ra mm gS fs os) (hP : rp mm gP fp op) (hC : rc mm gC c2 oc) (hu : ru ug lt t2 d2 l2 bt gR gM gL) (hf : ∃ j : Nat, j < 64 ∧ ug = nI j) (hw : wB ud) : SR mm oa ox oy os op oc om fa fx fy fs (f_X1_setFlag_fp fp 8 1) c2 mem ug ud lt t2 d2 l2 bt gB gA gX gY gS (f_X5_set_gP mm gP 8 1) gC gR gM gL ug ud := by
  have hF : rf ug ud ug ud := ⟨rfl, rfl, hf, hw⟩
  unfold SR
  exact ⟨hB, hA, hX, hY, hS, rp_set hP F8, hC, hF, hu⟩
set_option maxRecDepth 100000 in
theorem op_BRK {mm fo oa ox oy os op oc fa fx fy fs fp ug ud c2 : Int32} {om mem lt t2 d2 l2 gB gA gX gY gS gP gC gR gM gL : Nat → Int32} {bt : Nat → Nat → Int32} (hm : s_m mm fo) (hB : rm mm gB mem om) (hA : ra mm gA fa oa) (hX : ra mm gX fx ox) (hY : ra mm gY fy oy) (hS : ra mm gS fs os) (hP : rp mm gP fp op) (hC : rc mm gC c2 oc) (hu : ru ug lt t2 d2 l2 bt gR gM gL) (hf : ∃ j : Nat, j < 64 ∧ ug = nI j) (hw : wB ud) : SR mm oa ox oy os op oc om fa fx fy (f_X1_breakTo_fs fs) (f_X1_breakTo_fp fp) (f_X1_breakTo_fc fs mem 65534 (c2 + 1) (fp ||| 16)) (f_X1_breakTo_mem fs mem (c2 + 1) (fp ||| 16)) ug ud lt t2 d2 l2 bt (f_X5_push_gB mm (f_X5_pushWord_gB mm gB gS (((gC mm.toNatClampNeg) + 1) &&& 65535)) (f_X5_pushWord_gS mm gS) (((gP mm.toNatClampNeg) ||| 16) ||| 32)) gA gX gY (f_X5_push_gS mm (f_X5_pushWord_gS mm gS)) (f_X5_set_gP mm gP 4 1) (upd gC mm.toNatClampNeg (f_X5_plainWord_r mm (f_X5_push_gB mm (f_X5_pushWord_gB mm gB gS (((gC mm.toNatClampNeg) + 1) &&& 65535)) (f_X5_pushWord_gS mm gS) (((gP mm.toNatClampNeg) ||| 16) ||| 32)) 4094)) gR gM gL ug ud := by
  have hF : rf ug ud ug ud := ⟨rfl, rfl, hf, hw⟩
  unfold SR
  rw [hC.1, hP.1]
  have bk := sr_break (s_mB hm) hB hS hP hC (vr := 4094) (by decide) (s_brk hC.2.2).1 (s_brk hC.2.2).2 (s_php hP.2.2) (vc := 65534) rfl
  exact ⟨bk.1, hA, hX, hY, bk.2.1, bk.2.2.1, bk.2.2.2, hF, hu⟩
set_option maxRecDepth 100000 in
theorem op_RTI {mm fo oa ox oy os op oc fa fx fy fs fp ug ud c2 : Int32} {om mem lt t2 d2 l2 gB gA gX gY gS gP gC gR gM gL : Nat → Int32} {bt : Nat → Nat → Int32} (hm : s_m mm fo) (hB : rm mm gB mem om) (hA : ra mm gA fa oa) (hX : ra mm gX fx ox) (hY : ra mm gY fy oy) (hS : ra mm gS fs os) (hP : rp mm gP fp op) (hC : rc mm gC c2 oc) (hu : ru ug lt t2 d2 l2 bt gR gM gL) (hf : ∃ j : Nat, j < 64 ∧ ug = nI j) (hw : wB ud) : SR mm oa ox oy os op oc om fa fx fy (f_X1_pullWord_fs (f_X1_pullStatus_fs fs)) (f_X1_pullStatus_fp fs mem) (f_X1_pullWord_r (f_X1_pullStatus_fs fs) mem) mem ug ud lt t2 d2 l2 bt gB gA gX gY (f_X5_pullWord_gS mm (f_X5_pull_gS mm gS)) (upd gP mm.toNatClampNeg (((f_X5_pull_r mm gB gS) &&& (-17)) ||| 32)) (upd gC mm.toNatClampNeg (f_X5_pullWord_r mm gB (f_X5_pull_gS mm gS))) gR gM gL ug ud := by
  have hF : rf ug ud ug ud := ⟨rfl, rfl, hf, hw⟩
  unfold SR
  have ps := sr_pull (s_mB hm) hB hS
  have pw := sr_pullWord (s_mB hm) hB ps.2.2
  rw [ps.1, pw.1]
  exact ⟨hB, hA, hX, hY, pw.2.2, rp_u hP (s_plp ps.2.1), rc_u hC pw.2.1, hF, hu⟩
set_option maxRecDepth 100000 in
theorem op_RTS {mm fo oa ox oy os op oc fa fx fy fs fp ug ud c2 : Int32} {om mem lt t2 d2 l2 gB gA gX gY gS gP gC gR gM gL : Nat → Int32} {bt : Nat → Nat → Int32} (hm : s_m mm fo) (hB : rm mm gB mem om) (hA : ra mm gA fa oa) (hX : ra mm gX fx ox) (hY : ra mm gY fy oy) (hS : ra mm gS fs os) (hP : rp mm gP fp op) (hC : rc mm gC c2 oc) (hu : ru ug lt t2 d2 l2 bt gR gM gL) (hf : ∃ j : Nat, j < 64 ∧ ug = nI j) (hw : wB ud) : SR mm oa ox oy os op oc om fa fx fy (f_X1_pullWord_fs fs) fp (((f_X1_pullWord_r fs mem) + 1) &&& 65535) mem ug ud lt t2 d2 l2 bt gB gA gX gY (f_X5_pullWord_gS mm gS) gP (upd gC mm.toNatClampNeg (((f_X5_pullWord_r mm gB gS) + 1) &&& 65535)) gR gM gL ug ud := by
  have hF : rf ug ud ug ud := ⟨rfl, rfl, hf, hw⟩
  unfold SR
  have ps := sr_pullWord (s_mB hm) hB hS
  rw [ps.1]
  exact ⟨hB, hA, hX, hY, ps.2.2, hP, rc_u hC (s_and65535 _), hF, hu⟩
set_option maxRecDepth 100000 in
theorem op_BPL {mm fo oa ox oy os op oc fa fx fy fs fp ug ud pl : Int32} {om mem lt t2 d2 l2 gB gA gX gY gS gP gC gR gM gL : Nat → Int32} {bt : Nat → Nat → Int32} (hm : s_m mm fo) (hB : rm mm gB mem om) (hA : ra mm gA fa oa) (hX : ra mm gX fx ox) (hY : ra mm gY fy oy) (hS : ra mm gS fs os) (hP : rp mm gP fp op) (hC : rc mm gC pl oc) (hu : ru ug lt t2 d2 l2 bt gR gM gL) (hf : ∃ j : Nat, j < 64 ∧ ug = nI j) (hw : wB ud) : SR mm oa ox oy os op oc om fa fx fy fs fp (if (f_X1_goes_r fp 128) = 0 then ((pl + 1) &&& 65535) else ((((pl + 1) &&& 65535) + ((f_X1_read_r mm fo mem ug lt t2 d2 l2 bt pl).toInt8.toInt32)) &&& 65535)) mem ug ud lt (f_X1_read_ct mm fo t2 pl) (f_X1_read_hd mm fo t2 d2 pl) (f_X1_read_la mm fo t2 d2 l2 bt pl) bt gB gA gX gY gS gP (if (f_X5_has_r mm gP 128) = 0 then (upd (f_X5_fetch_gC mm gC) mm.toNatClampNeg ((((f_X5_fetch_gC mm gC) mm.toNatClampNeg) + ((f_X5_fetch_r ug mm gB gC gR gM gL).toInt8.toInt32)) &&& 65535)) else (f_X5_fetch_gC mm gC)) (f_X5_fetch_gR mm gC gR gM) (f_X5_fetch_gM mm gC gM) (f_X5_fetch_gL ug mm gC gR gM gL) ug ud := by
  have hF : rf ug ud ug ud := ⟨rfl, rfl, hf, hw⟩
  unfold SR
  have fe := sr_fetch hm hB hf hu hC
  have hg : f_X1_goes_r fp 128 = 0 ↔ ¬ f_X5_has_r mm gP 128 = 0 := by
    have e1 : f_X1_goes_r fp 128 = if fp &&& 128 = 0 then 1 else 0 := by unfold f_X1_goes_r; rw [if_pos (show (128 : Int32) = 128 from rfl)]
    rw [e1]; unfold f_X5_has_r; rw [hP.1]
    by_cases z : fp &&& 128 = 0
    · rw [if_pos z]; (try rw [if_pos z]); decide
    · rw [if_neg z]; (try rw [if_neg z]); decide
  exact ⟨hB, hA, hX, hY, hS, hP, sr_br fe.2.2.2 (by rw [fe.1]) hg, hF, fe.2.2.1⟩
set_option maxRecDepth 100000 in
theorem op_BMI {mm fo oa ox oy os op oc fa fx fy fs fp ug ud pl : Int32} {om mem lt t2 d2 l2 gB gA gX gY gS gP gC gR gM gL : Nat → Int32} {bt : Nat → Nat → Int32} (hm : s_m mm fo) (hB : rm mm gB mem om) (hA : ra mm gA fa oa) (hX : ra mm gX fx ox) (hY : ra mm gY fy oy) (hS : ra mm gS fs os) (hP : rp mm gP fp op) (hC : rc mm gC pl oc) (hu : ru ug lt t2 d2 l2 bt gR gM gL) (hf : ∃ j : Nat, j < 64 ∧ ug = nI j) (hw : wB ud) : SR mm oa ox oy os op oc om fa fx fy fs fp (if (f_X1_goes_r fp 129) = 0 then ((pl + 1) &&& 65535) else ((((pl + 1) &&& 65535) + ((f_X1_read_r mm fo mem ug lt t2 d2 l2 bt pl).toInt8.toInt32)) &&& 65535)) mem ug ud lt (f_X1_read_ct mm fo t2 pl) (f_X1_read_hd mm fo t2 d2 pl) (f_X1_read_la mm fo t2 d2 l2 bt pl) bt gB gA gX gY gS gP (if (f_X5_has_r mm gP 128) = 1 then (upd (f_X5_fetch_gC mm gC) mm.toNatClampNeg ((((f_X5_fetch_gC mm gC) mm.toNatClampNeg) + ((f_X5_fetch_r ug mm gB gC gR gM gL).toInt8.toInt32)) &&& 65535)) else (f_X5_fetch_gC mm gC)) (f_X5_fetch_gR mm gC gR gM) (f_X5_fetch_gM mm gC gM) (f_X5_fetch_gL ug mm gC gR gM gL) ug ud := by
  have hF : rf ug ud ug ud := ⟨rfl, rfl, hf, hw⟩
  unfold SR
  have fe := sr_fetch hm hB hf hu hC
  have hg : f_X1_goes_r fp 129 = 0 ↔ ¬ f_X5_has_r mm gP 128 = 1 := by
    have e1 : f_X1_goes_r fp 129 = if fp &&& 128 = 0 then 0 else 1 := by unfold f_X1_goes_r; rw [if_neg (show ¬ (129 : Int32) = 128 by decide), if_pos (show (129 : Int32) = 129 from rfl)]
    rw [e1]; unfold f_X5_has_r; rw [hP.1]
    by_cases z : fp &&& 128 = 0
    · rw [if_pos z]; (try rw [if_pos z]); decide
    · rw [if_neg z]; (try rw [if_neg z]); decide
  exact ⟨hB, hA, hX, hY, hS, hP, sr_br fe.2.2.2 (by rw [fe.1]) hg, hF, fe.2.2.1⟩
set_option maxRecDepth 100000 in
theorem op_BVC {mm fo oa ox oy os op oc fa fx fy fs fp ug ud pl : Int32} {om mem lt t2 d2 l2 gB gA gX gY gS gP gC gR gM gL : Nat → Int32} {bt : Nat → Nat → Int32} (hm : s_m mm fo) (hB : rm mm gB mem om) (hA : ra mm gA fa oa) (hX : ra mm gX fx ox) (hY : ra mm gY fy oy) (hS : ra mm gS fs os) (hP : rp mm gP fp op) (hC : rc mm gC pl oc) (hu : ru ug lt t2 d2 l2 bt gR gM gL) (hf : ∃ j : Nat, j < 64 ∧ ug = nI j) (hw : wB ud) : SR mm oa ox oy os op oc om fa fx fy fs fp (if (f_X1_goes_r fp 130) = 0 then ((pl + 1) &&& 65535) else ((((pl + 1) &&& 65535) + ((f_X1_read_r mm fo mem ug lt t2 d2 l2 bt pl).toInt8.toInt32)) &&& 65535)) mem ug ud lt (f_X1_read_ct mm fo t2 pl) (f_X1_read_hd mm fo t2 d2 pl) (f_X1_read_la mm fo t2 d2 l2 bt pl) bt gB gA gX gY gS gP (if (f_X5_has_r mm gP 64) = 0 then (upd (f_X5_fetch_gC mm gC) mm.toNatClampNeg ((((f_X5_fetch_gC mm gC) mm.toNatClampNeg) + ((f_X5_fetch_r ug mm gB gC gR gM gL).toInt8.toInt32)) &&& 65535)) else (f_X5_fetch_gC mm gC)) (f_X5_fetch_gR mm gC gR gM) (f_X5_fetch_gM mm gC gM) (f_X5_fetch_gL ug mm gC gR gM gL) ug ud := by
  have hF : rf ug ud ug ud := ⟨rfl, rfl, hf, hw⟩
  unfold SR
  have fe := sr_fetch hm hB hf hu hC
  have hg : f_X1_goes_r fp 130 = 0 ↔ ¬ f_X5_has_r mm gP 64 = 0 := by
    have e1 : f_X1_goes_r fp 130 = if fp &&& 64 = 0 then 1 else 0 := by unfold f_X1_goes_r; rw [if_neg (show ¬ (130 : Int32) = 128 by decide), if_neg (show ¬ (130 : Int32) = 129 by decide), if_pos (show (130 : Int32) = 130 from rfl)]
    rw [e1]; unfold f_X5_has_r; rw [hP.1]
    by_cases z : fp &&& 64 = 0
    · rw [if_pos z]; (try rw [if_pos z]); decide
    · rw [if_neg z]; (try rw [if_neg z]); decide
  exact ⟨hB, hA, hX, hY, hS, hP, sr_br fe.2.2.2 (by rw [fe.1]) hg, hF, fe.2.2.1⟩
set_option maxRecDepth 100000 in
theorem op_BVS {mm fo oa ox oy os op oc fa fx fy fs fp ug ud pl : Int32} {om mem lt t2 d2 l2 gB gA gX gY gS gP gC gR gM gL : Nat → Int32} {bt : Nat → Nat → Int32} (hm : s_m mm fo) (hB : rm mm gB mem om) (hA : ra mm gA fa oa) (hX : ra mm gX fx ox) (hY : ra mm gY fy oy) (hS : ra mm gS fs os) (hP : rp mm gP fp op) (hC : rc mm gC pl oc) (hu : ru ug lt t2 d2 l2 bt gR gM gL) (hf : ∃ j : Nat, j < 64 ∧ ug = nI j) (hw : wB ud) : SR mm oa ox oy os op oc om fa fx fy fs fp (if (f_X1_goes_r fp 131) = 0 then ((pl + 1) &&& 65535) else ((((pl + 1) &&& 65535) + ((f_X1_read_r mm fo mem ug lt t2 d2 l2 bt pl).toInt8.toInt32)) &&& 65535)) mem ug ud lt (f_X1_read_ct mm fo t2 pl) (f_X1_read_hd mm fo t2 d2 pl) (f_X1_read_la mm fo t2 d2 l2 bt pl) bt gB gA gX gY gS gP (if (f_X5_has_r mm gP 64) = 1 then (upd (f_X5_fetch_gC mm gC) mm.toNatClampNeg ((((f_X5_fetch_gC mm gC) mm.toNatClampNeg) + ((f_X5_fetch_r ug mm gB gC gR gM gL).toInt8.toInt32)) &&& 65535)) else (f_X5_fetch_gC mm gC)) (f_X5_fetch_gR mm gC gR gM) (f_X5_fetch_gM mm gC gM) (f_X5_fetch_gL ug mm gC gR gM gL) ug ud := by
  have hF : rf ug ud ug ud := ⟨rfl, rfl, hf, hw⟩
  unfold SR
  have fe := sr_fetch hm hB hf hu hC
  have hg : f_X1_goes_r fp 131 = 0 ↔ ¬ f_X5_has_r mm gP 64 = 1 := by
    have e1 : f_X1_goes_r fp 131 = if fp &&& 64 = 0 then 0 else 1 := by unfold f_X1_goes_r; rw [if_neg (show ¬ (131 : Int32) = 128 by decide), if_neg (show ¬ (131 : Int32) = 129 by decide), if_neg (show ¬ (131 : Int32) = 130 by decide), if_pos (show (131 : Int32) = 131 from rfl)]
    rw [e1]; unfold f_X5_has_r; rw [hP.1]
    by_cases z : fp &&& 64 = 0
    · rw [if_pos z]; (try rw [if_pos z]); decide
    · rw [if_neg z]; (try rw [if_neg z]); decide
  exact ⟨hB, hA, hX, hY, hS, hP, sr_br fe.2.2.2 (by rw [fe.1]) hg, hF, fe.2.2.1⟩
set_option maxRecDepth 100000 in
theorem op_BCC {mm fo oa ox oy os op oc fa fx fy fs fp ug ud pl : Int32} {om mem lt t2 d2 l2 gB gA gX gY gS gP gC gR gM gL : Nat → Int32} {bt : Nat → Nat → Int32} (hm : s_m mm fo) (hB : rm mm gB mem om) (hA : ra mm gA fa oa) (hX : ra mm gX fx ox) (hY : ra mm gY fy oy) (hS : ra mm gS fs os) (hP : rp mm gP fp op) (hC : rc mm gC pl oc) (hu : ru ug lt t2 d2 l2 bt gR gM gL) (hf : ∃ j : Nat, j < 64 ∧ ug = nI j) (hw : wB ud) : SR mm oa ox oy os op oc om fa fx fy fs fp (if (f_X1_goes_r fp 132) = 0 then ((pl + 1) &&& 65535) else ((((pl + 1) &&& 65535) + ((f_X1_read_r mm fo mem ug lt t2 d2 l2 bt pl).toInt8.toInt32)) &&& 65535)) mem ug ud lt (f_X1_read_ct mm fo t2 pl) (f_X1_read_hd mm fo t2 d2 pl) (f_X1_read_la mm fo t2 d2 l2 bt pl) bt gB gA gX gY gS gP (if (f_X5_has_r mm gP 1) = 0 then (upd (f_X5_fetch_gC mm gC) mm.toNatClampNeg ((((f_X5_fetch_gC mm gC) mm.toNatClampNeg) + ((f_X5_fetch_r ug mm gB gC gR gM gL).toInt8.toInt32)) &&& 65535)) else (f_X5_fetch_gC mm gC)) (f_X5_fetch_gR mm gC gR gM) (f_X5_fetch_gM mm gC gM) (f_X5_fetch_gL ug mm gC gR gM gL) ug ud := by
  have hF : rf ug ud ug ud := ⟨rfl, rfl, hf, hw⟩
  unfold SR
  have fe := sr_fetch hm hB hf hu hC
  have hg : f_X1_goes_r fp 132 = 0 ↔ ¬ f_X5_has_r mm gP 1 = 0 := by
    have e1 : f_X1_goes_r fp 132 = if fp &&& 1 = 0 then 1 else 0 := by unfold f_X1_goes_r; rw [if_neg (show ¬ (132 : Int32) = 128 by decide), if_neg (show ¬ (132 : Int32) = 129 by decide), if_neg (show ¬ (132 : Int32) = 130 by decide), if_neg (show ¬ (132 : Int32) = 131 by decide), if_pos (show (132 : Int32) = 132 from rfl)]
    rw [e1]; unfold f_X5_has_r; rw [hP.1]
    by_cases z : fp &&& 1 = 0
    · rw [if_pos z]; (try rw [if_pos z]); decide
    · rw [if_neg z]; (try rw [if_neg z]); decide
  exact ⟨hB, hA, hX, hY, hS, hP, sr_br fe.2.2.2 (by rw [fe.1]) hg, hF, fe.2.2.1⟩
set_option maxRecDepth 100000 in
theorem op_BCS {mm fo oa ox oy os op oc fa fx fy fs fp ug ud pl : Int32} {om mem lt t2 d2 l2 gB gA gX gY gS gP gC gR gM gL : Nat → Int32} {bt : Nat → Nat → Int32} (hm : s_m mm fo) (hB : rm mm gB mem om) (hA : ra mm gA fa oa) (hX : ra mm gX fx ox) (hY : ra mm gY fy oy) (hS : ra mm gS fs os) (hP : rp mm gP fp op) (hC : rc mm gC pl oc) (hu : ru ug lt t2 d2 l2 bt gR gM gL) (hf : ∃ j : Nat, j < 64 ∧ ug = nI j) (hw : wB ud) : SR mm oa ox oy os op oc om fa fx fy fs fp (if (f_X1_goes_r fp 133) = 0 then ((pl + 1) &&& 65535) else ((((pl + 1) &&& 65535) + ((f_X1_read_r mm fo mem ug lt t2 d2 l2 bt pl).toInt8.toInt32)) &&& 65535)) mem ug ud lt (f_X1_read_ct mm fo t2 pl) (f_X1_read_hd mm fo t2 d2 pl) (f_X1_read_la mm fo t2 d2 l2 bt pl) bt gB gA gX gY gS gP (if (f_X5_has_r mm gP 1) = 1 then (upd (f_X5_fetch_gC mm gC) mm.toNatClampNeg ((((f_X5_fetch_gC mm gC) mm.toNatClampNeg) + ((f_X5_fetch_r ug mm gB gC gR gM gL).toInt8.toInt32)) &&& 65535)) else (f_X5_fetch_gC mm gC)) (f_X5_fetch_gR mm gC gR gM) (f_X5_fetch_gM mm gC gM) (f_X5_fetch_gL ug mm gC gR gM gL) ug ud := by
  have hF : rf ug ud ug ud := ⟨rfl, rfl, hf, hw⟩
  unfold SR
  have fe := sr_fetch hm hB hf hu hC
  have hg : f_X1_goes_r fp 133 = 0 ↔ ¬ f_X5_has_r mm gP 1 = 1 := by
    have e1 : f_X1_goes_r fp 133 = if fp &&& 1 = 0 then 0 else 1 := by unfold f_X1_goes_r; rw [if_neg (show ¬ (133 : Int32) = 128 by decide), if_neg (show ¬ (133 : Int32) = 129 by decide), if_neg (show ¬ (133 : Int32) = 130 by decide), if_neg (show ¬ (133 : Int32) = 131 by decide), if_neg (show ¬ (133 : Int32) = 132 by decide), if_pos (show (133 : Int32) = 133 from rfl)]
    rw [e1]; unfold f_X5_has_r; rw [hP.1]
    by_cases z : fp &&& 1 = 0
    · rw [if_pos z]; (try rw [if_pos z]); decide
    · rw [if_neg z]; (try rw [if_neg z]); decide
  exact ⟨hB, hA, hX, hY, hS, hP, sr_br fe.2.2.2 (by rw [fe.1]) hg, hF, fe.2.2.1⟩
set_option maxRecDepth 100000 in
theorem op_BNE {mm fo oa ox oy os op oc fa fx fy fs fp ug ud pl : Int32} {om mem lt t2 d2 l2 gB gA gX gY gS gP gC gR gM gL : Nat → Int32} {bt : Nat → Nat → Int32} (hm : s_m mm fo) (hB : rm mm gB mem om) (hA : ra mm gA fa oa) (hX : ra mm gX fx ox) (hY : ra mm gY fy oy) (hS : ra mm gS fs os) (hP : rp mm gP fp op) (hC : rc mm gC pl oc) (hu : ru ug lt t2 d2 l2 bt gR gM gL) (hf : ∃ j : Nat, j < 64 ∧ ug = nI j) (hw : wB ud) : SR mm oa ox oy os op oc om fa fx fy fs fp (if (f_X1_goes_r fp 134) = 0 then ((pl + 1) &&& 65535) else ((((pl + 1) &&& 65535) + ((f_X1_read_r mm fo mem ug lt t2 d2 l2 bt pl).toInt8.toInt32)) &&& 65535)) mem ug ud lt (f_X1_read_ct mm fo t2 pl) (f_X1_read_hd mm fo t2 d2 pl) (f_X1_read_la mm fo t2 d2 l2 bt pl) bt gB gA gX gY gS gP (if (f_X5_has_r mm gP 2) = 0 then (upd (f_X5_fetch_gC mm gC) mm.toNatClampNeg ((((f_X5_fetch_gC mm gC) mm.toNatClampNeg) + ((f_X5_fetch_r ug mm gB gC gR gM gL).toInt8.toInt32)) &&& 65535)) else (f_X5_fetch_gC mm gC)) (f_X5_fetch_gR mm gC gR gM) (f_X5_fetch_gM mm gC gM) (f_X5_fetch_gL ug mm gC gR gM gL) ug ud := by
  have hF : rf ug ud ug ud := ⟨rfl, rfl, hf, hw⟩
  unfold SR
  have fe := sr_fetch hm hB hf hu hC
  have hg : f_X1_goes_r fp 134 = 0 ↔ ¬ f_X5_has_r mm gP 2 = 0 := by
    have e1 : f_X1_goes_r fp 134 = if fp &&& 2 = 0 then 1 else 0 := by unfold f_X1_goes_r; rw [if_neg (show ¬ (134 : Int32) = 128 by decide), if_neg (show ¬ (134 : Int32) = 129 by decide), if_neg (show ¬ (134 : Int32) = 130 by decide), if_neg (show ¬ (134 : Int32) = 131 by decide), if_neg (show ¬ (134 : Int32) = 132 by decide), if_neg (show ¬ (134 : Int32) = 133 by decide), if_pos (show (134 : Int32) = 134 from rfl)]
    rw [e1]; unfold f_X5_has_r; rw [hP.1]
    by_cases z : fp &&& 2 = 0
    · rw [if_pos z]; (try rw [if_pos z]); decide
    · rw [if_neg z]; (try rw [if_neg z]); decide
  exact ⟨hB, hA, hX, hY, hS, hP, sr_br fe.2.2.2 (by rw [fe.1]) hg, hF, fe.2.2.1⟩
set_option maxRecDepth 100000 in
theorem op_BEQ {mm fo oa ox oy os op oc fa fx fy fs fp ug ud pl : Int32} {om mem lt t2 d2 l2 gB gA gX gY gS gP gC gR gM gL : Nat → Int32} {bt : Nat → Nat → Int32} (hm : s_m mm fo) (hB : rm mm gB mem om) (hA : ra mm gA fa oa) (hX : ra mm gX fx ox) (hY : ra mm gY fy oy) (hS : ra mm gS fs os) (hP : rp mm gP fp op) (hC : rc mm gC pl oc) (hu : ru ug lt t2 d2 l2 bt gR gM gL) (hf : ∃ j : Nat, j < 64 ∧ ug = nI j) (hw : wB ud) : SR mm oa ox oy os op oc om fa fx fy fs fp (if (f_X1_goes_r fp 135) = 0 then ((pl + 1) &&& 65535) else ((((pl + 1) &&& 65535) + ((f_X1_read_r mm fo mem ug lt t2 d2 l2 bt pl).toInt8.toInt32)) &&& 65535)) mem ug ud lt (f_X1_read_ct mm fo t2 pl) (f_X1_read_hd mm fo t2 d2 pl) (f_X1_read_la mm fo t2 d2 l2 bt pl) bt gB gA gX gY gS gP (if (f_X5_has_r mm gP 2) = 1 then (upd (f_X5_fetch_gC mm gC) mm.toNatClampNeg ((((f_X5_fetch_gC mm gC) mm.toNatClampNeg) + ((f_X5_fetch_r ug mm gB gC gR gM gL).toInt8.toInt32)) &&& 65535)) else (f_X5_fetch_gC mm gC)) (f_X5_fetch_gR mm gC gR gM) (f_X5_fetch_gM mm gC gM) (f_X5_fetch_gL ug mm gC gR gM gL) ug ud := by
  have hF : rf ug ud ug ud := ⟨rfl, rfl, hf, hw⟩
  unfold SR
  have fe := sr_fetch hm hB hf hu hC
  have hg : f_X1_goes_r fp 135 = 0 ↔ ¬ f_X5_has_r mm gP 2 = 1 := by
    have e1 : f_X1_goes_r fp 135 = if fp &&& 2 = 0 then 0 else 1 := by unfold f_X1_goes_r; rw [if_neg (show ¬ (135 : Int32) = 128 by decide), if_neg (show ¬ (135 : Int32) = 129 by decide), if_neg (show ¬ (135 : Int32) = 130 by decide), if_neg (show ¬ (135 : Int32) = 131 by decide), if_neg (show ¬ (135 : Int32) = 132 by decide), if_neg (show ¬ (135 : Int32) = 133 by decide), if_neg (show ¬ (135 : Int32) = 134 by decide)]
    rw [e1]; unfold f_X5_has_r; rw [hP.1]
    by_cases z : fp &&& 2 = 0
    · rw [if_pos z]; (try rw [if_pos z]); decide
    · rw [if_neg z]; (try rw [if_neg z]); decide
  exact ⟨hB, hA, hX, hY, hS, hP, sr_br fe.2.2.2 (by rw [fe.1]) hg, hF, fe.2.2.1⟩
set_option maxRecDepth 100000 in
theorem op_JSR {mm fo oa ox oy os op oc fa fx fy fs fp ug ud c2 pl : Int32} {om mem lt t2 d2 l2 gB gA gX gY gS gP WC WR WM WL : Nat → Int32} {bt : Nat → Nat → Int32} (hm : s_m mm fo) (hB : rm mm gB mem om) (hA : ra mm gA fa oa) (hX : ra mm gX fx ox) (hY : ra mm gY fy oy) (hS : ra mm gS fs os) (hP : rp mm gP fp op) (hC : rc mm WC c2 oc) (hu : ru ug lt t2 d2 l2 bt WR WM WL) (hp : s_w pl) (hf : ∃ j : Nat, j < 64 ∧ ug = nI j) (hw : wB ud) : SR mm oa ox oy os op oc om fa fx fy (f_X1_pushWord_fs fs) fp pl (f_X1_pushWord_mem fs mem (c2 - 1)) ug ud lt t2 d2 l2 bt (f_X5_pushWord_gB mm gB gS (((WC mm.toNatClampNeg) - 1) &&& 65535)) gA gX gY (f_X5_pushWord_gS mm gS) gP (upd WC mm.toNatClampNeg pl) WR WM WL ug ud := by
  have hF : rf ug ud ug ud := ⟨rfl, rfl, hf, hw⟩
  unfold SR
  rw [hC.1]
  have ps := sr_pushWord (s_mB hm) hB hS (s_jsr hC.2.2).1 (s_jsr hC.2.2).2
  exact ⟨ps.1, hA, hX, hY, ps.2, hP, rc_u hC hp, hF, hu⟩
set_option maxRecDepth 100000 in
theorem op_JMP {mm fo oa ox oy os op oc fa fx fy fs fp ug ud c2 pl : Int32} {om mem lt t2 d2 l2 gB gA gX gY gS gP WC WR WM WL : Nat → Int32} {bt : Nat → Nat → Int32} (hm : s_m mm fo) (hB : rm mm gB mem om) (hA : ra mm gA fa oa) (hX : ra mm gX fx ox) (hY : ra mm gY fy oy) (hS : ra mm gS fs os) (hP : rp mm gP fp op) (hC : rc mm WC c2 oc) (hu : ru ug lt t2 d2 l2 bt WR WM WL) (hp : s_w pl) (hf : ∃ j : Nat, j < 64 ∧ ug = nI j) (hw : wB ud) : SR mm oa ox oy os op oc om fa fx fy fs fp pl mem ug ud lt t2 d2 l2 bt gB gA gX gY gS gP (upd WC mm.toNatClampNeg pl) WR WM WL ug ud := by
  have hF : rf ug ud ug ud := ⟨rfl, rfl, hf, hw⟩
  unfold SR
  exact ⟨hB, hA, hX, hY, hS, hP, rc_u hC hp, hF, hu⟩
set_option maxRecDepth 100000 in
theorem op_JMI {mm fo oa ox oy os op oc fa fx fy fs fp ug ud c2 pl W : Int32} {om mem lt t2 d2 l2 gB gA gX gY gS gP WC WR WM WL : Nat → Int32} {bt : Nat → Nat → Int32} (hm : s_m mm fo) (hB : rm mm gB mem om) (hA : ra mm gA fa oa) (hX : ra mm gX fx ox) (hY : ra mm gY fy oy) (hS : ra mm gS fs os) (hP : rp mm gP fp op) (hC : rc mm WC c2 oc) (hu : ru ug lt t2 d2 l2 bt (f_X5_read_gR mm (f_X5_read_gR mm WR WM W) (f_X5_read_gM mm WM W) ((W &&& 65280) ||| ((W + 1) &&& 255))) (f_X5_read_gM mm (f_X5_read_gM mm WM W) ((W &&& 65280) ||| ((W + 1) &&& 255))) (f_X5_read_gL ug mm (f_X5_read_gR mm WR WM W) (f_X5_read_gM mm WM W) (f_X5_read_gL ug mm WR WM WL W) ((W &&& 65280) ||| ((W + 1) &&& 255)))) (hp : s_w pl) (he : ((f_X5_read_r ug mm gB WR WM WL W) ||| ((f_X5_read_r ug mm gB (f_X5_read_gR mm WR WM W) (f_X5_read_gM mm WM W) (f_X5_read_gL ug mm WR WM WL W) ((W &&& 65280) ||| ((W + 1) &&& 255))) <<< ((8 : Int32) &&& 31))) = pl) (hf : ∃ j : Nat, j < 64 ∧ ug = nI j) (hw : wB ud) : SR mm oa ox oy os op oc om fa fx fy fs fp pl mem ug ud lt t2 d2 l2 bt gB gA gX gY gS gP (upd WC mm.toNatClampNeg ((f_X5_read_r ug mm gB WR WM WL W) ||| ((f_X5_read_r ug mm gB (f_X5_read_gR mm WR WM W) (f_X5_read_gM mm WM W) (f_X5_read_gL ug mm WR WM WL W) ((W &&& 65280) ||| ((W + 1) &&& 255))) <<< ((8 : Int32) &&& 31)))) (f_X5_read_gR mm (f_X5_read_gR mm WR WM W) (f_X5_read_gM mm WM W) ((W &&& 65280) ||| ((W + 1) &&& 255))) (f_X5_read_gM mm (f_X5_read_gM mm WM W) ((W &&& 65280) ||| ((W + 1) &&& 255))) (f_X5_read_gL ug mm (f_X5_read_gR mm WR WM W) (f_X5_read_gM mm WM W) (f_X5_read_gL ug mm WR WM WL W) ((W &&& 65280) ||| ((W + 1) &&& 255))) ug ud := by
  have hF : rf ug ud ug ud := ⟨rfl, rfl, hf, hw⟩
  unfold SR
  rw [he]
  exact ⟨hB, hA, hX, hY, hS, hP, rc_u hC hp, hF, hu⟩
set_option maxRecDepth 100000 in
theorem op_STY84 {mm fo oa ox oy os op oc fa fx fy fs fp ug ud c2 pl : Int32} {om mem lt t2 d2 l2 gB gA gX gY gS gP C2 R2 M2 L2 : Nat → Int32} {bt : Nat → Nat → Int32} (hm : s_m mm fo) (hB : rm mm gB mem om) (hA : ra mm gA fa oa) (hX : ra mm gX fx ox) (hY : ra mm gY fy oy) (hS : ra mm gS fs os) (hP : rp mm gP fp op) (hC : rc mm C2 c2 oc) (hu : ru ug lt t2 d2 l2 bt R2 M2 L2) (hp : s_w pl) (hf : ∃ j : Nat, j < 64 ∧ ug = nI j) (hw : wB ud) : SR mm oa ox oy os op oc om fa fx fy fs fp c2 (f_X1_write_mem fo mem pl fy) (f_X1_write_ug mm fo ug pl fy) (f_X1_write_ud mm fo ug ud pl fy) (f_X1_write_lt mm fo ug lt pl fy) (f_X1_write_ct mm fo lt t2 pl) d2 l2 (f_X1_write_bt mm fo lt t2 d2 bt pl fy) (f_X5_write_gB mm gB pl (gY mm.toNatClampNeg)) gA gX gY gS gP C2 (f_X5_write_gR ug mm R2 M2 pl (gY mm.toNatClampNeg)) (f_X5_write_gM ug mm M2 pl) L2 (f_X5_write_un ug mm pl (gY mm.toNatClampNeg)) (f_X5_write_ow ug ud mm pl (gY mm.toNatClampNeg)) := by
  have hF : rf ug ud ug ud := ⟨rfl, rfl, hf, hw⟩
  unfold SR
  rw [hY.1]
  have wr := sr_write hm hp hY.2.2 hB hF hu
  exact ⟨wr.1, hA, hX, hY, hS, hP, hC, wr.2.1, wr.2.2⟩
set_option maxRecDepth 100000 in
theorem op_STY94 {mm fo oa ox oy os op oc fa fx fy fs fp ug ud c2 pl : Int32} {om mem lt t2 d2 l2 gB gA gX gY gS gP C2 R2 M2 L2 : Nat → Int32} {bt : Nat → Nat → Int32} (hm : s_m mm fo) (hB : rm mm gB mem om) (hA : ra mm gA fa oa) (hX : ra mm gX fx ox) (hY : ra mm gY fy oy) (hS : ra mm gS fs os) (hP : rp mm gP fp op) (hC : rc mm C2 c2 oc) (hu : ru ug lt t2 d2 l2 bt R2 M2 L2) (hp : s_w pl) (hf : ∃ j : Nat, j < 64 ∧ ug = nI j) (hw : wB ud) : SR mm oa ox oy os op oc om fa fx fy fs fp c2 (f_X1_write_mem fo mem pl fy) (f_X1_write_ug mm fo ug pl fy) (f_X1_write_ud mm fo ug ud pl fy) (f_X1_write_lt mm fo ug lt pl fy) (f_X1_write_ct mm fo lt t2 pl) d2 l2 (f_X1_write_bt mm fo lt t2 d2 bt pl fy) (f_X5_write_gB mm gB pl (gY mm.toNatClampNeg)) gA gX gY gS gP C2 (f_X5_write_gR ug mm R2 M2 pl (gY mm.toNatClampNeg)) (f_X5_write_gM ug mm M2 pl) L2 (f_X5_write_un ug mm pl (gY mm.toNatClampNeg)) (f_X5_write_ow ug ud mm pl (gY mm.toNatClampNeg)) := by
  have hF : rf ug ud ug ud := ⟨rfl, rfl, hf, hw⟩
  unfold SR
  rw [hY.1]
  have wr := sr_write hm hp hY.2.2 hB hF hu
  exact ⟨wr.1, hA, hX, hY, hS, hP, hC, wr.2.1, wr.2.2⟩
set_option maxRecDepth 100000 in
theorem op_STY8C {mm fo oa ox oy os op oc fa fx fy fs fp ug ud c2 pl : Int32} {om mem lt t2 d2 l2 gB gA gX gY gS gP C2 R2 M2 L2 : Nat → Int32} {bt : Nat → Nat → Int32} (hm : s_m mm fo) (hB : rm mm gB mem om) (hA : ra mm gA fa oa) (hX : ra mm gX fx ox) (hY : ra mm gY fy oy) (hS : ra mm gS fs os) (hP : rp mm gP fp op) (hC : rc mm C2 c2 oc) (hu : ru ug lt t2 d2 l2 bt R2 M2 L2) (hp : s_w pl) (hf : ∃ j : Nat, j < 64 ∧ ug = nI j) (hw : wB ud) : SR mm oa ox oy os op oc om fa fx fy fs fp c2 (f_X1_write_mem fo mem pl fy) (f_X1_write_ug mm fo ug pl fy) (f_X1_write_ud mm fo ug ud pl fy) (f_X1_write_lt mm fo ug lt pl fy) (f_X1_write_ct mm fo lt t2 pl) d2 l2 (f_X1_write_bt mm fo lt t2 d2 bt pl fy) (f_X5_write_gB mm gB pl (gY mm.toNatClampNeg)) gA gX gY gS gP C2 (f_X5_write_gR ug mm R2 M2 pl (gY mm.toNatClampNeg)) (f_X5_write_gM ug mm M2 pl) L2 (f_X5_write_un ug mm pl (gY mm.toNatClampNeg)) (f_X5_write_ow ug ud mm pl (gY mm.toNatClampNeg)) := by
  have hF : rf ug ud ug ud := ⟨rfl, rfl, hf, hw⟩
  unfold SR
  rw [hY.1]
  have wr := sr_write hm hp hY.2.2 hB hF hu
  exact ⟨wr.1, hA, hX, hY, hS, hP, hC, wr.2.1, wr.2.2⟩
set_option maxRecDepth 100000 in
theorem op_BIT24 {mm fo oa ox oy os op oc fa fx fy fs fp ug ud c2 pl : Int32} {om mem lt t2 d2 l2 gB gA gX gY gS gP C2 R2 M2 L2 : Nat → Int32} {bt : Nat → Nat → Int32} (hm : s_m mm fo) (hB : rm mm gB mem om) (hA : ra mm gA fa oa) (hX : ra mm gX fx ox) (hY : ra mm gY fy oy) (hS : ra mm gS fs os) (hP : rp mm gP fp op) (hC : rc mm C2 c2 oc) (hu : ru ug lt t2 d2 l2 bt R2 M2 L2) (hp : s_w pl) (hf : ∃ j : Nat, j < 64 ∧ ug = nI j) (hw : wB ud) : SR mm oa ox oy os op oc om fa fx fy fs (f_X1_testBits_fp fa fp (f_X1_read_r mm fo mem ug lt t2 d2 l2 bt pl)) c2 mem ug ud lt (f_X1_read_ct mm fo t2 pl) (f_X1_read_hd mm fo t2 d2 pl) (f_X1_read_la mm fo t2 d2 l2 bt pl) bt gB gA gX gY gS (if ((gA mm.toNatClampNeg) &&& (f_X5_read_r ug mm gB R2 M2 L2 pl)) = 0 then (if (f_X5_read_r ug mm gB R2 M2 L2 pl) ≤ 127 then (if ((f_X5_read_r ug mm gB R2 M2 L2 pl) &&& 64) = 0 then (f_X5_set_gP mm (f_X5_set_gP mm (f_X5_set_gP mm gP 2 1) 128 0) 64 0) else (f_X5_set_gP mm (f_X5_set_gP mm (f_X5_set_gP mm gP 2 1) 128 0) 64 1)) else (if ((f_X5_read_r ug mm gB R2 M2 L2 pl) &&& 64) = 0 then (f_X5_set_gP mm (f_X5_set_gP mm (f_X5_set_gP mm gP 2 1) 128 1) 64 0) else (f_X5_set_gP mm (f_X5_set_gP mm (f_X5_set_gP mm gP 2 1) 128 1) 64 1))) else (if (f_X5_read_r ug mm gB R2 M2 L2 pl) ≤ 127 then (if ((f_X5_read_r ug mm gB R2 M2 L2 pl) &&& 64) = 0 then (f_X5_set_gP mm (f_X5_set_gP mm (f_X5_set_gP mm gP 2 0) 128 0) 64 0) else (f_X5_set_gP mm (f_X5_set_gP mm (f_X5_set_gP mm gP 2 0) 128 0) 64 1)) else (if ((f_X5_read_r ug mm gB R2 M2 L2 pl) &&& 64) = 0 then (f_X5_set_gP mm (f_X5_set_gP mm (f_X5_set_gP mm gP 2 0) 128 1) 64 0) else (f_X5_set_gP mm (f_X5_set_gP mm (f_X5_set_gP mm gP 2 0) 128 1) 64 1)))) C2 (f_X5_read_gR mm R2 M2 pl) (f_X5_read_gM mm M2 pl) (f_X5_read_gL ug mm R2 M2 L2 pl) ug ud := by
  have hF : rf ug ud ug ud := ⟨rfl, rfl, hf, hw⟩
  unfold SR
  have rd := sr_read hm hp hB hf hu
  rw [rd.1, hA.1]
  exact ⟨hB, hA, hX, hY, hS, sr_bit hP rd.2.1, hC, hF, rd.2.2⟩
set_option maxRecDepth 100000 in
theorem op_BIT2C {mm fo oa ox oy os op oc fa fx fy fs fp ug ud c2 pl : Int32} {om mem lt t2 d2 l2 gB gA gX gY gS gP C2 R2 M2 L2 : Nat → Int32} {bt : Nat → Nat → Int32} (hm : s_m mm fo) (hB : rm mm gB mem om) (hA : ra mm gA fa oa) (hX : ra mm gX fx ox) (hY : ra mm gY fy oy) (hS : ra mm gS fs os) (hP : rp mm gP fp op) (hC : rc mm C2 c2 oc) (hu : ru ug lt t2 d2 l2 bt R2 M2 L2) (hp : s_w pl) (hf : ∃ j : Nat, j < 64 ∧ ug = nI j) (hw : wB ud) : SR mm oa ox oy os op oc om fa fx fy fs (f_X1_testBits_fp fa fp (f_X1_read_r mm fo mem ug lt t2 d2 l2 bt pl)) c2 mem ug ud lt (f_X1_read_ct mm fo t2 pl) (f_X1_read_hd mm fo t2 d2 pl) (f_X1_read_la mm fo t2 d2 l2 bt pl) bt gB gA gX gY gS (if ((gA mm.toNatClampNeg) &&& (f_X5_read_r ug mm gB R2 M2 L2 pl)) = 0 then (if (f_X5_read_r ug mm gB R2 M2 L2 pl) ≤ 127 then (if ((f_X5_read_r ug mm gB R2 M2 L2 pl) &&& 64) = 0 then (f_X5_set_gP mm (f_X5_set_gP mm (f_X5_set_gP mm gP 2 1) 128 0) 64 0) else (f_X5_set_gP mm (f_X5_set_gP mm (f_X5_set_gP mm gP 2 1) 128 0) 64 1)) else (if ((f_X5_read_r ug mm gB R2 M2 L2 pl) &&& 64) = 0 then (f_X5_set_gP mm (f_X5_set_gP mm (f_X5_set_gP mm gP 2 1) 128 1) 64 0) else (f_X5_set_gP mm (f_X5_set_gP mm (f_X5_set_gP mm gP 2 1) 128 1) 64 1))) else (if (f_X5_read_r ug mm gB R2 M2 L2 pl) ≤ 127 then (if ((f_X5_read_r ug mm gB R2 M2 L2 pl) &&& 64) = 0 then (f_X5_set_gP mm (f_X5_set_gP mm (f_X5_set_gP mm gP 2 0) 128 0) 64 0) else (f_X5_set_gP mm (f_X5_set_gP mm (f_X5_set_gP mm gP 2 0) 128 0) 64 1)) else (if ((f_X5_read_r ug mm gB R2 M2 L2 pl) &&& 64) = 0 then (f_X5_set_gP mm (f_X5_set_gP mm (f_X5_set_gP mm gP 2 0) 128 1) 64 0) else (f_X5_set_gP mm (f_X5_set_gP mm (f_X5_set_gP mm gP 2 0) 128 1) 64 1)))) C2 (f_X5_read_gR mm R2 M2 pl) (f_X5_read_gM mm M2 pl) (f_X5_read_gL ug mm R2 M2 L2 pl) ug ud := by
  have hF : rf ug ud ug ud := ⟨rfl, rfl, hf, hw⟩
  unfold SR
  have rd := sr_read hm hp hB hf hu
  rw [rd.1, hA.1]
  exact ⟨hB, hA, hX, hY, hS, sr_bit hP rd.2.1, hC, hF, rd.2.2⟩
set_option maxRecDepth 100000 in
theorem op_LDYA0 {mm fo oa ox oy os op oc fa fx fy fs fp ug ud c2 pl : Int32} {om mem lt t2 d2 l2 gB gA gX gY gS gP C2 R2 M2 L2 : Nat → Int32} {bt : Nat → Nat → Int32} (hm : s_m mm fo) (hB : rm mm gB mem om) (hA : ra mm gA fa oa) (hX : ra mm gX fx ox) (hY : ra mm gY fy oy) (hS : ra mm gS fs os) (hP : rp mm gP fp op) (hC : rc mm C2 c2 oc) (hu : ru ug lt t2 d2 l2 bt R2 M2 L2) (hp : s_w pl) (hf : ∃ j : Nat, j < 64 ∧ ug = nI j) (hw : wB ud) : SR mm oa ox oy os op oc om fa fx (f_X1_shown_r (f_X1_read_r mm fo mem ug lt t2 d2 l2 bt pl)) fs (f_X1_shown_fp fp (f_X1_read_r mm fo mem ug lt t2 d2 l2 bt pl)) c2 mem ug ud lt (f_X1_read_ct mm fo t2 pl) (f_X1_read_hd mm fo t2 d2 pl) (f_X1_read_la mm fo t2 d2 l2 bt pl) bt gB gA gX (upd gY mm.toNatClampNeg (f_X5_seen_r (f_X5_read_r ug mm gB R2 M2 L2 pl))) gS (f_X5_seen_gP mm gP (f_X5_read_r ug mm gB R2 M2 L2 pl)) C2 (f_X5_read_gR mm R2 M2 pl) (f_X5_read_gM mm M2 pl) (f_X5_read_gL ug mm R2 M2 L2 pl) ug ud := by
  have hF : rf ug ud ug ud := ⟨rfl, rfl, hf, hw⟩
  unfold SR
  have rd := sr_read hm hp hB hf hu
  rw [rd.1]
  exact ⟨hB, hA, hX, ra_s hY rd.2.1, hS, rp_seenb hP rd.2.1, hC, hF, rd.2.2⟩
set_option maxRecDepth 100000 in
theorem op_LDYA4 {mm fo oa ox oy os op oc fa fx fy fs fp ug ud c2 pl : Int32} {om mem lt t2 d2 l2 gB gA gX gY gS gP C2 R2 M2 L2 : Nat → Int32} {bt : Nat → Nat → Int32} (hm : s_m mm fo) (hB : rm mm gB mem om) (hA : ra mm gA fa oa) (hX : ra mm gX fx ox) (hY : ra mm gY fy oy) (hS : ra mm gS fs os) (hP : rp mm gP fp op) (hC : rc mm C2 c2 oc) (hu : ru ug lt t2 d2 l2 bt R2 M2 L2) (hp : s_w pl) (hf : ∃ j : Nat, j < 64 ∧ ug = nI j) (hw : wB ud) : SR mm oa ox oy os op oc om fa fx (f_X1_shown_r (f_X1_read_r mm fo mem ug lt t2 d2 l2 bt pl)) fs (f_X1_shown_fp fp (f_X1_read_r mm fo mem ug lt t2 d2 l2 bt pl)) c2 mem ug ud lt (f_X1_read_ct mm fo t2 pl) (f_X1_read_hd mm fo t2 d2 pl) (f_X1_read_la mm fo t2 d2 l2 bt pl) bt gB gA gX (upd gY mm.toNatClampNeg (f_X5_seen_r (f_X5_read_r ug mm gB R2 M2 L2 pl))) gS (f_X5_seen_gP mm gP (f_X5_read_r ug mm gB R2 M2 L2 pl)) C2 (f_X5_read_gR mm R2 M2 pl) (f_X5_read_gM mm M2 pl) (f_X5_read_gL ug mm R2 M2 L2 pl) ug ud := by
  have hF : rf ug ud ug ud := ⟨rfl, rfl, hf, hw⟩
  unfold SR
  have rd := sr_read hm hp hB hf hu
  rw [rd.1]
  exact ⟨hB, hA, hX, ra_s hY rd.2.1, hS, rp_seenb hP rd.2.1, hC, hF, rd.2.2⟩
set_option maxRecDepth 100000 in
theorem op_LDYB4 {mm fo oa ox oy os op oc fa fx fy fs fp ug ud c2 pl : Int32} {om mem lt t2 d2 l2 gB gA gX gY gS gP C2 R2 M2 L2 : Nat → Int32} {bt : Nat → Nat → Int32} (hm : s_m mm fo) (hB : rm mm gB mem om) (hA : ra mm gA fa oa) (hX : ra mm gX fx ox) (hY : ra mm gY fy oy) (hS : ra mm gS fs os) (hP : rp mm gP fp op) (hC : rc mm C2 c2 oc) (hu : ru ug lt t2 d2 l2 bt R2 M2 L2) (hp : s_w pl) (hf : ∃ j : Nat, j < 64 ∧ ug = nI j) (hw : wB ud) : SR mm oa ox oy os op oc om fa fx (f_X1_shown_r (f_X1_read_r mm fo mem ug lt t2 d2 l2 bt pl)) fs (f_X1_shown_fp fp (f_X1_read_r mm fo mem ug lt t2 d2 l2 bt pl)) c2 mem ug ud lt (f_X1_read_ct mm fo t2 pl) (f_X1_read_hd mm fo t2 d2 pl) (f_X1_read_la mm fo t2 d2 l2 bt pl) bt gB gA gX (upd gY mm.toNatClampNeg (f_X5_seen_r (f_X5_read_r ug mm gB R2 M2 L2 pl))) gS (f_X5_seen_gP mm gP (f_X5_read_r ug mm gB R2 M2 L2 pl)) C2 (f_X5_read_gR mm R2 M2 pl) (f_X5_read_gM mm M2 pl) (f_X5_read_gL ug mm R2 M2 L2 pl) ug ud := by
  have hF : rf ug ud ug ud := ⟨rfl, rfl, hf, hw⟩
  unfold SR
  have rd := sr_read hm hp hB hf hu
  rw [rd.1]
  exact ⟨hB, hA, hX, ra_s hY rd.2.1, hS, rp_seenb hP rd.2.1, hC, hF, rd.2.2⟩
set_option maxRecDepth 100000 in
theorem op_LDYAC {mm fo oa ox oy os op oc fa fx fy fs fp ug ud c2 pl : Int32} {om mem lt t2 d2 l2 gB gA gX gY gS gP C2 R2 M2 L2 : Nat → Int32} {bt : Nat → Nat → Int32} (hm : s_m mm fo) (hB : rm mm gB mem om) (hA : ra mm gA fa oa) (hX : ra mm gX fx ox) (hY : ra mm gY fy oy) (hS : ra mm gS fs os) (hP : rp mm gP fp op) (hC : rc mm C2 c2 oc) (hu : ru ug lt t2 d2 l2 bt R2 M2 L2) (hp : s_w pl) (hf : ∃ j : Nat, j < 64 ∧ ug = nI j) (hw : wB ud) : SR mm oa ox oy os op oc om fa fx (f_X1_shown_r (f_X1_read_r mm fo mem ug lt t2 d2 l2 bt pl)) fs (f_X1_shown_fp fp (f_X1_read_r mm fo mem ug lt t2 d2 l2 bt pl)) c2 mem ug ud lt (f_X1_read_ct mm fo t2 pl) (f_X1_read_hd mm fo t2 d2 pl) (f_X1_read_la mm fo t2 d2 l2 bt pl) bt gB gA gX (upd gY mm.toNatClampNeg (f_X5_seen_r (f_X5_read_r ug mm gB R2 M2 L2 pl))) gS (f_X5_seen_gP mm gP (f_X5_read_r ug mm gB R2 M2 L2 pl)) C2 (f_X5_read_gR mm R2 M2 pl) (f_X5_read_gM mm M2 pl) (f_X5_read_gL ug mm R2 M2 L2 pl) ug ud := by
  have hF : rf ug ud ug ud := ⟨rfl, rfl, hf, hw⟩
  unfold SR
  have rd := sr_read hm hp hB hf hu
  rw [rd.1]
  exact ⟨hB, hA, hX, ra_s hY rd.2.1, hS, rp_seenb hP rd.2.1, hC, hF, rd.2.2⟩
set_option maxRecDepth 100000 in
theorem op_LDYBC {mm fo oa ox oy os op oc fa fx fy fs fp ug ud c2 pl : Int32} {om mem lt t2 d2 l2 gB gA gX gY gS gP C2 R2 M2 L2 : Nat → Int32} {bt : Nat → Nat → Int32} (hm : s_m mm fo) (hB : rm mm gB mem om) (hA : ra mm gA fa oa) (hX : ra mm gX fx ox) (hY : ra mm gY fy oy) (hS : ra mm gS fs os) (hP : rp mm gP fp op) (hC : rc mm C2 c2 oc) (hu : ru ug lt t2 d2 l2 bt R2 M2 L2) (hp : s_w pl) (hf : ∃ j : Nat, j < 64 ∧ ug = nI j) (hw : wB ud) : SR mm oa ox oy os op oc om fa fx (f_X1_shown_r (f_X1_read_r mm fo mem ug lt t2 d2 l2 bt pl)) fs (f_X1_shown_fp fp (f_X1_read_r mm fo mem ug lt t2 d2 l2 bt pl)) c2 mem ug ud lt (f_X1_read_ct mm fo t2 pl) (f_X1_read_hd mm fo t2 d2 pl) (f_X1_read_la mm fo t2 d2 l2 bt pl) bt gB gA gX (upd gY mm.toNatClampNeg (f_X5_seen_r (f_X5_read_r ug mm gB R2 M2 L2 pl))) gS (f_X5_seen_gP mm gP (f_X5_read_r ug mm gB R2 M2 L2 pl)) C2 (f_X5_read_gR mm R2 M2 pl) (f_X5_read_gM mm M2 pl) (f_X5_read_gL ug mm R2 M2 L2 pl) ug ud := by
  have hF : rf ug ud ug ud := ⟨rfl, rfl, hf, hw⟩
  unfold SR
  have rd := sr_read hm hp hB hf hu
  rw [rd.1]
  exact ⟨hB, hA, hX, ra_s hY rd.2.1, hS, rp_seenb hP rd.2.1, hC, hF, rd.2.2⟩
set_option maxRecDepth 100000 in
theorem op_CPYC0 {mm fo oa ox oy os op oc fa fx fy fs fp ug ud c2 pl : Int32} {om mem lt t2 d2 l2 gB gA gX gY gS gP C2 R2 M2 L2 : Nat → Int32} {bt : Nat → Nat → Int32} (hm : s_m mm fo) (hB : rm mm gB mem om) (hA : ra mm gA fa oa) (hX : ra mm gX fx ox) (hY : ra mm gY fy oy) (hS : ra mm gS fs os) (hP : rp mm gP fp op) (hC : rc mm C2 c2 oc) (hu : ru ug lt t2 d2 l2 bt R2 M2 L2) (hp : s_w pl) (hf : ∃ j : Nat, j < 64 ∧ ug = nI j) (hw : wB ud) : SR mm oa ox oy os op oc om fa fx fy fs (f_X1_compare_fp fp fy (f_X1_read_r mm fo mem ug lt t2 d2 l2 bt pl)) c2 mem ug ud lt (f_X1_read_ct mm fo t2 pl) (f_X1_read_hd mm fo t2 d2 pl) (f_X1_read_la mm fo t2 d2 l2 bt pl) bt gB gA gX gY gS (f_X5_compare_gP mm gP (gY mm.toNatClampNeg) (f_X5_read_r ug mm gB R2 M2 L2 pl)) C2 (f_X5_read_gR mm R2 M2 pl) (f_X5_read_gM mm M2 pl) (f_X5_read_gL ug mm R2 M2 L2 pl) ug ud := by
  have hF : rf ug ud ug ud := ⟨rfl, rfl, hf, hw⟩
  unfold SR
  have rd := sr_read hm hp hB hf hu
  rw [rd.1, hY.1]
  exact ⟨hB, hA, hX, hY, hS, sr_cmp hP _ _, hC, hF, rd.2.2⟩
set_option maxRecDepth 100000 in
theorem op_CPYC4 {mm fo oa ox oy os op oc fa fx fy fs fp ug ud c2 pl : Int32} {om mem lt t2 d2 l2 gB gA gX gY gS gP C2 R2 M2 L2 : Nat → Int32} {bt : Nat → Nat → Int32} (hm : s_m mm fo) (hB : rm mm gB mem om) (hA : ra mm gA fa oa) (hX : ra mm gX fx ox) (hY : ra mm gY fy oy) (hS : ra mm gS fs os) (hP : rp mm gP fp op) (hC : rc mm C2 c2 oc) (hu : ru ug lt t2 d2 l2 bt R2 M2 L2) (hp : s_w pl) (hf : ∃ j : Nat, j < 64 ∧ ug = nI j) (hw : wB ud) : SR mm oa ox oy os op oc om fa fx fy fs (f_X1_compare_fp fp fy (f_X1_read_r mm fo mem ug lt t2 d2 l2 bt pl)) c2 mem ug ud lt (f_X1_read_ct mm fo t2 pl) (f_X1_read_hd mm fo t2 d2 pl) (f_X1_read_la mm fo t2 d2 l2 bt pl) bt gB gA gX gY gS (f_X5_compare_gP mm gP (gY mm.toNatClampNeg) (f_X5_read_r ug mm gB R2 M2 L2 pl)) C2 (f_X5_read_gR mm R2 M2 pl) (f_X5_read_gM mm M2 pl) (f_X5_read_gL ug mm R2 M2 L2 pl) ug ud := by
  have hF : rf ug ud ug ud := ⟨rfl, rfl, hf, hw⟩
  unfold SR
  have rd := sr_read hm hp hB hf hu
  rw [rd.1, hY.1]
  exact ⟨hB, hA, hX, hY, hS, sr_cmp hP _ _, hC, hF, rd.2.2⟩
set_option maxRecDepth 100000 in
theorem op_CPYCC {mm fo oa ox oy os op oc fa fx fy fs fp ug ud c2 pl : Int32} {om mem lt t2 d2 l2 gB gA gX gY gS gP C2 R2 M2 L2 : Nat → Int32} {bt : Nat → Nat → Int32} (hm : s_m mm fo) (hB : rm mm gB mem om) (hA : ra mm gA fa oa) (hX : ra mm gX fx ox) (hY : ra mm gY fy oy) (hS : ra mm gS fs os) (hP : rp mm gP fp op) (hC : rc mm C2 c2 oc) (hu : ru ug lt t2 d2 l2 bt R2 M2 L2) (hp : s_w pl) (hf : ∃ j : Nat, j < 64 ∧ ug = nI j) (hw : wB ud) : SR mm oa ox oy os op oc om fa fx fy fs (f_X1_compare_fp fp fy (f_X1_read_r mm fo mem ug lt t2 d2 l2 bt pl)) c2 mem ug ud lt (f_X1_read_ct mm fo t2 pl) (f_X1_read_hd mm fo t2 d2 pl) (f_X1_read_la mm fo t2 d2 l2 bt pl) bt gB gA gX gY gS (f_X5_compare_gP mm gP (gY mm.toNatClampNeg) (f_X5_read_r ug mm gB R2 M2 L2 pl)) C2 (f_X5_read_gR mm R2 M2 pl) (f_X5_read_gM mm M2 pl) (f_X5_read_gL ug mm R2 M2 L2 pl) ug ud := by
  have hF : rf ug ud ug ud := ⟨rfl, rfl, hf, hw⟩
  unfold SR
  have rd := sr_read hm hp hB hf hu
  rw [rd.1, hY.1]
  exact ⟨hB, hA, hX, hY, hS, sr_cmp hP _ _, hC, hF, rd.2.2⟩
set_option maxRecDepth 100000 in
theorem op_CPXE0 {mm fo oa ox oy os op oc fa fx fy fs fp ug ud c2 pl : Int32} {om mem lt t2 d2 l2 gB gA gX gY gS gP C2 R2 M2 L2 : Nat → Int32} {bt : Nat → Nat → Int32} (hm : s_m mm fo) (hB : rm mm gB mem om) (hA : ra mm gA fa oa) (hX : ra mm gX fx ox) (hY : ra mm gY fy oy) (hS : ra mm gS fs os) (hP : rp mm gP fp op) (hC : rc mm C2 c2 oc) (hu : ru ug lt t2 d2 l2 bt R2 M2 L2) (hp : s_w pl) (hf : ∃ j : Nat, j < 64 ∧ ug = nI j) (hw : wB ud) : SR mm oa ox oy os op oc om fa fx fy fs (f_X1_compare_fp fp fx (f_X1_read_r mm fo mem ug lt t2 d2 l2 bt pl)) c2 mem ug ud lt (f_X1_read_ct mm fo t2 pl) (f_X1_read_hd mm fo t2 d2 pl) (f_X1_read_la mm fo t2 d2 l2 bt pl) bt gB gA gX gY gS (f_X5_compare_gP mm gP (gX mm.toNatClampNeg) (f_X5_read_r ug mm gB R2 M2 L2 pl)) C2 (f_X5_read_gR mm R2 M2 pl) (f_X5_read_gM mm M2 pl) (f_X5_read_gL ug mm R2 M2 L2 pl) ug ud := by
  have hF : rf ug ud ug ud := ⟨rfl, rfl, hf, hw⟩
  unfold SR
  have rd := sr_read hm hp hB hf hu
  rw [rd.1, hX.1]
  exact ⟨hB, hA, hX, hY, hS, sr_cmp hP _ _, hC, hF, rd.2.2⟩
set_option maxRecDepth 100000 in
theorem op_CPXE4 {mm fo oa ox oy os op oc fa fx fy fs fp ug ud c2 pl : Int32} {om mem lt t2 d2 l2 gB gA gX gY gS gP C2 R2 M2 L2 : Nat → Int32} {bt : Nat → Nat → Int32} (hm : s_m mm fo) (hB : rm mm gB mem om) (hA : ra mm gA fa oa) (hX : ra mm gX fx ox) (hY : ra mm gY fy oy) (hS : ra mm gS fs os) (hP : rp mm gP fp op) (hC : rc mm C2 c2 oc) (hu : ru ug lt t2 d2 l2 bt R2 M2 L2) (hp : s_w pl) (hf : ∃ j : Nat, j < 64 ∧ ug = nI j) (hw : wB ud) : SR mm oa ox oy os op oc om fa fx fy fs (f_X1_compare_fp fp fx (f_X1_read_r mm fo mem ug lt t2 d2 l2 bt pl)) c2 mem ug ud lt (f_X1_read_ct mm fo t2 pl) (f_X1_read_hd mm fo t2 d2 pl) (f_X1_read_la mm fo t2 d2 l2 bt pl) bt gB gA gX gY gS (f_X5_compare_gP mm gP (gX mm.toNatClampNeg) (f_X5_read_r ug mm gB R2 M2 L2 pl)) C2 (f_X5_read_gR mm R2 M2 pl) (f_X5_read_gM mm M2 pl) (f_X5_read_gL ug mm R2 M2 L2 pl) ug ud := by
  have hF : rf ug ud ug ud := ⟨rfl, rfl, hf, hw⟩
  unfold SR
  have rd := sr_read hm hp hB hf hu
  rw [rd.1, hX.1]
  exact ⟨hB, hA, hX, hY, hS, sr_cmp hP _ _, hC, hF, rd.2.2⟩
set_option maxRecDepth 100000 in
theorem op_CPXEC {mm fo oa ox oy os op oc fa fx fy fs fp ug ud c2 pl : Int32} {om mem lt t2 d2 l2 gB gA gX gY gS gP C2 R2 M2 L2 : Nat → Int32} {bt : Nat → Nat → Int32} (hm : s_m mm fo) (hB : rm mm gB mem om) (hA : ra mm gA fa oa) (hX : ra mm gX fx ox) (hY : ra mm gY fy oy) (hS : ra mm gS fs os) (hP : rp mm gP fp op) (hC : rc mm C2 c2 oc) (hu : ru ug lt t2 d2 l2 bt R2 M2 L2) (hp : s_w pl) (hf : ∃ j : Nat, j < 64 ∧ ug = nI j) (hw : wB ud) : SR mm oa ox oy os op oc om fa fx fy fs (f_X1_compare_fp fp fx (f_X1_read_r mm fo mem ug lt t2 d2 l2 bt pl)) c2 mem ug ud lt (f_X1_read_ct mm fo t2 pl) (f_X1_read_hd mm fo t2 d2 pl) (f_X1_read_la mm fo t2 d2 l2 bt pl) bt gB gA gX gY gS (f_X5_compare_gP mm gP (gX mm.toNatClampNeg) (f_X5_read_r ug mm gB R2 M2 L2 pl)) C2 (f_X5_read_gR mm R2 M2 pl) (f_X5_read_gM mm M2 pl) (f_X5_read_gL ug mm R2 M2 L2 pl) ug ud := by
  have hF : rf ug ud ug ud := ⟨rfl, rfl, hf, hw⟩
  unfold SR
  have rd := sr_read hm hp hB hf hu
  rw [rd.1, hX.1]
  exact ⟨hB, hA, hX, hY, hS, sr_cmp hP _ _, hC, hF, rd.2.2⟩
