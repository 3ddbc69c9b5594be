/-! The bytes behind, and the places that the ways tell. -/
section FE
variable {mm fo fx fy fc ug ox oy oc : Int32} {mem om gB lt ct hd la gX gY gC : Nat → Int32} {bt : Nat → Nat → Int32} {gR gM gL : Nat → Int32}
set_option maxRecDepth 100000 in
theorem sr_fetch (hm : s_m mm fo) (hB : rm mm gB mem om) (hf : ∃ j : Nat, j < 64 ∧ ug = nI j) (h : ru ug lt ct hd la bt gR gM gL) (hC : rc mm gC fc oc) :
    f_X5_fetch_r ug mm gB gC gR gM gL = f_X1_read_r mm fo mem ug lt ct hd la bt fc ∧ s_b (f_X1_read_r mm fo mem ug lt ct hd la bt fc) ∧
    ru ug lt (f_X1_read_ct mm fo ct fc) (f_X1_read_hd mm fo ct hd fc) (f_X1_read_la mm fo ct hd la bt fc) bt (f_X5_fetch_gR mm gC gR gM) (f_X5_fetch_gM mm gC gM) (f_X5_fetch_gL ug mm gC gR gM gL) ∧
    rc mm (f_X5_fetch_gC mm gC) ((fc + 1) &&& 65535) oc := by
  obtain ⟨a1, a2, a3⟩ := sr_read hm hC.2.2 hB hf h
  unfold f_X5_fetch_r f_X5_fetch_gR f_X5_fetch_gM f_X5_fetch_gL f_X5_fetch_gC
  rw [hC.1]
  exact ⟨a1, a2, a3, rc_u hC (s_and65535 _)⟩
set_option maxRecDepth 100000 in
theorem sr_fetchWord (hm : s_m mm fo) (hB : rm mm gB mem om) (hf : ∃ j : Nat, j < 64 ∧ ug = nI j) (h : ru ug lt ct hd la bt gR gM gL) (hC : rc mm gC fc oc) :
    f_X5_fetchWord_r ug mm gB gC gR gM gL = f_X1_wordBehind_r mm fo fc mem ug lt ct hd la bt ∧ s_w (f_X1_wordBehind_r mm fo fc mem ug lt ct hd la bt) ∧
    ru ug lt (f_X1_wordBehind_ct mm fo fc ct) (f_X1_wordBehind_hd mm fo fc ct hd) (f_X1_wordBehind_la mm fo fc ct hd la bt) bt (f_X5_fetchWord_gR mm gC gR gM) (f_X5_fetchWord_gM mm gC gM) (f_X5_fetchWord_gL ug mm gC gR gM gL) ∧
    rc mm (f_X5_fetchWord_gC mm gC) (f_X1_wordBehind_fc fc) oc := by
  obtain ⟨a1, a2, a3, a4⟩ := sr_fetch hm hB hf h hC
  obtain ⟨b1, b2, b3, b4⟩ := sr_fetch hm hB hf a3 a4
  refine ⟨?_, ?_, b3, b4⟩
  · unfold f_X5_fetchWord_r f_X1_wordBehind_r
    rw [a1, b1, s_orc]; rfl
  · unfold f_X1_wordBehind_r
    rw [s_orc]
    exact s_word a2 b2
set_option maxRecDepth 100000 in
/-- the low page is no port -/
theorem sr_low {p : Int32} (hm : s_m mm fo) (hp : s_b p) : f_X1_read_r mm fo mem ug lt ct hd la bt p = f_X1_kept_r mem p ∧ f_X1_read_ct mm fo ct p = ct ∧ f_X1_read_hd mm fo ct hd p = hd ∧ f_X1_read_la mm fo ct hd la bt p = la := by
  obtain ⟨j, hj, rfl⟩ := hp
  have w : nI j - fo < 0 := by
    rcases hm with ⟨rfl, rfl⟩ | ⟨rfl, rfl⟩
    · exact pk_sneg (b := 65248) (by decide) (by omega)
    · exact pk_sneg (b := 65272) (by decide) (by omega)
  unfold f_X1_read_r f_X1_read_ct f_X1_read_hd f_X1_read_la
  rw [if_pos w, if_pos w, if_pos w, if_pos w]
  exact ⟨rfl, rfl, rfl, rfl⟩
set_option maxRecDepth 100000 in
theorem s_pg : ∀ j : Nat, j < 256 → nI j &&& 65280 = 0 := by decide +kernel
set_option maxRecDepth 100000 in
theorem s_0or (x : Int32) : (0 : Int32) ||| x = x := by
  apply Int32.toBitVec_inj.mp
  rw [Int32.toBitVec_or]
  exact BitVec.zero_or
set_option maxRecDepth 100000 in
theorem sr_lowWord {p z : Int32} (hm : s_m mm fo) (hB : rm mm gB mem om) (hp : s_b p) (e1 : z &&& 255 = p) (e2 : (z + 1) &&& 255 = (p + 1) &&& 255) :
    f_X5_lowWord_r mm gB z = f_X1_wordAt_r mm fo mem ug lt ct hd la bt p ∧ s_w (f_X1_wordAt_r mm fo mem ug lt ct hd la bt p) ∧
    f_X1_wordAt_ct mm fo ct p = ct ∧ f_X1_wordAt_hd mm fo ct hd p = hd ∧ f_X1_wordAt_la mm fo ct hd la bt p = la := by
  have z0 : (p &&& 65280) ||| ((p + 1) &&& 255) = (p + 1) &&& 255 := by
    obtain ⟨j, hj, rfl⟩ := hp
    rw [s_pg j hj, s_0or]
  unfold f_X5_lowWord_r f_X1_wordAt_r f_X1_wordAt_ct f_X1_wordAt_hd f_X1_wordAt_la
  rw [z0, e1, e2]
  have hq := s_and255 (p + 1)
  obtain ⟨l1, l2, l3, l4⟩ := sr_low (mem := mem) (ug := ug) (lt := lt) (ct := ct) (hd := hd) (la := la) (bt := bt) hm hp
  rw [l1, l2, l3, l4]
  obtain ⟨m1, m2, m3, m4⟩ := sr_low (mem := mem) (ug := ug) (lt := lt) (ct := ct) (hd := hd) (la := la) (bt := bt) hm hq
  rw [m1, m2, m3, m4]
  generalize (p + 1) &&& 255 = q at hq ⊢
  obtain ⟨i, hi, rfl⟩ := hp
  obtain ⟨j, hj, rfl⟩ := hq
  rw [rm_kept (s_mB hm) hB (i := i) (j := i) (by omega) (by omega) rfl, rm_kept (s_mB hm) hB (i := j) (j := j) (by omega) (by omega) rfl, s_orc]
  refine ⟨rfl, ?_, rfl, rfl, rfl⟩
  rw [s_orc]
  exact s_word (rm_keptb hB (by omega)) (rm_keptb hB (by omega))
set_option maxRecDepth 100000 in
theorem s_zx {a b : Int32} (ha : s_b a) (hb : s_b b) : ((a + b) + 1) &&& 255 = (((a + b) &&& 255) + 1) &&& 255 := by
  obtain ⟨i, hi, rfl⟩ := ha
  obtain ⟨j, hj, rfl⟩ := hb
  rw [nI_add, nI_1, pk_andN (by omega) 8 (by decide), pk_andN (by omega) 8 (by decide), nI_1, pk_andN (by omega) 8 (by decide)]
  congr 1
  omega
set_option maxRecDepth 100000 in
theorem s_here {v : Int32} (h : s_w v) : ((((v + 1) &&& 65535) - 1) &&& 65535) = v := by
  obtain ⟨j, hj, rfl⟩ := h
  rw [nI_1, pk_andN (by omega) 16 (by decide)]
  by_cases c : j = 65535
  · subst c; decide +kernel
  · rw [Nat.mod_eq_of_lt (by omega), nI_pred, pk_andN (by omega) 16 (by decide), Nat.mod_eq_of_lt (by omega)]
set_option maxRecDepth 100000 in
/-- the word at a place, its higher byte from the same page -/
theorem sr_wordAt {p : Int32} (hm : s_m mm fo) (hB : rm mm gB mem om) (hf : ∃ j : Nat, j < 64 ∧ ug = nI j) (h : ru ug lt ct hd la bt gR gM gL) (hp : s_w p) :
    (f_X5_read_r ug mm gB gR gM gL p ||| (f_X5_read_r ug mm gB (f_X5_read_gR mm gR gM p) (f_X5_read_gM mm gM p) (f_X5_read_gL ug mm gR gM gL p) ((p &&& 65280) ||| ((p + 1) &&& 255)) <<< ((8 : Int32) &&& 31))) = f_X1_wordAt_r mm fo mem ug lt ct hd la bt p ∧ s_w (f_X1_wordAt_r mm fo mem ug lt ct hd la bt p) ∧
    ru ug lt (f_X1_wordAt_ct mm fo ct p) (f_X1_wordAt_hd mm fo ct hd p) (f_X1_wordAt_la mm fo ct hd la bt p) bt (f_X5_read_gR mm (f_X5_read_gR mm gR gM p) (f_X5_read_gM mm gM p) ((p &&& 65280) ||| ((p + 1) &&& 255))) (f_X5_read_gM mm (f_X5_read_gM mm gM p) ((p &&& 65280) ||| ((p + 1) &&& 255))) (f_X5_read_gL ug mm (f_X5_read_gR mm gR gM p) (f_X5_read_gM mm gM p) (f_X5_read_gL ug mm gR gM gL p) ((p &&& 65280) ||| ((p + 1) &&& 255))) := by
  obtain ⟨a1, a2, a3⟩ := sr_read hm hp hB hf h
  have hq : s_w ((p &&& 65280) ||| ((p + 1) &&& 255)) := by
    obtain ⟨j, hj, rfl⟩ := hp
    obtain ⟨i, hi, e⟩ := s_and255 (nI j + 1)
    rw [e]
    have e3 : nI j &&& 65280 = nI (j &&& 65280) := by
      apply Int32.toBitVec_inj.mp
      rw [Int32.toBitVec_and]
      show BitVec.ofNat 32 j &&& BitVec.ofNat 32 65280 = BitVec.ofNat 32 (j &&& 65280)
      rw [BitVec.ofNat_and]
    have e4 : nI (j &&& 65280) ||| nI i = nI ((j &&& 65280) ||| i) := by
      apply Int32.toBitVec_inj.mp
      rw [Int32.toBitVec_or]
      show BitVec.ofNat 32 (j &&& 65280) ||| BitVec.ofNat 32 i = BitVec.ofNat 32 ((j &&& 65280) ||| i)
      rw [BitVec.ofNat_or]
    rw [e3, e4]
    exact ⟨_, Nat.or_lt_two_pow (n := 16) (Nat.lt_of_le_of_lt Nat.and_le_left (by omega)) (by omega), rfl⟩
  obtain ⟨b1, b2, b3⟩ := sr_read hm hq hB hf a3
  refine ⟨?_, ?_, b3⟩
  · unfold f_X1_wordAt_r
    rw [a1, b1, s_orc]
  · unfold f_X1_wordAt_r
    rw [s_orc]
    exact s_word a2 b2
set_option maxRecDepth 100000 in
theorem q_X1_placeOf_r_1 {fn fo fx fy fc ug : Int32} {mem lt ct hd la : Nat → Int32} {bt : Nat → Nat → Int32} : f_X1_placeOf_r fn fo fx fy fc mem ug lt ct hd la bt 1 = (f_X1_placeBehind_r fc) := by unfold f_X1_placeOf_r; rw [if_neg (show ¬ (1 : Int32) = 0 by decide), if_pos (show (1 : Int32) = 1 from rfl)]
set_option maxRecDepth 100000 in
theorem q_X1_placeOf_r_2 {fn fo fx fy fc ug : Int32} {mem lt ct hd la : Nat → Int32} {bt : Nat → Nat → Int32} : f_X1_placeOf_r fn fo fx fy fc mem ug lt ct hd la bt 2 = (f_X1_byteBehind_r fn fo fc mem ug lt ct hd la bt) := by unfold f_X1_placeOf_r; rw [if_neg (show ¬ (2 : Int32) = 0 by decide), if_neg (show ¬ (2 : Int32) = 1 by decide), if_pos (show (2 : Int32) = 2 from rfl)]
set_option maxRecDepth 100000 in
theorem q_X1_placeOf_r_3 {fn fo fx fy fc ug : Int32} {mem lt ct hd la : Nat → Int32} {bt : Nat → Nat → Int32} : f_X1_placeOf_r fn fo fx fy fc mem ug lt ct hd la bt 3 = (((f_X1_byteBehind_r fn fo fc mem ug lt ct hd la bt) + fx) &&& 255) := by unfold f_X1_placeOf_r; rw [if_neg (show ¬ (3 : Int32) = 0 by decide), if_neg (show ¬ (3 : Int32) = 1 by decide), if_neg (show ¬ (3 : Int32) = 2 by decide), if_pos (show (3 : Int32) = 3 from rfl)]
set_option maxRecDepth 100000 in
theorem q_X1_placeOf_r_4 {fn fo fx fy fc ug : Int32} {mem lt ct hd la : Nat → Int32} {bt : Nat → Nat → Int32} : f_X1_placeOf_r fn fo fx fy fc mem ug lt ct hd la bt 4 = (((f_X1_byteBehind_r fn fo fc mem ug lt ct hd la bt) + fy) &&& 255) := by unfold f_X1_placeOf_r; rw [if_neg (show ¬ (4 : Int32) = 0 by decide), if_neg (show ¬ (4 : Int32) = 1 by decide), if_neg (show ¬ (4 : Int32) = 2 by decide), if_neg (show ¬ (4 : Int32) = 3 by decide), if_pos (show (4 : Int32) = 4 from rfl)]
set_option maxRecDepth 100000 in
theorem q_X1_placeOf_r_5 {fn fo fx fy fc ug : Int32} {mem lt ct hd la : Nat → Int32} {bt : Nat → Nat → Int32} : f_X1_placeOf_r fn fo fx fy fc mem ug lt ct hd la bt 5 = (f_X1_wordBehind_r fn fo fc mem ug lt ct hd la bt) := by unfold f_X1_placeOf_r; rw [if_neg (show ¬ (5 : Int32) = 0 by decide), if_neg (show ¬ (5 : Int32) = 1 by decide), if_neg (show ¬ (5 : Int32) = 2 by decide), if_neg (show ¬ (5 : Int32) = 3 by decide), if_neg (show ¬ (5 : Int32) = 4 by decide), if_pos (show (5 : Int32) = 5 from rfl)]
set_option maxRecDepth 100000 in
theorem q_X1_placeOf_r_6 {fn fo fx fy fc ug : Int32} {mem lt ct hd la : Nat → Int32} {bt : Nat → Nat → Int32} : f_X1_placeOf_r fn fo fx fy fc mem ug lt ct hd la bt 6 = (((f_X1_wordBehind_r fn fo fc mem ug lt ct hd la bt) + fx) &&& 65535) := by unfold f_X1_placeOf_r; rw [if_neg (show ¬ (6 : Int32) = 0 by decide), if_neg (show ¬ (6 : Int32) = 1 by decide), if_neg (show ¬ (6 : Int32) = 2 by decide), if_neg (show ¬ (6 : Int32) = 3 by decide), if_neg (show ¬ (6 : Int32) = 4 by decide), if_neg (show ¬ (6 : Int32) = 5 by decide), if_pos (show (6 : Int32) = 6 from rfl)]
set_option maxRecDepth 100000 in
theorem q_X1_placeOf_r_7 {fn fo fx fy fc ug : Int32} {mem lt ct hd la : Nat → Int32} {bt : Nat → Nat → Int32} : f_X1_placeOf_r fn fo fx fy fc mem ug lt ct hd la bt 7 = (((f_X1_wordBehind_r fn fo fc mem ug lt ct hd la bt) + fy) &&& 65535) := by unfold f_X1_placeOf_r; rw [if_neg (show ¬ (7 : Int32) = 0 by decide), if_neg (show ¬ (7 : Int32) = 1 by decide), if_neg (show ¬ (7 : Int32) = 2 by decide), if_neg (show ¬ (7 : Int32) = 3 by decide), if_neg (show ¬ (7 : Int32) = 4 by decide), if_neg (show ¬ (7 : Int32) = 5 by decide), if_neg (show ¬ (7 : Int32) = 6 by decide), if_pos (show (7 : Int32) = 7 from rfl)]
set_option maxRecDepth 100000 in
theorem q_X1_placeOf_r_8 {fn fo fx fy fc ug : Int32} {mem lt ct hd la : Nat → Int32} {bt : Nat → Nat → Int32} : f_X1_placeOf_r fn fo fx fy fc mem ug lt ct hd la bt 8 = (f_X1_wordAt_r fn fo mem ug lt (f_X1_byteBehind_ct fn fo fc ct) (f_X1_byteBehind_hd fn fo fc ct hd) (f_X1_byteBehind_la fn fo fc ct hd la bt) bt (((f_X1_byteBehind_r fn fo fc mem ug lt ct hd la bt) + fx) &&& 255)) := by unfold f_X1_placeOf_r; rw [if_neg (show ¬ (8 : Int32) = 0 by decide), if_neg (show ¬ (8 : Int32) = 1 by decide), if_neg (show ¬ (8 : Int32) = 2 by decide), if_neg (show ¬ (8 : Int32) = 3 by decide), if_neg (show ¬ (8 : Int32) = 4 by decide), if_neg (show ¬ (8 : Int32) = 5 by decide), if_neg (show ¬ (8 : Int32) = 6 by decide), if_neg (show ¬ (8 : Int32) = 7 by decide), if_pos (show (8 : Int32) = 8 from rfl)]
set_option maxRecDepth 100000 in
theorem q_X1_placeOf_r_9 {fn fo fx fy fc ug : Int32} {mem lt ct hd la : Nat → Int32} {bt : Nat → Nat → Int32} : f_X1_placeOf_r fn fo fx fy fc mem ug lt ct hd la bt 9 = (((f_X1_wordAt_r fn fo mem ug lt (f_X1_byteBehind_ct fn fo fc ct) (f_X1_byteBehind_hd fn fo fc ct hd) (f_X1_byteBehind_la fn fo fc ct hd la bt) bt (f_X1_byteBehind_r fn fo fc mem ug lt ct hd la bt)) + fy) &&& 65535) := by unfold f_X1_placeOf_r; rw [if_neg (show ¬ (9 : Int32) = 0 by decide), if_neg (show ¬ (9 : Int32) = 1 by decide), if_neg (show ¬ (9 : Int32) = 2 by decide), if_neg (show ¬ (9 : Int32) = 3 by decide), if_neg (show ¬ (9 : Int32) = 4 by decide), if_neg (show ¬ (9 : Int32) = 5 by decide), if_neg (show ¬ (9 : Int32) = 6 by decide), if_neg (show ¬ (9 : Int32) = 7 by decide), if_neg (show ¬ (9 : Int32) = 8 by decide), if_pos (show (9 : Int32) = 9 from rfl)]
set_option maxRecDepth 100000 in
theorem q_X1_placeOf_ct_1 {fn fo fx fc ug : Int32} {mem lt ct hd la : Nat → Int32} {bt : Nat → Nat → Int32} : f_X1_placeOf_ct fn fo fx fc mem ug lt ct hd la bt 1 = ct := by unfold f_X1_placeOf_ct; rw [if_neg (show ¬ (1 : Int32) = 0 by decide), if_pos (show (1 : Int32) = 1 from rfl)]
set_option maxRecDepth 100000 in
theorem q_X1_placeOf_ct_2 {fn fo fx fc ug : Int32} {mem lt ct hd la : Nat → Int32} {bt : Nat → Nat → Int32} : f_X1_placeOf_ct fn fo fx fc mem ug lt ct hd la bt 2 = (f_X1_byteBehind_ct fn fo fc ct) := by unfold f_X1_placeOf_ct; rw [if_neg (show ¬ (2 : Int32) = 0 by decide), if_neg (show ¬ (2 : Int32) = 1 by decide), if_pos (show (2 : Int32) = 2 from rfl)]
set_option maxRecDepth 100000 in
theorem q_X1_placeOf_ct_3 {fn fo fx fc ug : Int32} {mem lt ct hd la : Nat → Int32} {bt : Nat → Nat → Int32} : f_X1_placeOf_ct fn fo fx fc mem ug lt ct hd la bt 3 = (f_X1_byteBehind_ct fn fo fc ct) := by unfold f_X1_placeOf_ct; rw [if_neg (show ¬ (3 : Int32) = 0 by decide), if_neg (show ¬ (3 : Int32) = 1 by decide), if_neg (show ¬ (3 : Int32) = 2 by decide), if_pos (show (3 : Int32) = 3 from rfl)]
set_option maxRecDepth 100000 in
theorem q_X1_placeOf_ct_4 {fn fo fx fc ug : Int32} {mem lt ct hd la : Nat → Int32} {bt : Nat → Nat → Int32} : f_X1_placeOf_ct fn fo fx fc mem ug lt ct hd la bt 4 = (f_X1_byteBehind_ct fn fo fc ct) := by unfold f_X1_placeOf_ct; rw [if_neg (show ¬ (4 : Int32) = 0 by decide), if_neg (show ¬ (4 : Int32) = 1 by decide), if_neg (show ¬ (4 : Int32) = 2 by decide), if_neg (show ¬ (4 : Int32) = 3 by decide), if_pos (show (4 : Int32) = 4 from rfl)]
set_option maxRecDepth 100000 in
theorem q_X1_placeOf_ct_5 {fn fo fx fc ug : Int32} {mem lt ct hd la : Nat → Int32} {bt : Nat → Nat → Int32} : f_X1_placeOf_ct fn fo fx fc mem ug lt ct hd la bt 5 = (f_X1_wordBehind_ct fn fo fc ct) := by unfold f_X1_placeOf_ct; rw [if_neg (show ¬ (5 : Int32) = 0 by decide), if_neg (show ¬ (5 : Int32) = 1 by decide), if_neg (show ¬ (5 : Int32) = 2 by decide), if_neg (show ¬ (5 : Int32) = 3 by decide), if_neg (show ¬ (5 : Int32) = 4 by decide), if_pos (show (5 : Int32) = 5 from rfl)]
set_option maxRecDepth 100000 in
theorem q_X1_placeOf_ct_6 {fn fo fx fc ug : Int32} {mem lt ct hd la : Nat → Int32} {bt : Nat → Nat → Int32} : f_X1_placeOf_ct fn fo fx fc mem ug lt ct hd la bt 6 = (f_X1_wordBehind_ct fn fo fc ct) := by unfold f_X1_placeOf_ct; rw [if_neg (show ¬ (6 : Int32) = 0 by decide), if_neg (show ¬ (6 : Int32) = 1 by decide), if_neg (show ¬ (6 : Int32) = 2 by decide), if_neg (show ¬ (6 : Int32) = 3 by decide), if_neg (show ¬ (6 : Int32) = 4 by decide), if_neg (show ¬ (6 : Int32) = 5 by decide), if_pos (show (6 : Int32) = 6 from rfl)]
set_option maxRecDepth 100000 in
theorem q_X1_placeOf_ct_7 {fn fo fx fc ug : Int32} {mem lt ct hd la : Nat → Int32} {bt : Nat → Nat → Int32} : f_X1_placeOf_ct fn fo fx fc mem ug lt ct hd la bt 7 = (f_X1_wordBehind_ct fn fo fc ct) := by unfold f_X1_placeOf_ct; rw [if_neg (show ¬ (7 : Int32) = 0 by decide), if_neg (show ¬ (7 : Int32) = 1 by decide), if_neg (show ¬ (7 : Int32) = 2 by decide), if_neg (show ¬ (7 : Int32) = 3 by decide), if_neg (show ¬ (7 : Int32) = 4 by decide), if_neg (show ¬ (7 : Int32) = 5 by decide), if_neg (show ¬ (7 : Int32) = 6 by decide), if_pos (show (7 : Int32) = 7 from rfl)]
set_option maxRecDepth 100000 in
theorem q_X1_placeOf_ct_8 {fn fo fx fc ug : Int32} {mem lt ct hd la : Nat → Int32} {bt : Nat → Nat → Int32} : f_X1_placeOf_ct fn fo fx fc mem ug lt ct hd la bt 8 = (f_X1_wordAt_ct fn fo (f_X1_byteBehind_ct fn fo fc ct) (((f_X1_byteBehind_r fn fo fc mem ug lt ct hd la bt) + fx) &&& 255)) := by unfold f_X1_placeOf_ct; rw [if_neg (show ¬ (8 : Int32) = 0 by decide), if_neg (show ¬ (8 : Int32) = 1 by decide), if_neg (show ¬ (8 : Int32) = 2 by decide), if_neg (show ¬ (8 : Int32) = 3 by decide), if_neg (show ¬ (8 : Int32) = 4 by decide), if_neg (show ¬ (8 : Int32) = 5 by decide), if_neg (show ¬ (8 : Int32) = 6 by decide), if_neg (show ¬ (8 : Int32) = 7 by decide), if_pos (show (8 : Int32) = 8 from rfl)]
set_option maxRecDepth 100000 in
theorem q_X1_placeOf_ct_9 {fn fo fx fc ug : Int32} {mem lt ct hd la : Nat → Int32} {bt : Nat → Nat → Int32} : f_X1_placeOf_ct fn fo fx fc mem ug lt ct hd la bt 9 = (f_X1_wordAt_ct fn fo (f_X1_byteBehind_ct fn fo fc ct) (f_X1_byteBehind_r fn fo fc mem ug lt ct hd la bt)) := by unfold f_X1_placeOf_ct; rw [if_neg (show ¬ (9 : Int32) = 0 by decide), if_neg (show ¬ (9 : Int32) = 1 by decide), if_neg (show ¬ (9 : Int32) = 2 by decide), if_neg (show ¬ (9 : Int32) = 3 by decide), if_neg (show ¬ (9 : Int32) = 4 by decide), if_neg (show ¬ (9 : Int32) = 5 by decide), if_neg (show ¬ (9 : Int32) = 6 by decide), if_neg (show ¬ (9 : Int32) = 7 by decide), if_neg (show ¬ (9 : Int32) = 8 by decide), if_pos (show (9 : Int32) = 9 from rfl)]
set_option maxRecDepth 100000 in
theorem q_X1_placeOf_hd_1 {fn fo fx fc ug : Int32} {mem lt ct hd la : Nat → Int32} {bt : Nat → Nat → Int32} : f_X1_placeOf_hd fn fo fx fc mem ug lt ct hd la bt 1 = hd := by unfold f_X1_placeOf_hd; rw [if_neg (show ¬ (1 : Int32) = 0 by decide), if_pos (show (1 : Int32) = 1 from rfl)]
set_option maxRecDepth 100000 in
theorem q_X1_placeOf_hd_2 {fn fo fx fc ug : Int32} {mem lt ct hd la : Nat → Int32} {bt : Nat → Nat → Int32} : f_X1_placeOf_hd fn fo fx fc mem ug lt ct hd la bt 2 = (f_X1_byteBehind_hd fn fo fc ct hd) := by unfold f_X1_placeOf_hd; rw [if_neg (show ¬ (2 : Int32) = 0 by decide), if_neg (show ¬ (2 : Int32) = 1 by decide), if_pos (show (2 : Int32) = 2 from rfl)]
set_option maxRecDepth 100000 in
theorem q_X1_placeOf_hd_3 {fn fo fx fc ug : Int32} {mem lt ct hd la : Nat → Int32} {bt : Nat → Nat → Int32} : f_X1_placeOf_hd fn fo fx fc mem ug lt ct hd la bt 3 = (f_X1_byteBehind_hd fn fo fc ct hd) := by unfold f_X1_placeOf_hd; rw [if_neg (show ¬ (3 : Int32) = 0 by decide), if_neg (show ¬ (3 : Int32) = 1 by decide), if_neg (show ¬ (3 : Int32) = 2 by decide), if_pos (show (3 : Int32) = 3 from rfl)]
set_option maxRecDepth 100000 in
theorem q_X1_placeOf_hd_4 {fn fo fx fc ug : Int32} {mem lt ct hd la : Nat → Int32} {bt : Nat → Nat → Int32} : f_X1_placeOf_hd fn fo fx fc mem ug lt ct hd la bt 4 = (f_X1_byteBehind_hd fn fo fc ct hd) := by unfold f_X1_placeOf_hd; rw [if_neg (show ¬ (4 : Int32) = 0 by decide), if_neg (show ¬ (4 : Int32) = 1 by decide), if_neg (show ¬ (4 : Int32) = 2 by decide), if_neg (show ¬ (4 : Int32) = 3 by decide), if_pos (show (4 : Int32) = 4 from rfl)]
set_option maxRecDepth 100000 in
theorem q_X1_placeOf_hd_5 {fn fo fx fc ug : Int32} {mem lt ct hd la : Nat → Int32} {bt : Nat → Nat → Int32} : f_X1_placeOf_hd fn fo fx fc mem ug lt ct hd la bt 5 = (f_X1_wordBehind_hd fn fo fc ct hd) := by unfold f_X1_placeOf_hd; rw [if_neg (show ¬ (5 : Int32) = 0 by decide), if_neg (show ¬ (5 : Int32) = 1 by decide), if_neg (show ¬ (5 : Int32) = 2 by decide), if_neg (show ¬ (5 : Int32) = 3 by decide), if_neg (show ¬ (5 : Int32) = 4 by decide), if_pos (show (5 : Int32) = 5 from rfl)]
set_option maxRecDepth 100000 in
theorem q_X1_placeOf_hd_6 {fn fo fx fc ug : Int32} {mem lt ct hd la : Nat → Int32} {bt : Nat → Nat → Int32} : f_X1_placeOf_hd fn fo fx fc mem ug lt ct hd la bt 6 = (f_X1_wordBehind_hd fn fo fc ct hd) := by unfold f_X1_placeOf_hd; rw [if_neg (show ¬ (6 : Int32) = 0 by decide), if_neg (show ¬ (6 : Int32) = 1 by decide), if_neg (show ¬ (6 : Int32) = 2 by decide), if_neg (show ¬ (6 : Int32) = 3 by decide), if_neg (show ¬ (6 : Int32) = 4 by decide), if_neg (show ¬ (6 : Int32) = 5 by decide), if_pos (show (6 : Int32) = 6 from rfl)]
set_option maxRecDepth 100000 in
theorem q_X1_placeOf_hd_7 {fn fo fx fc ug : Int32} {mem lt ct hd la : Nat → Int32} {bt : Nat → Nat → Int32} : f_X1_placeOf_hd fn fo fx fc mem ug lt ct hd la bt 7 = (f_X1_wordBehind_hd fn fo fc ct hd) := by unfold f_X1_placeOf_hd; rw [if_neg (show ¬ (7 : Int32) = 0 by decide), if_neg (show ¬ (7 : Int32) = 1 by decide), if_neg (show ¬ (7 : Int32) = 2 by decide), if_neg (show ¬ (7 : Int32) = 3 by decide), if_neg (show ¬ (7 : Int32) = 4 by decide), if_neg (show ¬ (7 : Int32) = 5 by decide), if_neg (show ¬ (7 : Int32) = 6 by decide), if_pos (show (7 : Int32) = 7 from rfl)]
set_option maxRecDepth 100000 in
theorem q_X1_placeOf_hd_8 {fn fo fx fc ug : Int32} {mem lt ct hd la : Nat → Int32} {bt : Nat → Nat → Int32} : f_X1_placeOf_hd fn fo fx fc mem ug lt ct hd la bt 8 = (f_X1_wordAt_hd fn fo (f_X1_byteBehind_ct fn fo fc ct) (f_X1_byteBehind_hd fn fo fc ct hd) (((f_X1_byteBehind_r fn fo fc mem ug lt ct hd la bt) + fx) &&& 255)) := by unfold f_X1_placeOf_hd; rw [if_neg (show ¬ (8 : Int32) = 0 by decide), if_neg (show ¬ (8 : Int32) = 1 by decide), if_neg (show ¬ (8 : Int32) = 2 by decide), if_neg (show ¬ (8 : Int32) = 3 by decide), if_neg (show ¬ (8 : Int32) = 4 by decide), if_neg (show ¬ (8 : Int32) = 5 by decide), if_neg (show ¬ (8 : Int32) = 6 by decide), if_neg (show ¬ (8 : Int32) = 7 by decide), if_pos (show (8 : Int32) = 8 from rfl)]
set_option maxRecDepth 100000 in
theorem q_X1_placeOf_hd_9 {fn fo fx fc ug : Int32} {mem lt ct hd la : Nat → Int32} {bt : Nat → Nat → Int32} : f_X1_placeOf_hd fn fo fx fc mem ug lt ct hd la bt 9 = (f_X1_wordAt_hd fn fo (f_X1_byteBehind_ct fn fo fc ct) (f_X1_byteBehind_hd fn fo fc ct hd) (f_X1_byteBehind_r fn fo fc mem ug lt ct hd la bt)) := by unfold f_X1_placeOf_hd; rw [if_neg (show ¬ (9 : Int32) = 0 by decide), if_neg (show ¬ (9 : Int32) = 1 by decide), if_neg (show ¬ (9 : Int32) = 2 by decide), if_neg (show ¬ (9 : Int32) = 3 by decide), if_neg (show ¬ (9 : Int32) = 4 by decide), if_neg (show ¬ (9 : Int32) = 5 by decide), if_neg (show ¬ (9 : Int32) = 6 by decide), if_neg (show ¬ (9 : Int32) = 7 by decide), if_neg (show ¬ (9 : Int32) = 8 by decide), if_pos (show (9 : Int32) = 9 from rfl)]
set_option maxRecDepth 100000 in
theorem q_X1_placeOf_la_1 {fn fo fx fc ug : Int32} {mem lt ct hd la : Nat → Int32} {bt : Nat → Nat → Int32} : f_X1_placeOf_la fn fo fx fc mem ug lt ct hd la bt 1 = la := by unfold f_X1_placeOf_la; rw [if_neg (show ¬ (1 : Int32) = 0 by decide), if_pos (show (1 : Int32) = 1 from rfl)]
set_option maxRecDepth 100000 in
theorem q_X1_placeOf_la_2 {fn fo fx fc ug : Int32} {mem lt ct hd la : Nat → Int32} {bt : Nat → Nat → Int32} : f_X1_placeOf_la fn fo fx fc mem ug lt ct hd la bt 2 = (f_X1_byteBehind_la fn fo fc ct hd la bt) := by unfold f_X1_placeOf_la; rw [if_neg (show ¬ (2 : Int32) = 0 by decide), if_neg (show ¬ (2 : Int32) = 1 by decide), if_pos (show (2 : Int32) = 2 from rfl)]
set_option maxRecDepth 100000 in
theorem q_X1_placeOf_la_3 {fn fo fx fc ug : Int32} {mem lt ct hd la : Nat → Int32} {bt : Nat → Nat → Int32} : f_X1_placeOf_la fn fo fx fc mem ug lt ct hd la bt 3 = (f_X1_byteBehind_la fn fo fc ct hd la bt) := by unfold f_X1_placeOf_la; rw [if_neg (show ¬ (3 : Int32) = 0 by decide), if_neg (show ¬ (3 : Int32) = 1 by decide), if_neg (show ¬ (3 : Int32) = 2 by decide), if_pos (show (3 : Int32) = 3 from rfl)]
set_option maxRecDepth 100000 in
theorem q_X1_placeOf_la_4 {fn fo fx fc ug : Int32} {mem lt ct hd la : Nat → Int32} {bt : Nat → Nat → Int32} : f_X1_placeOf_la fn fo fx fc mem ug lt ct hd la bt 4 = (f_X1_byteBehind_la fn fo fc ct hd la bt) := by unfold f_X1_placeOf_la; rw [if_neg (show ¬ (4 : Int32) = 0 by decide), if_neg (show ¬ (4 : Int32) = 1 by decide), if_neg (show ¬ (4 : Int32) = 2 by decide), if_neg (show ¬ (4 : Int32) = 3 by decide), if_pos (show (4 : Int32) = 4 from rfl)]
set_option maxRecDepth 100000 in
theorem q_X1_placeOf_la_5 {fn fo fx fc ug : Int32} {mem lt ct hd la : Nat → Int32} {bt : Nat → Nat → Int32} : f_X1_placeOf_la fn fo fx fc mem ug lt ct hd la bt 5 = (f_X1_wordBehind_la fn fo fc ct hd la bt) := by unfold f_X1_placeOf_la; rw [if_neg (show ¬ (5 : Int32) = 0 by decide), if_neg (show ¬ (5 : Int32) = 1 by decide), if_neg (show ¬ (5 : Int32) = 2 by decide), if_neg (show ¬ (5 : Int32) = 3 by decide), if_neg (show ¬ (5 : Int32) = 4 by decide), if_pos (show (5 : Int32) = 5 from rfl)]
set_option maxRecDepth 100000 in
theorem q_X1_placeOf_la_6 {fn fo fx fc ug : Int32} {mem lt ct hd la : Nat → Int32} {bt : Nat → Nat → Int32} : f_X1_placeOf_la fn fo fx fc mem ug lt ct hd la bt 6 = (f_X1_wordBehind_la fn fo fc ct hd la bt) := by unfold f_X1_placeOf_la; rw [if_neg (show ¬ (6 : Int32) = 0 by decide), if_neg (show ¬ (6 : Int32) = 1 by decide), if_neg (show ¬ (6 : Int32) = 2 by decide), if_neg (show ¬ (6 : Int32) = 3 by decide), if_neg (show ¬ (6 : Int32) = 4 by decide), if_neg (show ¬ (6 : Int32) = 5 by decide), if_pos (show (6 : Int32) = 6 from rfl)]
set_option maxRecDepth 100000 in
theorem q_X1_placeOf_la_7 {fn fo fx fc ug : Int32} {mem lt ct hd la : Nat → Int32} {bt : Nat → Nat → Int32} : f_X1_placeOf_la fn fo fx fc mem ug lt ct hd la bt 7 = (f_X1_wordBehind_la fn fo fc ct hd la bt) := by unfold f_X1_placeOf_la; rw [if_neg (show ¬ (7 : Int32) = 0 by decide), if_neg (show ¬ (7 : Int32) = 1 by decide), if_neg (show ¬ (7 : Int32) = 2 by decide), if_neg (show ¬ (7 : Int32) = 3 by decide), if_neg (show ¬ (7 : Int32) = 4 by decide), if_neg (show ¬ (7 : Int32) = 5 by decide), if_neg (show ¬ (7 : Int32) = 6 by decide), if_pos (show (7 : Int32) = 7 from rfl)]
set_option maxRecDepth 100000 in
theorem q_X1_placeOf_la_8 {fn fo fx fc ug : Int32} {mem lt ct hd la : Nat → Int32} {bt : Nat → Nat → Int32} : f_X1_placeOf_la fn fo fx fc mem ug lt ct hd la bt 8 = (f_X1_wordAt_la fn fo (f_X1_byteBehind_ct fn fo fc ct) (f_X1_byteBehind_hd fn fo fc ct hd) (f_X1_byteBehind_la fn fo fc ct hd la bt) bt (((f_X1_byteBehind_r fn fo fc mem ug lt ct hd la bt) + fx) &&& 255)) := by unfold f_X1_placeOf_la; rw [if_neg (show ¬ (8 : Int32) = 0 by decide), if_neg (show ¬ (8 : Int32) = 1 by decide), if_neg (show ¬ (8 : Int32) = 2 by decide), if_neg (show ¬ (8 : Int32) = 3 by decide), if_neg (show ¬ (8 : Int32) = 4 by decide), if_neg (show ¬ (8 : Int32) = 5 by decide), if_neg (show ¬ (8 : Int32) = 6 by decide), if_neg (show ¬ (8 : Int32) = 7 by decide), if_pos (show (8 : Int32) = 8 from rfl)]
set_option maxRecDepth 100000 in
theorem q_X1_placeOf_la_9 {fn fo fx fc ug : Int32} {mem lt ct hd la : Nat → Int32} {bt : Nat → Nat → Int32} : f_X1_placeOf_la fn fo fx fc mem ug lt ct hd la bt 9 = (f_X1_wordAt_la fn fo (f_X1_byteBehind_ct fn fo fc ct) (f_X1_byteBehind_hd fn fo fc ct hd) (f_X1_byteBehind_la fn fo fc ct hd la bt) bt (f_X1_byteBehind_r fn fo fc mem ug lt ct hd la bt)) := by unfold f_X1_placeOf_la; rw [if_neg (show ¬ (9 : Int32) = 0 by decide), if_neg (show ¬ (9 : Int32) = 1 by decide), if_neg (show ¬ (9 : Int32) = 2 by decide), if_neg (show ¬ (9 : Int32) = 3 by decide), if_neg (show ¬ (9 : Int32) = 4 by decide), if_neg (show ¬ (9 : Int32) = 5 by decide), if_neg (show ¬ (9 : Int32) = 6 by decide), if_neg (show ¬ (9 : Int32) = 7 by decide), if_neg (show ¬ (9 : Int32) = 8 by decide), if_pos (show (9 : Int32) = 9 from rfl)]
set_option maxRecDepth 100000 in
theorem q_X1_placeOf_fc_1 {fc : Int32} : f_X1_placeOf_fc fc 1 = (f_X1_placeBehind_fc fc) := by unfold f_X1_placeOf_fc; rw [if_neg (show ¬ (1 : Int32) = 0 by decide), if_pos (show (1 : Int32) = 1 from rfl)]
set_option maxRecDepth 100000 in
theorem q_X1_placeOf_fc_2 {fc : Int32} : f_X1_placeOf_fc fc 2 = (f_X1_byteBehind_fc fc) := by unfold f_X1_placeOf_fc; rw [if_neg (show ¬ (2 : Int32) = 0 by decide), if_neg (show ¬ (2 : Int32) = 1 by decide), if_pos (show (2 : Int32) = 2 from rfl)]
set_option maxRecDepth 100000 in
theorem q_X1_placeOf_fc_3 {fc : Int32} : f_X1_placeOf_fc fc 3 = (f_X1_byteBehind_fc fc) := by unfold f_X1_placeOf_fc; rw [if_neg (show ¬ (3 : Int32) = 0 by decide), if_neg (show ¬ (3 : Int32) = 1 by decide), if_neg (show ¬ (3 : Int32) = 2 by decide), if_pos (show (3 : Int32) = 3 from rfl)]
set_option maxRecDepth 100000 in
theorem q_X1_placeOf_fc_4 {fc : Int32} : f_X1_placeOf_fc fc 4 = (f_X1_byteBehind_fc fc) := by unfold f_X1_placeOf_fc; rw [if_neg (show ¬ (4 : Int32) = 0 by decide), if_neg (show ¬ (4 : Int32) = 1 by decide), if_neg (show ¬ (4 : Int32) = 2 by decide), if_neg (show ¬ (4 : Int32) = 3 by decide), if_pos (show (4 : Int32) = 4 from rfl)]
set_option maxRecDepth 100000 in
theorem q_X1_placeOf_fc_5 {fc : Int32} : f_X1_placeOf_fc fc 5 = (f_X1_wordBehind_fc fc) := by unfold f_X1_placeOf_fc; rw [if_neg (show ¬ (5 : Int32) = 0 by decide), if_neg (show ¬ (5 : Int32) = 1 by decide), if_neg (show ¬ (5 : Int32) = 2 by decide), if_neg (show ¬ (5 : Int32) = 3 by decide), if_neg (show ¬ (5 : Int32) = 4 by decide), if_pos (show (5 : Int32) = 5 from rfl)]
set_option maxRecDepth 100000 in
theorem q_X1_placeOf_fc_6 {fc : Int32} : f_X1_placeOf_fc fc 6 = (f_X1_wordBehind_fc fc) := by unfold f_X1_placeOf_fc; rw [if_neg (show ¬ (6 : Int32) = 0 by decide), if_neg (show ¬ (6 : Int32) = 1 by decide), if_neg (show ¬ (6 : Int32) = 2 by decide), if_neg (show ¬ (6 : Int32) = 3 by decide), if_neg (show ¬ (6 : Int32) = 4 by decide), if_neg (show ¬ (6 : Int32) = 5 by decide), if_pos (show (6 : Int32) = 6 from rfl)]
set_option maxRecDepth 100000 in
theorem q_X1_placeOf_fc_7 {fc : Int32} : f_X1_placeOf_fc fc 7 = (f_X1_wordBehind_fc fc) := by unfold f_X1_placeOf_fc; rw [if_neg (show ¬ (7 : Int32) = 0 by decide), if_neg (show ¬ (7 : Int32) = 1 by decide), if_neg (show ¬ (7 : Int32) = 2 by decide), if_neg (show ¬ (7 : Int32) = 3 by decide), if_neg (show ¬ (7 : Int32) = 4 by decide), if_neg (show ¬ (7 : Int32) = 5 by decide), if_neg (show ¬ (7 : Int32) = 6 by decide), if_pos (show (7 : Int32) = 7 from rfl)]
set_option maxRecDepth 100000 in
theorem q_X1_placeOf_fc_8 {fc : Int32} : f_X1_placeOf_fc fc 8 = (f_X1_byteBehind_fc fc) := by unfold f_X1_placeOf_fc; rw [if_neg (show ¬ (8 : Int32) = 0 by decide), if_neg (show ¬ (8 : Int32) = 1 by decide), if_neg (show ¬ (8 : Int32) = 2 by decide), if_neg (show ¬ (8 : Int32) = 3 by decide), if_neg (show ¬ (8 : Int32) = 4 by decide), if_neg (show ¬ (8 : Int32) = 5 by decide), if_neg (show ¬ (8 : Int32) = 6 by decide), if_neg (show ¬ (8 : Int32) = 7 by decide), if_pos (show (8 : Int32) = 8 from rfl)]
set_option maxRecDepth 100000 in
theorem q_X1_placeOf_fc_9 {fc : Int32} : f_X1_placeOf_fc fc 9 = (f_X1_byteBehind_fc fc) := by unfold f_X1_placeOf_fc; rw [if_neg (show ¬ (9 : Int32) = 0 by decide), if_neg (show ¬ (9 : Int32) = 1 by decide), if_neg (show ¬ (9 : Int32) = 2 by decide), if_neg (show ¬ (9 : Int32) = 3 by decide), if_neg (show ¬ (9 : Int32) = 4 by decide), if_neg (show ¬ (9 : Int32) = 5 by decide), if_neg (show ¬ (9 : Int32) = 6 by decide), if_neg (show ¬ (9 : Int32) = 7 by decide), if_neg (show ¬ (9 : Int32) = 8 by decide), if_pos (show (9 : Int32) = 9 from rfl)]
set_option maxRecDepth 100000 in
theorem q_X5_placeBy_r_1 {un mm : Int32} {gB gX gY gC gR gM gL : Nat → Int32} : f_X5_placeBy_r un mm gB gX gY gC gR gM gL 1 = (((((gC mm.toNatClampNeg) + 1) &&& 65535) - 1) &&& 65535) := by unfold f_X5_placeBy_r; rw [if_pos (show (1 : Int32) = 1 from rfl)]
set_option maxRecDepth 100000 in
theorem q_X5_placeBy_r_2 {un mm : Int32} {gB gX gY gC gR gM gL : Nat → Int32} : f_X5_placeBy_r un mm gB gX gY gC gR gM gL 2 = (f_X5_fetch_r un mm gB gC gR gM gL) := by unfold f_X5_placeBy_r; rw [if_neg (show ¬ (2 : Int32) = 1 by decide), if_pos (show (2 : Int32) = 2 from rfl)]
set_option maxRecDepth 100000 in
theorem q_X5_placeBy_r_3 {un mm : Int32} {gB gX gY gC gR gM gL : Nat → Int32} : f_X5_placeBy_r un mm gB gX gY gC gR gM gL 3 = (((f_X5_fetch_r un mm gB gC gR gM gL) + (gX mm.toNatClampNeg)) &&& 255) := by unfold f_X5_placeBy_r; rw [if_neg (show ¬ (3 : Int32) = 1 by decide), if_neg (show ¬ (3 : Int32) = 2 by decide), if_pos (show (3 : Int32) = 3 from rfl)]
set_option maxRecDepth 100000 in
theorem q_X5_placeBy_r_4 {un mm : Int32} {gB gX gY gC gR gM gL : Nat → Int32} : f_X5_placeBy_r un mm gB gX gY gC gR gM gL 4 = (((f_X5_fetch_r un mm gB gC gR gM gL) + (gY mm.toNatClampNeg)) &&& 255) := by unfold f_X5_placeBy_r; rw [if_neg (show ¬ (4 : Int32) = 1 by decide), if_neg (show ¬ (4 : Int32) = 2 by decide), if_neg (show ¬ (4 : Int32) = 3 by decide), if_pos (show (4 : Int32) = 4 from rfl)]
set_option maxRecDepth 100000 in
theorem q_X5_placeBy_r_5 {un mm : Int32} {gB gX gY gC gR gM gL : Nat → Int32} : f_X5_placeBy_r un mm gB gX gY gC gR gM gL 5 = (f_X5_fetchWord_r un mm gB gC gR gM gL) := by unfold f_X5_placeBy_r; rw [if_neg (show ¬ (5 : Int32) = 1 by decide), if_neg (show ¬ (5 : Int32) = 2 by decide), if_neg (show ¬ (5 : Int32) = 3 by decide), if_neg (show ¬ (5 : Int32) = 4 by decide), if_pos (show (5 : Int32) = 5 from rfl)]
set_option maxRecDepth 100000 in
theorem q_X5_placeBy_r_6 {un mm : Int32} {gB gX gY gC gR gM gL : Nat → Int32} : f_X5_placeBy_r un mm gB gX gY gC gR gM gL 6 = (((f_X5_fetchWord_r un mm gB gC gR gM gL) + (gX mm.toNatClampNeg)) &&& 65535) := by unfold f_X5_placeBy_r; rw [if_neg (show ¬ (6 : Int32) = 1 by decide), if_neg (show ¬ (6 : Int32) = 2 by decide), if_neg (show ¬ (6 : Int32) = 3 by decide), if_neg (show ¬ (6 : Int32) = 4 by decide), if_neg (show ¬ (6 : Int32) = 5 by decide), if_pos (show (6 : Int32) = 6 from rfl)]
set_option maxRecDepth 100000 in
theorem q_X5_placeBy_r_7 {un mm : Int32} {gB gX gY gC gR gM gL : Nat → Int32} : f_X5_placeBy_r un mm gB gX gY gC gR gM gL 7 = (((f_X5_fetchWord_r un mm gB gC gR gM gL) + (gY mm.toNatClampNeg)) &&& 65535) := by unfold f_X5_placeBy_r; rw [if_neg (show ¬ (7 : Int32) = 1 by decide), if_neg (show ¬ (7 : Int32) = 2 by decide), if_neg (show ¬ (7 : Int32) = 3 by decide), if_neg (show ¬ (7 : Int32) = 4 by decide), if_neg (show ¬ (7 : Int32) = 5 by decide), if_neg (show ¬ (7 : Int32) = 6 by decide), if_pos (show (7 : Int32) = 7 from rfl)]
set_option maxRecDepth 100000 in
theorem q_X5_placeBy_r_8 {un mm : Int32} {gB gX gY gC gR gM gL : Nat → Int32} : f_X5_placeBy_r un mm gB gX gY gC gR gM gL 8 = (f_X5_lowWord_r mm gB ((f_X5_fetch_r un mm gB gC gR gM gL) + (gX mm.toNatClampNeg))) := by unfold f_X5_placeBy_r; rw [if_neg (show ¬ (8 : Int32) = 1 by decide), if_neg (show ¬ (8 : Int32) = 2 by decide), if_neg (show ¬ (8 : Int32) = 3 by decide), if_neg (show ¬ (8 : Int32) = 4 by decide), if_neg (show ¬ (8 : Int32) = 5 by decide), if_neg (show ¬ (8 : Int32) = 6 by decide), if_neg (show ¬ (8 : Int32) = 7 by decide), if_pos (show (8 : Int32) = 8 from rfl)]
set_option maxRecDepth 100000 in
theorem q_X5_placeBy_r_9 {un mm : Int32} {gB gX gY gC gR gM gL : Nat → Int32} : f_X5_placeBy_r un mm gB gX gY gC gR gM gL 9 = (((f_X5_lowWord_r mm gB (f_X5_fetch_r un mm gB gC gR gM gL)) + (gY mm.toNatClampNeg)) &&& 65535) := by unfold f_X5_placeBy_r; rw [if_neg (show ¬ (9 : Int32) = 1 by decide), if_neg (show ¬ (9 : Int32) = 2 by decide), if_neg (show ¬ (9 : Int32) = 3 by decide), if_neg (show ¬ (9 : Int32) = 4 by decide), if_neg (show ¬ (9 : Int32) = 5 by decide), if_neg (show ¬ (9 : Int32) = 6 by decide), if_neg (show ¬ (9 : Int32) = 7 by decide), if_neg (show ¬ (9 : Int32) = 8 by decide)]
set_option maxRecDepth 100000 in
theorem q_X5_placeBy_gR_1 {mm : Int32} {gC gR gM : Nat → Int32} : f_X5_placeBy_gR mm gC gR gM 1 = gR := by unfold f_X5_placeBy_gR; rw [if_pos (show (1 : Int32) = 1 from rfl)]
set_option maxRecDepth 100000 in
theorem q_X5_placeBy_gR_2 {mm : Int32} {gC gR gM : Nat → Int32} : f_X5_placeBy_gR mm gC gR gM 2 = (f_X5_fetch_gR mm gC gR gM) := by unfold f_X5_placeBy_gR; rw [if_neg (show ¬ (2 : Int32) = 1 by decide), if_pos (show (2 : Int32) = 2 from rfl)]
set_option maxRecDepth 100000 in
theorem q_X5_placeBy_gR_3 {mm : Int32} {gC gR gM : Nat → Int32} : f_X5_placeBy_gR mm gC gR gM 3 = (f_X5_fetch_gR mm gC gR gM) := by unfold f_X5_placeBy_gR; rw [if_neg (show ¬ (3 : Int32) = 1 by decide), if_neg (show ¬ (3 : Int32) = 2 by decide), if_pos (show (3 : Int32) = 3 from rfl)]
set_option maxRecDepth 100000 in
theorem q_X5_placeBy_gR_4 {mm : Int32} {gC gR gM : Nat → Int32} : f_X5_placeBy_gR mm gC gR gM 4 = (f_X5_fetch_gR mm gC gR gM) := by unfold f_X5_placeBy_gR; rw [if_neg (show ¬ (4 : Int32) = 1 by decide), if_neg (show ¬ (4 : Int32) = 2 by decide), if_neg (show ¬ (4 : Int32) = 3 by decide), if_pos (show (4 : Int32) = 4 from rfl)]
set_option maxRecDepth 100000 in
theorem q_X5_placeBy_gR_5 {mm : Int32} {gC gR gM : Nat → Int32} : f_X5_placeBy_gR mm gC gR gM 5 = (f_X5_fetchWord_gR mm gC gR gM) := by unfold f_X5_placeBy_gR; rw [if_neg (show ¬ (5 : Int32) = 1 by decide), if_neg (show ¬ (5 : Int32) = 2 by decide), if_neg (show ¬ (5 : Int32) = 3 by decide), if_neg (show ¬ (5 : Int32) = 4 by decide), if_pos (show (5 : Int32) = 5 from rfl)]
set_option maxRecDepth 100000 in
theorem q_X5_placeBy_gR_6 {mm : Int32} {gC gR gM : Nat → Int32} : f_X5_placeBy_gR mm gC gR gM 6 = (f_X5_fetchWord_gR mm gC gR gM) := by unfold f_X5_placeBy_gR; rw [if_neg (show ¬ (6 : Int32) = 1 by decide), if_neg (show ¬ (6 : Int32) = 2 by decide), if_neg (show ¬ (6 : Int32) = 3 by decide), if_neg (show ¬ (6 : Int32) = 4 by decide), if_neg (show ¬ (6 : Int32) = 5 by decide), if_pos (show (6 : Int32) = 6 from rfl)]
set_option maxRecDepth 100000 in
theorem q_X5_placeBy_gR_7 {mm : Int32} {gC gR gM : Nat → Int32} : f_X5_placeBy_gR mm gC gR gM 7 = (f_X5_fetchWord_gR mm gC gR gM) := by unfold f_X5_placeBy_gR; rw [if_neg (show ¬ (7 : Int32) = 1 by decide), if_neg (show ¬ (7 : Int32) = 2 by decide), if_neg (show ¬ (7 : Int32) = 3 by decide), if_neg (show ¬ (7 : Int32) = 4 by decide), if_neg (show ¬ (7 : Int32) = 5 by decide), if_neg (show ¬ (7 : Int32) = 6 by decide), if_pos (show (7 : Int32) = 7 from rfl)]
set_option maxRecDepth 100000 in
theorem q_X5_placeBy_gR_8 {mm : Int32} {gC gR gM : Nat → Int32} : f_X5_placeBy_gR mm gC gR gM 8 = (f_X5_fetch_gR mm gC gR gM) := by unfold f_X5_placeBy_gR; rw [if_neg (show ¬ (8 : Int32) = 1 by decide), if_neg (show ¬ (8 : Int32) = 2 by decide), if_neg (show ¬ (8 : Int32) = 3 by decide), if_neg (show ¬ (8 : Int32) = 4 by decide), if_neg (show ¬ (8 : Int32) = 5 by decide), if_neg (show ¬ (8 : Int32) = 6 by decide), if_neg (show ¬ (8 : Int32) = 7 by decide)]
set_option maxRecDepth 100000 in
theorem q_X5_placeBy_gR_9 {mm : Int32} {gC gR gM : Nat → Int32} : f_X5_placeBy_gR mm gC gR gM 9 = (f_X5_fetch_gR mm gC gR gM) := by unfold f_X5_placeBy_gR; rw [if_neg (show ¬ (9 : Int32) = 1 by decide), if_neg (show ¬ (9 : Int32) = 2 by decide), if_neg (show ¬ (9 : Int32) = 3 by decide), if_neg (show ¬ (9 : Int32) = 4 by decide), if_neg (show ¬ (9 : Int32) = 5 by decide), if_neg (show ¬ (9 : Int32) = 6 by decide), if_neg (show ¬ (9 : Int32) = 7 by decide)]
set_option maxRecDepth 100000 in
theorem q_X5_placeBy_gM_1 {mm : Int32} {gC gM : Nat → Int32} : f_X5_placeBy_gM mm gC gM 1 = gM := by unfold f_X5_placeBy_gM; rw [if_pos (show (1 : Int32) = 1 from rfl)]
set_option maxRecDepth 100000 in
theorem q_X5_placeBy_gM_2 {mm : Int32} {gC gM : Nat → Int32} : f_X5_placeBy_gM mm gC gM 2 = (f_X5_fetch_gM mm gC gM) := by unfold f_X5_placeBy_gM; rw [if_neg (show ¬ (2 : Int32) = 1 by decide), if_pos (show (2 : Int32) = 2 from rfl)]
set_option maxRecDepth 100000 in
theorem q_X5_placeBy_gM_3 {mm : Int32} {gC gM : Nat → Int32} : f_X5_placeBy_gM mm gC gM 3 = (f_X5_fetch_gM mm gC gM) := by unfold f_X5_placeBy_gM; rw [if_neg (show ¬ (3 : Int32) = 1 by decide), if_neg (show ¬ (3 : Int32) = 2 by decide), if_pos (show (3 : Int32) = 3 from rfl)]
set_option maxRecDepth 100000 in
theorem q_X5_placeBy_gM_4 {mm : Int32} {gC gM : Nat → Int32} : f_X5_placeBy_gM mm gC gM 4 = (f_X5_fetch_gM mm gC gM) := by unfold f_X5_placeBy_gM; rw [if_neg (show ¬ (4 : Int32) = 1 by decide), if_neg (show ¬ (4 : Int32) = 2 by decide), if_neg (show ¬ (4 : Int32) = 3 by decide), if_pos (show (4 : Int32) = 4 from rfl)]
set_option maxRecDepth 100000 in
theorem q_X5_placeBy_gM_5 {mm : Int32} {gC gM : Nat → Int32} : f_X5_placeBy_gM mm gC gM 5 = (f_X5_fetchWord_gM mm gC gM) := by unfold f_X5_placeBy_gM; rw [if_neg (show ¬ (5 : Int32) = 1 by decide), if_neg (show ¬ (5 : Int32) = 2 by decide), if_neg (show ¬ (5 : Int32) = 3 by decide), if_neg (show ¬ (5 : Int32) = 4 by decide), if_pos (show (5 : Int32) = 5 from rfl)]
set_option maxRecDepth 100000 in
theorem q_X5_placeBy_gM_6 {mm : Int32} {gC gM : Nat → Int32} : f_X5_placeBy_gM mm gC gM 6 = (f_X5_fetchWord_gM mm gC gM) := by unfold f_X5_placeBy_gM; rw [if_neg (show ¬ (6 : Int32) = 1 by decide), if_neg (show ¬ (6 : Int32) = 2 by decide), if_neg (show ¬ (6 : Int32) = 3 by decide), if_neg (show ¬ (6 : Int32) = 4 by decide), if_neg (show ¬ (6 : Int32) = 5 by decide), if_pos (show (6 : Int32) = 6 from rfl)]
set_option maxRecDepth 100000 in
theorem q_X5_placeBy_gM_7 {mm : Int32} {gC gM : Nat → Int32} : f_X5_placeBy_gM mm gC gM 7 = (f_X5_fetchWord_gM mm gC gM) := by unfold f_X5_placeBy_gM; rw [if_neg (show ¬ (7 : Int32) = 1 by decide), if_neg (show ¬ (7 : Int32) = 2 by decide), if_neg (show ¬ (7 : Int32) = 3 by decide), if_neg (show ¬ (7 : Int32) = 4 by decide), if_neg (show ¬ (7 : Int32) = 5 by decide), if_neg (show ¬ (7 : Int32) = 6 by decide), if_pos (show (7 : Int32) = 7 from rfl)]
set_option maxRecDepth 100000 in
theorem q_X5_placeBy_gM_8 {mm : Int32} {gC gM : Nat → Int32} : f_X5_placeBy_gM mm gC gM 8 = (f_X5_fetch_gM mm gC gM) := by unfold f_X5_placeBy_gM; rw [if_neg (show ¬ (8 : Int32) = 1 by decide), if_neg (show ¬ (8 : Int32) = 2 by decide), if_neg (show ¬ (8 : Int32) = 3 by decide), if_neg (show ¬ (8 : Int32) = 4 by decide), if_neg (show ¬ (8 : Int32) = 5 by decide), if_neg (show ¬ (8 : Int32) = 6 by decide), if_neg (show ¬ (8 : Int32) = 7 by decide)]
set_option maxRecDepth 100000 in
theorem q_X5_placeBy_gM_9 {mm : Int32} {gC gM : Nat → Int32} : f_X5_placeBy_gM mm gC gM 9 = (f_X5_fetch_gM mm gC gM) := by unfold f_X5_placeBy_gM; rw [if_neg (show ¬ (9 : Int32) = 1 by decide), if_neg (show ¬ (9 : Int32) = 2 by decide), if_neg (show ¬ (9 : Int32) = 3 by decide), if_neg (show ¬ (9 : Int32) = 4 by decide), if_neg (show ¬ (9 : Int32) = 5 by decide), if_neg (show ¬ (9 : Int32) = 6 by decide), if_neg (show ¬ (9 : Int32) = 7 by decide)]
set_option maxRecDepth 100000 in
theorem q_X5_placeBy_gL_1 {un mm : Int32} {gC gR gM gL : Nat → Int32} : f_X5_placeBy_gL un mm gC gR gM gL 1 = gL := by unfold f_X5_placeBy_gL; rw [if_pos (show (1 : Int32) = 1 from rfl)]
set_option maxRecDepth 100000 in
theorem q_X5_placeBy_gL_2 {un mm : Int32} {gC gR gM gL : Nat → Int32} : f_X5_placeBy_gL un mm gC gR gM gL 2 = (f_X5_fetch_gL un mm gC gR gM gL) := by unfold f_X5_placeBy_gL; rw [if_neg (show ¬ (2 : Int32) = 1 by decide), if_pos (show (2 : Int32) = 2 from rfl)]
set_option maxRecDepth 100000 in
theorem q_X5_placeBy_gL_3 {un mm : Int32} {gC gR gM gL : Nat → Int32} : f_X5_placeBy_gL un mm gC gR gM gL 3 = (f_X5_fetch_gL un mm gC gR gM gL) := by unfold f_X5_placeBy_gL; rw [if_neg (show ¬ (3 : Int32) = 1 by decide), if_neg (show ¬ (3 : Int32) = 2 by decide), if_pos (show (3 : Int32) = 3 from rfl)]
set_option maxRecDepth 100000 in
theorem q_X5_placeBy_gL_4 {un mm : Int32} {gC gR gM gL : Nat → Int32} : f_X5_placeBy_gL un mm gC gR gM gL 4 = (f_X5_fetch_gL un mm gC gR gM gL) := by unfold f_X5_placeBy_gL; rw [if_neg (show ¬ (4 : Int32) = 1 by decide), if_neg (show ¬ (4 : Int32) = 2 by decide), if_neg (show ¬ (4 : Int32) = 3 by decide), if_pos (show (4 : Int32) = 4 from rfl)]
set_option maxRecDepth 100000 in
theorem q_X5_placeBy_gL_5 {un mm : Int32} {gC gR gM gL : Nat → Int32} : f_X5_placeBy_gL un mm gC gR gM gL 5 = (f_X5_fetchWord_gL un mm gC gR gM gL) := by unfold f_X5_placeBy_gL; rw [if_neg (show ¬ (5 : Int32) = 1 by decide), if_neg (show ¬ (5 : Int32) = 2 by decide), if_neg (show ¬ (5 : Int32) = 3 by decide), if_neg (show ¬ (5 : Int32) = 4 by decide), if_pos (show (5 : Int32) = 5 from rfl)]
set_option maxRecDepth 100000 in
theorem q_X5_placeBy_gL_6 {un mm : Int32} {gC gR gM gL : Nat → Int32} : f_X5_placeBy_gL un mm gC gR gM gL 6 = (f_X5_fetchWord_gL un mm gC gR gM gL) := by unfold f_X5_placeBy_gL; rw [if_neg (show ¬ (6 : Int32) = 1 by decide), if_neg (show ¬ (6 : Int32) = 2 by decide), if_neg (show ¬ (6 : Int32) = 3 by decide), if_neg (show ¬ (6 : Int32) = 4 by decide), if_neg (show ¬ (6 : Int32) = 5 by decide), if_pos (show (6 : Int32) = 6 from rfl)]
set_option maxRecDepth 100000 in
theorem q_X5_placeBy_gL_7 {un mm : Int32} {gC gR gM gL : Nat → Int32} : f_X5_placeBy_gL un mm gC gR gM gL 7 = (f_X5_fetchWord_gL un mm gC gR gM gL) := by unfold f_X5_placeBy_gL; rw [if_neg (show ¬ (7 : Int32) = 1 by decide), if_neg (show ¬ (7 : Int32) = 2 by decide), if_neg (show ¬ (7 : Int32) = 3 by decide), if_neg (show ¬ (7 : Int32) = 4 by decide), if_neg (show ¬ (7 : Int32) = 5 by decide), if_neg (show ¬ (7 : Int32) = 6 by decide), if_pos (show (7 : Int32) = 7 from rfl)]
set_option maxRecDepth 100000 in
theorem q_X5_placeBy_gL_8 {un mm : Int32} {gC gR gM gL : Nat → Int32} : f_X5_placeBy_gL un mm gC gR gM gL 8 = (f_X5_fetch_gL un mm gC gR gM gL) := by unfold f_X5_placeBy_gL; rw [if_neg (show ¬ (8 : Int32) = 1 by decide), if_neg (show ¬ (8 : Int32) = 2 by decide), if_neg (show ¬ (8 : Int32) = 3 by decide), if_neg (show ¬ (8 : Int32) = 4 by decide), if_neg (show ¬ (8 : Int32) = 5 by decide), if_neg (show ¬ (8 : Int32) = 6 by decide), if_neg (show ¬ (8 : Int32) = 7 by decide)]
set_option maxRecDepth 100000 in
theorem q_X5_placeBy_gL_9 {un mm : Int32} {gC gR gM gL : Nat → Int32} : f_X5_placeBy_gL un mm gC gR gM gL 9 = (f_X5_fetch_gL un mm gC gR gM gL) := by unfold f_X5_placeBy_gL; rw [if_neg (show ¬ (9 : Int32) = 1 by decide), if_neg (show ¬ (9 : Int32) = 2 by decide), if_neg (show ¬ (9 : Int32) = 3 by decide), if_neg (show ¬ (9 : Int32) = 4 by decide), if_neg (show ¬ (9 : Int32) = 5 by decide), if_neg (show ¬ (9 : Int32) = 6 by decide), if_neg (show ¬ (9 : Int32) = 7 by decide)]
set_option maxRecDepth 100000 in
theorem q_X5_placeBy_gC_1 {mm : Int32} {gC : Nat → Int32} : f_X5_placeBy_gC mm gC 1 = (upd gC mm.toNatClampNeg (((gC mm.toNatClampNeg) + 1) &&& 65535)) := by unfold f_X5_placeBy_gC; rw [if_pos (show (1 : Int32) = 1 from rfl)]
set_option maxRecDepth 100000 in
theorem q_X5_placeBy_gC_2 {mm : Int32} {gC : Nat → Int32} : f_X5_placeBy_gC mm gC 2 = (f_X5_fetch_gC mm gC) := by unfold f_X5_placeBy_gC; rw [if_neg (show ¬ (2 : Int32) = 1 by decide), if_pos (show (2 : Int32) = 2 from rfl)]
set_option maxRecDepth 100000 in
theorem q_X5_placeBy_gC_3 {mm : Int32} {gC : Nat → Int32} : f_X5_placeBy_gC mm gC 3 = (f_X5_fetch_gC mm gC) := by unfold f_X5_placeBy_gC; rw [if_neg (show ¬ (3 : Int32) = 1 by decide), if_neg (show ¬ (3 : Int32) = 2 by decide), if_pos (show (3 : Int32) = 3 from rfl)]
set_option maxRecDepth 100000 in
theorem q_X5_placeBy_gC_4 {mm : Int32} {gC : Nat → Int32} : f_X5_placeBy_gC mm gC 4 = (f_X5_fetch_gC mm gC) := by unfold f_X5_placeBy_gC; rw [if_neg (show ¬ (4 : Int32) = 1 by decide), if_neg (show ¬ (4 : Int32) = 2 by decide), if_neg (show ¬ (4 : Int32) = 3 by decide), if_pos (show (4 : Int32) = 4 from rfl)]
set_option maxRecDepth 100000 in
theorem q_X5_placeBy_gC_5 {mm : Int32} {gC : Nat → Int32} : f_X5_placeBy_gC mm gC 5 = (f_X5_fetchWord_gC mm gC) := by unfold f_X5_placeBy_gC; rw [if_neg (show ¬ (5 : Int32) = 1 by decide), if_neg (show ¬ (5 : Int32) = 2 by decide), if_neg (show ¬ (5 : Int32) = 3 by decide), if_neg (show ¬ (5 : Int32) = 4 by decide), if_pos (show (5 : Int32) = 5 from rfl)]
set_option maxRecDepth 100000 in
theorem q_X5_placeBy_gC_6 {mm : Int32} {gC : Nat → Int32} : f_X5_placeBy_gC mm gC 6 = (f_X5_fetchWord_gC mm gC) := by unfold f_X5_placeBy_gC; rw [if_neg (show ¬ (6 : Int32) = 1 by decide), if_neg (show ¬ (6 : Int32) = 2 by decide), if_neg (show ¬ (6 : Int32) = 3 by decide), if_neg (show ¬ (6 : Int32) = 4 by decide), if_neg (show ¬ (6 : Int32) = 5 by decide), if_pos (show (6 : Int32) = 6 from rfl)]
set_option maxRecDepth 100000 in
theorem q_X5_placeBy_gC_7 {mm : Int32} {gC : Nat → Int32} : f_X5_placeBy_gC mm gC 7 = (f_X5_fetchWord_gC mm gC) := by unfold f_X5_placeBy_gC; rw [if_neg (show ¬ (7 : Int32) = 1 by decide), if_neg (show ¬ (7 : Int32) = 2 by decide), if_neg (show ¬ (7 : Int32) = 3 by decide), if_neg (show ¬ (7 : Int32) = 4 by decide), if_neg (show ¬ (7 : Int32) = 5 by decide), if_neg (show ¬ (7 : Int32) = 6 by decide), if_pos (show (7 : Int32) = 7 from rfl)]
set_option maxRecDepth 100000 in
theorem q_X5_placeBy_gC_8 {mm : Int32} {gC : Nat → Int32} : f_X5_placeBy_gC mm gC 8 = (f_X5_fetch_gC mm gC) := by unfold f_X5_placeBy_gC; rw [if_neg (show ¬ (8 : Int32) = 1 by decide), if_neg (show ¬ (8 : Int32) = 2 by decide), if_neg (show ¬ (8 : Int32) = 3 by decide), if_neg (show ¬ (8 : Int32) = 4 by decide), if_neg (show ¬ (8 : Int32) = 5 by decide), if_neg (show ¬ (8 : Int32) = 6 by decide), if_neg (show ¬ (8 : Int32) = 7 by decide)]
set_option maxRecDepth 100000 in
theorem q_X5_placeBy_gC_9 {mm : Int32} {gC : Nat → Int32} : f_X5_placeBy_gC mm gC 9 = (f_X5_fetch_gC mm gC) := by unfold f_X5_placeBy_gC; rw [if_neg (show ¬ (9 : Int32) = 1 by decide), if_neg (show ¬ (9 : Int32) = 2 by decide), if_neg (show ¬ (9 : Int32) = 3 by decide), if_neg (show ¬ (9 : Int32) = 4 by decide), if_neg (show ¬ (9 : Int32) = 5 by decide), if_neg (show ¬ (9 : Int32) = 6 by decide), if_neg (show ¬ (9 : Int32) = 7 by decide)]
set_option maxRecDepth 100000 in
def s_way (w : Int32) : Prop := w = 1 ∨ w = 2 ∨ w = 3 ∨ w = 4 ∨ w = 5 ∨ w = 6 ∨ w = 7 ∨ w = 8 ∨ w = 9
set_option maxRecDepth 100000 in
theorem sr_place {w : Int32} (hw : s_way w) (hm : s_m mm fo) (hB : rm mm gB mem om) (hf : ∃ j : Nat, j < 64 ∧ ug = nI j) (h : ru ug lt ct hd la bt gR gM gL) (hC : rc mm gC fc oc) (hX : ra mm gX fx ox) (hY : ra mm gY fy oy) :
    f_X5_placeBy_r ug mm gB gX gY gC gR gM gL w = f_X1_placeOf_r mm fo fx fy fc mem ug lt ct hd la bt w ∧ s_w (f_X1_placeOf_r mm fo fx fy fc mem ug lt ct hd la bt w) ∧
    ru ug lt (f_X1_placeOf_ct mm fo fx fc mem ug lt ct hd la bt w) (f_X1_placeOf_hd mm fo fx fc mem ug lt ct hd la bt w) (f_X1_placeOf_la mm fo fx fc mem ug lt ct hd la bt w) bt (f_X5_placeBy_gR mm gC gR gM w) (f_X5_placeBy_gM mm gC gM w) (f_X5_placeBy_gL ug mm gC gR gM gL w) ∧
    rc mm (f_X5_placeBy_gC mm gC w) (f_X1_placeOf_fc fc w) oc := by
  obtain ⟨a1, a2, a3, a4⟩ := sr_fetch hm hB hf h hC
  obtain ⟨b1, b2, b3, b4⟩ := sr_fetchWord hm hB hf h hC
  have x1 := hX.1
  have y1 := hY.1
  rcases hw with rfl | rfl | rfl | rfl | rfl | rfl | rfl | rfl | rfl
  · simp only [q_X1_placeOf_r_1, q_X1_placeOf_ct_1, q_X1_placeOf_hd_1, q_X1_placeOf_la_1, q_X1_placeOf_fc_1, q_X5_placeBy_r_1, q_X5_placeBy_gR_1, q_X5_placeBy_gM_1, q_X5_placeBy_gL_1, q_X5_placeBy_gC_1, hC.1]
    refine ⟨s_here hC.2.2, hC.2.2, h, ?_⟩
    exact rc_u hC (s_and65535 _)
  · simp only [q_X1_placeOf_r_2, q_X1_placeOf_ct_2, q_X1_placeOf_hd_2, q_X1_placeOf_la_2, q_X1_placeOf_fc_2, q_X5_placeBy_r_2, q_X5_placeBy_gR_2, q_X5_placeBy_gM_2, q_X5_placeBy_gL_2, q_X5_placeBy_gC_2]
    exact ⟨a1, s_bw a2, a3, a4⟩
  · simp only [q_X1_placeOf_r_3, q_X1_placeOf_ct_3, q_X1_placeOf_hd_3, q_X1_placeOf_la_3, q_X1_placeOf_fc_3, q_X5_placeBy_r_3, q_X5_placeBy_gR_3, q_X5_placeBy_gM_3, q_X5_placeBy_gL_3, q_X5_placeBy_gC_3, x1, a1]
    exact ⟨rfl, s_bw (s_and255 _), a3, a4⟩
  · simp only [q_X1_placeOf_r_4, q_X1_placeOf_ct_4, q_X1_placeOf_hd_4, q_X1_placeOf_la_4, q_X1_placeOf_fc_4, q_X5_placeBy_r_4, q_X5_placeBy_gR_4, q_X5_placeBy_gM_4, q_X5_placeBy_gL_4, q_X5_placeBy_gC_4, y1, a1]
    exact ⟨rfl, s_bw (s_and255 _), a3, a4⟩
  · simp only [q_X1_placeOf_r_5, q_X1_placeOf_ct_5, q_X1_placeOf_hd_5, q_X1_placeOf_la_5, q_X1_placeOf_fc_5, q_X5_placeBy_r_5, q_X5_placeBy_gR_5, q_X5_placeBy_gM_5, q_X5_placeBy_gL_5, q_X5_placeBy_gC_5]
    exact ⟨b1, b2, b3, b4⟩
  · simp only [q_X1_placeOf_r_6, q_X1_placeOf_ct_6, q_X1_placeOf_hd_6, q_X1_placeOf_la_6, q_X1_placeOf_fc_6, q_X5_placeBy_r_6, q_X5_placeBy_gR_6, q_X5_placeBy_gM_6, q_X5_placeBy_gL_6, q_X5_placeBy_gC_6, x1, b1]
    exact ⟨trivial, s_and65535 _, b3, b4⟩
  · simp only [q_X1_placeOf_r_7, q_X1_placeOf_ct_7, q_X1_placeOf_hd_7, q_X1_placeOf_la_7, q_X1_placeOf_fc_7, q_X5_placeBy_r_7, q_X5_placeBy_gR_7, q_X5_placeBy_gM_7, q_X5_placeBy_gL_7, q_X5_placeBy_gC_7, y1, b1]
    exact ⟨trivial, s_and65535 _, b3, b4⟩
  · obtain ⟨l1, l2, l3, l4, l5⟩ := sr_lowWord (ug := ug) (lt := lt) (ct := f_X1_byteBehind_ct mm fo fc ct) (hd := f_X1_byteBehind_hd mm fo fc ct hd) (la := f_X1_byteBehind_la mm fo fc ct hd la bt) (bt := bt) hm hB (s_and255 (f_X1_byteBehind_r mm fo fc mem ug lt ct hd la bt + fx)) rfl (s_zx a2 hX.2.2)
    have a1' : f_X5_fetch_r ug mm gB gC gR gM gL = f_X1_byteBehind_r mm fo fc mem ug lt ct hd la bt := a1
    simp only [q_X1_placeOf_r_8, q_X1_placeOf_ct_8, q_X1_placeOf_hd_8, q_X1_placeOf_la_8, q_X1_placeOf_fc_8, q_X5_placeBy_r_8, q_X5_placeBy_gR_8, q_X5_placeBy_gM_8, q_X5_placeBy_gL_8, q_X5_placeBy_gC_8, x1, a1', l1, l3, l4, l5]
    exact ⟨trivial, l2, a3, a4⟩
  · obtain ⟨l1, l2, l3, l4, l5⟩ := sr_lowWord (ug := ug) (lt := lt) (ct := f_X1_byteBehind_ct mm fo fc ct) (hd := f_X1_byteBehind_hd mm fo fc ct hd) (la := f_X1_byteBehind_la mm fo fc ct hd la bt) (bt := bt) hm hB (show s_b (f_X1_byteBehind_r mm fo fc mem ug lt ct hd la bt) from a2) (s_b255 a2) rfl
    have a1' : f_X5_fetch_r ug mm gB gC gR gM gL = f_X1_byteBehind_r mm fo fc mem ug lt ct hd la bt := a1
    simp only [q_X1_placeOf_r_9, q_X1_placeOf_ct_9, q_X1_placeOf_hd_9, q_X1_placeOf_la_9, q_X1_placeOf_fc_9, q_X5_placeBy_r_9, q_X5_placeBy_gR_9, q_X5_placeBy_gM_9, q_X5_placeBy_gL_9, q_X5_placeBy_gC_9, y1, a1', l1, l3, l4, l5]
    exact ⟨trivial, s_and65535 _, a3, a4⟩
end FE
