/-! The class and the reference, held beside each other: what they share. -/
def s_b (v : Int32) : Prop := ∃ j : Nat, j < 256 ∧ v = nI j
def s_w (v : Int32) : Prop := ∃ j : Nat, j < 65536 ∧ v = nI j
def s_pb (j : Nat) : Bool := j / 32 % 2 == 1 && j / 16 % 2 == 0
/-- P: bit 5 is 1, bit 4 is 0 -/
def s_p (v : Int32) : Prop := ∃ j : Nat, j < 256 ∧ v = nI j ∧ s_pb j = true
theorem s_bw {v : Int32} (h : s_b v) : s_w v := by obtain ⟨j, hj, rfl⟩ := h; exact ⟨j, by omega, rfl⟩
theorem s_pv {v : Int32} (h : s_p v) : s_b v := by obtain ⟨j, hj, rfl, _⟩ := h; exact ⟨j, hj, rfl⟩
def ra (mm : Int32) (g : Nat → Int32) (v o : Int32) : Prop := g mm.toNatClampNeg = v ∧ g (1 - mm.toNatClampNeg) = o ∧ s_b v
def rp (mm : Int32) (g : Nat → Int32) (v o : Int32) : Prop := g mm.toNatClampNeg = v ∧ g (1 - mm.toNatClampNeg) = o ∧ s_p v
def rc (mm : Int32) (g : Nat → Int32) (v o : Int32) : Prop := g mm.toNatClampNeg = v ∧ g (1 - mm.toNatClampNeg) = o ∧ s_w v
theorem s_kk {k : Nat} : 1 - k ≠ k := by omega
theorem ra_u {mm : Int32} {g : Nat → Int32} {v o w : Int32} (h : ra mm g v o) (hw : s_b w) : ra mm (upd g mm.toNatClampNeg w) w o := ⟨pk_us, (pk_un s_kk).trans h.2.1, hw⟩
theorem rp_u {mm : Int32} {g : Nat → Int32} {v o w : Int32} (h : rp mm g v o) (hw : s_p w) : rp mm (upd g mm.toNatClampNeg w) w o := ⟨pk_us, (pk_un s_kk).trans h.2.1, hw⟩
theorem rc_u {mm : Int32} {g : Nat → Int32} {v o w : Int32} (h : rc mm g v o) (hw : s_w w) : rc mm (upd g mm.toNatClampNeg w) w o := ⟨pk_us, (pk_un s_kk).trans h.2.1, hw⟩
/-- memory -/
def rm (mm : Int32) (gB mem om : Nat → Int32) : Prop := ∀ j, j < 4096 → gB (4096 * mm.toNatClampNeg + j) = mem j ∧ gB (4096 * (1 - mm.toNatClampNeg) + j) = om j ∧ s_b (mem j)
theorem s_iM {mm : Int32} (hm : wB mm) {j : Nat} (hj : j < 100000) : ((4096 * mm) + (nI j - nI j / 4096 * 4096)).toNatClampNeg = 4096 * mm.toNatClampNeg + j % 4096 := by
  have e : nI j - nI j / 4096 * 4096 = nI (j % 4096) := pk_rem (d := 4096) (by omega) (by decide) (by decide)
  rw [e]
  rcases hm with rfl | rfl
  · rw [show (4096 * (0 : Int32)) = nI 0 from rfl, nI_add, nI_clamp (by omega)]; exact rfl
  · rw [show (4096 * (1 : Int32)) = nI 4096 from rfl, nI_add, nI_clamp (by omega)]; exact rfl
theorem s_iC {j : Nat} (hj : j < 100000) : (nI j &&& 4095).toNatClampNeg = j % 4096 := by
  rw [pk_andN (by omega) 12 (by decide), nI_clamp (by omega)]
theorem s_iS {mm : Int32} (hm : wB mm) {j : Nat} (hj : j < 256) : (((4096 * mm) + 256) + nI j).toNatClampNeg = 4096 * mm.toNatClampNeg + (256 + j) := by
  rcases hm with rfl | rfl
  · rw [show (4096 * (0 : Int32) + 256) = nI 256 from rfl, nI_add, nI_clamp (by omega)]; exact (Nat.zero_add _).symm
  · rw [show (4096 * (1 : Int32) + 256) = nI 4352 from rfl, nI_add, nI_clamp (by omega)]; show 4352 + j = 4096 + (256 + j); omega
theorem s_iS' {j : Nat} (hj : j < 256) : ((256 + nI j) &&& 4095).toNatClampNeg = 256 + j := by
  rw [show ((256 : Int32)) = nI 256 from rfl, nI_add, s_iC (by omega)]; omega
theorem rm_kept {mm : Int32} (hm : wB mm) {gB mem om : Nat → Int32} (h : rm mm gB mem om) {i j : Nat} (hi : i < 100000) (hj : j < 100000) (e : i % 4096 = j % 4096) : f_X5_plain_r mm gB (nI i) = f_X1_kept_r mem (nI j) := by
  unfold f_X5_plain_r f_X1_kept_r
  rw [s_iM hm hi, s_iC hj, e]
  exact (h _ (by omega)).1
theorem rm_keptb {mm : Int32} {gB mem om : Nat → Int32} (h : rm mm gB mem om) {j : Nat} (hj : j < 100000) : s_b (f_X1_kept_r mem (nI j)) := by
  unfold f_X1_kept_r
  rw [s_iC hj]
  exact (h _ (by omega)).2.2
theorem rm_u {mm : Int32} (hm : wB mm) {gB mem om : Nat → Int32} (h : rm mm gB mem om) {i : Nat} (hi : i < 4096) {v : Int32} (hv : s_b v) : rm mm (upd gB (4096 * mm.toNatClampNeg + i) v) (upd mem i v) om := by
  intro j hj
  obtain ⟨h1, h2, h3⟩ := h j hj
  refine ⟨?_, ?_, ?_⟩
  · by_cases e : j = i
    · rw [e, pk_us, pk_us]
    · rw [pk_un (by omega), pk_un e]; exact h1
  · rw [pk_un]; exact h2
    rcases hm with rfl | rfl
    · show 4096 * 1 + j ≠ 4096 * 0 + i; omega
    · show 4096 * 0 + j ≠ 4096 * 1 + i; omega
  · by_cases e : j = i
    · rw [e, pk_us]; exact hv
    · rw [pk_un e]; exact h3
/-- two bytes, a word -/
theorem s_word {a b : Int32} (ha : s_b a) (hb : s_b b) : s_w (a ||| (b <<< ((8 : Int32) &&& 31))) := by
  obtain ⟨i, hi, rfl⟩ := ha
  obtain ⟨j, hj, rfl⟩ := hb
  have e : nI j <<< ((8 : Int32) &&& 31) = nI (j * 256) := pk_shlN _ 8 (by decide) (by omega)
  have e2 : nI i ||| nI (j * 256) = nI (i ||| (j * 256)) := by
    apply Int32.toBitVec_inj.mp
    rw [Int32.toBitVec_or]
    show BitVec.ofNat 32 i ||| BitVec.ofNat 32 (j * 256) = BitVec.ofNat 32 (i ||| (j * 256))
    rw [BitVec.ofNat_or]
  rw [e, e2]
  exact ⟨_, Nat.or_lt_two_pow (n := 16) (by omega) (by omega), rfl⟩
theorem s_orc (a b : Int32) : a ||| b = b ||| a := by
  apply Int32.toBitVec_inj.mp
  rw [Int32.toBitVec_or, Int32.toBitVec_or, BitVec.or_comm]
theorem s_and255 (x : Int32) : s_b (x &&& 255) := ⟨_, Nat.mod_lt _ (by decide), pk_and x 8 (by decide)⟩
theorem s_and65535 (x : Int32) : s_w (x &&& 65535) := ⟨_, Nat.mod_lt _ (by decide), pk_and x 16 (by decide)⟩
theorem s_b255 {v : Int32} (h : s_b v) : v &&& 255 = v := by
  obtain ⟨j, hj, rfl⟩ := h
  rw [pk_andN (by omega) 8 (by decide), Nat.mod_eq_of_lt (by omega)]
theorem s_w65535 {v : Int32} (h : s_w v) : v &&& 65535 = v := by
  obtain ⟨j, hj, rfl⟩ := h
  rw [pk_andN (by omega) 16 (by decide), Nat.mod_eq_of_lt (by omega)]
/-- a word in memory -/
theorem rm_word {mm : Int32} (hm : wB mm) {gB mem om : Nat → Int32} (h : rm mm gB mem om) {i j : Nat} (hi : i < 70000) (hj : j < 70000) (e : i % 4096 = j % 4096) : f_X5_plainWord_r mm gB (nI i) = f_X1_keptWord_r mem (nI j) ∧ s_w (f_X1_keptWord_r mem (nI j)) := by
  have e1 := rm_kept hm h (show i < 100000 by omega) (show j < 100000 by omega) e
  have e2 := rm_kept hm h (show i + 1 < 100000 by omega) (show j + 1 < 100000 by omega) (by omega)
  unfold f_X5_plainWord_r f_X1_keptWord_r
  rw [nI_1, nI_1, e1, e2, s_orc]
  refine ⟨rfl, ?_⟩
  rw [s_orc]
  exact s_word (rm_keptb h (by omega)) (rm_keptb h (by omega))
/-- the stack -/
theorem sr_push {mm : Int32} (hm : wB mm) {gB mem om gS : Nat → Int32} {fs os v w : Int32} (h : rm mm gB mem om) (hS : ra mm gS fs os) (e : v &&& 255 = w &&& 255) :
    rm mm (f_X5_push_gB mm gB gS w) (f_X1_push_mem fs mem v) om ∧ ra mm (f_X5_push_gS mm gS) (f_X1_push_fs fs) os := by
  obtain ⟨h1, h2, j, hj, rfl⟩ := hS
  unfold f_X5_push_gB f_X1_push_mem f_X5_push_gS f_X1_push_fs
  rw [h1, s_iS hm hj, s_iS' hj, e]
  exact ⟨rm_u hm h (by omega) (s_and255 _), pk_us, (pk_un s_kk).trans h2, s_and255 _⟩
theorem sr_pull {mm : Int32} (hm : wB mm) {gB mem om gS : Nat → Int32} {fs os : Int32} (h : rm mm gB mem om) (hS : ra mm gS fs os) :
    f_X5_pull_r mm gB gS = f_X1_pull_r fs mem ∧ s_b (f_X1_pull_r fs mem) ∧ ra mm (f_X5_pull_gS mm gS) (f_X1_pull_fs fs) os := by
  obtain ⟨h1, h2, hb⟩ := hS
  unfold f_X5_pull_r f_X1_pull_r f_X5_pull_gS f_X1_pull_fs
  rw [h1]
  obtain ⟨j, hj, e⟩ := s_and255 (fs + 1)
  refine ⟨?_, ?_, pk_us, (pk_un s_kk).trans h2, s_and255 _⟩
  · rw [e, s_iS hm hj]
    unfold f_X1_kept_r
    rw [s_iS' hj]
    exact (h _ (by omega)).1
  · rw [e]
    unfold f_X1_kept_r
    rw [s_iS' hj]
    exact (h _ (by omega)).2.2
theorem sr_pushWord {mm : Int32} (hm : wB mm) {gB mem om gS : Nat → Int32} {fs os v w : Int32} (h : rm mm gB mem om) (hS : ra mm gS fs os) (e : v &&& 255 = w &&& 255) (e8 : (v >>> ((8 : Int32) &&& 31)) &&& 255 = (w >>> ((8 : Int32) &&& 31)) &&& 255) :
    rm mm (f_X5_pushWord_gB mm gB gS w) (f_X1_pushWord_mem fs mem v) om ∧ ra mm (f_X5_pushWord_gS mm gS) (f_X1_pushWord_fs fs) os := by
  obtain ⟨a1, a2⟩ := sr_push hm h hS e8
  exact sr_push hm a1 a2 e
theorem sr_pullWord {mm : Int32} (hm : wB mm) {gB mem om gS : Nat → Int32} {fs os : Int32} (h : rm mm gB mem om) (hS : ra mm gS fs os) :
    f_X5_pullWord_r mm gB gS = f_X1_pullWord_r fs mem ∧ s_w (f_X1_pullWord_r fs mem) ∧ ra mm (f_X5_pullWord_gS mm gS) (f_X1_pullWord_fs fs) os := by
  obtain ⟨a1, a2, a3⟩ := sr_pull hm h hS
  obtain ⟨b1, b2, b3⟩ := sr_pull hm h a3
  unfold f_X5_pullWord_r f_X1_pullWord_r
  rw [a1, b1, s_orc]
  refine ⟨rfl, ?_, b3⟩
  rw [s_orc]
  exact s_word a2 b2
/-- rows -/
def s_lim (ug : Int32) (r : Nat) : Nat := if r = 0 then 24 else if r = 2 ∨ r = 6 then (if ug &&& 16 = 0 then 1 else 2) else 1
def rrow (ug : Int32) (lt ct hd la : Nat → Int32) (bt : Nat → Nat → Int32) (gR gM gL : Nat → Int32) (r : Nat) : Prop :=
  ∃ c h : Nat, ct r = nI c ∧ gM r = nI c ∧ hd r = nI h ∧ c ≤ rowlen r ∧ h < rowlen r ∧ lt r = nI (s_lim ug r) ∧ gL r = la r ∧ s_b (la r) ∧ ∀ i, i < c → gR (24 * r + i) = bt r ((h + i) % rowlen r) ∧ s_b (gR (24 * r + i))
def ru (ug : Int32) (lt ct hd la : Nat → Int32) (bt : Nat → Nat → Int32) (gR gM gL : Nat → Int32) : Prop := ∀ r, r < 8 → rrow ug lt ct hd la bt gR gM gL r
/-- flags -/
def rf (un ow ug ud : Int32) : Prop := un = ug ∧ ow = ud ∧ (∃ j : Nat, j < 64 ∧ ug = nI j) ∧ wB ud
theorem rl_24 {r : Nat} : rowlen r ≤ 24 ∧ 0 < rowlen r := by
  unfold rowlen
  split <;> decide
theorem sl_le {ug : Int32} {r : Nat} : s_lim ug r ≤ rowlen r := by
  unfold s_lim
  by_cases h0 : r = 0
  · subst h0; rw [if_pos rfl]; decide
  rw [if_neg h0]
  by_cases h2 : r = 2 ∨ r = 6
  · rw [if_pos h2]
    rcases h2 with rfl | rfl <;> split <;> decide
  · rw [if_neg h2]; exact rl_24.2
section TAKE
variable {ug : Int32} {lt ct hd la : Nat → Int32} {bt : Nat → Nat → Int32} {gR gM gL : Nat → Int32} {r : Nat}
theorem ru_take (h : ru ug lt ct hd la bt gR gM gL) (hr : r < 8) :
    f_X2_take_r (ct r) (hd r) (la r) (bt r) = (if gM r ≤ 0 then gL r else gR (24 * r)) ∧ s_b (f_X2_take_r (ct r) (hd r) (la r) (bt r)) ∧
    ru ug lt (upd ct r (f_X2_take_rc (ct r))) (upd hd r (f_X2_take_rh (ct r) (hd r) (rowlen r))) (upd la r (f_X2_take_rl (ct r) (hd r) (la r) (bt r))) bt
      (if gM r ≤ 0 then gR else shiftR gR r (gM r - 1).toNatClampNeg) (if gM r ≤ 0 then gM else upd gM r (gM r - 1)) (upd gL r (if gM r ≤ 0 then gL r else gR (24 * r))) := by
  obtain ⟨c, q, e1, e2, e3, h4, h5, h6, h7, h8, h9⟩ := h r hr
  have h24 := (rl_24 (r := r)).1
  unfold f_X2_take_r f_X2_take_rc f_X2_take_rh f_X2_take_rl
  rw [e1, e2, e3]
  by_cases c0 : c = 0
  · subst c0
    have z : nI 0 ≤ 0 := by decide
    rw [if_pos z, if_pos z, if_pos z, if_pos z, if_pos z, if_pos z]
    refine ⟨h7.symm, h8, ?_⟩
    intro t ht
    by_cases et : t = r
    · subst et
      exact ⟨0, q, by rw [pk_us], e2, by rw [pk_us], h4, h5, h6, by rw [pk_us, pk_us]; exact h7, by rw [pk_us]; exact h8, fun i hi => absurd hi (by omega)⟩
    · obtain ⟨c', q', f1, f2, f3, k4, k5, k6, k7, k8, k9⟩ := h t ht
      exact ⟨c', q', by rw [pk_un et]; exact f1, f2, by rw [pk_un et]; exact f3, k4, k5, k6, by rw [pk_un et, pk_un et]; exact k7, by rw [pk_un et]; exact k8, k9⟩
  · have z : ¬ nI c ≤ 0 := fun w => by
      have := (nI_leI (a := c) (b := 0) (by omega) (by decide)).mp w
      omega
    rw [if_neg z, if_neg z, if_neg z, if_neg z, if_neg z, if_neg z]
    have b0 := h9 0 (by omega)
    rw [Nat.add_zero, Nat.add_zero, Nat.mod_eq_of_lt h5] at b0
    rw [nI_clamp (by omega), show nI c - 1 = nI (c - 1) from pk_sub (b := 1) (by omega), nI_clamp (by omega)]
    refine ⟨b0.1.symm, b0.1 ▸ b0.2, ?_⟩
    intro t ht
    by_cases et : t = r
    · subst et
      refine ⟨c - 1, (q + 1) % rowlen t, by rw [pk_us], by rw [pk_us], ?_, by omega, Nat.mod_lt _ rl_24.2, h6, by rw [pk_us, pk_us]; exact b0.1, by rw [pk_us]; exact b0.1 ▸ b0.2, ?_⟩
      · rw [pk_us, nI_1]
        by_cases w : rowlen t ≤ q + 1
        · rw [if_pos ((nI_leI (by omega) (by omega)).mpr w), show q + 1 = rowlen t by omega, Nat.mod_self]; exact rfl
        · rw [if_neg (fun z => w ((nI_leI (by omega) (by omega)).mp z)), Nat.mod_eq_of_lt (by omega)]
      · intro i hi
        have hi2 := h9 (i + 1) (by omega)
        have es : shiftR gR t (c - 1) (24 * t + i) = gR (24 * t + (i + 1)) := by
          unfold shiftR
          rw [if_pos (by omega)]; exact rfl
        rw [es]
        refine ⟨?_, hi2.2⟩
        rw [hi2.1, Nat.mod_add_mod, show q + 1 + i = q + (i + 1) by omega]
    · obtain ⟨c', q', f1, f2, f3, k4, k5, k6, k7, k8, k9⟩ := h t ht
      refine ⟨c', q', by rw [pk_un et]; exact f1, by rw [pk_un et]; exact f2, by rw [pk_un et]; exact f3, k4, k5, k6, by rw [pk_un et, pk_un et]; exact k7, by rw [pk_un et]; exact k8, ?_⟩
      intro i hi
      have ht24 := (rl_24 (r := t)).1
      have es : shiftR gR r (c - 1) (24 * t + i) = gR (24 * t + i) := by
        unfold shiftR
        rw [if_neg (by omega)]
      rw [es]
      exact k9 i hi
theorem ru_put (h : ru ug lt ct hd la bt gR gM gL) (hr : r < 8) {v : Int32} (hv : s_b v) {room : Int32} (er : room = nI (s_lim ug r)) :
    ru ug lt (upd ct r (f_X2_put_rc (lt r) (ct r))) hd la (va_up bt r (f_X2_put_rb (lt r) (ct r) (hd r) (rowlen r) (bt r) v))
      (if room ≤ gM r then gR else upd gR (24 * r + (gM r).toNatClampNeg) v) (if room ≤ gM r then gM else upd gM r (gM r + 1)) gL := by
  obtain ⟨c, q, e1, e2, e3, h4, h5, h6, h7, h8, h9⟩ := h r hr
  have h24 := (rl_24 (r := r)).1
  have hl := sl_le (ug := ug) (r := r)
  unfold f_X2_put_rc f_X2_put_rb
  rw [e1, e2, e3, h6, er]
  by_cases w : s_lim ug r ≤ c
  · have z : nI (s_lim ug r) ≤ nI c := (nI_leI (by omega) (by omega)).mpr w
    rw [if_pos z, if_pos z, if_pos z, if_pos z]
    intro t ht
    by_cases et : t = r
    · subst et
      exact ⟨c, q, by rw [pk_us], e2, e3, h4, h5, h6, h7, h8, by
        intro i hi
        have : va_up bt t (bt t) t = bt t := if_pos rfl
        rw [this]
        exact h9 i hi⟩
    · obtain ⟨c', q', f1, f2, f3, k4, k5, k6, k7, k8, k9⟩ := h t ht
      exact ⟨c', q', by rw [pk_un et]; exact f1, f2, f3, k4, k5, k6, k7, k8, by
        intro i hi
        have : va_up bt r (bt r) t = bt t := if_neg et
        rw [this]
        exact k9 i hi⟩
  · have z : ¬ nI (s_lim ug r) ≤ nI c := fun y => w ((nI_leI (by omega) (by omega)).mp y)
    rw [if_neg z, if_neg z, if_neg z, if_neg z, nI_add, nI_1, nI_clamp (n := c) (by omega)]
    have ep : (if nI (rowlen r) ≤ nI (q + c) then upd (bt r) (nI (q + c) - nI (rowlen r)).toNatClampNeg v else upd (bt r) (nI (q + c)).toNatClampNeg v) = upd (bt r) ((q + c) % rowlen r) v := by
      by_cases y : rowlen r ≤ q + c
      · rw [if_pos ((nI_leI (by omega) (by omega)).mpr y), pk_sub y, nI_clamp (by omega), Nat.mod_eq_sub_mod y, Nat.mod_eq_of_lt (by omega)]
      · rw [if_neg (fun x => y ((nI_leI (by omega) (by omega)).mp x)), nI_clamp (by omega), Nat.mod_eq_of_lt (by omega)]
    rw [ep]
    intro t ht
    by_cases et : t = r
    · subst et
      refine ⟨c + 1, q, by rw [pk_us], by rw [pk_us], e3, by omega, h5, h6, h7, h8, ?_⟩
      intro i hi
      have eb : va_up bt t (upd (bt t) ((q + c) % rowlen t) v) t = upd (bt t) ((q + c) % rowlen t) v := if_pos rfl
      rw [eb]
      by_cases ei : i = c
      · subst ei
        rw [pk_us, pk_us]; exact ⟨rfl, hv⟩
      · have ne : (q + i) % rowlen t ≠ (q + c) % rowlen t := by
          have a1 : i < c := by omega
          have a2 : c < rowlen t := by omega
          intro x
          by_cases y1 : rowlen t ≤ q + i
          · rw [Nat.mod_eq_sub_mod y1, Nat.mod_eq_of_lt (show q + i - rowlen t < rowlen t by omega), Nat.mod_eq_sub_mod (show rowlen t ≤ q + c by omega), Nat.mod_eq_of_lt (show q + c - rowlen t < rowlen t by omega)] at x
            omega
          · rw [Nat.mod_eq_of_lt (show q + i < rowlen t by omega)] at x
            by_cases y2 : rowlen t ≤ q + c
            · rw [Nat.mod_eq_sub_mod y2, Nat.mod_eq_of_lt (show q + c - rowlen t < rowlen t by omega)] at x
              omega
            · rw [Nat.mod_eq_of_lt (show q + c < rowlen t by omega)] at x
              omega
        rw [pk_un (by omega), pk_un ne]
        exact h9 i (by omega)
    · obtain ⟨c', q', f1, f2, f3, k4, k5, k6, k7, k8, k9⟩ := h t ht
      have ht24 := (rl_24 (r := t)).1
      refine ⟨c', q', by rw [pk_un et]; exact f1, by rw [pk_un et]; exact f2, f3, k4, k5, k6, k7, k8, ?_⟩
      intro i hi
      have : va_up bt r (upd (bt r) ((q + c) % rowlen r) v) t = bt t := if_neg et
      rw [this, pk_un (by omega)]
      exact k9 i hi
end TAKE
