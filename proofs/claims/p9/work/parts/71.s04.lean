/-! P and its flags. -/
set_option maxRecDepth 100000 in
def s_F (F : Int32) : Prop := F = 1 ∨ F = 2 ∨ F = 4 ∨ F = 8 ∨ F = 64 ∨ F = 128
set_option maxRecDepth 100000 in
theorem s_pin {x : Int32} (h : x.toNatClampNeg < 256 ∧ x = nI x.toNatClampNeg ∧ s_pb x.toNatClampNeg = true) : s_p x := ⟨x.toNatClampNeg, h.1, h.2.1, h.2.2⟩
set_option maxRecDepth 100000 in
theorem sp_or {p F : Int32} (h : s_p p) (hF : s_F F) : s_p (p ||| F) := by
  obtain ⟨j, hj, rfl, hb⟩ := h
  apply s_pin
  rcases hF with rfl | rfl | rfl | rfl | rfl | rfl
  · exact (show ∀ j : Nat, j < 256 → s_pb j = true → (nI j ||| 1).toNatClampNeg < 256 ∧ nI j ||| 1 = nI (nI j ||| 1).toNatClampNeg ∧ s_pb (nI j ||| 1).toNatClampNeg = true by decide +kernel) j hj hb
  · exact (show ∀ j : Nat, j < 256 → s_pb j = true → (nI j ||| 2).toNatClampNeg < 256 ∧ nI j ||| 2 = nI (nI j ||| 2).toNatClampNeg ∧ s_pb (nI j ||| 2).toNatClampNeg = true by decide +kernel) j hj hb
  · exact (show ∀ j : Nat, j < 256 → s_pb j = true → (nI j ||| 4).toNatClampNeg < 256 ∧ nI j ||| 4 = nI (nI j ||| 4).toNatClampNeg ∧ s_pb (nI j ||| 4).toNatClampNeg = true by decide +kernel) j hj hb
  · exact (show ∀ j : Nat, j < 256 → s_pb j = true → (nI j ||| 8).toNatClampNeg < 256 ∧ nI j ||| 8 = nI (nI j ||| 8).toNatClampNeg ∧ s_pb (nI j ||| 8).toNatClampNeg = true by decide +kernel) j hj hb
  · exact (show ∀ j : Nat, j < 256 → s_pb j = true → (nI j ||| 64).toNatClampNeg < 256 ∧ nI j ||| 64 = nI (nI j ||| 64).toNatClampNeg ∧ s_pb (nI j ||| 64).toNatClampNeg = true by decide +kernel) j hj hb
  · exact (show ∀ j : Nat, j < 256 → s_pb j = true → (nI j ||| 128).toNatClampNeg < 256 ∧ nI j ||| 128 = nI (nI j ||| 128).toNatClampNeg ∧ s_pb (nI j ||| 128).toNatClampNeg = true by decide +kernel) j hj hb
set_option maxRecDepth 100000 in
theorem sp_and {p F : Int32} (h : s_p p) (hF : s_F F) : s_p (p &&& (F ^^^ (-1))) := by
  obtain ⟨j, hj, rfl, hb⟩ := h
  apply s_pin
  rcases hF with rfl | rfl | rfl | rfl | rfl | rfl
  · exact (show ∀ j : Nat, j < 256 → s_pb j = true → (nI j &&& (1 ^^^ (-1))).toNatClampNeg < 256 ∧ nI j &&& (1 ^^^ (-1)) = nI (nI j &&& (1 ^^^ (-1))).toNatClampNeg ∧ s_pb (nI j &&& (1 ^^^ (-1))).toNatClampNeg = true by decide +kernel) j hj hb
  · exact (show ∀ j : Nat, j < 256 → s_pb j = true → (nI j &&& (2 ^^^ (-1))).toNatClampNeg < 256 ∧ nI j &&& (2 ^^^ (-1)) = nI (nI j &&& (2 ^^^ (-1))).toNatClampNeg ∧ s_pb (nI j &&& (2 ^^^ (-1))).toNatClampNeg = true by decide +kernel) j hj hb
  · exact (show ∀ j : Nat, j < 256 → s_pb j = true → (nI j &&& (4 ^^^ (-1))).toNatClampNeg < 256 ∧ nI j &&& (4 ^^^ (-1)) = nI (nI j &&& (4 ^^^ (-1))).toNatClampNeg ∧ s_pb (nI j &&& (4 ^^^ (-1))).toNatClampNeg = true by decide +kernel) j hj hb
  · exact (show ∀ j : Nat, j < 256 → s_pb j = true → (nI j &&& (8 ^^^ (-1))).toNatClampNeg < 256 ∧ nI j &&& (8 ^^^ (-1)) = nI (nI j &&& (8 ^^^ (-1))).toNatClampNeg ∧ s_pb (nI j &&& (8 ^^^ (-1))).toNatClampNeg = true by decide +kernel) j hj hb
  · exact (show ∀ j : Nat, j < 256 → s_pb j = true → (nI j &&& (64 ^^^ (-1))).toNatClampNeg < 256 ∧ nI j &&& (64 ^^^ (-1)) = nI (nI j &&& (64 ^^^ (-1))).toNatClampNeg ∧ s_pb (nI j &&& (64 ^^^ (-1))).toNatClampNeg = true by decide +kernel) j hj hb
  · exact (show ∀ j : Nat, j < 256 → s_pb j = true → (nI j &&& (128 ^^^ (-1))).toNatClampNeg < 256 ∧ nI j &&& (128 ^^^ (-1)) = nI (nI j &&& (128 ^^^ (-1))).toNatClampNeg ∧ s_pb (nI j &&& (128 ^^^ (-1))).toNatClampNeg = true by decide +kernel) j hj hb
set_option maxRecDepth 100000 in
theorem sp_set {p F on : Int32} (h : s_p p) (hF : s_F F) : s_p (f_X1_setFlag_fp p F on) := by
  unfold f_X1_setFlag_fp
  split
  · exact sp_and h hF
  · exact sp_or h hF
section PP
variable {mm fp op v : Int32} {gP gA : Nat → Int32}
set_option maxRecDepth 100000 in
theorem rp_set {F on : Int32} (h : rp mm gP fp op) (hF : s_F F) : rp mm (f_X5_set_gP mm gP F on) (f_X1_setFlag_fp fp F on) op := by
  have hs := sp_set (on := on) h.2.2 hF
  unfold f_X5_set_gP
  unfold f_X1_setFlag_fp at hs ⊢
  by_cases c : on = 0
  · rw [if_pos c] at hs ⊢
    rw [if_pos c, h.1]
    exact rp_u h hs
  · rw [if_neg c] at hs ⊢
    rw [if_neg c, h.1]
    exact rp_u h hs
set_option maxRecDepth 100000 in
theorem F1 : s_F 1 := Or.inl rfl
set_option maxRecDepth 100000 in
theorem F2 : s_F 2 := Or.inr (Or.inl rfl)
set_option maxRecDepth 100000 in
theorem F4 : s_F 4 := Or.inr (Or.inr (Or.inl rfl))
set_option maxRecDepth 100000 in
theorem F8 : s_F 8 := Or.inr (Or.inr (Or.inr (Or.inl rfl)))
set_option maxRecDepth 100000 in
theorem F64 : s_F 64 := Or.inr (Or.inr (Or.inr (Or.inr (Or.inl rfl))))
set_option maxRecDepth 100000 in
theorem F128 : s_F 128 := Or.inr (Or.inr (Or.inr (Or.inr (Or.inr rfl))))
set_option maxRecDepth 100000 in
theorem s_n7 : ∀ j : Nat, j < 256 → (nI j ≤ 127 → nI j &&& 128 = 0) ∧ (¬ nI j ≤ 127 → nI j &&& 128 = 128 ∧ ¬ nI j = 0) := by decide +kernel
set_option maxRecDepth 100000 in
theorem s_sh : ∀ j : Nat, j < 256 → (((nI j &&& (-131)) ||| 0) ||| 2) = f_X1_setFlag_fp (f_X1_setFlag_fp (nI j) 128 0) 2 1 ∧ (((nI j &&& (-131)) ||| 0) ||| 0) = f_X1_setFlag_fp (f_X1_setFlag_fp (nI j) 128 0) 2 0 ∧ (((nI j &&& (-131)) ||| 128) ||| 0) = f_X1_setFlag_fp (f_X1_setFlag_fp (nI j) 128 1) 2 0 := by decide +kernel
set_option maxRecDepth 100000 in
theorem rp_seen (h : rp mm gP fp op) (v : Int32) : rp mm (f_X5_seen_gP mm gP v) (f_X1_shown_fp fp (v &&& 255)) op := by
  unfold f_X5_seen_gP f_X1_shown_fp
  obtain ⟨i, hi, e⟩ := s_and255 v
  rw [e]
  obtain ⟨j, hj, hfp⟩ := s_pv h.2.2
  obtain ⟨q1, q2, q3⟩ := s_sh j hj
  by_cases c : nI i ≤ 127
  · rw [if_pos c, (s_n7 i hi).1 c]
    by_cases z : nI i = 0
    · rw [if_pos z, if_pos z, hfp, q1, ← hfp]
      exact rp_set (rp_set h F128) F2
    · rw [if_neg z, if_neg z, hfp, q2, ← hfp]
      exact rp_set (rp_set h F128) F2
  · rw [if_neg c, ((s_n7 i hi).2 c).1]
    have z := ((s_n7 i hi).2 c).2
    rw [if_neg z, if_neg z, hfp, q3, ← hfp]
    exact rp_set (rp_set h F128) F2
set_option maxRecDepth 100000 in
theorem rp_seenb (h : rp mm gP fp op) (hv : s_b v) : rp mm (f_X5_seen_gP mm gP v) (f_X1_shown_fp fp v) op := by
  have := rp_seen h v
  rw [s_b255 hv] at this
  exact this
set_option maxRecDepth 100000 in
theorem ra_m {g : Nat → Int32} {a o : Int32} (h : ra mm g a o) (v : Int32) : ra mm (upd g mm.toNatClampNeg (f_X5_seen_r v)) (f_X1_shown_r (v &&& 255)) o := ra_u h (s_and255 v)
set_option maxRecDepth 100000 in
theorem ra_s {g : Nat → Int32} {a o : Int32} (h : ra mm g a o) (hv : s_b v) : ra mm (upd g mm.toNatClampNeg (f_X5_seen_r v)) (f_X1_shown_r v) o := by
  have := ra_m h v
  rw [s_b255 hv] at this
  exact this
set_option maxRecDepth 100000 in
theorem s_c1 (h : s_p fp) : (fp &&& 1 = 0 ∨ fp &&& 1 = 1) := by
  obtain ⟨j, hj, e⟩ := s_pv h
  rw [e]
  exact (show ∀ j : Nat, j < 256 → (nI j &&& 1 = 0 ∨ nI j &&& 1 = 1) by decide +kernel) j hj
set_option maxRecDepth 100000 in
theorem s_cv : ∀ j : Nat, j < 256 → ∀ x : Nat, x < 2 → ∀ y : Nat, y < 2 → f_X1_setFlag_fp (f_X1_setFlag_fp (nI j) 1 (nI x)) 64 (nI y) = f_X1_setFlag_fp (f_X1_setFlag_fp (nI j) 64 (nI y)) 1 (nI x) := by decide +kernel
set_option maxRecDepth 100000 in
theorem s_cv' (h : s_p fp) (x y : Nat) (hx : x < 2) (hy : y < 2) : f_X1_setFlag_fp (f_X1_setFlag_fp fp 1 (nI x)) 64 (nI y) = f_X1_setFlag_fp (f_X1_setFlag_fp fp 64 (nI y)) 1 (nI x) := by
  obtain ⟨j, hj, e⟩ := s_pv h
  rw [e]
  exact s_cv j hj x hx y hy
set_option maxRecDepth 100000 in
theorem sr_add {fa oa : Int32} (hA : ra mm gA fa oa) (h : rp mm gP fp op) (v : Int32) : ra mm (f_X5_add_gA mm gA gP v) (f_X1_add_fa fa fp v) oa ∧ rp mm (f_X5_add_gP mm gA gP v) (f_X1_add_fp fa fp v) op := by
  have key : ∀ x y : Nat, x < 2 → y < 2 → ∀ s : Int32, rp mm (f_X5_seen_gP mm (f_X5_set_gP mm (f_X5_set_gP mm gP 64 (nI y)) 1 (nI x)) s) (f_X1_shown_fp (f_X1_setFlag_fp (f_X1_setFlag_fp fp 1 (nI x)) 64 (nI y)) (s &&& 255)) op := by
    intro x y hx hy s
    rw [s_cv' h.2.2 x y hx hy]
    exact rp_seen (rp_set (rp_set h F64) F1) s
  unfold f_X5_add_gA f_X1_add_fa f_X5_add_gP f_X1_add_fp f_X5_has_r
  rw [hA.1, h.1]
  rcases s_c1 h.2.2 with c | c
  · rw [if_pos c, if_pos (show (0 : Int32) = 0 from rfl), c, if_pos (show (0 : Int32) = 0 from rfl)]
    refine ⟨ra_m hA _, ?_⟩
    generalize fa + v + 0 = s
    by_cases c1 : s ≤ 255 <;> by_cases c2 : (fa ^^^ s) &&& (v ^^^ s) &&& 128 = 0
    · simp only [c1, c2, if_true, if_false]; exact key 0 0 (by decide) (by decide) s
    · simp only [c1, c2, if_true, if_false]; exact key 0 1 (by decide) (by decide) s
    · simp only [c1, c2, if_true, if_false]; exact key 1 0 (by decide) (by decide) s
    · simp only [c1, c2, if_true, if_false]; exact key 1 1 (by decide) (by decide) s
  · have c0 : ¬ fp &&& 1 = 0 := by rw [c]; decide
    rw [if_neg c0, if_neg (show ¬ (1 : Int32) = 0 by decide), c, if_neg (show ¬ (1 : Int32) = 0 by decide)]
    refine ⟨ra_m hA _, ?_⟩
    generalize fa + v + 1 = s
    by_cases c1 : s ≤ 255 <;> by_cases c2 : (fa ^^^ s) &&& (v ^^^ s) &&& 128 = 0
    · simp only [c1, c2, if_true, if_false]; exact key 0 0 (by decide) (by decide) s
    · simp only [c1, c2, if_true, if_false]; exact key 0 1 (by decide) (by decide) s
    · simp only [c1, c2, if_true, if_false]; exact key 1 0 (by decide) (by decide) s
    · simp only [c1, c2, if_true, if_false]; exact key 1 1 (by decide) (by decide) s
set_option maxRecDepth 100000 in
theorem sr_cmp (h : rp mm gP fp op) (a v : Int32) : rp mm (f_X5_compare_gP mm gP a v) (f_X1_compare_fp fp a v) op := by
  unfold f_X5_compare_gP f_X1_compare_fp
  by_cases c : a < v
  · rw [if_pos c, if_pos c]; exact rp_seen (rp_set h F1) _
  · rw [if_neg c, if_neg c]; exact rp_seen (rp_set h F1) _
set_option maxRecDepth 100000 in
theorem s_odd2 : ∀ j : Nat, j < 256 → (nI j &&& 1 = 0 ∧ ¬ nI j - nI j / 2 * 2 = 1) ∨ (¬ nI j &&& 1 = 0 ∧ nI j - nI j / 2 * 2 = 1) := by decide +kernel
set_option maxRecDepth 100000 in
theorem s_lsr : ∀ j : Nat, j < 256 → ((nI j >>> ((1 : Int32) &&& 31)) ||| 0) &&& 255 = nI j >>> ((1 : Int32) &&& 31) ∧ ((nI j >>> ((1 : Int32) &&& 31)) ||| 0) &&& 255 = (nI j >>> ((1 : Int32) &&& 31)) ||| ((0 : Int32) <<< ((7 : Int32) &&& 31)) ∧ ((nI j >>> ((1 : Int32) &&& 31)) ||| 128) &&& 255 = (nI j >>> ((1 : Int32) &&& 31)) ||| ((1 : Int32) <<< ((7 : Int32) &&& 31)) := by decide +kernel
set_option maxRecDepth 100000 in
theorem s_or0 (x : Int32) : x ||| 0 = x := by rw [s_orc, s_0or]
set_option maxRecDepth 100000 in
/-- a byte changed -/
def s_ch (q k : Int32) : Prop := (q = 0 ∧ k = 48) ∨ (q = 1 ∧ k = 49) ∨ (q = 2 ∧ k = 50) ∨ (q = 3 ∧ k = 51) ∨ (q = 6 ∧ k = 52) ∨ (q = 7 ∧ k = 53)
set_option maxRecDepth 100000 in
theorem sr_changed {q k : Int32} (hq : s_ch q k) (h : rp mm gP fp op) (hv : s_b v) :
    f_X5_changed_r mm gP q v = f_X1_changed_r fp k v ∧ s_b (f_X1_changed_r fp k v) ∧ rp mm (f_X5_changed_gP mm gP q v) (f_X1_shown_fp (f_X1_changed_fp fp k v) (f_X1_changed_r fp k v)) op := by
  suffices hs : ∃ s : Int32, f_X5_changed_r mm gP q v = s &&& 255 ∧ f_X1_changed_r fp k v = s &&& 255 ∧ rp mm (f_X5_changed_gP mm gP q v) (f_X1_shown_fp (f_X1_changed_fp fp k v) (s &&& 255)) op by
    obtain ⟨s, e1, e2, e3⟩ := hs
    rw [e1, e2]
    exact ⟨rfl, s_and255 s, e3⟩
  have n10 : ¬ (1 : Int32) = 0 := by decide
  have n20 : ¬ (2 : Int32) = 0 := by decide
  have n21 : ¬ (2 : Int32) = 1 := by decide
  have n23 : ¬ (2 : Int32) = 3 := by decide
  have n30 : ¬ (3 : Int32) = 0 := by decide
  have n31 : ¬ (3 : Int32) = 1 := by decide
  have n32 : ¬ (3 : Int32) = 2 := by decide
  have n01 : ¬ (0 : Int32) = 1 := by decide
  have n60 : ¬ (6 : Int32) = 0 := by decide
  have n61 : ¬ (6 : Int32) = 1 := by decide
  have n62 : ¬ (6 : Int32) = 2 := by decide
  have n63 : ¬ (6 : Int32) = 3 := by decide
  have n70 : ¬ (7 : Int32) = 0 := by decide
  have n71 : ¬ (7 : Int32) = 1 := by decide
  have n72 : ¬ (7 : Int32) = 2 := by decide
  have n73 : ¬ (7 : Int32) = 3 := by decide
  have n76 : ¬ (7 : Int32) = 6 := by decide
  have k98 : ¬ (49 : Int32) = 48 := by decide
  have k08 : ¬ (50 : Int32) = 48 := by decide
  have k09 : ¬ (50 : Int32) = 49 := by decide
  have k18 : ¬ (51 : Int32) = 48 := by decide
  have k19 : ¬ (51 : Int32) = 49 := by decide
  have k10 : ¬ (51 : Int32) = 50 := by decide
  have k28 : ¬ (52 : Int32) = 48 := by decide
  have k29 : ¬ (52 : Int32) = 49 := by decide
  have k20 : ¬ (52 : Int32) = 50 := by decide
  have k21 : ¬ (52 : Int32) = 51 := by decide
  have k38 : ¬ (53 : Int32) = 48 := by decide
  have k39 : ¬ (53 : Int32) = 49 := by decide
  have k30 : ¬ (53 : Int32) = 50 := by decide
  have k31 : ¬ (53 : Int32) = 51 := by decide
  have k32 : ¬ (53 : Int32) = 52 := by decide
  have hs1 : ∀ on s : Int32, rp mm (f_X5_seen_gP mm (f_X5_set_gP mm gP 1 on) s) (f_X1_shown_fp (f_X1_setFlag_fp fp 1 on) (s &&& 255)) op := fun on s => rp_seen (rp_set h F1) s
  have hs0 : ∀ s : Int32, rp mm (f_X5_seen_gP mm gP s) (f_X1_shown_fp fp (s &&& 255)) op := fun s => rp_seen h s
  obtain ⟨j, hj, rfl⟩ := hv
  obtain ⟨l1, l2, l3⟩ := s_lsr j hj
  unfold f_X5_changed_r f_X1_changed_r f_X5_changed_gP f_X1_changed_fp f_X5_seen_r f_X5_has_r
  rw [h.1]
  rcases hq with ⟨rfl, rfl⟩ | ⟨rfl, rfl⟩ | ⟨rfl, rfl⟩ | ⟨rfl, rfl⟩ | ⟨rfl, rfl⟩ | ⟨rfl, rfl⟩
  · refine ⟨(nI j <<< ((1 : Int32) &&& 31)), ?_⟩
    rcases s_c1 h.2.2 with c | c <;> simp only [c, n10, n01, if_true, if_false, s_or0] <;> by_cases z : nI j ≤ 127 <;> simp only [z, if_true, if_false] <;> exact ⟨trivial, trivial, hs1 _ _⟩
  · rcases s_c1 h.2.2 with c | c
    · refine ⟨(nI j <<< ((1 : Int32) &&& 31)) ||| 0, ?_⟩
      simp only [c, n10, k98, if_true, if_false]
      by_cases z : nI j ≤ 127 <;> simp only [z, if_true, if_false] <;> exact ⟨trivial, trivial, hs1 _ _⟩
    · refine ⟨(nI j <<< ((1 : Int32) &&& 31)) ||| 1, ?_⟩
      simp only [c, n10, k98, if_true, if_false]
      by_cases z : nI j ≤ 127 <;> simp only [z, if_true, if_false] <;> exact ⟨trivial, trivial, hs1 _ _⟩
  · refine ⟨(nI j >>> ((1 : Int32) &&& 31)) ||| 0, ?_⟩
    rcases s_c1 h.2.2 with c | c <;> simp only [c, n10, n20, n21, n23, k08, k09, if_true, if_false] <;> rcases s_odd2 j hj with ⟨z1, z2⟩ | ⟨z1, z2⟩ <;> simp only [z1, z2, if_true, if_false] <;> exact ⟨trivial, l1.symm, hs1 _ _⟩
  · rcases s_c1 h.2.2 with c | c
    · refine ⟨(nI j >>> ((1 : Int32) &&& 31)) ||| 0, ?_⟩
      simp only [c, n10, n30, n31, n32, k18, k19, k10, if_true, if_false]
      rcases s_odd2 j hj with ⟨z1, z2⟩ | ⟨z1, z2⟩ <;> simp only [z1, z2, if_true, if_false] <;> exact ⟨trivial, l2.symm, hs1 _ _⟩
    · refine ⟨(nI j >>> ((1 : Int32) &&& 31)) ||| 128, ?_⟩
      simp only [c, n10, n30, n31, n32, k18, k19, k10, if_true, if_false]
      rcases s_odd2 j hj with ⟨z1, z2⟩ | ⟨z1, z2⟩ <;> simp only [z1, z2, if_true, if_false] <;> exact ⟨trivial, l3.symm, hs1 _ _⟩
  · refine ⟨nI j - 1, ?_⟩
    rcases s_c1 h.2.2 with c | c <;> simp only [c, n10, n60, n61, n62, n63, k28, k29, k20, k21, if_true, if_false] <;> exact ⟨trivial, trivial, hs0 _⟩
  · refine ⟨nI j + 1, ?_⟩
    rcases s_c1 h.2.2 with c | c <;> simp only [c, n10, n70, n71, n72, n73, n76, k38, k39, k30, k31, k32, if_true, if_false] <;> exact ⟨trivial, trivial, hs0 _⟩
end PP
