/-! Ports: reading and writing. -/
set_option maxRecDepth 100000 in
def s_m (mm fo : Int32) : Prop := (mm = 0 ∧ fo = 65248) ∨ (mm = 1 ∧ fo = 65272)
set_option maxRecDepth 100000 in
theorem s_mB {mm fo : Int32} (h : s_m mm fo) : wB mm := h.elim (fun x => Or.inl x.1) (fun x => Or.inr x.1)
set_option maxRecDepth 100000 in
theorem s_port {mm fo p : Int32} (h : s_m mm fo) (hp : s_w p) : (f_X5_portOf_r mm p = -1 ∧ (p - fo < 0 ∨ (¬ p - fo < 0 ∧ ¬ p - fo < 8))) ∨ ∃ k : Nat, k < 8 ∧ f_X5_portOf_r mm p = nI k ∧ p - fo = nI k := by
  obtain ⟨j, hj, rfl⟩ := hp
  have key : ∀ b : Nat, b < 65536 → (nI j - nI b < 0) ∨ (¬ nI j - nI b < 0 ∧ ¬ nI j - nI b < 8 ∧ 8 ≤ nI j - nI b) ∨ (∃ k : Nat, k < 8 ∧ nI j - nI b = nI k) := by
    intro b hb
    by_cases c : j < b
    · exact Or.inl (pk_sneg (by omega) c)
    · rw [pk_sub (by omega)]
      by_cases c8 : j - b < 8
      · exact Or.inr (Or.inr ⟨_, c8, rfl⟩)
      · exact Or.inr (Or.inl ⟨nI_pos (by omega), fun x => c8 ((nI_ltI (b := 8) (by omega) (by decide)).mp x), (nI_leI (a := 8) (by decide) (by omega)).mpr (by omega)⟩)
  have neg1 : ∀ k : Nat, k < 8 → ¬ nI k < 0 ∧ ¬ (8 : Int32) ≤ nI k := by decide
  unfold f_X5_portOf_r
  rcases h with ⟨rfl, rfl⟩ | ⟨rfl, rfl⟩
  · rw [if_pos rfl]
    rcases key 65248 (by decide) with a | ⟨a, b, c⟩ | ⟨k, hk, e⟩
    · exact Or.inl ⟨if_pos a, Or.inl a⟩
    · exact Or.inl ⟨(if_neg a).trans (if_pos c), Or.inr ⟨a, b⟩⟩
    · exact Or.inr ⟨k, hk, by rw [show (nI j - 65248) = nI k from e, if_neg (neg1 k hk).1, if_neg (neg1 k hk).2], e⟩
  · rw [if_neg (by decide)]
    rcases key 65272 (by decide) with a | ⟨a, b, c⟩ | ⟨k, hk, e⟩
    · exact Or.inl ⟨if_pos a, Or.inl a⟩
    · exact Or.inl ⟨(if_neg a).trans (if_pos c), Or.inr ⟨a, b⟩⟩
    · exact Or.inr ⟨k, hk, by rw [show (nI j - 65272) = nI k from e, if_neg (neg1 k hk).1, if_neg (neg1 k hk).2], e⟩
set_option maxRecDepth 100000 in
theorem s_8 {k : Nat} (h : k < 8) : k = 0 ∨ k = 1 ∨ k = 2 ∨ k = 3 ∨ k = 4 ∨ k = 5 ∨ k = 6 ∨ k = 7 := by omega
set_option maxRecDepth 100000 in
theorem s_fl {ug : Int32} (h : ∃ j : Nat, j < 64 ∧ ug = nI j) : ((0 ||| ug = 0 + ug) ∧ (64 ||| ug = 64 + ug) ∧ (128 ||| ug = 128 + ug) ∧ (192 ||| ug = 192 + ug)) ∧ s_b (0 + ug) ∧ s_b (64 + ug) ∧ s_b (128 + ug) ∧ s_b (192 + ug) := by
  obtain ⟨j, hj, rfl⟩ := h
  refine ⟨?_, ⟨j, by omega, ?_⟩, ⟨64 + j, by omega, ?_⟩, ⟨128 + j, by omega, ?_⟩, ⟨192 + j, by omega, ?_⟩⟩
  · exact (show ∀ j : Nat, j < 64 → ((0 ||| nI j = 0 + nI j) ∧ (64 ||| nI j = 64 + nI j) ∧ (128 ||| nI j = 128 + nI j) ∧ (192 ||| nI j = 192 + nI j)) by decide +kernel) j hj
  · rw [show (0 : Int32) = nI 0 from rfl, nI_add, Nat.zero_add]
  · exact nI_add 64 j
  · exact nI_add 128 j
  · exact nI_add 192 j
set_option maxRecDepth 100000 in
theorem s_room {mm fo ug : Int32} (h : s_m mm fo) {q : Nat} (hq : q < 4) : f_X5_room_r ug (1 - mm) (nI q) = nI (s_lim ug (4 * (1 - mm.toNatClampNeg) + q)) := by
  rcases h with ⟨rfl, rfl⟩ | ⟨rfl, rfl⟩ <;> rcases (show q = 0 ∨ q = 1 ∨ q = 2 ∨ q = 3 by omega) with rfl | rfl | rfl | rfl
  · exact rfl
  · exact rfl
  · show (if (ug &&& 16) = 0 then (1 : Int32) else 2) = nI (if ug &&& 16 = 0 then 1 else 2)
    split <;> exact rfl
  · exact rfl
  · exact rfl
  · exact rfl
  · show (if (ug &&& 16) = 0 then (1 : Int32) else 2) = nI (if ug &&& 16 = 0 then 1 else 2)
    split <;> exact rfl
  · exact rfl
section ST
variable {ug : Int32} {lt ct hd la : Nat → Int32} {bt : Nat → Nat → Int32} {gR gM gL : Nat → Int32} {r r' : Nat}
set_option maxRecDepth 100000 in
theorem ru_c (h : ru ug lt ct hd la bt gR gM gL) (hr : r < 8) : gM r = ct r ∧ lt r = nI (s_lim ug r) ∧ gL r = la r ∧ s_b (la r) := by
  obtain ⟨c, q, e1, e2, e3, h4, h5, h6, h7, h8, h9⟩ := h r hr
  exact ⟨e2.trans e1.symm, h6, h7, h8⟩
set_option maxRecDepth 100000 in
theorem ru_status (h : ru ug lt ct hd la bt gR gM gL) (hf : ∃ j : Nat, j < 64 ∧ ug = nI j) (hr : r < 8) (hr' : r' < 8) {room : Int32} (er : room = nI (s_lim ug r')) (z : Prop) [Decidable z] :
    (if ct r ≤ 0 then (if lt r' ≤ ct r' then (if z then (0 ||| ug) else 63) else (if z then (64 ||| ug) else 127)) else (if lt r' ≤ ct r' then (if z then (128 ||| ug) else 191) else (if z then (192 ||| ug) else 255)))
      = (if room ≤ gM r' then (if gM r ≤ 0 then (if z then (0 + ug) else 63) else (if z then (128 + ug) else 191)) else (if gM r ≤ 0 then (if z then (64 + ug) else 127) else (if z then (192 + ug) else 255)))
    ∧ s_b (if ct r ≤ 0 then (if lt r' ≤ ct r' then (if z then (0 ||| ug) else 63) else (if z then (64 ||| ug) else 127)) else (if lt r' ≤ ct r' then (if z then (128 ||| ug) else 191) else (if z then (192 ||| ug) else 255))) := by
  obtain ⟨a1, -⟩ := ru_c h hr
  obtain ⟨b1, b2, -⟩ := ru_c h hr'
  obtain ⟨⟨f1, f2, f3, f4⟩, g1, g2, g3, g4⟩ := s_fl hf
  rw [a1, b1, er, ← b2, f1, f2, f3, f4]
  have n1 : s_b 63 := ⟨63, by decide, rfl⟩
  have n2 : s_b 127 := ⟨127, by decide, rfl⟩
  have n3 : s_b 191 := ⟨191, by decide, rfl⟩
  have n4 : s_b 255 := ⟨255, by decide, rfl⟩
  by_cases c1 : ct r ≤ 0 <;> by_cases c2 : lt r' ≤ ct r' <;> by_cases c3 : z <;> simp only [c1, c2, c3, if_true, if_false] <;> exact ⟨trivial, by assumption⟩
end ST
set_option maxRecDepth 100000 in
theorem s_r8 : ∀ k : Nat, k < 8 → ¬ nI k < 0 ∧ nI k < 8 ∧ ¬ nI k = -1 := by decide
set_option maxRecDepth 100000 in
/-- the numbers of a port's row, for machine and place -/
def s_row (mm : Int32) (k : Nat) : Nat := 4 * mm.toNatClampNeg + k / 2
set_option maxRecDepth 100000 in
theorem s_tab0 : ∀ k : Nat, k < 8 → (((0 : Int32) &&& 1) * 4) + ((nI k >>> ((1 : Int32) &&& 31)) &&& 3) = nI (k / 2) ∧ ((((1 : Int32) - 0) &&& 1) * 4) + ((nI k >>> ((1 : Int32) &&& 31)) &&& 3) = nI (4 + k / 2) ∧ ((4 * (0 : Int32)) + (nI k / 2)).toNatClampNeg = k / 2 ∧ ((4 * ((1 : Int32) - 0)) + (nI k / 2)).toNatClampNeg = 4 + k / 2 ∧ (24 * ((4 * (0 : Int32)) + (nI k / 2))).toNatClampNeg = 24 * (k / 2) ∧ (24 * ((4 * ((1 : Int32) - 0)) + (nI k / 2))) = nI (24 * (4 + k / 2)) := by decide +kernel
set_option maxRecDepth 100000 in
theorem s_tab1 : ∀ k : Nat, k < 8 → (((1 : Int32) &&& 1) * 4) + ((nI k >>> ((1 : Int32) &&& 31)) &&& 3) = nI (4 + k / 2) ∧ ((((1 : Int32) - 1) &&& 1) * 4) + ((nI k >>> ((1 : Int32) &&& 31)) &&& 3) = nI (k / 2) ∧ ((4 * (1 : Int32)) + (nI k / 2)).toNatClampNeg = 4 + k / 2 ∧ ((4 * ((1 : Int32) - 1)) + (nI k / 2)).toNatClampNeg = k / 2 ∧ (24 * ((4 * (1 : Int32)) + (nI k / 2))).toNatClampNeg = 24 * (4 + k / 2) ∧ (24 * ((4 * ((1 : Int32) - 1)) + (nI k / 2))) = nI (24 * (k / 2)) := by decide +kernel
set_option maxRecDepth 100000 in
theorem s_tabk : ∀ k : Nat, k < 8 → (nI k >>> ((1 : Int32) &&& 31)) = nI (k / 2) ∧ nI k / 2 = nI (k / 2) ∧ nI k - nI k / 2 * 2 = nI (k % 2) ∧ nI k &&& 1 = nI (k % 2) := by decide +kernel
set_option maxRecDepth 100000 in
/-- all that is wanted of machine and place -/
theorem s_tab {mm fo : Int32} (h : s_m mm fo) {k : Nat} (hk : k < 8) : ∃ r r' : Nat, r < 8 ∧ r' < 8 ∧ ((mm &&& 1) * 4) + ((nI k >>> ((1 : Int32) &&& 31)) &&& 3) = nI r ∧ (((1 - mm) &&& 1) * 4) + ((nI k >>> ((1 : Int32) &&& 31)) &&& 3) = nI r' ∧ ((4 * mm) + (nI k / 2)).toNatClampNeg = r ∧ ((4 * (1 - mm)) + (nI k / 2)).toNatClampNeg = r' ∧ (24 * ((4 * mm) + (nI k / 2))).toNatClampNeg = 24 * r ∧ (24 * ((4 * (1 - mm)) + (nI k / 2))) = nI (24 * r') ∧ r' = 4 * (1 - mm.toNatClampNeg) + k / 2 ∧ (r' = r + 4 ∨ r = r' + 4) := by
  rcases h with ⟨rfl, rfl⟩ | ⟨rfl, rfl⟩
  · obtain ⟨a, b, c, d, e, f⟩ := s_tab0 k hk
    exact ⟨k / 2, 4 + k / 2, by omega, by omega, a, b, c, d, e, f, rfl, by omega⟩
  · obtain ⟨a, b, c, d, e, f⟩ := s_tab1 k hk
    exact ⟨4 + k / 2, k / 2, by omega, by omega, a, b, c, d, e, f, (by show k / 2 = 4 * 0 + k / 2; omega), by omega⟩
section RW
variable {mm fo p ug : Int32} {mem om gB lt ct hd la : Nat → Int32} {bt : Nat → Nat → Int32} {gR gM gL : Nat → Int32} {k r r' : Nat}
set_option maxRecDepth 100000 in
theorem cl_ct (e : p - fo = nI k) (hk : k < 8) (ho : ¬ nI k &&& 1 = 0) (er : ((mm &&& 1) * 4) + ((nI k >>> ((1 : Int32) &&& 31)) &&& 3) = nI r) (hr : r < 8) : f_X1_read_ct mm fo ct p = upd ct r (f_X2_take_rc (ct r)) := by
  unfold f_X1_read_ct
  rw [e, if_neg (s_r8 k hk).1, if_pos (s_r8 k hk).2.1, if_neg ho, er]
  rcases s_8 hr with rfl | rfl | rfl | rfl | rfl | rfl | rfl | rfl
  · rw [if_pos (show nI 0 = 0 by decide)]; all_goals rfl
  · rw [if_neg (show ¬ nI 1 = 0 by decide), if_pos (show nI 1 = 1 by decide)]; all_goals rfl
  · rw [if_neg (show ¬ nI 2 = 0 by decide), if_neg (show ¬ nI 2 = 1 by decide), if_pos (show nI 2 = 2 by decide)]; all_goals rfl
  · rw [if_neg (show ¬ nI 3 = 0 by decide), if_neg (show ¬ nI 3 = 1 by decide), if_neg (show ¬ nI 3 = 2 by decide), if_pos (show nI 3 = 3 by decide)]; all_goals rfl
  · rw [if_neg (show ¬ nI 4 = 0 by decide), if_neg (show ¬ nI 4 = 1 by decide), if_neg (show ¬ nI 4 = 2 by decide), if_neg (show ¬ nI 4 = 3 by decide), if_pos (show nI 4 = 4 by decide)]; all_goals rfl
  · rw [if_neg (show ¬ nI 5 = 0 by decide), if_neg (show ¬ nI 5 = 1 by decide), if_neg (show ¬ nI 5 = 2 by decide), if_neg (show ¬ nI 5 = 3 by decide), if_neg (show ¬ nI 5 = 4 by decide), if_pos (show nI 5 = 5 by decide)]; all_goals rfl
  · rw [if_neg (show ¬ nI 6 = 0 by decide), if_neg (show ¬ nI 6 = 1 by decide), if_neg (show ¬ nI 6 = 2 by decide), if_neg (show ¬ nI 6 = 3 by decide), if_neg (show ¬ nI 6 = 4 by decide), if_neg (show ¬ nI 6 = 5 by decide), if_pos (show nI 6 = 6 by decide)]; all_goals rfl
  · rw [if_neg (show ¬ nI 7 = 0 by decide), if_neg (show ¬ nI 7 = 1 by decide), if_neg (show ¬ nI 7 = 2 by decide), if_neg (show ¬ nI 7 = 3 by decide), if_neg (show ¬ nI 7 = 4 by decide), if_neg (show ¬ nI 7 = 5 by decide), if_neg (show ¬ nI 7 = 6 by decide)]; all_goals rfl
set_option maxRecDepth 100000 in
theorem cl_hd (e : p - fo = nI k) (hk : k < 8) (ho : ¬ nI k &&& 1 = 0) (er : ((mm &&& 1) * 4) + ((nI k >>> ((1 : Int32) &&& 31)) &&& 3) = nI r) (hr : r < 8) : f_X1_read_hd mm fo ct hd p = upd hd r (f_X2_take_rh (ct r) (hd r) (rowlen r)) := by
  unfold f_X1_read_hd
  rw [e, if_neg (s_r8 k hk).1, if_pos (s_r8 k hk).2.1, if_neg ho, er]
  rcases s_8 hr with rfl | rfl | rfl | rfl | rfl | rfl | rfl | rfl
  · rw [if_pos (show nI 0 = 0 by decide)]; all_goals rfl
  · rw [if_neg (show ¬ nI 1 = 0 by decide), if_pos (show nI 1 = 1 by decide)]; all_goals rfl
  · rw [if_neg (show ¬ nI 2 = 0 by decide), if_neg (show ¬ nI 2 = 1 by decide), if_pos (show nI 2 = 2 by decide)]; all_goals rfl
  · rw [if_neg (show ¬ nI 3 = 0 by decide), if_neg (show ¬ nI 3 = 1 by decide), if_neg (show ¬ nI 3 = 2 by decide), if_pos (show nI 3 = 3 by decide)]; all_goals rfl
  · rw [if_neg (show ¬ nI 4 = 0 by decide), if_neg (show ¬ nI 4 = 1 by decide), if_neg (show ¬ nI 4 = 2 by decide), if_neg (show ¬ nI 4 = 3 by decide), if_pos (show nI 4 = 4 by decide)]; all_goals rfl
  · rw [if_neg (show ¬ nI 5 = 0 by decide), if_neg (show ¬ nI 5 = 1 by decide), if_neg (show ¬ nI 5 = 2 by decide), if_neg (show ¬ nI 5 = 3 by decide), if_neg (show ¬ nI 5 = 4 by decide), if_pos (show nI 5 = 5 by decide)]; all_goals rfl
  · rw [if_neg (show ¬ nI 6 = 0 by decide), if_neg (show ¬ nI 6 = 1 by decide), if_neg (show ¬ nI 6 = 2 by decide), if_neg (show ¬ nI 6 = 3 by decide), if_neg (show ¬ nI 6 = 4 by decide), if_neg (show ¬ nI 6 = 5 by decide), if_pos (show nI 6 = 6 by decide)]; all_goals rfl
  · rw [if_neg (show ¬ nI 7 = 0 by decide), if_neg (show ¬ nI 7 = 1 by decide), if_neg (show ¬ nI 7 = 2 by decide), if_neg (show ¬ nI 7 = 3 by decide), if_neg (show ¬ nI 7 = 4 by decide), if_neg (show ¬ nI 7 = 5 by decide), if_neg (show ¬ nI 7 = 6 by decide)]; all_goals rfl
set_option maxRecDepth 100000 in
theorem cl_la (e : p - fo = nI k) (hk : k < 8) (ho : ¬ nI k &&& 1 = 0) (er : ((mm &&& 1) * 4) + ((nI k >>> ((1 : Int32) &&& 31)) &&& 3) = nI r) (hr : r < 8) : f_X1_read_la mm fo ct hd la bt p = upd la r (f_X2_take_rl (ct r) (hd r) (la r) (bt r)) := by
  unfold f_X1_read_la
  rw [e, if_neg (s_r8 k hk).1, if_pos (s_r8 k hk).2.1, if_neg ho, er]
  rcases s_8 hr with rfl | rfl | rfl | rfl | rfl | rfl | rfl | rfl
  · rw [if_pos (show nI 0 = 0 by decide)]; all_goals rfl
  · rw [if_neg (show ¬ nI 1 = 0 by decide), if_pos (show nI 1 = 1 by decide)]; all_goals rfl
  · rw [if_neg (show ¬ nI 2 = 0 by decide), if_neg (show ¬ nI 2 = 1 by decide), if_pos (show nI 2 = 2 by decide)]; all_goals rfl
  · rw [if_neg (show ¬ nI 3 = 0 by decide), if_neg (show ¬ nI 3 = 1 by decide), if_neg (show ¬ nI 3 = 2 by decide), if_pos (show nI 3 = 3 by decide)]; all_goals rfl
  · rw [if_neg (show ¬ nI 4 = 0 by decide), if_neg (show ¬ nI 4 = 1 by decide), if_neg (show ¬ nI 4 = 2 by decide), if_neg (show ¬ nI 4 = 3 by decide), if_pos (show nI 4 = 4 by decide)]; all_goals rfl
  · rw [if_neg (show ¬ nI 5 = 0 by decide), if_neg (show ¬ nI 5 = 1 by decide), if_neg (show ¬ nI 5 = 2 by decide), if_neg (show ¬ nI 5 = 3 by decide), if_neg (show ¬ nI 5 = 4 by decide), if_pos (show nI 5 = 5 by decide)]; all_goals rfl
  · rw [if_neg (show ¬ nI 6 = 0 by decide), if_neg (show ¬ nI 6 = 1 by decide), if_neg (show ¬ nI 6 = 2 by decide), if_neg (show ¬ nI 6 = 3 by decide), if_neg (show ¬ nI 6 = 4 by decide), if_neg (show ¬ nI 6 = 5 by decide), if_pos (show nI 6 = 6 by decide)]; all_goals rfl
  · rw [if_neg (show ¬ nI 7 = 0 by decide), if_neg (show ¬ nI 7 = 1 by decide), if_neg (show ¬ nI 7 = 2 by decide), if_neg (show ¬ nI 7 = 3 by decide), if_neg (show ¬ nI 7 = 4 by decide), if_neg (show ¬ nI 7 = 5 by decide), if_neg (show ¬ nI 7 = 6 by decide)]; all_goals rfl
set_option maxRecDepth 100000 in
theorem cl_r (e : p - fo = nI k) (hk : k < 8) (ho : ¬ nI k &&& 1 = 0) (er : ((mm &&& 1) * 4) + ((nI k >>> ((1 : Int32) &&& 31)) &&& 3) = nI r) (hr : r < 8) : f_X1_read_r mm fo mem ug lt ct hd la bt p = f_X2_take_r (ct r) (hd r) (la r) (bt r) := by
  unfold f_X1_read_r
  rw [e, if_neg (s_r8 k hk).1, if_pos (s_r8 k hk).2.1, if_neg ho, er]
  rcases s_8 hr with rfl | rfl | rfl | rfl | rfl | rfl | rfl | rfl
  · rw [if_pos (show nI 0 = 0 by decide)]; all_goals rfl
  · rw [if_neg (show ¬ nI 1 = 0 by decide), if_pos (show nI 1 = 1 by decide)]; all_goals rfl
  · rw [if_neg (show ¬ nI 2 = 0 by decide), if_neg (show ¬ nI 2 = 1 by decide), if_pos (show nI 2 = 2 by decide)]; all_goals rfl
  · rw [if_neg (show ¬ nI 3 = 0 by decide), if_neg (show ¬ nI 3 = 1 by decide), if_neg (show ¬ nI 3 = 2 by decide), if_pos (show nI 3 = 3 by decide)]; all_goals rfl
  · rw [if_neg (show ¬ nI 4 = 0 by decide), if_neg (show ¬ nI 4 = 1 by decide), if_neg (show ¬ nI 4 = 2 by decide), if_neg (show ¬ nI 4 = 3 by decide), if_pos (show nI 4 = 4 by decide)]; all_goals rfl
  · rw [if_neg (show ¬ nI 5 = 0 by decide), if_neg (show ¬ nI 5 = 1 by decide), if_neg (show ¬ nI 5 = 2 by decide), if_neg (show ¬ nI 5 = 3 by decide), if_neg (show ¬ nI 5 = 4 by decide), if_pos (show nI 5 = 5 by decide)]; all_goals rfl
  · rw [if_neg (show ¬ nI 6 = 0 by decide), if_neg (show ¬ nI 6 = 1 by decide), if_neg (show ¬ nI 6 = 2 by decide), if_neg (show ¬ nI 6 = 3 by decide), if_neg (show ¬ nI 6 = 4 by decide), if_neg (show ¬ nI 6 = 5 by decide), if_pos (show nI 6 = 6 by decide)]; all_goals rfl
  · rw [if_neg (show ¬ nI 7 = 0 by decide), if_neg (show ¬ nI 7 = 1 by decide), if_neg (show ¬ nI 7 = 2 by decide), if_neg (show ¬ nI 7 = 3 by decide), if_neg (show ¬ nI 7 = 4 by decide), if_neg (show ¬ nI 7 = 5 by decide), if_neg (show ¬ nI 7 = 6 by decide)]; all_goals rfl
set_option maxRecDepth 100000 in
theorem cl_st {q : Int32} (er : ((mm &&& 1) * 4) + (q &&& 3) = nI r) (hr : r < 8) (hr' : r' < 8) (e' : r' = r + 4 ∨ r = r' + 4) : f_X3_status_r ug lt ct mm q = (if ct r ≤ 0 then (if lt r' ≤ ct r' then (if q = 0 then (0 ||| ug) else 63) else (if q = 0 then (64 ||| ug) else 127)) else (if lt r' ≤ ct r' then (if q = 0 then (128 ||| ug) else 191) else (if q = 0 then (192 ||| ug) else 255))) := by
  unfold f_X3_status_r
  rw [er]
  rcases s_8 hr with rfl | rfl | rfl | rfl | rfl | rfl | rfl | rfl
  · obtain rfl : r' = 4 := by omega
    rw [if_pos (show nI 0 = 0 by decide)]
  · obtain rfl : r' = 5 := by omega
    rw [if_neg (show ¬ nI 1 = 0 by decide), if_pos (show nI 1 = 1 by decide)]
  · obtain rfl : r' = 6 := by omega
    rw [if_neg (show ¬ nI 2 = 0 by decide), if_neg (show ¬ nI 2 = 1 by decide), if_pos (show nI 2 = 2 by decide)]
  · obtain rfl : r' = 7 := by omega
    rw [if_neg (show ¬ nI 3 = 0 by decide), if_neg (show ¬ nI 3 = 1 by decide), if_neg (show ¬ nI 3 = 2 by decide), if_pos (show nI 3 = 3 by decide)]
  · obtain rfl : r' = 0 := by omega
    rw [if_neg (show ¬ nI 4 = 0 by decide), if_neg (show ¬ nI 4 = 1 by decide), if_neg (show ¬ nI 4 = 2 by decide), if_neg (show ¬ nI 4 = 3 by decide), if_pos (show nI 4 = 4 by decide)]
  · obtain rfl : r' = 1 := by omega
    rw [if_neg (show ¬ nI 5 = 0 by decide), if_neg (show ¬ nI 5 = 1 by decide), if_neg (show ¬ nI 5 = 2 by decide), if_neg (show ¬ nI 5 = 3 by decide), if_neg (show ¬ nI 5 = 4 by decide), if_pos (show nI 5 = 5 by decide)]
  · obtain rfl : r' = 2 := by omega
    rw [if_neg (show ¬ nI 6 = 0 by decide), if_neg (show ¬ nI 6 = 1 by decide), if_neg (show ¬ nI 6 = 2 by decide), if_neg (show ¬ nI 6 = 3 by decide), if_neg (show ¬ nI 6 = 4 by decide), if_neg (show ¬ nI 6 = 5 by decide), if_pos (show nI 6 = 6 by decide)]
  · obtain rfl : r' = 3 := by omega
    rw [if_neg (show ¬ nI 7 = 0 by decide), if_neg (show ¬ nI 7 = 1 by decide), if_neg (show ¬ nI 7 = 2 by decide), if_neg (show ¬ nI 7 = 3 by decide), if_neg (show ¬ nI 7 = 4 by decide), if_neg (show ¬ nI 7 = 5 by decide), if_neg (show ¬ nI 7 = 6 by decide)]
set_option maxRecDepth 100000 in
theorem s_odd {k : Nat} (hk : k < 8) : (nI (k % 2) = 1 ∧ ¬ nI (k % 2) = 0) ∨ (¬ nI (k % 2) = 1 ∧ nI (k % 2) = 0) := by
  rcases (show k % 2 = 1 ∨ k % 2 = 0 by omega) with h | h <;> rw [h] <;> decide
set_option maxRecDepth 100000 in
/-- what a machine would read at a port's place -/
theorem sr_peek (hm : s_m mm fo) (hk : k < 8) (hf : ∃ j : Nat, j < 64 ∧ ug = nI j) (h : ru ug lt ct hd la bt gR gM gL) :
    f_X5_peekPort_r ug gR gM gL mm (nI k) = f_X3_look_r ug lt ct hd la bt mm (nI k) := by
  obtain ⟨r, r', hr, hr', t1, t2, t3, t4, t5, t6, t7, t8⟩ := s_tab hm hk
  obtain ⟨k1, k2, k3, k4⟩ := s_tabk k hk
  unfold f_X5_peekPort_r f_X3_look_r
  rw [t3, t4, t5, k3, k4]
  rcases s_odd hk with ⟨o1, o2⟩ | ⟨o1, o2⟩
  · rw [if_pos o1, if_neg o2, t1]
    have tk := (ru_take h hr).1
    have e : f_X2_next_r (ct r) (hd r) (la r) (bt r) = f_X2_take_r (ct r) (hd r) (la r) (bt r) := rfl
    rw [← tk, ← e]
    rcases s_8 hr with rfl | rfl | rfl | rfl | rfl | rfl | rfl | rfl
    · rw [if_pos (show nI 0 = 0 by decide)]; all_goals rfl
    · rw [if_neg (show ¬ nI 1 = 0 by decide), if_pos (show nI 1 = 1 by decide)]; all_goals rfl
    · rw [if_neg (show ¬ nI 2 = 0 by decide), if_neg (show ¬ nI 2 = 1 by decide), if_pos (show nI 2 = 2 by decide)]; all_goals rfl
    · rw [if_neg (show ¬ nI 3 = 0 by decide), if_neg (show ¬ nI 3 = 1 by decide), if_neg (show ¬ nI 3 = 2 by decide), if_pos (show nI 3 = 3 by decide)]; all_goals rfl
    · rw [if_neg (show ¬ nI 4 = 0 by decide), if_neg (show ¬ nI 4 = 1 by decide), if_neg (show ¬ nI 4 = 2 by decide), if_neg (show ¬ nI 4 = 3 by decide), if_pos (show nI 4 = 4 by decide)]; all_goals rfl
    · rw [if_neg (show ¬ nI 5 = 0 by decide), if_neg (show ¬ nI 5 = 1 by decide), if_neg (show ¬ nI 5 = 2 by decide), if_neg (show ¬ nI 5 = 3 by decide), if_neg (show ¬ nI 5 = 4 by decide), if_pos (show nI 5 = 5 by decide)]; all_goals rfl
    · rw [if_neg (show ¬ nI 6 = 0 by decide), if_neg (show ¬ nI 6 = 1 by decide), if_neg (show ¬ nI 6 = 2 by decide), if_neg (show ¬ nI 6 = 3 by decide), if_neg (show ¬ nI 6 = 4 by decide), if_neg (show ¬ nI 6 = 5 by decide), if_pos (show nI 6 = 6 by decide)]; all_goals rfl
    · rw [if_neg (show ¬ nI 7 = 0 by decide), if_neg (show ¬ nI 7 = 1 by decide), if_neg (show ¬ nI 7 = 2 by decide), if_neg (show ¬ nI 7 = 3 by decide), if_neg (show ¬ nI 7 = 4 by decide), if_neg (show ¬ nI 7 = 5 by decide), if_neg (show ¬ nI 7 = 6 by decide)]; all_goals rfl
  · rw [if_neg o1, if_pos o2, k1, k2, s_room (ug := ug) hm (q := k / 2) (by omega), ← t7]
    rw [cl_st (r := r) (r' := r') (by rw [← k1]; exact t1) hr hr' t8]
    exact (ru_status h hf hr hr' rfl (nI (k / 2) = 0)).1.symm
set_option maxRecDepth 100000 in
theorem sr_read (hm : s_m mm fo) (hp : s_w p) (hB : rm mm gB mem om) (hf : ∃ j : Nat, j < 64 ∧ ug = nI j) (h : ru ug lt ct hd la bt gR gM gL) :
    f_X5_read_r ug mm gB gR gM gL p = f_X1_read_r mm fo mem ug lt ct hd la bt p ∧ s_b (f_X1_read_r mm fo mem ug lt ct hd la bt p) ∧
    ru ug lt (f_X1_read_ct mm fo ct p) (f_X1_read_hd mm fo ct hd p) (f_X1_read_la mm fo ct hd la bt p) bt (f_X5_read_gR mm gR gM p) (f_X5_read_gM mm gM p) (f_X5_read_gL ug mm gR gM gL p) := by
  rcases s_port hm hp with ⟨e, w⟩ | ⟨k, hk, e, e2⟩
  · have e1 : f_X1_read_r mm fo mem ug lt ct hd la bt p = f_X1_kept_r mem p := by
      unfold f_X1_read_r
      rcases w with w | ⟨w1, w2⟩
      · rw [if_pos w]
      · rw [if_neg w1, if_neg w2]
    have e2 : f_X1_read_ct mm fo ct p = ct := by
      unfold f_X1_read_ct
      rcases w with w | ⟨w1, w2⟩
      · rw [if_pos w]
      · rw [if_neg w1, if_neg w2]
    have e3 : f_X1_read_hd mm fo ct hd p = hd := by
      unfold f_X1_read_hd
      rcases w with w | ⟨w1, w2⟩
      · rw [if_pos w]
      · rw [if_neg w1, if_neg w2]
    have e4 : f_X1_read_la mm fo ct hd la bt p = la := by
      unfold f_X1_read_la
      rcases w with w | ⟨w1, w2⟩
      · rw [if_pos w]
      · rw [if_neg w1, if_neg w2]
    unfold f_X5_read_r f_X5_read_gR f_X5_read_gM f_X5_read_gL
    rw [if_pos e, if_pos e, if_pos e, if_pos e, e1, e2, e3, e4]
    obtain ⟨j, hj, rfl⟩ := hp
    exact ⟨rm_kept (s_mB hm) hB (by omega) (by omega) rfl, rm_keptb hB (by omega), h⟩
  · have ne : ¬ f_X5_portOf_r mm p = -1 := by rw [e]; exact (s_r8 k hk).2.2
    obtain ⟨r, r', hr, hr', t1, t2, t3, t4, t5, t6, t7, t8⟩ := s_tab hm hk
    obtain ⟨k1, k2, k3, k4⟩ := s_tabk k hk
    unfold f_X5_read_r f_X5_read_gR f_X5_read_gM f_X5_read_gL f_X5_readPort_r f_X5_readPort_gR f_X5_readPort_gM f_X5_readPort_gL
    rw [if_neg ne, if_neg ne, if_neg ne, if_neg ne, e, k3, t3]
    rcases s_odd hk with ⟨o1, o2⟩ | ⟨o1, o2⟩
    · have ho : ¬ nI k &&& 1 = 0 := by rw [k4]; exact o2
      have ep : f_X5_peekPort_r ug gR gM gL mm (nI k) = (if gM r ≤ 0 then gL r else gR (24 * r)) := by
        unfold f_X5_peekPort_r
        rw [k3, if_pos o1, t3, t5]
      rw [if_pos o1, if_pos o1, if_pos o1, ep, cl_r e2 hk ho t1 hr, cl_ct e2 hk ho t1 hr, cl_hd e2 hk ho t1 hr, cl_la e2 hk ho t1 hr]
      have tk := ru_take h hr
      exact ⟨tk.1.symm, tk.2.1, tk.2.2⟩
    · have ho : nI k &&& 1 = 0 := by rw [k4]; exact o2
      have c1 : f_X1_read_ct mm fo ct p = ct := by
        unfold f_X1_read_ct; rw [e2, if_neg (s_r8 k hk).1, if_pos (s_r8 k hk).2.1, if_pos ho]
      have c2 : f_X1_read_hd mm fo ct hd p = hd := by
        unfold f_X1_read_hd; rw [e2, if_neg (s_r8 k hk).1, if_pos (s_r8 k hk).2.1, if_pos ho]
      have c3 : f_X1_read_la mm fo ct hd la bt p = la := by
        unfold f_X1_read_la; rw [e2, if_neg (s_r8 k hk).1, if_pos (s_r8 k hk).2.1, if_pos ho]
      have c4 : f_X1_read_r mm fo mem ug lt ct hd la bt p = f_X3_status_r ug lt ct mm (nI (k / 2)) := by
        unfold f_X1_read_r; rw [e2, if_neg (s_r8 k hk).1, if_pos (s_r8 k hk).2.1, if_pos ho, k1]
      have ep : f_X3_look_r ug lt ct hd la bt mm (nI k) = f_X3_status_r ug lt ct mm (nI (k / 2)) := by
        unfold f_X3_look_r; rw [if_pos ho, k1]
      rw [if_neg o1, if_neg o1, if_neg o1, c1, c2, c3, c4, sr_peek hm hk hf h, ep]
      refine ⟨rfl, ?_, h⟩
      rw [cl_st (r := r) (r' := r') (by rw [← k1]; exact t1) hr hr' t8]
      exact (ru_status h hf hr hr' rfl (nI (k / 2) = 0)).2
set_option maxRecDepth 100000 in
/-- flags written -/
theorem s_flw {ug v : Int32} (hf : ∃ j : Nat, j < 64 ∧ ug = nI j) : ∃ j : Nat, j < 64 ∧ f_X3_writeFlags_ug ug v = nI j := by
  obtain ⟨j, hj, rfl⟩ := hf
  obtain ⟨i, hi, e⟩ := pk_andE v (m := 63) 6 (by decide)
  unfold f_X3_writeFlags_ug
  rw [e]
  split
  · exact (show ∀ j : Nat, j < 64 → ∀ i : Nat, i < 64 → ∃ t : Nat, t < 64 ∧ nI j &&& (nI i ^^^ -1) = nI t from fun j hj i hi => ⟨(nI j &&& (nI i ^^^ -1)).toNatClampNeg, (show ∀ j : Nat, j < 64 → ∀ i : Nat, i < 64 → (nI j &&& (nI i ^^^ -1)).toNatClampNeg < 64 ∧ nI j &&& (nI i ^^^ -1) = nI (nI j &&& (nI i ^^^ -1)).toNatClampNeg by decide +kernel) j hj i hi⟩) j hj i hi
  · exact ⟨(nI j ||| nI i).toNatClampNeg, (show ∀ j : Nat, j < 64 → ∀ i : Nat, i < 64 → (nI j ||| nI i).toNatClampNeg < 64 ∧ nI j ||| nI i = nI (nI j ||| nI i).toNatClampNeg by decide +kernel) j hj i hi⟩
set_option maxRecDepth 100000 in
theorem ru_flags {ug ug' : Int32} {lt' : Nat → Int32} (h : ru ug lt ct hd la bt gR gM gL) (hl : ∀ r, r < 8 → lt' r = nI (s_lim ug' r)) : ru ug' lt' ct hd la bt gR gM gL := by
  intro r hr
  obtain ⟨c, q, e1, e2, e3, h4, h5, h6, h7, h8, h9⟩ := h r hr
  exact ⟨c, q, e1, e2, e3, h4, h5, hl r hr, h7, h8, h9⟩
set_option maxRecDepth 100000 in
theorem ru_wf {v : Int32} (h : ru ug lt ct hd la bt gR gM gL) : ru (f_X3_writeFlags_ug ug v) (f_X3_writeFlags_lt ug lt v) ct hd la bt gR gM gL := by
  refine ru_flags h (fun r hr => ?_)
  have e : f_X3_writeFlags_lt ug lt v = if (f_X3_isOn_r (f_X3_writeFlags_ug ug v) 16) = 0 then (upd (upd lt 2 1) 6 1) else (upd (upd lt 2 2) 6 2) := by
    unfold f_X3_writeFlags_lt f_X3_writeFlags_ug
    split <;> rfl
  rw [e]
  have l := (ru_c h hr).2.1
  have i1 : f_X3_isOn_r (f_X3_writeFlags_ug ug v) 16 = 0 ↔ f_X3_writeFlags_ug ug v &&& 16 = 0 := by
    unfold f_X3_isOn_r
    split
    · exact ⟨fun _ => by assumption, fun _ => rfl⟩
    · exact ⟨fun x => absurd x (by decide), fun x => absurd x (by assumption)⟩
  generalize f_X3_writeFlags_ug ug v = u at i1 ⊢
  unfold s_lim at l ⊢
  by_cases c : u &&& 16 = 0
  · rw [if_pos (i1.mpr c)]
    rcases s_8 hr with rfl | rfl | rfl | rfl | rfl | rfl | rfl | rfl <;> first | exact l | (rw [if_pos c]; exact rfl)
  · rw [if_neg (fun x => c (i1.mp x))]
    rcases s_8 hr with rfl | rfl | rfl | rfl | rfl | rfl | rfl | rfl <;> first | exact l | (rw [if_neg c]; exact rfl)
set_option maxRecDepth 100000 in
theorem cw_ct (e : p - fo = nI k) (hk : k < 8) (ho : ¬ nI k &&& 1 = 0) (er : (((1 - mm) &&& 1) * 4) + ((nI k >>> ((1 : Int32) &&& 31)) &&& 3) = nI r) (hr : r < 8) : f_X1_write_ct mm fo lt ct p = upd ct r (f_X2_put_rc (lt r) (ct r)) := by
  unfold f_X1_write_ct
  rw [e, if_neg (s_r8 k hk).1, if_pos (s_r8 k hk).2.1, if_neg ho, er]
  rcases s_8 hr with rfl | rfl | rfl | rfl | rfl | rfl | rfl | rfl
  · rw [if_pos (show nI 0 = 0 by decide)]; all_goals rfl
  · rw [if_neg (show ¬ nI 1 = 0 by decide), if_pos (show nI 1 = 1 by decide)]; all_goals rfl
  · rw [if_neg (show ¬ nI 2 = 0 by decide), if_neg (show ¬ nI 2 = 1 by decide), if_pos (show nI 2 = 2 by decide)]; all_goals rfl
  · rw [if_neg (show ¬ nI 3 = 0 by decide), if_neg (show ¬ nI 3 = 1 by decide), if_neg (show ¬ nI 3 = 2 by decide), if_pos (show nI 3 = 3 by decide)]; all_goals rfl
  · rw [if_neg (show ¬ nI 4 = 0 by decide), if_neg (show ¬ nI 4 = 1 by decide), if_neg (show ¬ nI 4 = 2 by decide), if_neg (show ¬ nI 4 = 3 by decide), if_pos (show nI 4 = 4 by decide)]; all_goals rfl
  · rw [if_neg (show ¬ nI 5 = 0 by decide), if_neg (show ¬ nI 5 = 1 by decide), if_neg (show ¬ nI 5 = 2 by decide), if_neg (show ¬ nI 5 = 3 by decide), if_neg (show ¬ nI 5 = 4 by decide), if_pos (show nI 5 = 5 by decide)]; all_goals rfl
  · rw [if_neg (show ¬ nI 6 = 0 by decide), if_neg (show ¬ nI 6 = 1 by decide), if_neg (show ¬ nI 6 = 2 by decide), if_neg (show ¬ nI 6 = 3 by decide), if_neg (show ¬ nI 6 = 4 by decide), if_neg (show ¬ nI 6 = 5 by decide), if_pos (show nI 6 = 6 by decide)]; all_goals rfl
  · rw [if_neg (show ¬ nI 7 = 0 by decide), if_neg (show ¬ nI 7 = 1 by decide), if_neg (show ¬ nI 7 = 2 by decide), if_neg (show ¬ nI 7 = 3 by decide), if_neg (show ¬ nI 7 = 4 by decide), if_neg (show ¬ nI 7 = 5 by decide), if_neg (show ¬ nI 7 = 6 by decide)]; all_goals rfl
set_option maxRecDepth 100000 in
theorem cw_bt {v : Int32} (e : p - fo = nI k) (hk : k < 8) (ho : ¬ nI k &&& 1 = 0) (er : (((1 - mm) &&& 1) * 4) + ((nI k >>> ((1 : Int32) &&& 31)) &&& 3) = nI r) (hr : r < 8) : f_X1_write_bt mm fo lt ct hd bt p v = va_up bt r (f_X2_put_rb (lt r) (ct r) (hd r) (rowlen r) (bt r) v) := by
  unfold f_X1_write_bt
  rw [e, if_neg (s_r8 k hk).1, if_pos (s_r8 k hk).2.1, if_neg ho, er]
  rcases s_8 hr with rfl | rfl | rfl | rfl | rfl | rfl | rfl | rfl
  · rw [if_pos (show nI 0 = 0 by decide)]; all_goals rfl
  · rw [if_neg (show ¬ nI 1 = 0 by decide), if_pos (show nI 1 = 1 by decide)]; all_goals rfl
  · rw [if_neg (show ¬ nI 2 = 0 by decide), if_neg (show ¬ nI 2 = 1 by decide), if_pos (show nI 2 = 2 by decide)]; all_goals rfl
  · rw [if_neg (show ¬ nI 3 = 0 by decide), if_neg (show ¬ nI 3 = 1 by decide), if_neg (show ¬ nI 3 = 2 by decide), if_pos (show nI 3 = 3 by decide)]; all_goals rfl
  · rw [if_neg (show ¬ nI 4 = 0 by decide), if_neg (show ¬ nI 4 = 1 by decide), if_neg (show ¬ nI 4 = 2 by decide), if_neg (show ¬ nI 4 = 3 by decide), if_pos (show nI 4 = 4 by decide)]; all_goals rfl
  · rw [if_neg (show ¬ nI 5 = 0 by decide), if_neg (show ¬ nI 5 = 1 by decide), if_neg (show ¬ nI 5 = 2 by decide), if_neg (show ¬ nI 5 = 3 by decide), if_neg (show ¬ nI 5 = 4 by decide), if_pos (show nI 5 = 5 by decide)]; all_goals rfl
  · rw [if_neg (show ¬ nI 6 = 0 by decide), if_neg (show ¬ nI 6 = 1 by decide), if_neg (show ¬ nI 6 = 2 by decide), if_neg (show ¬ nI 6 = 3 by decide), if_neg (show ¬ nI 6 = 4 by decide), if_neg (show ¬ nI 6 = 5 by decide), if_pos (show nI 6 = 6 by decide)]; all_goals rfl
  · rw [if_neg (show ¬ nI 7 = 0 by decide), if_neg (show ¬ nI 7 = 1 by decide), if_neg (show ¬ nI 7 = 2 by decide), if_neg (show ¬ nI 7 = 3 by decide), if_neg (show ¬ nI 7 = 4 by decide), if_neg (show ¬ nI 7 = 5 by decide), if_neg (show ¬ nI 7 = 6 by decide)]; all_goals rfl
set_option maxRecDepth 100000 in
/-- a byte written -/
theorem sr_write {v ud un ow : Int32} (hm : s_m mm fo) (hp : s_w p) (hv : s_b v) (hB : rm mm gB mem om) (hf : rf un ow ug ud) (h : ru ug lt ct hd la bt gR gM gL) :
    rm mm (f_X5_write_gB mm gB p v) (f_X1_write_mem fo mem p v) om ∧ rf (f_X5_write_un un mm p v) (f_X5_write_ow un ow mm p v) (f_X1_write_ug mm fo ug p v) (f_X1_write_ud mm fo ug ud p v) ∧
    ru (f_X1_write_ug mm fo ug p v) (f_X1_write_lt mm fo ug lt p v) (f_X1_write_ct mm fo lt ct p) hd la (f_X1_write_bt mm fo lt ct hd bt p v) (f_X5_write_gR un mm gR gM p v) (f_X5_write_gM un mm gM p) gL := by
  obtain ⟨rfl, rfl, hu, hd1⟩ := hf
  have hvb := s_b255 hv
  rcases s_port hm hp with ⟨e, w⟩ | ⟨k, hk, e, e2⟩
  · unfold f_X5_write_gB f_X5_write_un f_X5_write_ow f_X5_write_gR f_X5_write_gM
    rw [if_pos e, if_pos e, if_pos e, if_pos e, if_pos e, hvb]
    have a1 : f_X1_write_mem fo mem p v = upd mem (p &&& 4095).toNatClampNeg v := by
      unfold f_X1_write_mem
      rcases w with w | ⟨w1, w2⟩
      · rw [if_pos w]
      · rw [if_neg w1, if_neg w2]
    have a2 : f_X1_write_ug mm fo un p v = un := by
      unfold f_X1_write_ug
      rcases w with w | ⟨w1, w2⟩
      · rw [if_pos w]
      · rw [if_neg w1, if_neg w2]
    have a3 : f_X1_write_ud mm fo un ow p v = ow := by
      unfold f_X1_write_ud
      rcases w with w | ⟨w1, w2⟩
      · rw [if_pos w]
      · rw [if_neg w1, if_neg w2]
    have a4 : f_X1_write_lt mm fo un lt p v = lt := by
      unfold f_X1_write_lt
      rcases w with w | ⟨w1, w2⟩
      · rw [if_pos w]
      · rw [if_neg w1, if_neg w2]
    have a5 : f_X1_write_ct mm fo lt ct p = ct := by
      unfold f_X1_write_ct
      rcases w with w | ⟨w1, w2⟩
      · rw [if_pos w]
      · rw [if_neg w1, if_neg w2]
    have a6 : f_X1_write_bt mm fo lt ct hd bt p v = bt := by
      unfold f_X1_write_bt
      rcases w with w | ⟨w1, w2⟩
      · rw [if_pos w]
      · rw [if_neg w1, if_neg w2]
    rw [a1, a2, a3, a4, a5, a6]
    obtain ⟨j, hj, rfl⟩ := hp
    rw [s_iM (s_mB hm) (by omega), s_iC (by omega)]
    exact ⟨rm_u (s_mB hm) hB (by omega) hv, ⟨rfl, rfl, hu, hd1⟩, h⟩
  · have ne : ¬ f_X5_portOf_r mm p = -1 := by rw [e]; exact (s_r8 k hk).2.2
    obtain ⟨r, r', hr, hr', t1, t2, t3, t4, t5, t6, t7, t8⟩ := s_tab hm hk
    obtain ⟨k1, k2, k3, k4⟩ := s_tabk k hk
    have am : f_X1_write_mem fo mem p v = mem := by
      unfold f_X1_write_mem
      rw [e2, if_neg (s_r8 k hk).1, if_pos (s_r8 k hk).2.1]
    unfold f_X5_write_gB f_X5_write_un f_X5_write_ow f_X5_write_gR f_X5_write_gM f_X5_writePort_un f_X5_writePort_ow f_X5_writePort_gR f_X5_writePort_gM
    rw [if_neg ne, if_neg ne, if_neg ne, if_neg ne, if_neg ne, e, k3, hvb, am, t4, t6]
    rcases s_odd hk with ⟨o1, o2⟩ | ⟨o1, o2⟩
    · have ho : ¬ nI k &&& 1 = 0 := by rw [k4]; exact o2
      rw [if_pos o1, if_pos o1, if_pos o1, if_pos o1, cw_ct e2 hk ho t2 hr', cw_bt e2 hk ho t2 hr']
      have a2 : f_X1_write_ug mm fo un p v = un := by
        unfold f_X1_write_ug
        rw [e2, if_neg (s_r8 k hk).1, if_pos (s_r8 k hk).2.1, if_neg ho]
      have a3 : f_X1_write_ud mm fo un ow p v = ow := by
        unfold f_X1_write_ud
        rw [e2, if_neg (s_r8 k hk).1, if_pos (s_r8 k hk).2.1, if_neg ho]
      have a4 : f_X1_write_lt mm fo un lt p v = lt := by
        unfold f_X1_write_lt
        rw [e2, if_neg (s_r8 k hk).1, if_pos (s_r8 k hk).2.1, if_neg ho]
      rw [a2, a3, a4, k2]
      have er := s_room (ug := un) hm (q := k / 2) (by omega)
      rw [← t7] at er
      have pt := ru_put h hr' hv er
      obtain ⟨c, q, f1, f2, f3, h4, h5, h6, h7, h8, h9⟩ := h r' hr'
      have h24 := (rl_24 (r := r')).1
      have ei : (nI (24 * r') + gM r').toNatClampNeg = 24 * r' + (gM r').toNatClampNeg := by
        rw [f2, nI_add, nI_clamp (by omega), nI_clamp (by omega)]
      rw [ei]
      exact ⟨hB, ⟨rfl, rfl, hu, hd1⟩, pt⟩
    · have ho : nI k &&& 1 = 0 := by rw [k4]; exact o2
      have a5 : f_X1_write_ct mm fo lt ct p = ct := by
        unfold f_X1_write_ct
        rw [e2, if_neg (s_r8 k hk).1, if_pos (s_r8 k hk).2.1, if_pos ho]
      have a6 : f_X1_write_bt mm fo lt ct hd bt p v = bt := by
        unfold f_X1_write_bt
        rw [e2, if_neg (s_r8 k hk).1, if_pos (s_r8 k hk).2.1, if_pos ho]
      rw [if_neg o1, if_neg o1, if_neg o1, if_neg o1, a5, a6]
      unfold f_X1_write_ug f_X1_write_ud f_X1_write_lt
      rw [e2, if_neg (s_r8 k hk).1, if_pos (s_r8 k hk).2.1, if_pos ho, if_neg (s_r8 k hk).1, if_pos (s_r8 k hk).2.1, if_pos ho, if_neg (s_r8 k hk).1, if_pos (s_r8 k hk).2.1, if_pos ho]
      by_cases z : nI k = 0
      · rw [if_pos z, if_pos z, if_pos z, if_pos z, if_pos z]
        by_cases zm : mm = 0
        · rw [if_pos zm, if_pos zm, if_pos zm, if_pos zm, if_pos zm]
          have ws := ru_wf (v := v) h
          refine ⟨hB, ⟨rfl, ?_, s_flw hu, ?_⟩, ws⟩
          · unfold f_X3_writeFlags_ud f_X3_isOn_r
            by_cases y : v &&& 128 = 0
            · rw [if_pos y, if_pos y]
              by_cases y2 : ow = 0
              · rw [if_pos y2, if_pos y2]
                by_cases y3 : (un &&& (v &&& 63 ^^^ -1)) &&& 32 = 0
                · rw [if_pos y3]; rfl
                · rw [if_neg y3]; rfl
              · rw [if_neg y2, if_neg y2]
            · rw [if_neg y, if_neg y]
              by_cases y2 : ow = 0
              · rw [if_pos y2, if_pos y2]
                by_cases y3 : (un ||| v &&& 63) &&& 32 = 0
                · rw [if_pos y3]; rfl
                · rw [if_neg y3]; rfl
              · rw [if_neg y2, if_neg y2]
          · unfold f_X3_writeFlags_ud
            repeat' split
            all_goals first | exact Or.inl rfl | exact Or.inr rfl
        · rw [if_neg zm, if_neg zm, if_neg zm, if_neg zm, if_neg zm]
          exact ⟨hB, ⟨rfl, rfl, hu, hd1⟩, h⟩
      · rw [if_neg z, if_neg z, if_neg z, if_neg z, if_neg z]
        have i3 : ∀ {α : Type} (a : α), (if mm = 0 then a else a) = a := fun a => by split <;> rfl
        rw [i3, i3, i3]
        exact ⟨hB, ⟨rfl, rfl, hu, hd1⟩, h⟩
end RW
