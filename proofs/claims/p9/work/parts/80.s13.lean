section CALLS
variable {fa1 fx1 fy1 fs1 fp1 fc1 fd1 fb1 fa2 fx2 fy2 fs2 fp2 fc2 fd2 fb2 ug ud un ow ln mm : Int32} {fz1 fz2 : Int64} {mem1 mem2 lt ct hd la gB gA gX gY gS gP gC gD gR gM gL : Nat → Int32} {gT : Nat → Int64} {bt : Nat → Nat → Int32}
set_option maxRecDepth 100000 in
theorem i_lt' {a p : Int32} : a < p ↔ a.toInt < p.toInt := Int32.lt_iff_toInt_lt
set_option maxRecDepth 100000 in
theorem i_le' {a p : Int32} : a ≤ p ↔ a.toInt ≤ p.toInt := Int32.le_iff_toInt_le
set_option maxRecDepth 100000 in
theorem m4' (p : Int32) : (f_X5_isMachine_r p = 0 ∧ (p < 0 ∨ (¬ p < 0 ∧ 1 < p)) ∧ ¬ p = 0) ∨ (p = 0 ∨ p = 1) := by
  have e0 : (0 : Int32).toInt = 0 := by decide
  have e1 : (1 : Int32).toInt = 1 := by decide
  have n0 : p = 0 ↔ p.toInt = 0 := by rw [← e0]; exact Int32.toInt_inj.symm
  have n1 : p = 1 ↔ p.toInt = 1 := by rw [← e1]; exact Int32.toInt_inj.symm
  by_cases c0 : p = 0
  · exact Or.inr (Or.inl c0)
  by_cases c1 : p = 1
  · exact Or.inr (Or.inr c1)
  refine Or.inl ⟨by unfold f_X5_isMachine_r; rw [if_neg c0, if_neg c1], ?_, c0⟩
  rw [i_lt', i_lt', e0, e1]
  have d0 : ¬ p.toInt = 0 := fun z => c0 (n0.mpr z)
  have d1 : ¬ p.toInt = 1 := fun z => c1 (n1.mpr z)
  omega
set_option maxRecDepth 100000 in
theorem s_place (p : Int32) : (f_X5_isPlace_r p = 0 ∧ (p < 0 ∨ (¬ p < 0 ∧ 65535 < p))) ∨ (¬ f_X5_isPlace_r p = 0 ∧ ¬ p < 0 ∧ ¬ 65535 < p ∧ s_w p) := by
  unfold f_X5_isPlace_r
  rcases pk_ix p (n := 65536) (by decide) with h | h | ⟨j, hj, rfl⟩
  · exact Or.inl ⟨by rw [if_pos h], Or.inl h⟩
  · by_cases c : p < 0
    · exact Or.inl ⟨by rw [if_pos c], Or.inl c⟩
    · have h' : (65536 : Int32) ≤ p := h
      refine Or.inl ⟨by rw [if_neg c, if_pos h'], Or.inr ⟨c, ?_⟩⟩
      rw [i_lt', show (65535 : Int32).toInt = 65535 by decide]
      rw [i_le', show (65536 : Int32).toInt = 65536 by decide] at h'
      omega
  · have a := nI_pos (n := j) (by omega)
    have b : ¬ (65536 : Int32) ≤ nI j := fun z => by have := (nI_leI (a := 65536) (b := j) (by decide) (by omega)).mp z; omega
    have c : ¬ (65535 : Int32) < nI j := fun z => by have := (nI_ltI (a := 65535) (b := j) (by decide) (by omega)).mp z; omega
    exact Or.inr ⟨by rw [if_neg a, if_neg b]; decide, a, c, j, hj, rfl⟩
set_option maxRecDepth 100000 in
theorem s_num {p : Int32} (h1 : ¬ p < 1) (h2 : p ≤ 20) : ∃ n : Nat, 1 ≤ n ∧ n ≤ 20 ∧ p = nI n := by
  rw [i_lt', show (1 : Int32).toInt = 1 by decide] at h1
  rw [i_le', show (20 : Int32).toInt = 20 by decide] at h2
  have h0 : ¬ p < 0 := by rw [i_lt', show (0 : Int32).toInt = 0 by decide]; omega
  obtain ⟨j, hj, rfl⟩ := nI_of h0
  rw [nI_toInt hj] at h1 h2
  exact ⟨j, by omega, by omega, rfl⟩
set_option maxRecDepth 100000 in
def keep5 (mem : Nat → Int32) (p2 p3 p4 p5 p6 p7 p8 : Int32) : Nat → Int32 := f_X1_keep_mem (f_X1_keep_mem (f_X1_keep_mem (f_X1_keep_mem (f_X1_keep_mem mem p2 p3 p8) (p2 + 4) p4 (p8 - 4)) (p2 + 8) p5 (p8 - 8)) (p2 + 12) p6 (p8 - 12)) (p2 + 16) p7 (p8 - 16)
set_option maxRecDepth 100000 in
theorem s_less {n t : Nat} (h : n ≤ 20) (ht : t ≤ 16) : (n - t = 0 ∧ nI n - nI t ≤ 0) ∨ (0 < n - t ∧ nI n - nI t = nI (n - t)) := by
  by_cases c : n ≤ t
  · refine Or.inl ⟨by omega, ?_⟩
    by_cases e : n = t
    · subst e; rw [pk_sub (Nat.le_refl _), Nat.sub_self]; decide
    · exact Int32.le_of_lt (pk_sneg (by omega) (by omega))
  · exact Or.inr ⟨by omega, pk_sub (by omega)⟩
set_option maxRecDepth 100000 in
theorem keep_seg {mm : Int32} (hm : wB mm) {om gB mem : Nat → Int32} (h : rm mm gB mem om) {a t n : Nat} (ha : a < 65536) (ht : t ≤ 16) (h4 : t % 4 = 0) (hn : n ≤ 20) {p3 p4 p5 p6 p7 w x p : Int32} (hw : ∀ k, k < 4 → ldw p3 p4 p5 p6 p7 (t + k) = w) (hx : (n - t = 0 ∧ x ≤ 0) ∨ (0 < n - t ∧ x = nI (n - t))) (hp : p = nI (a + t)) :
    rm mm (uN gB (fun k => ldi mm (nI a) (t + k)) (fun k => ldv p3 p4 p5 p6 p7 (t + k)) (min (n - t) 4)) (f_X1_keep_mem mem p w x) om := by
  rw [kp_n mem p w (by omega) hx]
  refine rm_uN hm h _ (fun k hk => ?_)
  have hk4 : k < 4 := by omega
  refine ⟨?_, ?_, ?_, ?_⟩
  · unfold ldi kpi
    rw [hp, nI_add, nI_add, s_iM hm (by omega), s_iC (by omega)]
    rw [show a + (t + k) = a + t + k by omega]
  · unfold kpi
    rw [hp, nI_add, s_iC (by omega)]; omega
  · unfold ldv
    rw [hw k hk4, kp_v w hk4, show (t + k) % 4 = k by omega]
  · unfold kpv; exact s_and255 _
set_option maxRecDepth 100000 in
theorem uN_segs {f : Nat → Int32} {i : Nat → Nat} {v : Nat → Int32} {n : Nat} (h : n ≤ 20) : uN f i v n = uN (uN (uN (uN (uN f i v (min (n - 0) 4)) (fun k => i (4 + k)) (fun k => v (4 + k)) (min (n - 4) 4)) (fun k => i (8 + k)) (fun k => v (8 + k)) (min (n - 8) 4)) (fun k => i (12 + k)) (fun k => v (12 + k)) (min (n - 12) 4)) (fun k => i (16 + k)) (fun k => v (16 + k)) (min (n - 16) 4) := by
  by_cases c1 : n ≤ 4
  · rw [show min (n - 0) 4 = n by omega, show min (n - 4) 4 = 0 by omega, show min (n - 8) 4 = 0 by omega, show min (n - 12) 4 = 0 by omega, show min (n - 16) 4 = 0 by omega]; rfl
  rw [show min (n - 0) 4 = 4 by omega]
  by_cases c2 : n ≤ 8
  · rw [show min (n - 4) 4 = n - 4 by omega, show min (n - 8) 4 = 0 by omega, show min (n - 12) 4 = 0 by omega, show min (n - 16) 4 = 0 by omega]
    show _ = uN (uN f i v 4) _ _ (n - 4)
    rw [← uN_add, show 4 + (n - 4) = n by omega]
  rw [show min (n - 4) 4 = 4 by omega, ← uN_add 4 4]
  by_cases c3 : n ≤ 12
  · rw [show min (n - 8) 4 = n - 8 by omega, show min (n - 12) 4 = 0 by omega, show min (n - 16) 4 = 0 by omega]
    show _ = uN (uN f i v 8) _ _ (n - 8)
    rw [← uN_add, show 8 + (n - 8) = n by omega]
  rw [show min (n - 8) 4 = 4 by omega, ← uN_add 8 4]
  by_cases c4 : n ≤ 16
  · rw [show min (n - 12) 4 = n - 12 by omega, show min (n - 16) 4 = 0 by omega]
    show _ = uN (uN f i v 12) _ _ (n - 12)
    rw [← uN_add, show 12 + (n - 12) = n by omega]
  rw [show min (n - 12) 4 = 4 by omega, ← uN_add 12 4, show min (n - 16) 4 = n - 16 by omega]
  show _ = uN (uN f i v 16) _ _ (n - 16)
  rw [← uN_add, show 16 + (n - 16) = n by omega]
set_option maxRecDepth 100000 in
/-- the bytes of load come to the same places -/
theorem sr_load {mm : Int32} (hm : wB mm) {om gB mem : Nat → Int32} (h : rm mm gB mem om) {p2 p3 p4 p5 p6 p7 p8 : Int32} (h2 : ¬ f_X5_isPlace_r p2 = 0) (hp : s_w p2) (hn1 : ¬ p8 < 1) (hn2 : p8 ≤ 20) : rm mm (f_X5_load_gB gB mm p2 p3 p4 p5 p6 p7 p8) (keep5 mem p2 p3 p4 p5 p6 p7 p8) om := by
  obtain ⟨a, ha, rfl⟩ := hp
  obtain ⟨n, n1, n2, rfl⟩ := s_num hn1 hn2
  have h1 : ¬ f_X5_isMachine_r mm = 0 := by rcases hm with rfl | rfl <;> decide
  rw [lm_n h1 h2 n1 n2, uN_segs n2]
  have s0 := keep_seg hm h ha (t := 0) (n := n) (by decide) (by decide) n2 (p3 := p3) (p4 := p4) (p5 := p5) (p6 := p6) (p7 := p7) (w := p3) (x := nI n) (p := nI a) (fun k hk => by unfold ldw; rw [if_pos (by omega)]) (Or.inr ⟨by omega, by rw [Nat.sub_zero]⟩) (by rw [Nat.add_zero])
  have z0 : ∀ (g : Nat → Nat), (fun k => g (0 + k)) = g := fun g => funext fun k => by rw [Nat.zero_add]
  have z1 : ∀ (g : Nat → Int32), (fun k => g (0 + k)) = g := fun g => funext fun k => by rw [Nat.zero_add]
  rw [z0 (ldi mm (nI a)), z1 (ldv p3 p4 p5 p6 p7)] at s0
  have s1 := keep_seg hm s0 ha (t := 4) (n := n) (by decide) (by decide) n2 (p3 := p3) (p4 := p4) (p5 := p5) (p6 := p6) (p7 := p7) (w := p4) (x := nI n - 4) (p := nI a + 4) (fun k hk => by unfold ldw; rw [if_neg (by omega), if_pos (by omega)]) (s_less (t := 4) n2 (by decide)) (nI_add a 4)
  have s2 := keep_seg hm s1 ha (t := 8) (n := n) (by decide) (by decide) n2 (p3 := p3) (p4 := p4) (p5 := p5) (p6 := p6) (p7 := p7) (w := p5) (x := nI n - 8) (p := nI a + 8) (fun k hk => by unfold ldw; rw [if_neg (by omega), if_neg (by omega), if_pos (by omega)]) (s_less (t := 8) n2 (by decide)) (nI_add a 8)
  have s3 := keep_seg hm s2 ha (t := 12) (n := n) (by decide) (by decide) n2 (p3 := p3) (p4 := p4) (p5 := p5) (p6 := p6) (p7 := p7) (w := p6) (x := nI n - 12) (p := nI a + 12) (fun k hk => by unfold ldw; rw [if_neg (by omega), if_neg (by omega), if_neg (by omega), if_pos (by omega)]) (s_less (t := 12) n2 (by decide)) (nI_add a 12)
  have s4 := keep_seg hm s3 ha (t := 16) (n := n) (by decide) (by decide) n2 (p3 := p3) (p4 := p4) (p5 := p5) (p6 := p6) (p7 := p7) (w := p7) (x := nI n - 16) (p := nI a + 16) (fun k hk => by unfold ldw; rw [if_neg (by omega), if_neg (by omega), if_neg (by omega), if_neg (by omega)]) (s_less (t := 16) n2 (by decide)) (nI_add a 16)
  exact s4
set_option maxRecDepth 100000 in
theorem bOk_uN {N : Nat} {f : Nat → Int32} {i : Nat → Nat} {v : Nat → Int32} (h : ∀ j, j < N → vp_in (f j) 256) (hv : ∀ k, vp_in (v k) 256) : ∀ n : Nat, ∀ j, j < N → vp_in (uN f i v n j) 256
  | 0 => h
  | n + 1 => fun j hj => by
    show vp_in (upd (uN f i v n) (i n) (v n) j) 256
    by_cases e : j = i n
    · rw [e, pk_us]; exact hv n
    · rw [pk_un e]; exact bOk_uN h hv n j hj
set_option maxRecDepth 100000 in
theorem bOk_load {p1 p2 p3 p4 p5 p6 p7 p8 : Int32} {gB : Nat → Int32} (h : ∀ j, j < 8192 → vp_in (gB j) 256) : ∀ j, j < 8192 → vp_in (f_X5_load_gB gB p1 p2 p3 p4 p5 p6 p7 p8 j) 256 := by
  by_cases c1 : f_X5_isMachine_r p1 = 0
  · unfold f_X5_load_gB; rw [if_pos c1]; exact h
  by_cases c2 : f_X5_isPlace_r p2 = 0
  · unfold f_X5_load_gB; rw [if_neg c1, if_pos c2]; exact h
  by_cases c3 : p8 < 1
  · unfold f_X5_load_gB; rw [if_neg c1, if_neg c2, if_pos c3]; exact h
  by_cases c4 : p8 ≤ 20
  · obtain ⟨n, n1, n2, rfl⟩ := s_num c3 c4
    rw [lm_n c1 c2 n1 n2]
    exact bOk_uN h (fun k => by unfold ldv; exact pk_andIn _ (m := 255) 8 (by decide) (by decide)) n
  · unfold f_X5_load_gB; rw [if_neg c1, if_neg c2, if_neg c3, if_neg c4]; exact h
set_option maxRecDepth 100000 in
theorem rt_load {p1 p2 p3 p4 p5 p6 p7 p8 : Int32} (h : RT ((fa1, fx1, fy1, fs1, fp1, fc1, fd1, fb1, fz1, mem1), (fa2, fx2, fy2, fs2, fp2, fc2, fd2, fb2, fz2, mem2), (ug, ud, lt, ct, hd, la, bt)) (gB, gA, gX, gY, gS, gP, gC, gD, gT, gR, gM, gL, un, ow, ln, mm)) : RT ((fa1, fx1, fy1, fs1, fp1, fc1, fd1, fb1, fz1, f_X4_load_mem1 mem1 p1 p2 p3 p4 p5 p6 p7 p8), (fa2, fx2, fy2, fs2, fp2, fc2, fd2, fb2, fz2, f_X4_load_mem2 mem2 p1 p2 p3 p4 p5 p6 p7 p8), (ug, ud, lt, ct, hd, la, bt)) (f_X5_load_gB gB p1 p2 p3 p4 p5 p6 p7 p8, gA, gX, gY, gS, gP, gC, gD, gT, gR, gM, gL, un, ow, ln, mm) := by
  obtain ⟨h0, h1, hD, w1, w2, hT, hb1, hb2⟩ := h
  have nochange : f_X4_load_mem1 mem1 p1 p2 p3 p4 p5 p6 p7 p8 = mem1 → f_X4_load_mem2 mem2 p1 p2 p3 p4 p5 p6 p7 p8 = mem2 → f_X5_load_gB gB p1 p2 p3 p4 p5 p6 p7 p8 = gB → RT ((fa1, fx1, fy1, fs1, fp1, fc1, fd1, fb1, fz1, f_X4_load_mem1 mem1 p1 p2 p3 p4 p5 p6 p7 p8), (fa2, fx2, fy2, fs2, fp2, fc2, fd2, fb2, fz2, f_X4_load_mem2 mem2 p1 p2 p3 p4 p5 p6 p7 p8), (ug, ud, lt, ct, hd, la, bt)) (f_X5_load_gB gB p1 p2 p3 p4 p5 p6 p7 p8, gA, gX, gY, gS, gP, gC, gD, gT, gR, gM, gL, un, ow, ln, mm) := fun e1 e2 e3 => by
    rw [e1, e2, e3]; exact ⟨h0, h1, hD, w1, w2, hT, hb1, hb2⟩
  rcases m4' p1 with ⟨m1, m2, m3⟩ | hp1
  · refine nochange ?_ ?_ ?_
    · unfold f_X4_load_mem1
      rcases m2 with c | ⟨c, d⟩
      · rw [if_pos c]
      · rw [if_neg c, if_pos d]
    · unfold f_X4_load_mem2
      rcases m2 with c | ⟨c, d⟩
      · rw [if_pos c]
      · rw [if_neg c, if_pos d]
    · unfold f_X5_load_gB; rw [if_pos m1]
  have a1 : ¬ p1 < 0 := by rcases hp1 with rfl | rfl <;> decide
  have a2 : ¬ 1 < p1 := by rcases hp1 with rfl | rfl <;> decide
  have a3 : ¬ f_X5_isMachine_r p1 = 0 := by rcases hp1 with rfl | rfl <;> decide
  rcases s_place p2 with ⟨m1, m2⟩ | ⟨b1, b2, b3, b4⟩
  · refine nochange ?_ ?_ ?_
    · unfold f_X4_load_mem1
      rw [if_neg a1, if_neg a2]
      rcases m2 with c | ⟨c, d⟩
      · rw [if_pos c]
      · rw [if_neg c, if_pos d]
    · unfold f_X4_load_mem2
      rw [if_neg a1, if_neg a2]
      rcases m2 with c | ⟨c, d⟩
      · rw [if_pos c]
      · rw [if_neg c, if_pos d]
    · unfold f_X5_load_gB; rw [if_neg a3, if_pos m1]
  by_cases c3 : p8 < 1
  · refine nochange ?_ ?_ ?_
    · unfold f_X4_load_mem1; rw [if_neg a1, if_neg a2, if_neg b2, if_neg b3, if_pos c3]
    · unfold f_X4_load_mem2; rw [if_neg a1, if_neg a2, if_neg b2, if_neg b3, if_pos c3]
    · unfold f_X5_load_gB; rw [if_neg a3, if_neg b1, if_pos c3]
  by_cases c4 : p8 ≤ 20
  · have e1 : f_X4_load_mem1 mem1 p1 p2 p3 p4 p5 p6 p7 p8 = if p1 = 0 then keep5 mem1 p2 p3 p4 p5 p6 p7 p8 else mem1 := by
      unfold f_X4_load_mem1 keep5; rw [if_neg a1, if_neg a2, if_neg b2, if_neg b3, if_neg c3, if_pos c4]
    have e2 : f_X4_load_mem2 mem2 p1 p2 p3 p4 p5 p6 p7 p8 = if p1 = 0 then mem2 else keep5 mem2 p2 p3 p4 p5 p6 p7 p8 := by
      unfold f_X4_load_mem2 keep5; rw [if_neg a1, if_neg a2, if_neg b2, if_neg b3, if_neg c3, if_pos c4]
    rw [e1, e2]
    rcases hp1 with rfl | rfl
    · rw [if_pos rfl, if_pos rfl]
      have s := sr_load (Or.inl rfl) h0.1 b1 b4 c3 c4 (p3 := p3) (p4 := p4) (p5 := p5) (p6 := p6) (p7 := p7)
      have n0 : SR 0 fa2 fx2 fy2 fs2 fp2 fc2 mem2 fa1 fx1 fy1 fs1 fp1 fc1 (keep5 mem1 p2 p3 p4 p5 p6 p7 p8) ug ud lt ct hd la bt (f_X5_load_gB gB 0 p2 p3 p4 p5 p6 p7 p8) gA gX gY gS gP gC gR gM gL un ow := ⟨s, h0.2⟩
      exact ⟨n0, SR_01 n0 h1, hD, w1, w2, hT, hb1, hb2⟩
    · rw [if_neg (by decide), if_neg (by decide)]
      have s := sr_load (Or.inr rfl) h1.1 b1 b4 c3 c4 (p3 := p3) (p4 := p4) (p5 := p5) (p6 := p6) (p7 := p7)
      have n1 : SR 1 fa1 fx1 fy1 fs1 fp1 fc1 mem1 fa2 fx2 fy2 fs2 fp2 fc2 (keep5 mem2 p2 p3 p4 p5 p6 p7 p8) ug ud lt ct hd la bt (f_X5_load_gB gB 1 p2 p3 p4 p5 p6 p7 p8) gA gX gY gS gP gC gR gM gL un ow := ⟨s, h1.2⟩
      exact ⟨SR_10 n1 h0, n1, hD, w1, w2, hT, hb1, hb2⟩
  · refine nochange ?_ ?_ ?_
    · unfold f_X4_load_mem1; rw [if_neg a1, if_neg a2, if_neg b2, if_neg b3, if_neg c3, if_neg c4]
    · unfold f_X4_load_mem2; rw [if_neg a1, if_neg a2, if_neg b2, if_neg b3, if_neg c3, if_neg c4]
    · unfold f_X5_load_gB; rw [if_neg a3, if_neg b1, if_neg c3, if_neg c4]
set_option maxRecDepth 100000 in
theorem rt_reset {p1 : Int32} (h : RT ((fa1, fx1, fy1, fs1, fp1, fc1, fd1, fb1, fz1, mem1), (fa2, fx2, fy2, fs2, fp2, fc2, fd2, fb2, fz2, mem2), (ug, ud, lt, ct, hd, la, bt)) (gB, gA, gX, gY, gS, gP, gC, gD, gT, gR, gM, gL, un, ow, ln, mm)) : RT ((fa1, fx1, fy1, f_X4_reset_fs1 fs1 p1, f_X4_reset_fp1 fp1 p1, f_X4_reset_fc1 fc1 mem1 p1, f_X4_reset_fd1 fd1 p1, f_X4_reset_fb1 0 fb1 ug ct p1, fz1, mem1), (fa2, fx2, fy2, f_X4_reset_fs2 fs2 p1, f_X4_reset_fp2 fp2 p1, f_X4_reset_fc2 fc2 mem2 p1, f_X4_reset_fd2 fd2 p1, f_X4_reset_fb2 1 fb2 ug ct p1, fz2, mem2), (ug, ud, lt, ct, hd, la, bt)) (gB, gA, gX, gY, f_X5_reset_gS gS p1, f_X5_reset_gP gP p1, f_X5_reset_gC gB gC p1, f_X5_reset_gD gD p1, gT, gR, gM, gL, un, ow, f_X5_reset_ln un ln gM p1, f_X5_reset_mm mm p1) := by
  obtain ⟨h0, h1, hD, w1, w2, hT, hb1, hb2⟩ := h
  have eu : un = ug := h0.2.2.2.2.2.2.2.1.1
  have eo : ow = ud := h0.2.2.2.2.2.2.2.1.2.1
  subst eu
  subst eo
  rcases m4' p1 with ⟨m1, m2, m3⟩ | hp1
  · have q : RT ((fa1, fx1, fy1, fs1, fp1, fc1, fd1, fb1, fz1, mem1), (fa2, fx2, fy2, fs2, fp2, fc2, fd2, fb2, fz2, mem2), (un, ow, lt, ct, hd, la, bt)) (gB, gA, gX, gY, gS, gP, gC, gD, gT, gR, gM, gL, un, ow, ln, mm) := ⟨h0, h1, hD, w1, w2, hT, hb1, hb2⟩
    unfold f_X4_reset_fs1 f_X4_reset_fp1 f_X4_reset_fc1 f_X4_reset_fd1 f_X4_reset_fb1 f_X4_reset_fs2 f_X4_reset_fp2 f_X4_reset_fc2 f_X4_reset_fd2 f_X4_reset_fb2 f_X5_reset_gS f_X5_reset_gP f_X5_reset_gC f_X5_reset_gD f_X5_reset_ln
    rcases m2 with c | ⟨c, d⟩
    · simp only [c, m1, if_true]
      exact ⟨h0, h1, hD, w1, w2, hT, hb1, hb2⟩
    · simp only [c, d, m1, if_true, if_false]
      exact ⟨h0, h1, hD, w1, w2, hT, hb1, hb2⟩
  · have a1 : ¬ p1 < 0 := by rcases hp1 with rfl | rfl <;> decide
    have a2 : ¬ 1 < p1 := by rcases hp1 with rfl | rfl <;> decide
    have a3 : ¬ f_X5_isMachine_r p1 = 0 := by rcases hp1 with rfl | rfl <;> decide
    unfold f_X4_reset_fs1 f_X4_reset_fp1 f_X4_reset_fc1 f_X4_reset_fd1 f_X4_reset_fb1 f_X4_reset_fs2 f_X4_reset_fp2 f_X4_reset_fc2 f_X4_reset_fd2 f_X4_reset_fb2 f_X5_reset_gS f_X5_reset_gP f_X5_reset_gC f_X5_reset_gD f_X5_reset_ln
    simp only [a1, a2, a3, if_false]
    obtain ⟨hB, hA, hX, hY, hS, hP, hC, ⟨-, -, hf, hw⟩, hu⟩ := id h0
    obtain ⟨hB1, hA1, hX1, hY1, hS1, hP1, hC1, -, -⟩ := id h1
    rcases hp1 with rfl | rfl
    · simp only [if_true]
      have n0 := sl_reset sm0 hB hA hX hY hS hP hC hu hf hw
      have eb : f_X1_restart_fb 0 un ct = 0 := s_nmi0
      have el : f_X5_doReset_ln un ln gM 0 = ln := by unfold f_X5_doReset_ln; rw [if_neg (by decide)]
      rw [eb, el]
      exact ⟨n0, SR_01 n0 h1, ⟨pk_us, (pk_un s_kk).trans hD.2⟩, Or.inl rfl, w2, hT, rfl, hb2⟩
    · have n10 : ¬ (1 : Int32) = 0 := by decide
      simp only [n10, if_false]
      have n1 := sl_reset sm1 hB1 hA1 hX1 hY1 hS1 hP1 hC1 hu hf hw
      have eb : f_X1_restart_fb 1 un ct = f_X5_hasSharpLine_r un gM := s_nmi1 hu
      have el : f_X5_doReset_ln un ln gM 1 = f_X5_hasSharpLine_r un gM := by unfold f_X5_doReset_ln; rw [if_pos rfl]
      rw [eb, el]
      exact ⟨SR_10 n1 h0, n1, ⟨(pk_un (show 0 ≠ 1 by decide)).trans hD.1, pk_us⟩, w1, Or.inl rfl, hT, hb1, rfl⟩
set_option maxRecDepth 100000 in
theorem u8 {f : Nat → Int32} {r : Nat} (h : r < 8) : (upd (upd (upd (upd (upd (upd (upd (upd f 0 0) 1 0) 2 0) 3 0) 4 0) 5 0) 6 0) 7 0) r = 0 := by
  rcases s_8 h with rfl | rfl | rfl | rfl | rfl | rfl | rfl | rfl <;> rfl
set_option maxRecDepth 100000 in
theorem SR_clear {mm : Int32} (hm : wB mm) {ug : Int32} {lt ct hd la gA gX gY gS gP gC gR gM gL : Nat → Int32} {bt : Nat → Nat → Int32} (hf : ∃ j : Nat, j < 64 ∧ ug = nI j) (hl : ∀ r, r < 8 → lt r = nI (s_lim 0 r)) (hct : ∀ r, r < 8 → ct r = 0) (hhd : ∀ r, r < 8 → hd r = 0) (hla : ∀ r, r < 8 → la r = 0) :
    SR mm 0 0 0 0 32 0 (fun _ => 0) 0 0 0 0 32 0 (fun _ => 0) 0 0 lt ct hd la bt (fun _ => 0) (upd (upd gA 0 0) 1 0) (upd (upd gX 0 0) 1 0) (upd (upd gY 0 0) 1 0) (upd (upd gS 0 0) 1 0) (upd (upd gP 0 32) 1 32) (upd (upd gC 0 0) 1 0) gR (upd (upd (upd (upd (upd (upd (upd (upd gM 0 0) 1 0) 2 0) 3 0) 4 0) 5 0) 6 0) 7 0) (upd (upd (upd (upd (upd (upd (upd (upd gL 0 0) 1 0) 2 0) 3 0) 4 0) 5 0) 6 0) 7 0) 0 0 := by
  have z : s_b 0 := ⟨0, by decide, rfl⟩
  have zp : s_p 32 := ⟨32, by decide, rfl, by decide⟩
  have zw : s_w 0 := ⟨0, by decide, rfl⟩
  have u2 : ∀ (g : Nat → Int32) (v : Int32) (k : Nat), k < 2 → (upd (upd g 0 v) 1 v) k = v := by
    intro g v k hk
    rcases (show k = 0 ∨ k = 1 by omega) with rfl | rfl <;> rfl
  have k1 : mm.toNatClampNeg < 2 ∧ 1 - mm.toNatClampNeg < 2 := by rcases hm with rfl | rfl <;> decide
  refine ⟨fun j _ => ⟨rfl, rfl, z⟩, ⟨u2 _ _ _ k1.1, u2 _ _ _ k1.2, z⟩, ⟨u2 _ _ _ k1.1, u2 _ _ _ k1.2, z⟩, ⟨u2 _ _ _ k1.1, u2 _ _ _ k1.2, z⟩, ⟨u2 _ _ _ k1.1, u2 _ _ _ k1.2, z⟩, ⟨u2 _ _ _ k1.1, u2 _ _ _ k1.2, zp⟩, ⟨u2 _ _ _ k1.1, u2 _ _ _ k1.2, zw⟩, ⟨rfl, rfl, ⟨0, by decide, rfl⟩, Or.inl rfl⟩, ?_⟩
  intro r hr
  exact ⟨0, 0, hct r hr, u8 hr, hhd r hr, Nat.zero_le _, rl_24.2, hl r hr, by rw [u8 hr, hla r hr], by rw [hla r hr]; exact z, fun i hi => absurd hi (by omega)⟩
set_option maxRecDepth 100000 in
theorem rt_clear (h : RT ((fa1, fx1, fy1, fs1, fp1, fc1, fd1, fb1, fz1, mem1), (fa2, fx2, fy2, fs2, fp2, fc2, fd2, fb2, fz2, mem2), (ug, ud, lt, ct, hd, la, bt)) (gB, gA, gX, gY, gS, gP, gC, gD, gT, gR, gM, gL, un, ow, ln, mm)) : RT ((f_X4_clear_fa1, f_X4_clear_fx1, f_X4_clear_fy1, f_X4_clear_fs1, f_X4_clear_fp1, f_X4_clear_fc1, f_X4_clear_fd1, f_X4_clear_fb1, f_X4_clear_fz1, f_X4_clear_mem1), (f_X4_clear_fa2, f_X4_clear_fx2, f_X4_clear_fy2, f_X4_clear_fs2, f_X4_clear_fp2, f_X4_clear_fc2, f_X4_clear_fd2, f_X4_clear_fb2, f_X4_clear_fz2, f_X4_clear_mem2), (f_X4_clear_ug ug, f_X4_clear_ud, f_X4_clear_lt ug lt, f_X4_clear_ct ct, f_X4_clear_hd hd, f_X4_clear_la la, bt)) (f_X5_clear_gB, f_X5_clear_gA gA, f_X5_clear_gX gX, f_X5_clear_gY gY, f_X5_clear_gS gS, f_X5_clear_gP gP, f_X5_clear_gC gC, f_X5_clear_gD gD, f_X5_clear_gT gT, gR, f_X5_clear_gM gM, f_X5_clear_gL gL, f_X5_clear_un, f_X5_clear_ow, f_X5_clear_ln, mm) := by
  obtain ⟨h0, h1, hD, w1, w2, hT, hb1, hb2⟩ := h
  obtain ⟨hB, hA, hX, hY, hS, hP, hC, ⟨-, -, hf, hw⟩, hu⟩ := h0
  have eg : f_X4_clear_ug ug = 0 := by
    obtain ⟨j, hj, rfl⟩ := hf
    exact (show ∀ j : Nat, j < 64 → f_X4_clear_ug (nI j) = 0 by decide +kernel) j hj
  have hl : ∀ r, r < 8 → f_X4_clear_lt ug lt r = nI (s_lim 0 r) := by
    intro r hr
    have := (ru_c (ru_wf (v := 63) hu) hr).2.1
    have eg' : f_X3_writeFlags_ug ug 63 = 0 := eg
    rw [eg'] at this
    exact this
  have hct : ∀ r, r < 8 → f_X4_clear_ct ct r = 0 := fun r hr => u8 hr
  have hhd : ∀ r, r < 8 → f_X4_clear_hd hd r = 0 := fun r hr => u8 hr
  have hla : ∀ r, r < 8 → f_X4_clear_la la r = 0 := fun r hr => u8 hr
  rw [eg]
  exact ⟨SR_clear (Or.inl rfl) hf hl hct hhd hla, SR_clear (Or.inr rfl) hf hl hct hhd hla, ⟨rfl, rfl⟩, Or.inr rfl, Or.inr rfl, ⟨rfl, rfl⟩, rfl, rfl⟩
set_option maxRecDepth 100000 in
theorem rt_new {lt0 z0 : Nat → Int32} {zz : Nat → Nat → Int32} (hl : ∀ r, r < 8 → lt0 r = nI (s_lim 0 r)) (hz : ∀ r, r < 8 → z0 r = 0) : RT ((0, 0, 0, 0, 32, 0, 1, 0, 0, fun _ => 0), (0, 0, 0, 0, 32, 0, 1, 0, 0, fun _ => 0), (0, 0, lt0, z0, z0, z0, zz)) (f_X5_clear_gB, f_X5_clear_gA (fun _ => 0), f_X5_clear_gX (fun _ => 0), f_X5_clear_gY (fun _ => 0), f_X5_clear_gS (fun _ => 0), f_X5_clear_gP (fun _ => 0), f_X5_clear_gC (fun _ => 0), f_X5_clear_gD (fun _ => 0), f_X5_clear_gT (fun _ => 0), (fun _ => 0), f_X5_clear_gM (fun _ => 0), f_X5_clear_gL (fun _ => 0), f_X5_init_f13, f_X5_init_f14, f_X5_init_f15, 0) :=
  ⟨SR_clear (Or.inl rfl) ⟨0, by decide, rfl⟩ hl hz hz hz, SR_clear (Or.inr rfl) ⟨0, by decide, rfl⟩ hl hz hz hz, ⟨rfl, rfl⟩, Or.inr rfl, Or.inr rfl, ⟨rfl, rfl⟩, rfl, rfl⟩
set_option maxRecDepth 100000 in
/-- what they answer -/
theorem an_byteAt {p1 p2 : Int32} (h : RT ((fa1, fx1, fy1, fs1, fp1, fc1, fd1, fb1, fz1, mem1), (fa2, fx2, fy2, fs2, fp2, fc2, fd2, fb2, fz2, mem2), (ug, ud, lt, ct, hd, la, bt)) (gB, gA, gX, gY, gS, gP, gC, gD, gT, gR, gM, gL, un, ow, ln, mm)) : f_X5_byteAt_r gB p1 p2 = f_X4_byteAt_r mem1 mem2 p1 p2 := by
  obtain ⟨h0, h1, -⟩ := h
  unfold f_X5_byteAt_r f_X4_byteAt_r
  rcases m4' p1 with ⟨m1, m2, m3⟩ | hp1
  · rw [if_pos m1]
    rcases m2 with c | ⟨c, d⟩
    · rw [if_pos c]
    · rw [if_neg c, if_pos d]
  · have a1 : ¬ p1 < 0 := by rcases hp1 with rfl | rfl <;> decide
    have a2 : ¬ 1 < p1 := by rcases hp1 with rfl | rfl <;> decide
    have a3 : ¬ f_X5_isMachine_r p1 = 0 := by rcases hp1 with rfl | rfl <;> decide
    rw [if_neg a1, if_neg a2, if_neg a3]
    rcases s_place p2 with ⟨m1, m2⟩ | ⟨b1, b2, b3, b4⟩
    · rw [if_pos m1]
      rcases m2 with c | ⟨c, d⟩
      · rw [if_pos c]
      · rw [if_neg c, if_pos d]
    · rw [if_neg b1, if_neg b2, if_neg b3]
      obtain ⟨a, ha, rfl⟩ := b4
      rcases hp1 with rfl | rfl
      · rw [if_pos rfl]
        exact rm_kept (Or.inl rfl) h0.1 (i := a) (j := a) (by omega) (by omega) rfl
      · rw [if_neg (by decide)]
        exact rm_kept (Or.inr rfl) h1.1 (i := a) (j := a) (by omega) (by omega) rfl
set_option maxRecDepth 100000 in
theorem an_steps {p1 : Int32} (h : RT ((fa1, fx1, fy1, fs1, fp1, fc1, fd1, fb1, fz1, mem1), (fa2, fx2, fy2, fs2, fp2, fc2, fd2, fb2, fz2, mem2), (ug, ud, lt, ct, hd, la, bt)) (gB, gA, gX, gY, gS, gP, gC, gD, gT, gR, gM, gL, un, ow, ln, mm)) : f_X5_steps_r gT p1 = f_X4_steps_r fz1 fz2 p1 := by
  obtain ⟨h0, h1, hD, w1, w2, hT, hb1, hb2⟩ := h
  unfold f_X5_steps_r f_X4_steps_r
  rcases m4' p1 with ⟨m1, m2, m3⟩ | hp1
  · rw [if_pos m1]
    rcases m2 with c | ⟨c, d⟩
    · rw [if_pos c]
    · rw [if_neg c, if_pos d]
  · have a1 : ¬ p1 < 0 := by rcases hp1 with rfl | rfl <;> decide
    have a2 : ¬ 1 < p1 := by rcases hp1 with rfl | rfl <;> decide
    have a3 : ¬ f_X5_isMachine_r p1 = 0 := by rcases hp1 with rfl | rfl <;> decide
    rw [if_neg a1, if_neg a2, if_neg a3]
    rcases hp1 with rfl | rfl
    · rw [if_pos rfl]; exact hT.1
    · rw [if_neg (by decide)]; exact hT.2
set_option maxRecDepth 100000 in
theorem an_port {p1 p2 : Int32} (h : RT ((fa1, fx1, fy1, fs1, fp1, fc1, fd1, fb1, fz1, mem1), (fa2, fx2, fy2, fs2, fp2, fc2, fd2, fb2, fz2, mem2), (ug, ud, lt, ct, hd, la, bt)) (gB, gA, gX, gY, gS, gP, gC, gD, gT, gR, gM, gL, un, ow, ln, mm)) : f_X5_port_r un gR gM gL p1 p2 = f_X4_port_r ug lt ct hd la bt p1 p2 := by
  obtain ⟨h0, h1, -⟩ := h
  obtain ⟨hB, hA, hX, hY, hS, hP, hC, ⟨eu, -, hf, hw⟩, hu⟩ := h0
  subst eu
  unfold f_X5_port_r f_X4_port_r
  rcases m4' p1 with ⟨m1, m2, m3⟩ | hp1
  · rw [if_pos m1]
    rcases m2 with c | ⟨c, d⟩
    · rw [if_pos c]
    · rw [if_neg c, if_pos d]
  · have a1 : ¬ p1 < 0 := by rcases hp1 with rfl | rfl <;> decide
    have a2 : ¬ 1 < p1 := by rcases hp1 with rfl | rfl <;> decide
    have a3 : ¬ f_X5_isMachine_r p1 = 0 := by rcases hp1 with rfl | rfl <;> decide
    rw [if_neg a1, if_neg a2, if_neg a3]
    rcases pk_ix p2 (n := 8) (by decide) with c | c | ⟨k, hk, rfl⟩
    · rw [if_pos c, if_pos c]
    · have c' : (8 : Int32) ≤ p2 := c
      by_cases d : p2 < 0
      · rw [if_pos d, if_pos d]
      · rw [if_neg d, if_neg d, if_pos c', if_pos c']
    · have d := nI_pos (n := k) (by omega)
      have e : ¬ (8 : Int32) ≤ nI k := fun z => by have := (nI_leI (a := 8) (b := k) (by decide) (by omega)).mp z; omega
      rw [if_neg d, if_neg d, if_neg e, if_neg e]
      rcases hp1 with rfl | rfl
      · exact sr_peek sm0 hk hf hu
      · exact sr_peek sm1 hk hf hu
set_option maxRecDepth 100000 in
theorem an_waits {p1 p2 : Int32} (h : RT ((fa1, fx1, fy1, fs1, fp1, fc1, fd1, fb1, fz1, mem1), (fa2, fx2, fy2, fs2, fp2, fc2, fd2, fb2, fz2, mem2), (ug, ud, lt, ct, hd, la, bt)) (gB, gA, gX, gY, gS, gP, gC, gD, gT, gR, gM, gL, un, ow, ln, mm)) : f_X5_waits_r gM p1 p2 = f_X4_waits_r ct p1 p2 := by
  obtain ⟨h0, h1, -⟩ := h
  obtain ⟨hB, hA, hX, hY, hS, hP, hC, ⟨eu, -, hf, hw⟩, hu⟩ := h0
  unfold f_X5_waits_r f_X4_waits_r
  rcases m4' p1 with ⟨m1, m2, m3⟩ | hp1
  · rw [if_pos m1]
    rcases m2 with c | ⟨c, d⟩
    · rw [if_pos c]
    · rw [if_neg c, if_pos d]
  · have a1 : ¬ p1 < 0 := by rcases hp1 with rfl | rfl <;> decide
    have a2 : ¬ 1 < p1 := by rcases hp1 with rfl | rfl <;> decide
    have a3 : ¬ f_X5_isMachine_r p1 = 0 := by rcases hp1 with rfl | rfl <;> decide
    rw [if_neg a1, if_neg a2, if_neg a3]
    by_cases c : p2 < 1
    · rw [if_pos c, if_pos c]
    · by_cases d : 4 < p2
      · rw [if_neg c, if_neg c, if_pos d, if_pos d]
      · rw [if_neg c, if_neg c, if_neg d, if_neg d]
        have d' : p2 ≤ 20 := by
          rw [i_lt', show (4 : Int32).toInt = 4 by decide] at d
          rw [i_le', show (20 : Int32).toInt = 20 by decide]; omega
        obtain ⟨n, n1, n2, rfl⟩ := s_num c d'
        have n4 : n ≤ 4 := Classical.byContradiction fun z => d ((nI_ltI (a := 4) (b := n) (by decide) (by omega)).mpr (by omega))
        rcases hp1 with rfl | rfl <;> rcases (show n = 1 ∨ n = 2 ∨ n = 3 ∨ n = 4 by omega) with rfl | rfl | rfl | rfl
        · exact (ru_c hu (r := 0) (by decide)).1
        · exact (ru_c hu (r := 1) (by decide)).1
        · exact (ru_c hu (r := 2) (by decide)).1
        · exact (ru_c hu (r := 3) (by decide)).1
        · exact (ru_c hu (r := 4) (by decide)).1
        · exact (ru_c hu (r := 5) (by decide)).1
        · exact (ru_c hu (r := 6) (by decide)).1
        · exact (ru_c hu (r := 7) (by decide)).1
set_option maxRecDepth 100000 in
theorem rt_ok (h : RT ((fa1, fx1, fy1, fs1, fp1, fc1, fd1, fb1, fz1, mem1), (fa2, fx2, fy2, fs2, fp2, fc2, fd2, fb2, fz2, mem2), (ug, ud, lt, ct, hd, la, bt)) (gB, gA, gX, gY, gS, gP, gC, gD, gT, gR, gM, gL, un, ow, ln, mm)) : uOk lt ct hd := by
  obtain ⟨h0, h1, -⟩ := h
  obtain ⟨hB, hA, hX, hY, hS, hP, hC, -, hu⟩ := h0
  intro j hj
  obtain ⟨c, q, e1, e2, e3, h4, h5, h6, h7, h8, h9⟩ := hu j hj
  exact ⟨s_lim ug j, c, q, h6, e1, e3, sl_le, h4, h5, rl_24.1⟩
end CALLS
