def lt0 : Nat → Int32 := fun k => match k with | 0 => 24 | _ => 1
def z0 : Nat → Int32 := fun _ => 0
def zz : Nat → Nat → Int32 := fun _ _ => 0
theorem hro0 : uOk lt0 z0 z0 := by
  intro j hj
  rcases (show j = 0 ∨ j = 1 ∨ j = 2 ∨ j = 3 ∨ j = 4 ∨ j = 5 ∨ j = 6 ∨ j = 7 by omega) with rfl | rfl | rfl | rfl | rfl | rfl | rfl | rfl
  · exact ⟨24, 0, 0, rfl, rfl, rfl, by decide, by decide, by decide, by decide⟩
  all_goals exact ⟨1, 0, 0, rfl, rfl, rfl, by decide, by decide, by decide, by decide⟩
theorem vl_byteAt (xs : Nat → Int32) (h : (f_L_byteAt_r (xs 1) (xs 2)) = 0) : (lg_cmp ((f_L_byteAt_go (fun _ => 0) (fun _ => 0) (fun _ => 0) (xs 1) (xs 2)) 0) ((f_X5_byteAt_r f_X5_clear_gB (xs 1) (xs 2)).toInt64)) = 0 := by
  generalize xs 1 = p1 at h ⊢
  generalize xs 2 = p2 at h ⊢
  have e1 : f_X4_byteAt_r (fun _ => 0) (fun _ => 0) p1 p2 = 0 := by
    unfold f_X4_byteAt_r f_X1_kept_r
    repeat' split
    all_goals rfl
  have e2 : f_X5_byteAt_r f_X5_clear_gB p1 p2 = 0 := by
    unfold f_X5_byteAt_r f_X5_clear_gB
    repeat' split
    all_goals rfl
  unfold f_L_byteAt_go
  rw [e1, e2]
  split <;> decide
theorem vl_run (xs : Nat → Int32) (h : (f_L_run_r (xs 1) (xs 2)) = 0) : (lg_cmp ((f_L_run_go (fun _ => 0) (xs 1) (xs 2)) 0) (f_X5_run0_r.toInt64)) = 0 := by
  generalize xs 1 = p1 at h ⊢
  generalize xs 2 = p2 at h ⊢
  unfold f_L_run_go
  split
  · unfold f_X4_run0_r
    repeat' split
    all_goals decide
  · decide
theorem vl_register (xs : Nat → Int32) (h : (f_L_register_r (xs 1) (xs 2)) = 0) : (lg_cmp ((f_L_register_go 0 0 0 0 0 32 0 1 1 0 0 0 0 32 0 1 0 0 (fun _ => 0) (xs 1) (xs 2)) 0) ((f_X5_register_r (f_X5_clear_gA (fun _ => 0)) (f_X5_clear_gX (fun _ => 0)) (f_X5_clear_gY (fun _ => 0)) (f_X5_clear_gS (fun _ => 0)) (f_X5_clear_gP (fun _ => 0)) (f_X5_clear_gC (fun _ => 0)) (f_X5_clear_gD (fun _ => 0)) (xs 1) (xs 2)).toInt64)) = 0 := by
  generalize xs 1 = p1 at h ⊢
  generalize xs 2 = p2 at h ⊢
  unfold f_L_register_r f_X4_register_t at h
  have h0 : ¬ p1 < 0 := fun q => by simp [q] at h
  have h1 : ¬ 1 < p1 := fun q => by simp [q, h0] at h
  have h2 : ¬ p2 < 0 := fun q => by simp [q, h0, h1] at h
  have h3 : ¬ 7 ≤ p2 := fun q => by simp [q, h0, h1, h2] at h
  obtain ⟨j, hj, rfl⟩ := rg_in (p := p2) 7 (by decide) h2 h3
  rcases rg_m h0 h1 with rfl | rfl <;> rcases (show j = 0 ∨ j = 1 ∨ j = 2 ∨ j = 3 ∨ j = 4 ∨ j = 5 ∨ j = 6 by omega) with rfl | rfl | rfl | rfl | rfl | rfl | rfl <;> decide +kernel
theorem vl_port (xs : Nat → Int32) (h : (f_L_port_r (xs 1) (xs 2)) = 0) : (lg_cmp ((f_L_port_go 0 lt0 z0 z0 z0 zz (fun _ => 0) (xs 1) (xs 2)) 0) ((f_X5_port_r f_X5_init_f13 (fun _ => 0) (f_X5_clear_gM (fun _ => 0)) (f_X5_clear_gL (fun _ => 0)) (xs 1) (xs 2)).toInt64)) = 0 := by
  generalize xs 1 = p1 at h ⊢
  generalize xs 2 = p2 at h ⊢
  unfold f_L_port_r f_X4_port_t at h
  have h0 : ¬ p1 < 0 := fun q => by simp [q] at h
  have h1 : ¬ 1 < p1 := fun q => by simp [q, h0] at h
  have h2 : ¬ p2 < 0 := fun q => by simp [q, h0, h1] at h
  have h3 : ¬ 8 ≤ p2 := fun q => by simp [q, h0, h1, h2] at h
  obtain ⟨j, hj, rfl⟩ := rg_in (p := p2) 8 (by decide) h2 h3
  rcases rg_m h0 h1 with rfl | rfl <;> rcases (show j = 0 ∨ j = 1 ∨ j = 2 ∨ j = 3 ∨ j = 4 ∨ j = 5 ∨ j = 6 ∨ j = 7 by omega) with rfl | rfl | rfl | rfl | rfl | rfl | rfl | rfl <;> decide +kernel
theorem vl_waits (xs : Nat → Int32) (h : (f_L_waits_r (xs 1) (xs 2)) = 0) : (lg_cmp ((f_L_waits_go z0 (fun _ => 0) (xs 1) (xs 2)) 0) ((f_X5_waits_r (f_X5_clear_gM (fun _ => 0)) (xs 1) (xs 2)).toInt64)) = 0 := by
  generalize xs 1 = p1 at h ⊢
  generalize xs 2 = p2 at h ⊢
  unfold f_L_waits_r f_X4_waits_t at h
  have h0 : ¬ p1 < 0 := fun q => by simp [q] at h
  have h1 : ¬ 1 < p1 := fun q => by simp [q, h0] at h
  have h2 : ¬ p2 < 1 := fun q => by simp [q, h0, h1] at h
  have h3 : ¬ 4 < p2 := fun q => by simp [q, h0, h1, h2] at h
  obtain ⟨j, hj, rfl⟩ := rg_in (p := p2) 5 (by decide) (fun q => h2 (Int32.lt_trans q (by decide))) (fun q => h3 (by rw [← i_step (a := 4) (b := 5) (by decide)]; exact q))
  rcases rg_m h0 h1 with rfl | rfl <;> rcases (show j = 0 ∨ j = 1 ∨ j = 2 ∨ j = 3 ∨ j = 4 by omega) with rfl | rfl | rfl | rfl | rfl <;> first | decide +kernel | exact absurd (by decide) h2
theorem vl_steps (xs : Nat → Int32) (h : (f_L_steps_r (xs 1)) = 0) : (lg_cmp ((f_L_steps_go 0 0 (fun _ => 0) (xs 1)) 0) (f_X5_steps_r (f_X5_clear_gT (fun _ => 0)) (xs 1))) = 0 := by
  generalize xs 1 = p1 at h ⊢
  unfold f_L_steps_r f_X4_steps_t at h
  have h0 : ¬ p1 < 0 := fun q => by simp [q] at h
  have h1 : ¬ 1 < p1 := fun q => by simp [q] at h
  rcases rg_m h0 h1 with rfl | rfl <;> decide +kernel
