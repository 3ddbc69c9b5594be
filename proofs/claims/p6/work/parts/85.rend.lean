/-! The refutation. The start is the printed witness's, with another script at its cell 0; at this script of five calls the law returns 0. -/
def rf_script : List Int32 := [0, 0, 512, (-1449095712), (-22470515), (-520224768), 0, 0, 10, 0, 0, 65532, 131072, 0, 0, 0, 0, 2, 2, 0, 0, 0, 0, 0, 0, 0, 0, 3, 4, 0, 0, 0, 0, 0, 0, 0, 4, 1, 6, 0, 0, 0, 0, 0, 0]
def rf_cells : Array Value := ⟨rf_script.map Value.int⟩
def rf_about : State := start1.aboutOf rf_cells
theorem rf_same {c : Jvm.Cond} (h : su_isCode c = true) : c.before start1.args0 rf_about = c.before start1.args0 start1.about := by
  cases c <;> first | rfl | (exact absurd h (by decide)) | (simp [su_isCode] at h; done)
theorem rf_codes {l : List Jvm.Cond} (h : ∀ c ∈ l.filter su_isCode, c.before start1.args0 start1.about = true) : ∀ c ∈ l.filter su_isCode, c.before start1.args0 rf_about = true :=
  fun c hc => (rf_same (List.mem_filter.mp hc).2).trans (h c hc)
set_option maxRecDepth 100000 in
theorem rf_others_1 : tables_1_1.all (fun c => su_isCode c || c.before start1.args0 rf_about) = true := by decide +kernel
set_option maxRecDepth 100000 in
theorem rf_others_2 : tables_1_2.all (fun c => su_isCode c || c.before start1.args0 rf_about) = true := by decide +kernel
set_option maxRecDepth 100000 in
theorem rf_others_3 : tables_1_3.all (fun c => su_isCode c || c.before start1.args0 rf_about) = true := by decide +kernel
set_option maxRecDepth 100000 in
theorem rf_others_4 : tables_1_4.all (fun c => su_isCode c || c.before start1.args0 rf_about) = true := by decide +kernel
theorem rf_words : ∀ c ∈ (Cond.code x code maxLocals ret :: tables_1), c.before start1.args0 rf_about = true := by
  intro c hc
  rcases List.mem_cons.mp hc with h | h
  · rw [h]; exact (rf_same rfl).trans start1.word_code
  · have h1 : c ∈ tables_1_1 ++ (tables_1_2 ++ (tables_1_3 ++ tables_1_4)) := h
    rcases List.mem_append.mp h1 with h2 | h1
    · exact su_words rf_others_1 (rf_codes start1.codes_hold_1) c h2
    rcases List.mem_append.mp h1 with h2 | h1
    · exact su_words rf_others_2 (rf_codes start1.codes_hold_2) c h2
    rcases List.mem_append.mp h1 with h2 | h1
    · exact su_words rf_others_3 (rf_codes start1.codes_hold_3) c h2
    exact su_words rf_others_4 (rf_codes start1.codes_hold_4) c h1
set_option maxRecDepth 100000 in
theorem rf_atStart : AtStart classFile x code maxLocals ret World_1 tables_1 room_1 Calls_1 rest_1 Pre_1 launch0 start1.p0 start1.e0 rf_about ⟨0, 0⟩ start1.args0 Lib.HandBits.below0 :=
  ⟨lists_1, trivial, launch0.admits_env _ _ _, launch0.least_env, fairChoices_fair.cas, fairChoices_fair.clock, rfl, by decide +kernel, by decide +kernel,
    (Spec.applies_iff rfl).mpr ⟨rfl, rfl, rfl, by decide +kernel, by decide +kernel, by decide +kernel, launch0.hasRoom_least _ room_1 (by decide +kernel) (by decide +kernel) (by decide +kernel) (by decide +kernel) (by decide +kernel) (by decide +kernel), atoms_intro rf_words⟩,
    trivial, (show rest_1_c.before start1.args0 rf_about = true by decide +kernel), (show (Cond.and given_1 narrow_1).before start1.args0 rf_about = true by decide +kernel)⟩
set_option maxRecDepth 100000 in
theorem rf_val : lawF (fun j => rf_script.getD j 0) (rf_script.length / 9) 0 (((0, 0, 0, 0, 32, 0, 1, 0, 0, fun _ => 0), (0, 0, 0, 0, 32, 0, 1, 0, 0, fun _ => 0), (0, 0, lt0, z0, z0, z0, zz)) : CS) ((f_X5_clear_gB, (f_X5_clear_gA (fun _ => 0)), (f_X5_clear_gX (fun _ => 0)), (f_X5_clear_gY (fun _ => 0)), (f_X5_clear_gS (fun _ => 0)), (f_X5_clear_gP (fun _ => 0)), (f_X5_clear_gC (fun _ => 0)), (f_X5_clear_gD (fun _ => 0)), (f_X5_clear_gT (fun _ => 0)), (fun _ => 0), (f_X5_clear_gM (fun _ => 0)), (f_X5_clear_gL (fun _ => 0)), f_X5_init_f13, f_X5_init_f14, f_X5_init_f15, 0) : MS) (fun _ => 0) = 0 := by decide +kernel
theorem rf_nt : launch0.stackTraces = false := by decide +kernel
set_option maxRecDepth 100000 in
theorem rf_ints : rf_about.IntsAt 0 rf_script :=
  ⟨_, rfl, rfl, ⟨fun k h => (by cases (show VmData.none = VmData.statics k from h)), _, rfl, _, rfl⟩, by decide⟩
theorem rf_ends : ∃ n, (∀ k, k < n → Within (stepsAlone start1.p0.tables start1.e0 k rf_about) Lib.HandBits.below0) ∧ (stepsAlone start1.p0.tables start1.e0 n rf_about).status = Status.running ∧ Ended (stepsAlone start1.p0.tables start1.e0 n rf_about) Lib.HandBits.below0 (.returned (some (.int 0))) := by
  obtain ⟨-, -, ha, -, hc, hk, hf, hfit, hheap, happ, hca, hre, hpre⟩ := rf_atStart
  obtain ⟨k, o, h1, h2, h3, ho, -⟩ := lw_walk launch0 rf_nt 0 rf_script rf_val start1.p0 start1.e0 ha hc hk rf_about ⟨0, 0⟩ start1.args0 Lib.HandBits.below0 hf ((Spec.applies_iff_loose hf).mp happ).1 ⟨rfl, rf_ints, by decide, hpre⟩ trivial
  subst ho
  exact ⟨k, h1, h2, h3⟩
theorem rf_post {a : Array Value} {s t : State} : ¬ limb_1_2.after a s (.returned (some (.int 0))) t = true := by
  intro h
  have h4 := Cond.after_iff.mp h
  rw [show limb_1_2 = Cond.eq .result (.int 1) from rfl, Cond.eq_ints (x := 0) (y := 1) rfl rfl] at h4
  exact absurd h4 (by decide)
/-- the second half of the claim, that the answer is 1, falls -/
theorem refuted_1_2 : RefutedClaimed_1_2 := by
  obtain ⟨k, h1, h2, h3⟩ := rf_ends
  exact ⟨launch0, start1.p0, start1.e0, rf_about, ⟨0, 0⟩, start1.args0, Lib.HandBits.below0, rfl, rf_atStart, k, _, h1, h2, h3, fun hpost => rf_post hpost.1⟩
/-- and so the owed statement itself -/
theorem not_owed : ¬ (Claimed_1_1 ∧ Claimed_1_2) := by
  rintro ⟨-, h⟩
  obtain ⟨k, h1, h2, h3⟩ := rf_ends
  obtain ⟨hL, hW, ha, -, hc, hk, hf, hfit, hheap, happ, hca, hre, hpre⟩ := rf_atStart
  obtain ⟨n', o', g1, g2, g3, g4⟩ := h launch0 rfl hL hW start1.p0 start1.e0 ha hc hk rf_about ⟨0, 0⟩ start1.args0 Lib.HandBits.below0 hf hfit hheap happ ⟨hca, hre, hpre⟩
  have e : k = n' := by
    rcases Nat.lt_trichotomy k n' with q | q | q
    · exact absurd (g1 k q) h3.not_within
    · exact q
    · exact absurd (h1 n' q) g3.not_within
  subst e
  have eo := h3.outcome_unique g3
  subst eo
  exact rf_post g4.1

