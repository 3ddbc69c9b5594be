def f_X5_way_r (p1 : Int32) : Int32 := (if (p1 - p1 / 4 * 4) = 1 then (if ((p1 >>> ((2 : Int32) &&& 31)) &&& 7) = 0 then 8 else (if ((p1 >>> ((2 : Int32) &&& 31)) &&& 7) = 1 then 2 else (if ((p1 >>> ((2 : Int32) &&& 31)) &&& 7) = 2 then 1 else (if ((p1 >>> ((2 : Int32) &&& 31)) &&& 7) = 3 then 5 else (if ((p1 >>> ((2 : Int32) &&& 31)) &&& 7) = 4 then 9 else (if ((p1 >>> ((2 : Int32) &&& 31)) &&& 7) = 5 then 3 else (if ((p1 >>> ((2 : Int32) &&& 31)) &&& 7) = 6 then 7 else 6))))))) else (if (p1 / 32) = 4 then (if (p1 - p1 / 4 * 4) = 2 then (if p1 = 160 then 1 else (if p1 = 162 then 1 else (if p1 = 192 then 1 else (if p1 = 224 then 1 else (if ((p1 >>> ((2 : Int32) &&& 31)) &&& 7) = 1 then 2 else (if ((p1 >>> ((2 : Int32) &&& 31)) &&& 7) = 3 then 5 else (if ((p1 >>> ((2 : Int32) &&& 31)) &&& 7) = 5 then 4 else (if ((p1 >>> ((2 : Int32) &&& 31)) &&& 7) = 7 then 7 else (if p1 = 10 then 10 else (if p1 = 42 then 10 else (if p1 = 74 then 10 else (if p1 = 106 then 10 else 0)))))))))))) else (if p1 = 160 then 1 else (if p1 = 162 then 1 else (if p1 = 192 then 1 else (if p1 = 224 then 1 else (if ((p1 >>> ((2 : Int32) &&& 31)) &&& 7) = 1 then 2 else (if ((p1 >>> ((2 : Int32) &&& 31)) &&& 7) = 3 then 5 else (if ((p1 >>> ((2 : Int32) &&& 31)) &&& 7) = 5 then 3 else (if ((p1 >>> ((2 : Int32) &&& 31)) &&& 7) = 7 then 6 else (if p1 = 10 then 10 else (if p1 = 42 then 10 else (if p1 = 74 then 10 else (if p1 = 106 then 10 else 0))))))))))))) else (if (p1 / 32) = 5 then (if (p1 - p1 / 4 * 4) = 2 then (if p1 = 160 then 1 else (if p1 = 162 then 1 else (if p1 = 192 then 1 else (if p1 = 224 then 1 else (if ((p1 >>> ((2 : Int32) &&& 31)) &&& 7) = 1 then 2 else (if ((p1 >>> ((2 : Int32) &&& 31)) &&& 7) = 3 then 5 else (if ((p1 >>> ((2 : Int32) &&& 31)) &&& 7) = 5 then 4 else (if ((p1 >>> ((2 : Int32) &&& 31)) &&& 7) = 7 then 7 else (if p1 = 10 then 10 else (if p1 = 42 then 10 else (if p1 = 74 then 10 else (if p1 = 106 then 10 else 0)))))))))))) else (if p1 = 160 then 1 else (if p1 = 162 then 1 else (if p1 = 192 then 1 else (if p1 = 224 then 1 else (if ((p1 >>> ((2 : Int32) &&& 31)) &&& 7) = 1 then 2 else (if ((p1 >>> ((2 : Int32) &&& 31)) &&& 7) = 3 then 5 else (if ((p1 >>> ((2 : Int32) &&& 31)) &&& 7) = 5 then 3 else (if ((p1 >>> ((2 : Int32) &&& 31)) &&& 7) = 7 then 6 else (if p1 = 10 then 10 else (if p1 = 42 then 10 else (if p1 = 74 then 10 else (if p1 = 106 then 10 else 0))))))))))))) else (if p1 = 160 then 1 else (if p1 = 162 then 1 else (if p1 = 192 then 1 else (if p1 = 224 then 1 else (if ((p1 >>> ((2 : Int32) &&& 31)) &&& 7) = 1 then 2 else (if ((p1 >>> ((2 : Int32) &&& 31)) &&& 7) = 3 then 5 else (if ((p1 >>> ((2 : Int32) &&& 31)) &&& 7) = 5 then 3 else (if ((p1 >>> ((2 : Int32) &&& 31)) &&& 7) = 7 then 6 else (if p1 = 10 then 10 else (if p1 = 42 then 10 else (if p1 = 74 then 10 else (if p1 = 106 then 10 else 0)))))))))))))))
set_option maxHeartbeats 4000000 in
set_option maxRecDepth 100000 in
/-- X5_way -/
theorem c_X5_way (l : Launch) (dC : Nat → ClassId) (dI : Nat → Nat → Nat) (sz : Nat) (p1 : Int32)  : Met l yX5_way (Cond.code yX5_way cX5_way 3 (some .int) :: gw) { frames := 0, cells := 0, slots := 0, locals := 0 } (va_Pc [.int p1] (wPre (dC, dI) [] [] sz wX0)) (va_Qi (fun (r : Int32) (_ : Unit) => r = (f_X5_way_r p1)) (fun _ t => wPost (dC, dI) (va_A [] sz) [] t) (va_A [] sz)) 0 0 (va_A [] sz) := by
  refine Met.ofW (cc := cX5_way) (maxL := 3) (ret := (some .int)) (by decide) rfl ?_
  intro p e s m args below meth c s₁ B hml hv
  obtain ⟨rfl, hsz, hP, hK, hD0, hXX⟩ := hv
  have hx := B.exec
  have hb := B.bytes
  have hr := B.returns
  have hts := atoms_spec (ws := (Cond.code yX5_way cX5_way 3 (some .int) :: gw)) B.pre
  have hown : s.vm.findClass RX5 = some m.cls := findClass_of_methodNamed B.named
  have hlocks := B.notSynchronized
  subst hsz
  have hD := hD0.self (sz := s.heap.size)
  generalize hAe : va_A [] s.heap.size = A at hD ⊢
  have hA : ∀ q : Nat, s.heap.size ≤ q → A q := fun q h => by rw [← hAe]; exact Or.inr h
  have hS : va_S A s.heap s.heap [] := va_S.rf
  have hl := lv_entry ([.int p1]) (n := 3) (Nat.le_of_ble_eq_true rfl)
  rw [lg_entry_eq]
  generalize (lg_sl ([.int p1]) ++ List.replicate (3 - (lg_sl ([.int p1])).length) Slot.unset).toArray = ls at hl ⊢
  have hl : lv_has ls 3 [(0, .int p1)] := hl
  refine lv_iload_n hx hb dX5_way_0 rfl (lv_at hl 0 rfl) ?_
  refine lv_iconst (v := 2) hx hb dX5_way_1 (by decide) ?_
  refine lv_ishr hx hb dX5_way_2 ?_
  refine lv_bipush (v := 7) hx hb dX5_way_3 (by decide) ?_
  refine lv_iand hx hb dX5_way_5 ?_
  refine lv_istore_n (lv' := [(1, .int ((p1 >>> ((2 : Int32) &&& 31)) &&& 7)), (0, .int p1)]) hx hb dX5_way_6 rfl hl (by decide) rfl (fun ls hl => ?_)
  refine lv_iload_n hx hb dX5_way_7 rfl (lv_at hl 1 rfl) ?_
  refine lv_iconst (v := 4) hx hb dX5_way_8 (by decide) ?_
  refine lv_irem hx hb dX5_way_9 (by decide) ?_
  refine lv_iconst (v := 1) hx hb dX5_way_10 (by decide) ?_
  refine lv_icmp_ne (tgt := 83) hx hb dX5_way_11 (by decide) (fun c_1 => ?_) (fun c_1 => ?_)
  · skip
    refine lv_iload_n hx hb dX5_way_83 rfl (lv_at hl 1 rfl) ?_
    refine lv_bipush (v := 32) hx hb dX5_way_84 (by decide) ?_
    refine lv_idiv hx hb dX5_way_86 (by decide) ?_
    refine lv_iconst (v := 4) hx hb dX5_way_87 (by decide) ?_
    refine lv_icmp_ne (tgt := 98) hx hb dX5_way_88 (by decide) (fun c_2 => ?_) (fun c_2 => ?_)
    · skip
      refine lv_iload_n hx hb dX5_way_98 rfl (lv_at hl 1 rfl) ?_
      refine lv_bipush (v := 32) hx hb dX5_way_99 (by decide) ?_
      refine lv_idiv hx hb dX5_way_101 (by decide) ?_
      refine lv_iconst (v := 5) hx hb dX5_way_102 (by decide) ?_
      refine lv_icmp_ne (tgt := 117) hx hb dX5_way_103 (by decide) (fun c_3 => ?_) (fun c_3 => ?_)
      · skip
        refine lv_iconst (v := 0) hx hb dX5_way_117 (by decide) ?_
        refine lv_istore_n (lv' := [(2, .int 0), (1, .int ((p1 >>> ((2 : Int32) &&& 31)) &&& 7)), (0, .int p1)]) hx hb dX5_way_118 rfl hl (by decide) rfl (fun ls hl => ?_)
        refine lv_iload_n hx hb dX5_way_119 rfl (lv_at hl 2 rfl) ?_
        refine lv_sipush (v := 160) hx hb dX5_way_120 (by decide) ?_
        refine lv_icmp_eq (tgt := 147) hx hb dX5_way_123 (by decide) (fun c_4 => ?_) (fun c_4 => ?_)
        · skip
          refine lv_iconst (v := 1) hx hb dX5_way_147 (by decide) ?_
          have hP9 : va_P (dC, dI) vwCl [] s.heap := by exact hP.sub (ws' := []) [] rfl
          have hD9 : va_D A [] := by exact hD.sub (ws' := []) [] (by decide) rfl
          exact W.iret (v := 1) hx hb hr (fun t ht hW => ⟨⟨1, (), rfl, Eq.symm (((((if_neg c_1)).trans (if_neg c_2)).trans (if_neg c_3)).trans (if_pos c_4) : (f_X5_way_r p1) = 1), by rw [ht]; exact hP9, hD9⟩, hS.F ht⟩) hS.2.2 dX5_way_148
        · skip
          refine lv_iload_n hx hb dX5_way_126 rfl (lv_at hl 2 rfl) ?_
          refine lv_sipush (v := 162) hx hb dX5_way_127 (by decide) ?_
          refine lv_icmp_eq (tgt := 147) hx hb dX5_way_130 (by decide) (fun c_5 => ?_) (fun c_5 => ?_)
          · skip
            refine lv_iconst (v := 1) hx hb dX5_way_147 (by decide) ?_
            have hP9 : va_P (dC, dI) vwCl [] s.heap := by exact hP.sub (ws' := []) [] rfl
            have hD9 : va_D A [] := by exact hD.sub (ws' := []) [] (by decide) rfl
            exact W.iret (v := 1) hx hb hr (fun t ht hW => ⟨⟨1, (), rfl, Eq.symm ((((((if_neg c_1)).trans (if_neg c_2)).trans (if_neg c_3)).trans (if_neg c_4)).trans (if_pos c_5) : (f_X5_way_r p1) = 1), by rw [ht]; exact hP9, hD9⟩, hS.F ht⟩) hS.2.2 dX5_way_148
          · skip
            refine lv_iload_n hx hb dX5_way_133 rfl (lv_at hl 2 rfl) ?_
            refine lv_sipush (v := 192) hx hb dX5_way_134 (by decide) ?_
            refine lv_icmp_eq (tgt := 147) hx hb dX5_way_137 (by decide) (fun c_6 => ?_) (fun c_6 => ?_)
            · skip
              refine lv_iconst (v := 1) hx hb dX5_way_147 (by decide) ?_
              have hP9 : va_P (dC, dI) vwCl [] s.heap := by exact hP.sub (ws' := []) [] rfl
              have hD9 : va_D A [] := by exact hD.sub (ws' := []) [] (by decide) rfl
              exact W.iret (v := 1) hx hb hr (fun t ht hW => ⟨⟨1, (), rfl, Eq.symm (((((((if_neg c_1)).trans (if_neg c_2)).trans (if_neg c_3)).trans (if_neg c_4)).trans (if_neg c_5)).trans (if_pos c_6) : (f_X5_way_r p1) = 1), by rw [ht]; exact hP9, hD9⟩, hS.F ht⟩) hS.2.2 dX5_way_148
            · skip
              refine lv_iload_n hx hb dX5_way_140 rfl (lv_at hl 2 rfl) ?_
              refine lv_sipush (v := 224) hx hb dX5_way_141 (by decide) ?_
              refine lv_icmp_ne (tgt := 149) hx hb dX5_way_144 (by decide) (fun c_7 => ?_) (fun c_7 => ?_)
              · skip
                refine lv_iload_n hx hb dX5_way_149 rfl (lv_at hl 1 rfl) ?_
                refine lv_iconst (v := 1) hx hb dX5_way_150 (by decide) ?_
                refine lv_icmp_ne (tgt := 156) hx hb dX5_way_151 (by decide) (fun c_8 => ?_) (fun c_8 => ?_)
                · skip
                  refine lv_iload_n hx hb dX5_way_156 rfl (lv_at hl 1 rfl) ?_
                  refine lv_iconst (v := 3) hx hb dX5_way_157 (by decide) ?_
                  refine lv_icmp_ne (tgt := 163) hx hb dX5_way_158 (by decide) (fun c_9 => ?_) (fun c_9 => ?_)
                  · skip
                    refine lv_iload_n hx hb dX5_way_163 rfl (lv_at hl 1 rfl) ?_
                    refine lv_iconst (v := 5) hx hb dX5_way_164 (by decide) ?_
                    refine lv_icmp_ne (tgt := 178) hx hb dX5_way_165 (by decide) (fun c_10 => ?_) (fun c_10 => ?_)
                    · skip
                      refine lv_iload_n hx hb dX5_way_178 rfl (lv_at hl 1 rfl) ?_
                      refine lv_bipush (v := 7) hx hb dX5_way_179 (by decide) ?_
                      refine lv_icmp_ne (tgt := 196) hx hb dX5_way_181 (by decide) (fun c_11 => ?_) (fun c_11 => ?_)
                      · skip
                        refine lv_iload_n hx hb dX5_way_196 rfl (lv_at hl 2 rfl) ?_
                        refine lv_bipush (v := 10) hx hb dX5_way_197 (by decide) ?_
                        refine lv_icmp_eq (tgt := 220) hx hb dX5_way_199 (by decide) (fun c_12 => ?_) (fun c_12 => ?_)
                        · skip
                          refine lv_bipush (v := 10) hx hb dX5_way_220 (by decide) ?_
                          refine lv_goto (tgt := 226) hx hb dX5_way_222 (by decide) ?_
                          have hP9 : va_P (dC, dI) vwCl [] s.heap := by exact hP.sub (ws' := []) [] rfl
                          have hD9 : va_D A [] := by exact hD.sub (ws' := []) [] (by decide) rfl
                          exact W.iret (v := 10) hx hb hr (fun t ht hW => ⟨⟨10, (), rfl, Eq.symm (((((((((((((if_neg c_1)).trans (if_neg c_2)).trans (if_neg c_3)).trans (if_neg c_4)).trans (if_neg c_5)).trans (if_neg c_6)).trans (if_neg c_7)).trans (if_neg c_8)).trans (if_neg c_9)).trans (if_neg c_10)).trans (if_neg c_11)).trans (if_pos c_12) : (f_X5_way_r p1) = 10), by rw [ht]; exact hP9, hD9⟩, hS.F ht⟩) hS.2.2 dX5_way_226
                        · skip
                          refine lv_iload_n hx hb dX5_way_202 rfl (lv_at hl 2 rfl) ?_
                          refine lv_bipush (v := 42) hx hb dX5_way_203 (by decide) ?_
                          refine lv_icmp_eq (tgt := 220) hx hb dX5_way_205 (by decide) (fun c_13 => ?_) (fun c_13 => ?_)
                          · skip
                            refine lv_bipush (v := 10) hx hb dX5_way_220 (by decide) ?_
                            refine lv_goto (tgt := 226) hx hb dX5_way_222 (by decide) ?_
                            have hP9 : va_P (dC, dI) vwCl [] s.heap := by exact hP.sub (ws' := []) [] rfl
                            have hD9 : va_D A [] := by exact hD.sub (ws' := []) [] (by decide) rfl
                            exact W.iret (v := 10) hx hb hr (fun t ht hW => ⟨⟨10, (), rfl, Eq.symm ((((((((((((((if_neg c_1)).trans (if_neg c_2)).trans (if_neg c_3)).trans (if_neg c_4)).trans (if_neg c_5)).trans (if_neg c_6)).trans (if_neg c_7)).trans (if_neg c_8)).trans (if_neg c_9)).trans (if_neg c_10)).trans (if_neg c_11)).trans (if_neg c_12)).trans (if_pos c_13) : (f_X5_way_r p1) = 10), by rw [ht]; exact hP9, hD9⟩, hS.F ht⟩) hS.2.2 dX5_way_226
                          · skip
                            refine lv_iload_n hx hb dX5_way_208 rfl (lv_at hl 2 rfl) ?_
                            refine lv_bipush (v := 74) hx hb dX5_way_209 (by decide) ?_
                            refine lv_icmp_eq (tgt := 220) hx hb dX5_way_211 (by decide) (fun c_14 => ?_) (fun c_14 => ?_)
                            · skip
                              refine lv_bipush (v := 10) hx hb dX5_way_220 (by decide) ?_
                              refine lv_goto (tgt := 226) hx hb dX5_way_222 (by decide) ?_
                              have hP9 : va_P (dC, dI) vwCl [] s.heap := by exact hP.sub (ws' := []) [] rfl
                              have hD9 : va_D A [] := by exact hD.sub (ws' := []) [] (by decide) rfl
                              exact W.iret (v := 10) hx hb hr (fun t ht hW => ⟨⟨10, (), rfl, Eq.symm (((((((((((((((if_neg c_1)).trans (if_neg c_2)).trans (if_neg c_3)).trans (if_neg c_4)).trans (if_neg c_5)).trans (if_neg c_6)).trans (if_neg c_7)).trans (if_neg c_8)).trans (if_neg c_9)).trans (if_neg c_10)).trans (if_neg c_11)).trans (if_neg c_12)).trans (if_neg c_13)).trans (if_pos c_14) : (f_X5_way_r p1) = 10), by rw [ht]; exact hP9, hD9⟩, hS.F ht⟩) hS.2.2 dX5_way_226
                            · skip
                              refine lv_iload_n hx hb dX5_way_214 rfl (lv_at hl 2 rfl) ?_
                              refine lv_bipush (v := 106) hx hb dX5_way_215 (by decide) ?_
                              refine lv_icmp_ne (tgt := 225) hx hb dX5_way_217 (by decide) (fun c_15 => ?_) (fun c_15 => ?_)
                              · skip
                                refine lv_iconst (v := 0) hx hb dX5_way_225 (by decide) ?_
                                have hP9 : va_P (dC, dI) vwCl [] s.heap := by exact hP.sub (ws' := []) [] rfl
                                have hD9 : va_D A [] := by exact hD.sub (ws' := []) [] (by decide) rfl
                                exact W.iret (v := 0) hx hb hr (fun t ht hW => ⟨⟨0, (), rfl, Eq.symm ((((((((((((((((if_neg c_1)).trans (if_neg c_2)).trans (if_neg c_3)).trans (if_neg c_4)).trans (if_neg c_5)).trans (if_neg c_6)).trans (if_neg c_7)).trans (if_neg c_8)).trans (if_neg c_9)).trans (if_neg c_10)).trans (if_neg c_11)).trans (if_neg c_12)).trans (if_neg c_13)).trans (if_neg c_14)).trans (if_neg c_15) : (f_X5_way_r p1) = 0), by rw [ht]; exact hP9, hD9⟩, hS.F ht⟩) hS.2.2 dX5_way_226
                              · skip
                                refine lv_bipush (v := 10) hx hb dX5_way_220 (by decide) ?_
                                refine lv_goto (tgt := 226) hx hb dX5_way_222 (by decide) ?_
                                have hP9 : va_P (dC, dI) vwCl [] s.heap := by exact hP.sub (ws' := []) [] rfl
                                have hD9 : va_D A [] := by exact hD.sub (ws' := []) [] (by decide) rfl
                                exact W.iret (v := 10) hx hb hr (fun t ht hW => ⟨⟨10, (), rfl, Eq.symm ((((((((((((((((if_neg c_1)).trans (if_neg c_2)).trans (if_neg c_3)).trans (if_neg c_4)).trans (if_neg c_5)).trans (if_neg c_6)).trans (if_neg c_7)).trans (if_neg c_8)).trans (if_neg c_9)).trans (if_neg c_10)).trans (if_neg c_11)).trans (if_neg c_12)).trans (if_neg c_13)).trans (if_neg c_14)).trans (if_pos c_15) : (f_X5_way_r p1) = 10), by rw [ht]; exact hP9, hD9⟩, hS.F ht⟩) hS.2.2 dX5_way_226
                      · skip
                        refine lv_iload_n hx hb dX5_way_184 rfl (lv_at hl 0 rfl) ?_
                        refine lv_if_eq (tgt := 193) hx hb dX5_way_185 (by decide) (fun _ => ?_) (fun c => absurd (by decide) c)
                        refine lv_bipush (v := 6) hx hb dX5_way_193 (by decide) ?_
                        have hP9 : va_P (dC, dI) vwCl [] s.heap := by exact hP.sub (ws' := []) [] rfl
                        have hD9 : va_D A [] := by exact hD.sub (ws' := []) [] (by decide) rfl
                        exact W.iret (v := 6) hx hb hr (fun t ht hW => ⟨⟨6, (), rfl, Eq.symm ((((((((((((if_neg c_1)).trans (if_neg c_2)).trans (if_neg c_3)).trans (if_neg c_4)).trans (if_neg c_5)).trans (if_neg c_6)).trans (if_neg c_7)).trans (if_neg c_8)).trans (if_neg c_9)).trans (if_neg c_10)).trans (if_pos c_11) : (f_X5_way_r p1) = 6), by rw [ht]; exact hP9, hD9⟩, hS.F ht⟩) hS.2.2 dX5_way_195
                    · skip
                      refine lv_iload_n hx hb dX5_way_168 rfl (lv_at hl 0 rfl) ?_
                      refine lv_if_eq (tgt := 176) hx hb dX5_way_169 (by decide) (fun _ => ?_) (fun c => absurd (by decide) c)
                      refine lv_iconst (v := 3) hx hb dX5_way_176 (by decide) ?_
                      have hP9 : va_P (dC, dI) vwCl [] s.heap := by exact hP.sub (ws' := []) [] rfl
                      have hD9 : va_D A [] := by exact hD.sub (ws' := []) [] (by decide) rfl
                      exact W.iret (v := 3) hx hb hr (fun t ht hW => ⟨⟨3, (), rfl, Eq.symm (((((((((((if_neg c_1)).trans (if_neg c_2)).trans (if_neg c_3)).trans (if_neg c_4)).trans (if_neg c_5)).trans (if_neg c_6)).trans (if_neg c_7)).trans (if_neg c_8)).trans (if_neg c_9)).trans (if_pos c_10) : (f_X5_way_r p1) = 3), by rw [ht]; exact hP9, hD9⟩, hS.F ht⟩) hS.2.2 dX5_way_177
                  · skip
                    refine lv_iconst (v := 5) hx hb dX5_way_161 (by decide) ?_
                    have hP9 : va_P (dC, dI) vwCl [] s.heap := by exact hP.sub (ws' := []) [] rfl
                    have hD9 : va_D A [] := by exact hD.sub (ws' := []) [] (by decide) rfl
                    exact W.iret (v := 5) hx hb hr (fun t ht hW => ⟨⟨5, (), rfl, Eq.symm ((((((((((if_neg c_1)).trans (if_neg c_2)).trans (if_neg c_3)).trans (if_neg c_4)).trans (if_neg c_5)).trans (if_neg c_6)).trans (if_neg c_7)).trans (if_neg c_8)).trans (if_pos c_9) : (f_X5_way_r p1) = 5), by rw [ht]; exact hP9, hD9⟩, hS.F ht⟩) hS.2.2 dX5_way_162
                · skip
                  refine lv_iconst (v := 2) hx hb dX5_way_154 (by decide) ?_
                  have hP9 : va_P (dC, dI) vwCl [] s.heap := by exact hP.sub (ws' := []) [] rfl
                  have hD9 : va_D A [] := by exact hD.sub (ws' := []) [] (by decide) rfl
                  exact W.iret (v := 2) hx hb hr (fun t ht hW => ⟨⟨2, (), rfl, Eq.symm (((((((((if_neg c_1)).trans (if_neg c_2)).trans (if_neg c_3)).trans (if_neg c_4)).trans (if_neg c_5)).trans (if_neg c_6)).trans (if_neg c_7)).trans (if_pos c_8) : (f_X5_way_r p1) = 2), by rw [ht]; exact hP9, hD9⟩, hS.F ht⟩) hS.2.2 dX5_way_155
              · skip
                refine lv_iconst (v := 1) hx hb dX5_way_147 (by decide) ?_
                have hP9 : va_P (dC, dI) vwCl [] s.heap := by exact hP.sub (ws' := []) [] rfl
                have hD9 : va_D A [] := by exact hD.sub (ws' := []) [] (by decide) rfl
                exact W.iret (v := 1) hx hb hr (fun t ht hW => ⟨⟨1, (), rfl, Eq.symm ((((((((if_neg c_1)).trans (if_neg c_2)).trans (if_neg c_3)).trans (if_neg c_4)).trans (if_neg c_5)).trans (if_neg c_6)).trans (if_pos c_7) : (f_X5_way_r p1) = 1), by rw [ht]; exact hP9, hD9⟩, hS.F ht⟩) hS.2.2 dX5_way_148
      · skip
        refine lv_iload_n hx hb dX5_way_106 rfl (lv_at hl 1 rfl) ?_
        refine lv_iconst (v := 4) hx hb dX5_way_107 (by decide) ?_
        refine lv_irem hx hb dX5_way_108 (by decide) ?_
        refine lv_iconst (v := 2) hx hb dX5_way_109 (by decide) ?_
        refine lv_icmp_ne (tgt := 117) hx hb dX5_way_110 (by decide) (fun c_16 => ?_) (fun c_16 => ?_)
        · skip
          refine lv_iconst (v := 0) hx hb dX5_way_117 (by decide) ?_
          refine lv_istore_n (lv' := [(2, .int 0), (1, .int ((p1 >>> ((2 : Int32) &&& 31)) &&& 7)), (0, .int p1)]) hx hb dX5_way_118 rfl hl (by decide) rfl (fun ls hl => ?_)
          refine lv_iload_n hx hb dX5_way_119 rfl (lv_at hl 2 rfl) ?_
          refine lv_sipush (v := 160) hx hb dX5_way_120 (by decide) ?_
          refine lv_icmp_eq (tgt := 147) hx hb dX5_way_123 (by decide) (fun c_17 => ?_) (fun c_17 => ?_)
          · skip
            refine lv_iconst (v := 1) hx hb dX5_way_147 (by decide) ?_
            have hP9 : va_P (dC, dI) vwCl [] s.heap := by exact hP.sub (ws' := []) [] rfl
            have hD9 : va_D A [] := by exact hD.sub (ws' := []) [] (by decide) rfl
            exact W.iret (v := 1) hx hb hr (fun t ht hW => ⟨⟨1, (), rfl, Eq.symm ((((((if_neg c_1)).trans (if_neg c_2)).trans (if_pos c_3)).trans (if_neg c_16)).trans (if_pos c_17) : (f_X5_way_r p1) = 1), by rw [ht]; exact hP9, hD9⟩, hS.F ht⟩) hS.2.2 dX5_way_148
          · skip
            refine lv_iload_n hx hb dX5_way_126 rfl (lv_at hl 2 rfl) ?_
            refine lv_sipush (v := 162) hx hb dX5_way_127 (by decide) ?_
            refine lv_icmp_eq (tgt := 147) hx hb dX5_way_130 (by decide) (fun c_18 => ?_) (fun c_18 => ?_)
            · skip
              refine lv_iconst (v := 1) hx hb dX5_way_147 (by decide) ?_
              have hP9 : va_P (dC, dI) vwCl [] s.heap := by exact hP.sub (ws' := []) [] rfl
              have hD9 : va_D A [] := by exact hD.sub (ws' := []) [] (by decide) rfl
              exact W.iret (v := 1) hx hb hr (fun t ht hW => ⟨⟨1, (), rfl, Eq.symm (((((((if_neg c_1)).trans (if_neg c_2)).trans (if_pos c_3)).trans (if_neg c_16)).trans (if_neg c_17)).trans (if_pos c_18) : (f_X5_way_r p1) = 1), by rw [ht]; exact hP9, hD9⟩, hS.F ht⟩) hS.2.2 dX5_way_148
            · skip
              refine lv_iload_n hx hb dX5_way_133 rfl (lv_at hl 2 rfl) ?_
              refine lv_sipush (v := 192) hx hb dX5_way_134 (by decide) ?_
              refine lv_icmp_eq (tgt := 147) hx hb dX5_way_137 (by decide) (fun c_19 => ?_) (fun c_19 => ?_)
              · skip
                refine lv_iconst (v := 1) hx hb dX5_way_147 (by decide) ?_
                have hP9 : va_P (dC, dI) vwCl [] s.heap := by exact hP.sub (ws' := []) [] rfl
                have hD9 : va_D A [] := by exact hD.sub (ws' := []) [] (by decide) rfl
                exact W.iret (v := 1) hx hb hr (fun t ht hW => ⟨⟨1, (), rfl, Eq.symm ((((((((if_neg c_1)).trans (if_neg c_2)).trans (if_pos c_3)).trans (if_neg c_16)).trans (if_neg c_17)).trans (if_neg c_18)).trans (if_pos c_19) : (f_X5_way_r p1) = 1), by rw [ht]; exact hP9, hD9⟩, hS.F ht⟩) hS.2.2 dX5_way_148
              · skip
                refine lv_iload_n hx hb dX5_way_140 rfl (lv_at hl 2 rfl) ?_
                refine lv_sipush (v := 224) hx hb dX5_way_141 (by decide) ?_
                refine lv_icmp_ne (tgt := 149) hx hb dX5_way_144 (by decide) (fun c_20 => ?_) (fun c_20 => ?_)
                · skip
                  refine lv_iload_n hx hb dX5_way_149 rfl (lv_at hl 1 rfl) ?_
                  refine lv_iconst (v := 1) hx hb dX5_way_150 (by decide) ?_
                  refine lv_icmp_ne (tgt := 156) hx hb dX5_way_151 (by decide) (fun c_21 => ?_) (fun c_21 => ?_)
                  · skip
                    refine lv_iload_n hx hb dX5_way_156 rfl (lv_at hl 1 rfl) ?_
                    refine lv_iconst (v := 3) hx hb dX5_way_157 (by decide) ?_
                    refine lv_icmp_ne (tgt := 163) hx hb dX5_way_158 (by decide) (fun c_22 => ?_) (fun c_22 => ?_)
                    · skip
                      refine lv_iload_n hx hb dX5_way_163 rfl (lv_at hl 1 rfl) ?_
                      refine lv_iconst (v := 5) hx hb dX5_way_164 (by decide) ?_
                      refine lv_icmp_ne (tgt := 178) hx hb dX5_way_165 (by decide) (fun c_23 => ?_) (fun c_23 => ?_)
                      · skip
                        refine lv_iload_n hx hb dX5_way_178 rfl (lv_at hl 1 rfl) ?_
                        refine lv_bipush (v := 7) hx hb dX5_way_179 (by decide) ?_
                        refine lv_icmp_ne (tgt := 196) hx hb dX5_way_181 (by decide) (fun c_24 => ?_) (fun c_24 => ?_)
                        · skip
                          refine lv_iload_n hx hb dX5_way_196 rfl (lv_at hl 2 rfl) ?_
                          refine lv_bipush (v := 10) hx hb dX5_way_197 (by decide) ?_
                          refine lv_icmp_eq (tgt := 220) hx hb dX5_way_199 (by decide) (fun c_25 => ?_) (fun c_25 => ?_)
                          · skip
                            refine lv_bipush (v := 10) hx hb dX5_way_220 (by decide) ?_
                            refine lv_goto (tgt := 226) hx hb dX5_way_222 (by decide) ?_
                            have hP9 : va_P (dC, dI) vwCl [] s.heap := by exact hP.sub (ws' := []) [] rfl
                            have hD9 : va_D A [] := by exact hD.sub (ws' := []) [] (by decide) rfl
                            exact W.iret (v := 10) hx hb hr (fun t ht hW => ⟨⟨10, (), rfl, Eq.symm ((((((((((((((if_neg c_1)).trans (if_neg c_2)).trans (if_pos c_3)).trans (if_neg c_16)).trans (if_neg c_17)).trans (if_neg c_18)).trans (if_neg c_19)).trans (if_neg c_20)).trans (if_neg c_21)).trans (if_neg c_22)).trans (if_neg c_23)).trans (if_neg c_24)).trans (if_pos c_25) : (f_X5_way_r p1) = 10), by rw [ht]; exact hP9, hD9⟩, hS.F ht⟩) hS.2.2 dX5_way_226
                          · skip
                            refine lv_iload_n hx hb dX5_way_202 rfl (lv_at hl 2 rfl) ?_
                            refine lv_bipush (v := 42) hx hb dX5_way_203 (by decide) ?_
                            refine lv_icmp_eq (tgt := 220) hx hb dX5_way_205 (by decide) (fun c_26 => ?_) (fun c_26 => ?_)
                            · skip
                              refine lv_bipush (v := 10) hx hb dX5_way_220 (by decide) ?_
                              refine lv_goto (tgt := 226) hx hb dX5_way_222 (by decide) ?_
                              have hP9 : va_P (dC, dI) vwCl [] s.heap := by exact hP.sub (ws' := []) [] rfl
                              have hD9 : va_D A [] := by exact hD.sub (ws' := []) [] (by decide) rfl
                              exact W.iret (v := 10) hx hb hr (fun t ht hW => ⟨⟨10, (), rfl, Eq.symm (((((((((((((((if_neg c_1)).trans (if_neg c_2)).trans (if_pos c_3)).trans (if_neg c_16)).trans (if_neg c_17)).trans (if_neg c_18)).trans (if_neg c_19)).trans (if_neg c_20)).trans (if_neg c_21)).trans (if_neg c_22)).trans (if_neg c_23)).trans (if_neg c_24)).trans (if_neg c_25)).trans (if_pos c_26) : (f_X5_way_r p1) = 10), by rw [ht]; exact hP9, hD9⟩, hS.F ht⟩) hS.2.2 dX5_way_226
                            · skip
                              refine lv_iload_n hx hb dX5_way_208 rfl (lv_at hl 2 rfl) ?_
                              refine lv_bipush (v := 74) hx hb dX5_way_209 (by decide) ?_
                              refine lv_icmp_eq (tgt := 220) hx hb dX5_way_211 (by decide) (fun c_27 => ?_) (fun c_27 => ?_)
                              · skip
                                refine lv_bipush (v := 10) hx hb dX5_way_220 (by decide) ?_
                                refine lv_goto (tgt := 226) hx hb dX5_way_222 (by decide) ?_
                                have hP9 : va_P (dC, dI) vwCl [] s.heap := by exact hP.sub (ws' := []) [] rfl
                                have hD9 : va_D A [] := by exact hD.sub (ws' := []) [] (by decide) rfl
                                exact W.iret (v := 10) hx hb hr (fun t ht hW => ⟨⟨10, (), rfl, Eq.symm ((((((((((((((((if_neg c_1)).trans (if_neg c_2)).trans (if_pos c_3)).trans (if_neg c_16)).trans (if_neg c_17)).trans (if_neg c_18)).trans (if_neg c_19)).trans (if_neg c_20)).trans (if_neg c_21)).trans (if_neg c_22)).trans (if_neg c_23)).trans (if_neg c_24)).trans (if_neg c_25)).trans (if_neg c_26)).trans (if_pos c_27) : (f_X5_way_r p1) = 10), by rw [ht]; exact hP9, hD9⟩, hS.F ht⟩) hS.2.2 dX5_way_226
                              · skip
                                refine lv_iload_n hx hb dX5_way_214 rfl (lv_at hl 2 rfl) ?_
                                refine lv_bipush (v := 106) hx hb dX5_way_215 (by decide) ?_
                                refine lv_icmp_ne (tgt := 225) hx hb dX5_way_217 (by decide) (fun c_28 => ?_) (fun c_28 => ?_)
                                · skip
                                  refine lv_iconst (v := 0) hx hb dX5_way_225 (by decide) ?_
                                  have hP9 : va_P (dC, dI) vwCl [] s.heap := by exact hP.sub (ws' := []) [] rfl
                                  have hD9 : va_D A [] := by exact hD.sub (ws' := []) [] (by decide) rfl
                                  exact W.iret (v := 0) hx hb hr (fun t ht hW => ⟨⟨0, (), rfl, Eq.symm (((((((((((((((((if_neg c_1)).trans (if_neg c_2)).trans (if_pos c_3)).trans (if_neg c_16)).trans (if_neg c_17)).trans (if_neg c_18)).trans (if_neg c_19)).trans (if_neg c_20)).trans (if_neg c_21)).trans (if_neg c_22)).trans (if_neg c_23)).trans (if_neg c_24)).trans (if_neg c_25)).trans (if_neg c_26)).trans (if_neg c_27)).trans (if_neg c_28) : (f_X5_way_r p1) = 0), by rw [ht]; exact hP9, hD9⟩, hS.F ht⟩) hS.2.2 dX5_way_226
                                · skip
                                  refine lv_bipush (v := 10) hx hb dX5_way_220 (by decide) ?_
                                  refine lv_goto (tgt := 226) hx hb dX5_way_222 (by decide) ?_
                                  have hP9 : va_P (dC, dI) vwCl [] s.heap := by exact hP.sub (ws' := []) [] rfl
                                  have hD9 : va_D A [] := by exact hD.sub (ws' := []) [] (by decide) rfl
                                  exact W.iret (v := 10) hx hb hr (fun t ht hW => ⟨⟨10, (), rfl, Eq.symm (((((((((((((((((if_neg c_1)).trans (if_neg c_2)).trans (if_pos c_3)).trans (if_neg c_16)).trans (if_neg c_17)).trans (if_neg c_18)).trans (if_neg c_19)).trans (if_neg c_20)).trans (if_neg c_21)).trans (if_neg c_22)).trans (if_neg c_23)).trans (if_neg c_24)).trans (if_neg c_25)).trans (if_neg c_26)).trans (if_neg c_27)).trans (if_pos c_28) : (f_X5_way_r p1) = 10), by rw [ht]; exact hP9, hD9⟩, hS.F ht⟩) hS.2.2 dX5_way_226
                        · skip
                          refine lv_iload_n hx hb dX5_way_184 rfl (lv_at hl 0 rfl) ?_
                          refine lv_if_eq (tgt := 193) hx hb dX5_way_185 (by decide) (fun _ => ?_) (fun c => absurd (by decide) c)
                          refine lv_bipush (v := 6) hx hb dX5_way_193 (by decide) ?_
                          have hP9 : va_P (dC, dI) vwCl [] s.heap := by exact hP.sub (ws' := []) [] rfl
                          have hD9 : va_D A [] := by exact hD.sub (ws' := []) [] (by decide) rfl
                          exact W.iret (v := 6) hx hb hr (fun t ht hW => ⟨⟨6, (), rfl, Eq.symm (((((((((((((if_neg c_1)).trans (if_neg c_2)).trans (if_pos c_3)).trans (if_neg c_16)).trans (if_neg c_17)).trans (if_neg c_18)).trans (if_neg c_19)).trans (if_neg c_20)).trans (if_neg c_21)).trans (if_neg c_22)).trans (if_neg c_23)).trans (if_pos c_24) : (f_X5_way_r p1) = 6), by rw [ht]; exact hP9, hD9⟩, hS.F ht⟩) hS.2.2 dX5_way_195
                      · skip
                        refine lv_iload_n hx hb dX5_way_168 rfl (lv_at hl 0 rfl) ?_
                        refine lv_if_eq (tgt := 176) hx hb dX5_way_169 (by decide) (fun _ => ?_) (fun c => absurd (by decide) c)
                        refine lv_iconst (v := 3) hx hb dX5_way_176 (by decide) ?_
                        have hP9 : va_P (dC, dI) vwCl [] s.heap := by exact hP.sub (ws' := []) [] rfl
                        have hD9 : va_D A [] := by exact hD.sub (ws' := []) [] (by decide) rfl
                        exact W.iret (v := 3) hx hb hr (fun t ht hW => ⟨⟨3, (), rfl, Eq.symm ((((((((((((if_neg c_1)).trans (if_neg c_2)).trans (if_pos c_3)).trans (if_neg c_16)).trans (if_neg c_17)).trans (if_neg c_18)).trans (if_neg c_19)).trans (if_neg c_20)).trans (if_neg c_21)).trans (if_neg c_22)).trans (if_pos c_23) : (f_X5_way_r p1) = 3), by rw [ht]; exact hP9, hD9⟩, hS.F ht⟩) hS.2.2 dX5_way_177
                    · skip
                      refine lv_iconst (v := 5) hx hb dX5_way_161 (by decide) ?_
                      have hP9 : va_P (dC, dI) vwCl [] s.heap := by exact hP.sub (ws' := []) [] rfl
                      have hD9 : va_D A [] := by exact hD.sub (ws' := []) [] (by decide) rfl
                      exact W.iret (v := 5) hx hb hr (fun t ht hW => ⟨⟨5, (), rfl, Eq.symm (((((((((((if_neg c_1)).trans (if_neg c_2)).trans (if_pos c_3)).trans (if_neg c_16)).trans (if_neg c_17)).trans (if_neg c_18)).trans (if_neg c_19)).trans (if_neg c_20)).trans (if_neg c_21)).trans (if_pos c_22) : (f_X5_way_r p1) = 5), by rw [ht]; exact hP9, hD9⟩, hS.F ht⟩) hS.2.2 dX5_way_162
                  · skip
                    refine lv_iconst (v := 2) hx hb dX5_way_154 (by decide) ?_
                    have hP9 : va_P (dC, dI) vwCl [] s.heap := by exact hP.sub (ws' := []) [] rfl
                    have hD9 : va_D A [] := by exact hD.sub (ws' := []) [] (by decide) rfl
                    exact W.iret (v := 2) hx hb hr (fun t ht hW => ⟨⟨2, (), rfl, Eq.symm ((((((((((if_neg c_1)).trans (if_neg c_2)).trans (if_pos c_3)).trans (if_neg c_16)).trans (if_neg c_17)).trans (if_neg c_18)).trans (if_neg c_19)).trans (if_neg c_20)).trans (if_pos c_21) : (f_X5_way_r p1) = 2), by rw [ht]; exact hP9, hD9⟩, hS.F ht⟩) hS.2.2 dX5_way_155
                · skip
                  refine lv_iconst (v := 1) hx hb dX5_way_147 (by decide) ?_
                  have hP9 : va_P (dC, dI) vwCl [] s.heap := by exact hP.sub (ws' := []) [] rfl
                  have hD9 : va_D A [] := by exact hD.sub (ws' := []) [] (by decide) rfl
                  exact W.iret (v := 1) hx hb hr (fun t ht hW => ⟨⟨1, (), rfl, Eq.symm (((((((((if_neg c_1)).trans (if_neg c_2)).trans (if_pos c_3)).trans (if_neg c_16)).trans (if_neg c_17)).trans (if_neg c_18)).trans (if_neg c_19)).trans (if_pos c_20) : (f_X5_way_r p1) = 1), by rw [ht]; exact hP9, hD9⟩, hS.F ht⟩) hS.2.2 dX5_way_148
        · skip
          refine lv_iconst (v := 1) hx hb dX5_way_113 (by decide) ?_
          refine lv_goto (tgt := 118) hx hb dX5_way_114 (by decide) ?_
          refine lv_istore_n (lv' := [(2, .int 1), (1, .int ((p1 >>> ((2 : Int32) &&& 31)) &&& 7)), (0, .int p1)]) hx hb dX5_way_118 rfl hl (by decide) rfl (fun ls hl => ?_)
          refine lv_iload_n hx hb dX5_way_119 rfl (lv_at hl 2 rfl) ?_
          refine lv_sipush (v := 160) hx hb dX5_way_120 (by decide) ?_
          refine lv_icmp_eq (tgt := 147) hx hb dX5_way_123 (by decide) (fun c_29 => ?_) (fun c_29 => ?_)
          · skip
            refine lv_iconst (v := 1) hx hb dX5_way_147 (by decide) ?_
            have hP9 : va_P (dC, dI) vwCl [] s.heap := by exact hP.sub (ws' := []) [] rfl
            have hD9 : va_D A [] := by exact hD.sub (ws' := []) [] (by decide) rfl
            exact W.iret (v := 1) hx hb hr (fun t ht hW => ⟨⟨1, (), rfl, Eq.symm ((((((if_neg c_1)).trans (if_neg c_2)).trans (if_pos c_3)).trans (if_pos c_16)).trans (if_pos c_29) : (f_X5_way_r p1) = 1), by rw [ht]; exact hP9, hD9⟩, hS.F ht⟩) hS.2.2 dX5_way_148
          · skip
            refine lv_iload_n hx hb dX5_way_126 rfl (lv_at hl 2 rfl) ?_
            refine lv_sipush (v := 162) hx hb dX5_way_127 (by decide) ?_
            refine lv_icmp_eq (tgt := 147) hx hb dX5_way_130 (by decide) (fun c_30 => ?_) (fun c_30 => ?_)
            · skip
              refine lv_iconst (v := 1) hx hb dX5_way_147 (by decide) ?_
              have hP9 : va_P (dC, dI) vwCl [] s.heap := by exact hP.sub (ws' := []) [] rfl
              have hD9 : va_D A [] := by exact hD.sub (ws' := []) [] (by decide) rfl
              exact W.iret (v := 1) hx hb hr (fun t ht hW => ⟨⟨1, (), rfl, Eq.symm (((((((if_neg c_1)).trans (if_neg c_2)).trans (if_pos c_3)).trans (if_pos c_16)).trans (if_neg c_29)).trans (if_pos c_30) : (f_X5_way_r p1) = 1), by rw [ht]; exact hP9, hD9⟩, hS.F ht⟩) hS.2.2 dX5_way_148
            · skip
              refine lv_iload_n hx hb dX5_way_133 rfl (lv_at hl 2 rfl) ?_
              refine lv_sipush (v := 192) hx hb dX5_way_134 (by decide) ?_
              refine lv_icmp_eq (tgt := 147) hx hb dX5_way_137 (by decide) (fun c_31 => ?_) (fun c_31 => ?_)
              · skip
                refine lv_iconst (v := 1) hx hb dX5_way_147 (by decide) ?_
                have hP9 : va_P (dC, dI) vwCl [] s.heap := by exact hP.sub (ws' := []) [] rfl
                have hD9 : va_D A [] := by exact hD.sub (ws' := []) [] (by decide) rfl
                exact W.iret (v := 1) hx hb hr (fun t ht hW => ⟨⟨1, (), rfl, Eq.symm ((((((((if_neg c_1)).trans (if_neg c_2)).trans (if_pos c_3)).trans (if_pos c_16)).trans (if_neg c_29)).trans (if_neg c_30)).trans (if_pos c_31) : (f_X5_way_r p1) = 1), by rw [ht]; exact hP9, hD9⟩, hS.F ht⟩) hS.2.2 dX5_way_148
              · skip
                refine lv_iload_n hx hb dX5_way_140 rfl (lv_at hl 2 rfl) ?_
                refine lv_sipush (v := 224) hx hb dX5_way_141 (by decide) ?_
                refine lv_icmp_ne (tgt := 149) hx hb dX5_way_144 (by decide) (fun c_32 => ?_) (fun c_32 => ?_)
                · skip
                  refine lv_iload_n hx hb dX5_way_149 rfl (lv_at hl 1 rfl) ?_
                  refine lv_iconst (v := 1) hx hb dX5_way_150 (by decide) ?_
                  refine lv_icmp_ne (tgt := 156) hx hb dX5_way_151 (by decide) (fun c_33 => ?_) (fun c_33 => ?_)
                  · skip
                    refine lv_iload_n hx hb dX5_way_156 rfl (lv_at hl 1 rfl) ?_
                    refine lv_iconst (v := 3) hx hb dX5_way_157 (by decide) ?_
                    refine lv_icmp_ne (tgt := 163) hx hb dX5_way_158 (by decide) (fun c_34 => ?_) (fun c_34 => ?_)
                    · skip
                      refine lv_iload_n hx hb dX5_way_163 rfl (lv_at hl 1 rfl) ?_
                      refine lv_iconst (v := 5) hx hb dX5_way_164 (by decide) ?_
                      refine lv_icmp_ne (tgt := 178) hx hb dX5_way_165 (by decide) (fun c_35 => ?_) (fun c_35 => ?_)
                      · skip
                        refine lv_iload_n hx hb dX5_way_178 rfl (lv_at hl 1 rfl) ?_
                        refine lv_bipush (v := 7) hx hb dX5_way_179 (by decide) ?_
                        refine lv_icmp_ne (tgt := 196) hx hb dX5_way_181 (by decide) (fun c_36 => ?_) (fun c_36 => ?_)
                        · skip
                          refine lv_iload_n hx hb dX5_way_196 rfl (lv_at hl 2 rfl) ?_
                          refine lv_bipush (v := 10) hx hb dX5_way_197 (by decide) ?_
                          refine lv_icmp_eq (tgt := 220) hx hb dX5_way_199 (by decide) (fun c_37 => ?_) (fun c_37 => ?_)
                          · skip
                            refine lv_bipush (v := 10) hx hb dX5_way_220 (by decide) ?_
                            refine lv_goto (tgt := 226) hx hb dX5_way_222 (by decide) ?_
                            have hP9 : va_P (dC, dI) vwCl [] s.heap := by exact hP.sub (ws' := []) [] rfl
                            have hD9 : va_D A [] := by exact hD.sub (ws' := []) [] (by decide) rfl
                            exact W.iret (v := 10) hx hb hr (fun t ht hW => ⟨⟨10, (), rfl, Eq.symm ((((((((((((((if_neg c_1)).trans (if_neg c_2)).trans (if_pos c_3)).trans (if_pos c_16)).trans (if_neg c_29)).trans (if_neg c_30)).trans (if_neg c_31)).trans (if_neg c_32)).trans (if_neg c_33)).trans (if_neg c_34)).trans (if_neg c_35)).trans (if_neg c_36)).trans (if_pos c_37) : (f_X5_way_r p1) = 10), by rw [ht]; exact hP9, hD9⟩, hS.F ht⟩) hS.2.2 dX5_way_226
                          · skip
                            refine lv_iload_n hx hb dX5_way_202 rfl (lv_at hl 2 rfl) ?_
                            refine lv_bipush (v := 42) hx hb dX5_way_203 (by decide) ?_
                            refine lv_icmp_eq (tgt := 220) hx hb dX5_way_205 (by decide) (fun c_38 => ?_) (fun c_38 => ?_)
                            · skip
                              refine lv_bipush (v := 10) hx hb dX5_way_220 (by decide) ?_
                              refine lv_goto (tgt := 226) hx hb dX5_way_222 (by decide) ?_
                              have hP9 : va_P (dC, dI) vwCl [] s.heap := by exact hP.sub (ws' := []) [] rfl
                              have hD9 : va_D A [] := by exact hD.sub (ws' := []) [] (by decide) rfl
                              exact W.iret (v := 10) hx hb hr (fun t ht hW => ⟨⟨10, (), rfl, Eq.symm (((((((((((((((if_neg c_1)).trans (if_neg c_2)).trans (if_pos c_3)).trans (if_pos c_16)).trans (if_neg c_29)).trans (if_neg c_30)).trans (if_neg c_31)).trans (if_neg c_32)).trans (if_neg c_33)).trans (if_neg c_34)).trans (if_neg c_35)).trans (if_neg c_36)).trans (if_neg c_37)).trans (if_pos c_38) : (f_X5_way_r p1) = 10), by rw [ht]; exact hP9, hD9⟩, hS.F ht⟩) hS.2.2 dX5_way_226
                            · skip
                              refine lv_iload_n hx hb dX5_way_208 rfl (lv_at hl 2 rfl) ?_
                              refine lv_bipush (v := 74) hx hb dX5_way_209 (by decide) ?_
                              refine lv_icmp_eq (tgt := 220) hx hb dX5_way_211 (by decide) (fun c_39 => ?_) (fun c_39 => ?_)
                              · skip
                                refine lv_bipush (v := 10) hx hb dX5_way_220 (by decide) ?_
                                refine lv_goto (tgt := 226) hx hb dX5_way_222 (by decide) ?_
                                have hP9 : va_P (dC, dI) vwCl [] s.heap := by exact hP.sub (ws' := []) [] rfl
                                have hD9 : va_D A [] := by exact hD.sub (ws' := []) [] (by decide) rfl
                                exact W.iret (v := 10) hx hb hr (fun t ht hW => ⟨⟨10, (), rfl, Eq.symm ((((((((((((((((if_neg c_1)).trans (if_neg c_2)).trans (if_pos c_3)).trans (if_pos c_16)).trans (if_neg c_29)).trans (if_neg c_30)).trans (if_neg c_31)).trans (if_neg c_32)).trans (if_neg c_33)).trans (if_neg c_34)).trans (if_neg c_35)).trans (if_neg c_36)).trans (if_neg c_37)).trans (if_neg c_38)).trans (if_pos c_39) : (f_X5_way_r p1) = 10), by rw [ht]; exact hP9, hD9⟩, hS.F ht⟩) hS.2.2 dX5_way_226
                              · skip
                                refine lv_iload_n hx hb dX5_way_214 rfl (lv_at hl 2 rfl) ?_
                                refine lv_bipush (v := 106) hx hb dX5_way_215 (by decide) ?_
                                refine lv_icmp_ne (tgt := 225) hx hb dX5_way_217 (by decide) (fun c_40 => ?_) (fun c_40 => ?_)
                                · skip
                                  refine lv_iconst (v := 0) hx hb dX5_way_225 (by decide) ?_
                                  have hP9 : va_P (dC, dI) vwCl [] s.heap := by exact hP.sub (ws' := []) [] rfl
                                  have hD9 : va_D A [] := by exact hD.sub (ws' := []) [] (by decide) rfl
                                  exact W.iret (v := 0) hx hb hr (fun t ht hW => ⟨⟨0, (), rfl, Eq.symm (((((((((((((((((if_neg c_1)).trans (if_neg c_2)).trans (if_pos c_3)).trans (if_pos c_16)).trans (if_neg c_29)).trans (if_neg c_30)).trans (if_neg c_31)).trans (if_neg c_32)).trans (if_neg c_33)).trans (if_neg c_34)).trans (if_neg c_35)).trans (if_neg c_36)).trans (if_neg c_37)).trans (if_neg c_38)).trans (if_neg c_39)).trans (if_neg c_40) : (f_X5_way_r p1) = 0), by rw [ht]; exact hP9, hD9⟩, hS.F ht⟩) hS.2.2 dX5_way_226
                                · skip
                                  refine lv_bipush (v := 10) hx hb dX5_way_220 (by decide) ?_
                                  refine lv_goto (tgt := 226) hx hb dX5_way_222 (by decide) ?_
                                  have hP9 : va_P (dC, dI) vwCl [] s.heap := by exact hP.sub (ws' := []) [] rfl
                                  have hD9 : va_D A [] := by exact hD.sub (ws' := []) [] (by decide) rfl
                                  exact W.iret (v := 10) hx hb hr (fun t ht hW => ⟨⟨10, (), rfl, Eq.symm (((((((((((((((((if_neg c_1)).trans (if_neg c_2)).trans (if_pos c_3)).trans (if_pos c_16)).trans (if_neg c_29)).trans (if_neg c_30)).trans (if_neg c_31)).trans (if_neg c_32)).trans (if_neg c_33)).trans (if_neg c_34)).trans (if_neg c_35)).trans (if_neg c_36)).trans (if_neg c_37)).trans (if_neg c_38)).trans (if_neg c_39)).trans (if_pos c_40) : (f_X5_way_r p1) = 10), by rw [ht]; exact hP9, hD9⟩, hS.F ht⟩) hS.2.2 dX5_way_226
                        · skip
                          refine lv_iload_n hx hb dX5_way_184 rfl (lv_at hl 0 rfl) ?_
                          refine lv_if_eq (tgt := 193) hx hb dX5_way_185 (by decide) (fun c => absurd c (by decide)) (fun _ => ?_)
                          refine lv_bipush (v := 7) hx hb dX5_way_188 (by decide) ?_
                          refine lv_goto (tgt := 195) hx hb dX5_way_190 (by decide) ?_
                          have hP9 : va_P (dC, dI) vwCl [] s.heap := by exact hP.sub (ws' := []) [] rfl
                          have hD9 : va_D A [] := by exact hD.sub (ws' := []) [] (by decide) rfl
                          exact W.iret (v := 7) hx hb hr (fun t ht hW => ⟨⟨7, (), rfl, Eq.symm (((((((((((((if_neg c_1)).trans (if_neg c_2)).trans (if_pos c_3)).trans (if_pos c_16)).trans (if_neg c_29)).trans (if_neg c_30)).trans (if_neg c_31)).trans (if_neg c_32)).trans (if_neg c_33)).trans (if_neg c_34)).trans (if_neg c_35)).trans (if_pos c_36) : (f_X5_way_r p1) = 7), by rw [ht]; exact hP9, hD9⟩, hS.F ht⟩) hS.2.2 dX5_way_195
                      · skip
                        refine lv_iload_n hx hb dX5_way_168 rfl (lv_at hl 0 rfl) ?_
                        refine lv_if_eq (tgt := 176) hx hb dX5_way_169 (by decide) (fun c => absurd c (by decide)) (fun _ => ?_)
                        refine lv_iconst (v := 4) hx hb dX5_way_172 (by decide) ?_
                        refine lv_goto (tgt := 177) hx hb dX5_way_173 (by decide) ?_
                        have hP9 : va_P (dC, dI) vwCl [] s.heap := by exact hP.sub (ws' := []) [] rfl
                        have hD9 : va_D A [] := by exact hD.sub (ws' := []) [] (by decide) rfl
                        exact W.iret (v := 4) hx hb hr (fun t ht hW => ⟨⟨4, (), rfl, Eq.symm ((((((((((((if_neg c_1)).trans (if_neg c_2)).trans (if_pos c_3)).trans (if_pos c_16)).trans (if_neg c_29)).trans (if_neg c_30)).trans (if_neg c_31)).trans (if_neg c_32)).trans (if_neg c_33)).trans (if_neg c_34)).trans (if_pos c_35) : (f_X5_way_r p1) = 4), by rw [ht]; exact hP9, hD9⟩, hS.F ht⟩) hS.2.2 dX5_way_177
                    · skip
                      refine lv_iconst (v := 5) hx hb dX5_way_161 (by decide) ?_
                      have hP9 : va_P (dC, dI) vwCl [] s.heap := by exact hP.sub (ws' := []) [] rfl
                      have hD9 : va_D A [] := by exact hD.sub (ws' := []) [] (by decide) rfl
                      exact W.iret (v := 5) hx hb hr (fun t ht hW => ⟨⟨5, (), rfl, Eq.symm (((((((((((if_neg c_1)).trans (if_neg c_2)).trans (if_pos c_3)).trans (if_pos c_16)).trans (if_neg c_29)).trans (if_neg c_30)).trans (if_neg c_31)).trans (if_neg c_32)).trans (if_neg c_33)).trans (if_pos c_34) : (f_X5_way_r p1) = 5), by rw [ht]; exact hP9, hD9⟩, hS.F ht⟩) hS.2.2 dX5_way_162
                  · skip
                    refine lv_iconst (v := 2) hx hb dX5_way_154 (by decide) ?_
                    have hP9 : va_P (dC, dI) vwCl [] s.heap := by exact hP.sub (ws' := []) [] rfl
                    have hD9 : va_D A [] := by exact hD.sub (ws' := []) [] (by decide) rfl
                    exact W.iret (v := 2) hx hb hr (fun t ht hW => ⟨⟨2, (), rfl, Eq.symm ((((((((((if_neg c_1)).trans (if_neg c_2)).trans (if_pos c_3)).trans (if_pos c_16)).trans (if_neg c_29)).trans (if_neg c_30)).trans (if_neg c_31)).trans (if_neg c_32)).trans (if_pos c_33) : (f_X5_way_r p1) = 2), by rw [ht]; exact hP9, hD9⟩, hS.F ht⟩) hS.2.2 dX5_way_155
                · skip
                  refine lv_iconst (v := 1) hx hb dX5_way_147 (by decide) ?_
                  have hP9 : va_P (dC, dI) vwCl [] s.heap := by exact hP.sub (ws' := []) [] rfl
                  have hD9 : va_D A [] := by exact hD.sub (ws' := []) [] (by decide) rfl
                  exact W.iret (v := 1) hx hb hr (fun t ht hW => ⟨⟨1, (), rfl, Eq.symm (((((((((if_neg c_1)).trans (if_neg c_2)).trans (if_pos c_3)).trans (if_pos c_16)).trans (if_neg c_29)).trans (if_neg c_30)).trans (if_neg c_31)).trans (if_pos c_32) : (f_X5_way_r p1) = 1), by rw [ht]; exact hP9, hD9⟩, hS.F ht⟩) hS.2.2 dX5_way_148
    · skip
      refine lv_iload_n hx hb dX5_way_91 rfl (lv_at hl 1 rfl) ?_
      refine lv_iconst (v := 4) hx hb dX5_way_92 (by decide) ?_
      refine lv_irem hx hb dX5_way_93 (by decide) ?_
      refine lv_iconst (v := 2) hx hb dX5_way_94 (by decide) ?_
      refine lv_icmp_eq (tgt := 113) hx hb dX5_way_95 (by decide) (fun c_41 => ?_) (fun c_41 => ?_)
      · skip
        refine lv_iconst (v := 1) hx hb dX5_way_113 (by decide) ?_
        refine lv_goto (tgt := 118) hx hb dX5_way_114 (by decide) ?_
        refine lv_istore_n (lv' := [(2, .int 1), (1, .int ((p1 >>> ((2 : Int32) &&& 31)) &&& 7)), (0, .int p1)]) hx hb dX5_way_118 rfl hl (by decide) rfl (fun ls hl => ?_)
        refine lv_iload_n hx hb dX5_way_119 rfl (lv_at hl 2 rfl) ?_
        refine lv_sipush (v := 160) hx hb dX5_way_120 (by decide) ?_
        refine lv_icmp_eq (tgt := 147) hx hb dX5_way_123 (by decide) (fun c_42 => ?_) (fun c_42 => ?_)
        · skip
          refine lv_iconst (v := 1) hx hb dX5_way_147 (by decide) ?_
          have hP9 : va_P (dC, dI) vwCl [] s.heap := by exact hP.sub (ws' := []) [] rfl
          have hD9 : va_D A [] := by exact hD.sub (ws' := []) [] (by decide) rfl
          exact W.iret (v := 1) hx hb hr (fun t ht hW => ⟨⟨1, (), rfl, Eq.symm (((((if_neg c_1)).trans (if_pos c_2)).trans (if_pos c_41)).trans (if_pos c_42) : (f_X5_way_r p1) = 1), by rw [ht]; exact hP9, hD9⟩, hS.F ht⟩) hS.2.2 dX5_way_148
        · skip
          refine lv_iload_n hx hb dX5_way_126 rfl (lv_at hl 2 rfl) ?_
          refine lv_sipush (v := 162) hx hb dX5_way_127 (by decide) ?_
          refine lv_icmp_eq (tgt := 147) hx hb dX5_way_130 (by decide) (fun c_43 => ?_) (fun c_43 => ?_)
          · skip
            refine lv_iconst (v := 1) hx hb dX5_way_147 (by decide) ?_
            have hP9 : va_P (dC, dI) vwCl [] s.heap := by exact hP.sub (ws' := []) [] rfl
            have hD9 : va_D A [] := by exact hD.sub (ws' := []) [] (by decide) rfl
            exact W.iret (v := 1) hx hb hr (fun t ht hW => ⟨⟨1, (), rfl, Eq.symm ((((((if_neg c_1)).trans (if_pos c_2)).trans (if_pos c_41)).trans (if_neg c_42)).trans (if_pos c_43) : (f_X5_way_r p1) = 1), by rw [ht]; exact hP9, hD9⟩, hS.F ht⟩) hS.2.2 dX5_way_148
          · skip
            refine lv_iload_n hx hb dX5_way_133 rfl (lv_at hl 2 rfl) ?_
            refine lv_sipush (v := 192) hx hb dX5_way_134 (by decide) ?_
            refine lv_icmp_eq (tgt := 147) hx hb dX5_way_137 (by decide) (fun c_44 => ?_) (fun c_44 => ?_)
            · skip
              refine lv_iconst (v := 1) hx hb dX5_way_147 (by decide) ?_
              have hP9 : va_P (dC, dI) vwCl [] s.heap := by exact hP.sub (ws' := []) [] rfl
              have hD9 : va_D A [] := by exact hD.sub (ws' := []) [] (by decide) rfl
              exact W.iret (v := 1) hx hb hr (fun t ht hW => ⟨⟨1, (), rfl, Eq.symm (((((((if_neg c_1)).trans (if_pos c_2)).trans (if_pos c_41)).trans (if_neg c_42)).trans (if_neg c_43)).trans (if_pos c_44) : (f_X5_way_r p1) = 1), by rw [ht]; exact hP9, hD9⟩, hS.F ht⟩) hS.2.2 dX5_way_148
            · skip
              refine lv_iload_n hx hb dX5_way_140 rfl (lv_at hl 2 rfl) ?_
              refine lv_sipush (v := 224) hx hb dX5_way_141 (by decide) ?_
              refine lv_icmp_ne (tgt := 149) hx hb dX5_way_144 (by decide) (fun c_45 => ?_) (fun c_45 => ?_)
              · skip
                refine lv_iload_n hx hb dX5_way_149 rfl (lv_at hl 1 rfl) ?_
                refine lv_iconst (v := 1) hx hb dX5_way_150 (by decide) ?_
                refine lv_icmp_ne (tgt := 156) hx hb dX5_way_151 (by decide) (fun c_46 => ?_) (fun c_46 => ?_)
                · skip
                  refine lv_iload_n hx hb dX5_way_156 rfl (lv_at hl 1 rfl) ?_
                  refine lv_iconst (v := 3) hx hb dX5_way_157 (by decide) ?_
                  refine lv_icmp_ne (tgt := 163) hx hb dX5_way_158 (by decide) (fun c_47 => ?_) (fun c_47 => ?_)
                  · skip
                    refine lv_iload_n hx hb dX5_way_163 rfl (lv_at hl 1 rfl) ?_
                    refine lv_iconst (v := 5) hx hb dX5_way_164 (by decide) ?_
                    refine lv_icmp_ne (tgt := 178) hx hb dX5_way_165 (by decide) (fun c_48 => ?_) (fun c_48 => ?_)
                    · skip
                      refine lv_iload_n hx hb dX5_way_178 rfl (lv_at hl 1 rfl) ?_
                      refine lv_bipush (v := 7) hx hb dX5_way_179 (by decide) ?_
                      refine lv_icmp_ne (tgt := 196) hx hb dX5_way_181 (by decide) (fun c_49 => ?_) (fun c_49 => ?_)
                      · skip
                        refine lv_iload_n hx hb dX5_way_196 rfl (lv_at hl 2 rfl) ?_
                        refine lv_bipush (v := 10) hx hb dX5_way_197 (by decide) ?_
                        refine lv_icmp_eq (tgt := 220) hx hb dX5_way_199 (by decide) (fun c_50 => ?_) (fun c_50 => ?_)
                        · skip
                          refine lv_bipush (v := 10) hx hb dX5_way_220 (by decide) ?_
                          refine lv_goto (tgt := 226) hx hb dX5_way_222 (by decide) ?_
                          have hP9 : va_P (dC, dI) vwCl [] s.heap := by exact hP.sub (ws' := []) [] rfl
                          have hD9 : va_D A [] := by exact hD.sub (ws' := []) [] (by decide) rfl
                          exact W.iret (v := 10) hx hb hr (fun t ht hW => ⟨⟨10, (), rfl, Eq.symm (((((((((((((if_neg c_1)).trans (if_pos c_2)).trans (if_pos c_41)).trans (if_neg c_42)).trans (if_neg c_43)).trans (if_neg c_44)).trans (if_neg c_45)).trans (if_neg c_46)).trans (if_neg c_47)).trans (if_neg c_48)).trans (if_neg c_49)).trans (if_pos c_50) : (f_X5_way_r p1) = 10), by rw [ht]; exact hP9, hD9⟩, hS.F ht⟩) hS.2.2 dX5_way_226
                        · skip
                          refine lv_iload_n hx hb dX5_way_202 rfl (lv_at hl 2 rfl) ?_
                          refine lv_bipush (v := 42) hx hb dX5_way_203 (by decide) ?_
                          refine lv_icmp_eq (tgt := 220) hx hb dX5_way_205 (by decide) (fun c_51 => ?_) (fun c_51 => ?_)
                          · skip
                            refine lv_bipush (v := 10) hx hb dX5_way_220 (by decide) ?_
                            refine lv_goto (tgt := 226) hx hb dX5_way_222 (by decide) ?_
                            have hP9 : va_P (dC, dI) vwCl [] s.heap := by exact hP.sub (ws' := []) [] rfl
                            have hD9 : va_D A [] := by exact hD.sub (ws' := []) [] (by decide) rfl
                            exact W.iret (v := 10) hx hb hr (fun t ht hW => ⟨⟨10, (), rfl, Eq.symm ((((((((((((((if_neg c_1)).trans (if_pos c_2)).trans (if_pos c_41)).trans (if_neg c_42)).trans (if_neg c_43)).trans (if_neg c_44)).trans (if_neg c_45)).trans (if_neg c_46)).trans (if_neg c_47)).trans (if_neg c_48)).trans (if_neg c_49)).trans (if_neg c_50)).trans (if_pos c_51) : (f_X5_way_r p1) = 10), by rw [ht]; exact hP9, hD9⟩, hS.F ht⟩) hS.2.2 dX5_way_226
                          · skip
                            refine lv_iload_n hx hb dX5_way_208 rfl (lv_at hl 2 rfl) ?_
                            refine lv_bipush (v := 74) hx hb dX5_way_209 (by decide) ?_
                            refine lv_icmp_eq (tgt := 220) hx hb dX5_way_211 (by decide) (fun c_52 => ?_) (fun c_52 => ?_)
                            · skip
                              refine lv_bipush (v := 10) hx hb dX5_way_220 (by decide) ?_
                              refine lv_goto (tgt := 226) hx hb dX5_way_222 (by decide) ?_
                              have hP9 : va_P (dC, dI) vwCl [] s.heap := by exact hP.sub (ws' := []) [] rfl
                              have hD9 : va_D A [] := by exact hD.sub (ws' := []) [] (by decide) rfl
                              exact W.iret (v := 10) hx hb hr (fun t ht hW => ⟨⟨10, (), rfl, Eq.symm (((((((((((((((if_neg c_1)).trans (if_pos c_2)).trans (if_pos c_41)).trans (if_neg c_42)).trans (if_neg c_43)).trans (if_neg c_44)).trans (if_neg c_45)).trans (if_neg c_46)).trans (if_neg c_47)).trans (if_neg c_48)).trans (if_neg c_49)).trans (if_neg c_50)).trans (if_neg c_51)).trans (if_pos c_52) : (f_X5_way_r p1) = 10), by rw [ht]; exact hP9, hD9⟩, hS.F ht⟩) hS.2.2 dX5_way_226
                            · skip
                              refine lv_iload_n hx hb dX5_way_214 rfl (lv_at hl 2 rfl) ?_
                              refine lv_bipush (v := 106) hx hb dX5_way_215 (by decide) ?_
                              refine lv_icmp_ne (tgt := 225) hx hb dX5_way_217 (by decide) (fun c_53 => ?_) (fun c_53 => ?_)
                              · skip
                                refine lv_iconst (v := 0) hx hb dX5_way_225 (by decide) ?_
                                have hP9 : va_P (dC, dI) vwCl [] s.heap := by exact hP.sub (ws' := []) [] rfl
                                have hD9 : va_D A [] := by exact hD.sub (ws' := []) [] (by decide) rfl
                                exact W.iret (v := 0) hx hb hr (fun t ht hW => ⟨⟨0, (), rfl, Eq.symm ((((((((((((((((if_neg c_1)).trans (if_pos c_2)).trans (if_pos c_41)).trans (if_neg c_42)).trans (if_neg c_43)).trans (if_neg c_44)).trans (if_neg c_45)).trans (if_neg c_46)).trans (if_neg c_47)).trans (if_neg c_48)).trans (if_neg c_49)).trans (if_neg c_50)).trans (if_neg c_51)).trans (if_neg c_52)).trans (if_neg c_53) : (f_X5_way_r p1) = 0), by rw [ht]; exact hP9, hD9⟩, hS.F ht⟩) hS.2.2 dX5_way_226
                              · skip
                                refine lv_bipush (v := 10) hx hb dX5_way_220 (by decide) ?_
                                refine lv_goto (tgt := 226) hx hb dX5_way_222 (by decide) ?_
                                have hP9 : va_P (dC, dI) vwCl [] s.heap := by exact hP.sub (ws' := []) [] rfl
                                have hD9 : va_D A [] := by exact hD.sub (ws' := []) [] (by decide) rfl
                                exact W.iret (v := 10) hx hb hr (fun t ht hW => ⟨⟨10, (), rfl, Eq.symm ((((((((((((((((if_neg c_1)).trans (if_pos c_2)).trans (if_pos c_41)).trans (if_neg c_42)).trans (if_neg c_43)).trans (if_neg c_44)).trans (if_neg c_45)).trans (if_neg c_46)).trans (if_neg c_47)).trans (if_neg c_48)).trans (if_neg c_49)).trans (if_neg c_50)).trans (if_neg c_51)).trans (if_neg c_52)).trans (if_pos c_53) : (f_X5_way_r p1) = 10), by rw [ht]; exact hP9, hD9⟩, hS.F ht⟩) hS.2.2 dX5_way_226
                      · skip
                        refine lv_iload_n hx hb dX5_way_184 rfl (lv_at hl 0 rfl) ?_
                        refine lv_if_eq (tgt := 193) hx hb dX5_way_185 (by decide) (fun c => absurd c (by decide)) (fun _ => ?_)
                        refine lv_bipush (v := 7) hx hb dX5_way_188 (by decide) ?_
                        refine lv_goto (tgt := 195) hx hb dX5_way_190 (by decide) ?_
                        have hP9 : va_P (dC, dI) vwCl [] s.heap := by exact hP.sub (ws' := []) [] rfl
                        have hD9 : va_D A [] := by exact hD.sub (ws' := []) [] (by decide) rfl
                        exact W.iret (v := 7) hx hb hr (fun t ht hW => ⟨⟨7, (), rfl, Eq.symm ((((((((((((if_neg c_1)).trans (if_pos c_2)).trans (if_pos c_41)).trans (if_neg c_42)).trans (if_neg c_43)).trans (if_neg c_44)).trans (if_neg c_45)).trans (if_neg c_46)).trans (if_neg c_47)).trans (if_neg c_48)).trans (if_pos c_49) : (f_X5_way_r p1) = 7), by rw [ht]; exact hP9, hD9⟩, hS.F ht⟩) hS.2.2 dX5_way_195
                    · skip
                      refine lv_iload_n hx hb dX5_way_168 rfl (lv_at hl 0 rfl) ?_
                      refine lv_if_eq (tgt := 176) hx hb dX5_way_169 (by decide) (fun c => absurd c (by decide)) (fun _ => ?_)
                      refine lv_iconst (v := 4) hx hb dX5_way_172 (by decide) ?_
                      refine lv_goto (tgt := 177) hx hb dX5_way_173 (by decide) ?_
                      have hP9 : va_P (dC, dI) vwCl [] s.heap := by exact hP.sub (ws' := []) [] rfl
                      have hD9 : va_D A [] := by exact hD.sub (ws' := []) [] (by decide) rfl
                      exact W.iret (v := 4) hx hb hr (fun t ht hW => ⟨⟨4, (), rfl, Eq.symm (((((((((((if_neg c_1)).trans (if_pos c_2)).trans (if_pos c_41)).trans (if_neg c_42)).trans (if_neg c_43)).trans (if_neg c_44)).trans (if_neg c_45)).trans (if_neg c_46)).trans (if_neg c_47)).trans (if_pos c_48) : (f_X5_way_r p1) = 4), by rw [ht]; exact hP9, hD9⟩, hS.F ht⟩) hS.2.2 dX5_way_177
                  · skip
                    refine lv_iconst (v := 5) hx hb dX5_way_161 (by decide) ?_
                    have hP9 : va_P (dC, dI) vwCl [] s.heap := by exact hP.sub (ws' := []) [] rfl
                    have hD9 : va_D A [] := by exact hD.sub (ws' := []) [] (by decide) rfl
                    exact W.iret (v := 5) hx hb hr (fun t ht hW => ⟨⟨5, (), rfl, Eq.symm ((((((((((if_neg c_1)).trans (if_pos c_2)).trans (if_pos c_41)).trans (if_neg c_42)).trans (if_neg c_43)).trans (if_neg c_44)).trans (if_neg c_45)).trans (if_neg c_46)).trans (if_pos c_47) : (f_X5_way_r p1) = 5), by rw [ht]; exact hP9, hD9⟩, hS.F ht⟩) hS.2.2 dX5_way_162
                · skip
                  refine lv_iconst (v := 2) hx hb dX5_way_154 (by decide) ?_
                  have hP9 : va_P (dC, dI) vwCl [] s.heap := by exact hP.sub (ws' := []) [] rfl
                  have hD9 : va_D A [] := by exact hD.sub (ws' := []) [] (by decide) rfl
                  exact W.iret (v := 2) hx hb hr (fun t ht hW => ⟨⟨2, (), rfl, Eq.symm (((((((((if_neg c_1)).trans (if_pos c_2)).trans (if_pos c_41)).trans (if_neg c_42)).trans (if_neg c_43)).trans (if_neg c_44)).trans (if_neg c_45)).trans (if_pos c_46) : (f_X5_way_r p1) = 2), by rw [ht]; exact hP9, hD9⟩, hS.F ht⟩) hS.2.2 dX5_way_155
              · skip
                refine lv_iconst (v := 1) hx hb dX5_way_147 (by decide) ?_
                have hP9 : va_P (dC, dI) vwCl [] s.heap := by exact hP.sub (ws' := []) [] rfl
                have hD9 : va_D A [] := by exact hD.sub (ws' := []) [] (by decide) rfl
                exact W.iret (v := 1) hx hb hr (fun t ht hW => ⟨⟨1, (), rfl, Eq.symm ((((((((if_neg c_1)).trans (if_pos c_2)).trans (if_pos c_41)).trans (if_neg c_42)).trans (if_neg c_43)).trans (if_neg c_44)).trans (if_pos c_45) : (f_X5_way_r p1) = 1), by rw [ht]; exact hP9, hD9⟩, hS.F ht⟩) hS.2.2 dX5_way_148
      · skip
        refine lv_iload_n hx hb dX5_way_98 rfl (lv_at hl 1 rfl) ?_
        refine lv_bipush (v := 32) hx hb dX5_way_99 (by decide) ?_
        refine lv_idiv hx hb dX5_way_101 (by decide) ?_
        refine lv_iconst (v := 5) hx hb dX5_way_102 (by decide) ?_
        refine lv_icmp_ne (tgt := 117) hx hb dX5_way_103 (by decide) (fun c_54 => ?_) (fun c_54 => ?_)
        · skip
          refine lv_iconst (v := 0) hx hb dX5_way_117 (by decide) ?_
          refine lv_istore_n (lv' := [(2, .int 0), (1, .int ((p1 >>> ((2 : Int32) &&& 31)) &&& 7)), (0, .int p1)]) hx hb dX5_way_118 rfl hl (by decide) rfl (fun ls hl => ?_)
          refine lv_iload_n hx hb dX5_way_119 rfl (lv_at hl 2 rfl) ?_
          refine lv_sipush (v := 160) hx hb dX5_way_120 (by decide) ?_
          refine lv_icmp_eq (tgt := 147) hx hb dX5_way_123 (by decide) (fun c_55 => ?_) (fun c_55 => ?_)
          · skip
            refine lv_iconst (v := 1) hx hb dX5_way_147 (by decide) ?_
            have hP9 : va_P (dC, dI) vwCl [] s.heap := by exact hP.sub (ws' := []) [] rfl
            have hD9 : va_D A [] := by exact hD.sub (ws' := []) [] (by decide) rfl
            exact W.iret (v := 1) hx hb hr (fun t ht hW => ⟨⟨1, (), rfl, Eq.symm (((((if_neg c_1)).trans (if_pos c_2)).trans (if_neg c_41)).trans (if_pos c_55) : (f_X5_way_r p1) = 1), by rw [ht]; exact hP9, hD9⟩, hS.F ht⟩) hS.2.2 dX5_way_148
          · skip
            refine lv_iload_n hx hb dX5_way_126 rfl (lv_at hl 2 rfl) ?_
            refine lv_sipush (v := 162) hx hb dX5_way_127 (by decide) ?_
            refine lv_icmp_eq (tgt := 147) hx hb dX5_way_130 (by decide) (fun c_56 => ?_) (fun c_56 => ?_)
            · skip
              refine lv_iconst (v := 1) hx hb dX5_way_147 (by decide) ?_
              have hP9 : va_P (dC, dI) vwCl [] s.heap := by exact hP.sub (ws' := []) [] rfl
              have hD9 : va_D A [] := by exact hD.sub (ws' := []) [] (by decide) rfl
              exact W.iret (v := 1) hx hb hr (fun t ht hW => ⟨⟨1, (), rfl, Eq.symm ((((((if_neg c_1)).trans (if_pos c_2)).trans (if_neg c_41)).trans (if_neg c_55)).trans (if_pos c_56) : (f_X5_way_r p1) = 1), by rw [ht]; exact hP9, hD9⟩, hS.F ht⟩) hS.2.2 dX5_way_148
            · skip
              refine lv_iload_n hx hb dX5_way_133 rfl (lv_at hl 2 rfl) ?_
              refine lv_sipush (v := 192) hx hb dX5_way_134 (by decide) ?_
              refine lv_icmp_eq (tgt := 147) hx hb dX5_way_137 (by decide) (fun c_57 => ?_) (fun c_57 => ?_)
              · skip
                refine lv_iconst (v := 1) hx hb dX5_way_147 (by decide) ?_
                have hP9 : va_P (dC, dI) vwCl [] s.heap := by exact hP.sub (ws' := []) [] rfl
                have hD9 : va_D A [] := by exact hD.sub (ws' := []) [] (by decide) rfl
                exact W.iret (v := 1) hx hb hr (fun t ht hW => ⟨⟨1, (), rfl, Eq.symm (((((((if_neg c_1)).trans (if_pos c_2)).trans (if_neg c_41)).trans (if_neg c_55)).trans (if_neg c_56)).trans (if_pos c_57) : (f_X5_way_r p1) = 1), by rw [ht]; exact hP9, hD9⟩, hS.F ht⟩) hS.2.2 dX5_way_148
              · skip
                refine lv_iload_n hx hb dX5_way_140 rfl (lv_at hl 2 rfl) ?_
                refine lv_sipush (v := 224) hx hb dX5_way_141 (by decide) ?_
                refine lv_icmp_ne (tgt := 149) hx hb dX5_way_144 (by decide) (fun c_58 => ?_) (fun c_58 => ?_)
                · skip
                  refine lv_iload_n hx hb dX5_way_149 rfl (lv_at hl 1 rfl) ?_
                  refine lv_iconst (v := 1) hx hb dX5_way_150 (by decide) ?_
                  refine lv_icmp_ne (tgt := 156) hx hb dX5_way_151 (by decide) (fun c_59 => ?_) (fun c_59 => ?_)
                  · skip
                    refine lv_iload_n hx hb dX5_way_156 rfl (lv_at hl 1 rfl) ?_
                    refine lv_iconst (v := 3) hx hb dX5_way_157 (by decide) ?_
                    refine lv_icmp_ne (tgt := 163) hx hb dX5_way_158 (by decide) (fun c_60 => ?_) (fun c_60 => ?_)
                    · skip
                      refine lv_iload_n hx hb dX5_way_163 rfl (lv_at hl 1 rfl) ?_
                      refine lv_iconst (v := 5) hx hb dX5_way_164 (by decide) ?_
                      refine lv_icmp_ne (tgt := 178) hx hb dX5_way_165 (by decide) (fun c_61 => ?_) (fun c_61 => ?_)
                      · skip
                        refine lv_iload_n hx hb dX5_way_178 rfl (lv_at hl 1 rfl) ?_
                        refine lv_bipush (v := 7) hx hb dX5_way_179 (by decide) ?_
                        refine lv_icmp_ne (tgt := 196) hx hb dX5_way_181 (by decide) (fun c_62 => ?_) (fun c_62 => ?_)
                        · skip
                          refine lv_iload_n hx hb dX5_way_196 rfl (lv_at hl 2 rfl) ?_
                          refine lv_bipush (v := 10) hx hb dX5_way_197 (by decide) ?_
                          refine lv_icmp_eq (tgt := 220) hx hb dX5_way_199 (by decide) (fun c_63 => ?_) (fun c_63 => ?_)
                          · skip
                            refine lv_bipush (v := 10) hx hb dX5_way_220 (by decide) ?_
                            refine lv_goto (tgt := 226) hx hb dX5_way_222 (by decide) ?_
                            have hP9 : va_P (dC, dI) vwCl [] s.heap := by exact hP.sub (ws' := []) [] rfl
                            have hD9 : va_D A [] := by exact hD.sub (ws' := []) [] (by decide) rfl
                            exact W.iret (v := 10) hx hb hr (fun t ht hW => ⟨⟨10, (), rfl, Eq.symm (((((((((((((if_neg c_1)).trans (if_pos c_2)).trans (if_neg c_41)).trans (if_neg c_55)).trans (if_neg c_56)).trans (if_neg c_57)).trans (if_neg c_58)).trans (if_neg c_59)).trans (if_neg c_60)).trans (if_neg c_61)).trans (if_neg c_62)).trans (if_pos c_63) : (f_X5_way_r p1) = 10), by rw [ht]; exact hP9, hD9⟩, hS.F ht⟩) hS.2.2 dX5_way_226
                          · skip
                            refine lv_iload_n hx hb dX5_way_202 rfl (lv_at hl 2 rfl) ?_
                            refine lv_bipush (v := 42) hx hb dX5_way_203 (by decide) ?_
                            refine lv_icmp_eq (tgt := 220) hx hb dX5_way_205 (by decide) (fun c_64 => ?_) (fun c_64 => ?_)
                            · skip
                              refine lv_bipush (v := 10) hx hb dX5_way_220 (by decide) ?_
                              refine lv_goto (tgt := 226) hx hb dX5_way_222 (by decide) ?_
                              have hP9 : va_P (dC, dI) vwCl [] s.heap := by exact hP.sub (ws' := []) [] rfl
                              have hD9 : va_D A [] := by exact hD.sub (ws' := []) [] (by decide) rfl
                              exact W.iret (v := 10) hx hb hr (fun t ht hW => ⟨⟨10, (), rfl, Eq.symm ((((((((((((((if_neg c_1)).trans (if_pos c_2)).trans (if_neg c_41)).trans (if_neg c_55)).trans (if_neg c_56)).trans (if_neg c_57)).trans (if_neg c_58)).trans (if_neg c_59)).trans (if_neg c_60)).trans (if_neg c_61)).trans (if_neg c_62)).trans (if_neg c_63)).trans (if_pos c_64) : (f_X5_way_r p1) = 10), by rw [ht]; exact hP9, hD9⟩, hS.F ht⟩) hS.2.2 dX5_way_226
                            · skip
                              refine lv_iload_n hx hb dX5_way_208 rfl (lv_at hl 2 rfl) ?_
                              refine lv_bipush (v := 74) hx hb dX5_way_209 (by decide) ?_
                              refine lv_icmp_eq (tgt := 220) hx hb dX5_way_211 (by decide) (fun c_65 => ?_) (fun c_65 => ?_)
                              · skip
                                refine lv_bipush (v := 10) hx hb dX5_way_220 (by decide) ?_
                                refine lv_goto (tgt := 226) hx hb dX5_way_222 (by decide) ?_
                                have hP9 : va_P (dC, dI) vwCl [] s.heap := by exact hP.sub (ws' := []) [] rfl
                                have hD9 : va_D A [] := by exact hD.sub (ws' := []) [] (by decide) rfl
                                exact W.iret (v := 10) hx hb hr (fun t ht hW => ⟨⟨10, (), rfl, Eq.symm (((((((((((((((if_neg c_1)).trans (if_pos c_2)).trans (if_neg c_41)).trans (if_neg c_55)).trans (if_neg c_56)).trans (if_neg c_57)).trans (if_neg c_58)).trans (if_neg c_59)).trans (if_neg c_60)).trans (if_neg c_61)).trans (if_neg c_62)).trans (if_neg c_63)).trans (if_neg c_64)).trans (if_pos c_65) : (f_X5_way_r p1) = 10), by rw [ht]; exact hP9, hD9⟩, hS.F ht⟩) hS.2.2 dX5_way_226
                              · skip
                                refine lv_iload_n hx hb dX5_way_214 rfl (lv_at hl 2 rfl) ?_
                                refine lv_bipush (v := 106) hx hb dX5_way_215 (by decide) ?_
                                refine lv_icmp_ne (tgt := 225) hx hb dX5_way_217 (by decide) (fun c_66 => ?_) (fun c_66 => ?_)
                                · skip
                                  refine lv_iconst (v := 0) hx hb dX5_way_225 (by decide) ?_
                                  have hP9 : va_P (dC, dI) vwCl [] s.heap := by exact hP.sub (ws' := []) [] rfl
                                  have hD9 : va_D A [] := by exact hD.sub (ws' := []) [] (by decide) rfl
                                  exact W.iret (v := 0) hx hb hr (fun t ht hW => ⟨⟨0, (), rfl, Eq.symm ((((((((((((((((if_neg c_1)).trans (if_pos c_2)).trans (if_neg c_41)).trans (if_neg c_55)).trans (if_neg c_56)).trans (if_neg c_57)).trans (if_neg c_58)).trans (if_neg c_59)).trans (if_neg c_60)).trans (if_neg c_61)).trans (if_neg c_62)).trans (if_neg c_63)).trans (if_neg c_64)).trans (if_neg c_65)).trans (if_neg c_66) : (f_X5_way_r p1) = 0), by rw [ht]; exact hP9, hD9⟩, hS.F ht⟩) hS.2.2 dX5_way_226
                                · skip
                                  refine lv_bipush (v := 10) hx hb dX5_way_220 (by decide) ?_
                                  refine lv_goto (tgt := 226) hx hb dX5_way_222 (by decide) ?_
                                  have hP9 : va_P (dC, dI) vwCl [] s.heap := by exact hP.sub (ws' := []) [] rfl
                                  have hD9 : va_D A [] := by exact hD.sub (ws' := []) [] (by decide) rfl
                                  exact W.iret (v := 10) hx hb hr (fun t ht hW => ⟨⟨10, (), rfl, Eq.symm ((((((((((((((((if_neg c_1)).trans (if_pos c_2)).trans (if_neg c_41)).trans (if_neg c_55)).trans (if_neg c_56)).trans (if_neg c_57)).trans (if_neg c_58)).trans (if_neg c_59)).trans (if_neg c_60)).trans (if_neg c_61)).trans (if_neg c_62)).trans (if_neg c_63)).trans (if_neg c_64)).trans (if_neg c_65)).trans (if_pos c_66) : (f_X5_way_r p1) = 10), by rw [ht]; exact hP9, hD9⟩, hS.F ht⟩) hS.2.2 dX5_way_226
                        · skip
                          refine lv_iload_n hx hb dX5_way_184 rfl (lv_at hl 0 rfl) ?_
                          refine lv_if_eq (tgt := 193) hx hb dX5_way_185 (by decide) (fun _ => ?_) (fun c => absurd (by decide) c)
                          refine lv_bipush (v := 6) hx hb dX5_way_193 (by decide) ?_
                          have hP9 : va_P (dC, dI) vwCl [] s.heap := by exact hP.sub (ws' := []) [] rfl
                          have hD9 : va_D A [] := by exact hD.sub (ws' := []) [] (by decide) rfl
                          exact W.iret (v := 6) hx hb hr (fun t ht hW => ⟨⟨6, (), rfl, Eq.symm ((((((((((((if_neg c_1)).trans (if_pos c_2)).trans (if_neg c_41)).trans (if_neg c_55)).trans (if_neg c_56)).trans (if_neg c_57)).trans (if_neg c_58)).trans (if_neg c_59)).trans (if_neg c_60)).trans (if_neg c_61)).trans (if_pos c_62) : (f_X5_way_r p1) = 6), by rw [ht]; exact hP9, hD9⟩, hS.F ht⟩) hS.2.2 dX5_way_195
                      · skip
                        refine lv_iload_n hx hb dX5_way_168 rfl (lv_at hl 0 rfl) ?_
                        refine lv_if_eq (tgt := 176) hx hb dX5_way_169 (by decide) (fun _ => ?_) (fun c => absurd (by decide) c)
                        refine lv_iconst (v := 3) hx hb dX5_way_176 (by decide) ?_
                        have hP9 : va_P (dC, dI) vwCl [] s.heap := by exact hP.sub (ws' := []) [] rfl
                        have hD9 : va_D A [] := by exact hD.sub (ws' := []) [] (by decide) rfl
                        exact W.iret (v := 3) hx hb hr (fun t ht hW => ⟨⟨3, (), rfl, Eq.symm (((((((((((if_neg c_1)).trans (if_pos c_2)).trans (if_neg c_41)).trans (if_neg c_55)).trans (if_neg c_56)).trans (if_neg c_57)).trans (if_neg c_58)).trans (if_neg c_59)).trans (if_neg c_60)).trans (if_pos c_61) : (f_X5_way_r p1) = 3), by rw [ht]; exact hP9, hD9⟩, hS.F ht⟩) hS.2.2 dX5_way_177
                    · skip
                      refine lv_iconst (v := 5) hx hb dX5_way_161 (by decide) ?_
                      have hP9 : va_P (dC, dI) vwCl [] s.heap := by exact hP.sub (ws' := []) [] rfl
                      have hD9 : va_D A [] := by exact hD.sub (ws' := []) [] (by decide) rfl
                      exact W.iret (v := 5) hx hb hr (fun t ht hW => ⟨⟨5, (), rfl, Eq.symm ((((((((((if_neg c_1)).trans (if_pos c_2)).trans (if_neg c_41)).trans (if_neg c_55)).trans (if_neg c_56)).trans (if_neg c_57)).trans (if_neg c_58)).trans (if_neg c_59)).trans (if_pos c_60) : (f_X5_way_r p1) = 5), by rw [ht]; exact hP9, hD9⟩, hS.F ht⟩) hS.2.2 dX5_way_162
                  · skip
                    refine lv_iconst (v := 2) hx hb dX5_way_154 (by decide) ?_
                    have hP9 : va_P (dC, dI) vwCl [] s.heap := by exact hP.sub (ws' := []) [] rfl
                    have hD9 : va_D A [] := by exact hD.sub (ws' := []) [] (by decide) rfl
                    exact W.iret (v := 2) hx hb hr (fun t ht hW => ⟨⟨2, (), rfl, Eq.symm (((((((((if_neg c_1)).trans (if_pos c_2)).trans (if_neg c_41)).trans (if_neg c_55)).trans (if_neg c_56)).trans (if_neg c_57)).trans (if_neg c_58)).trans (if_pos c_59) : (f_X5_way_r p1) = 2), by rw [ht]; exact hP9, hD9⟩, hS.F ht⟩) hS.2.2 dX5_way_155
                · skip
                  refine lv_iconst (v := 1) hx hb dX5_way_147 (by decide) ?_
                  have hP9 : va_P (dC, dI) vwCl [] s.heap := by exact hP.sub (ws' := []) [] rfl
                  have hD9 : va_D A [] := by exact hD.sub (ws' := []) [] (by decide) rfl
                  exact W.iret (v := 1) hx hb hr (fun t ht hW => ⟨⟨1, (), rfl, Eq.symm ((((((((if_neg c_1)).trans (if_pos c_2)).trans (if_neg c_41)).trans (if_neg c_55)).trans (if_neg c_56)).trans (if_neg c_57)).trans (if_pos c_58) : (f_X5_way_r p1) = 1), by rw [ht]; exact hP9, hD9⟩, hS.F ht⟩) hS.2.2 dX5_way_148
        · skip
          refine lv_iload_n hx hb dX5_way_106 rfl (lv_at hl 1 rfl) ?_
          refine lv_iconst (v := 4) hx hb dX5_way_107 (by decide) ?_
          refine lv_irem hx hb dX5_way_108 (by decide) ?_
          refine lv_iconst (v := 2) hx hb dX5_way_109 (by decide) ?_
          refine lv_icmp_ne (tgt := 117) hx hb dX5_way_110 (by decide) (fun _ => ?_) (fun c => absurd c c_41)
          refine lv_iconst (v := 0) hx hb dX5_way_117 (by decide) ?_
          refine lv_istore_n (lv' := [(2, .int 0), (1, .int ((p1 >>> ((2 : Int32) &&& 31)) &&& 7)), (0, .int p1)]) hx hb dX5_way_118 rfl hl (by decide) rfl (fun ls hl => ?_)
          refine lv_iload_n hx hb dX5_way_119 rfl (lv_at hl 2 rfl) ?_
          refine lv_sipush (v := 160) hx hb dX5_way_120 (by decide) ?_
          refine lv_icmp_eq (tgt := 147) hx hb dX5_way_123 (by decide) (fun c_68 => ?_) (fun c_68 => ?_)
          · skip
            refine lv_iconst (v := 1) hx hb dX5_way_147 (by decide) ?_
            have hP9 : va_P (dC, dI) vwCl [] s.heap := by exact hP.sub (ws' := []) [] rfl
            have hD9 : va_D A [] := by exact hD.sub (ws' := []) [] (by decide) rfl
            exact W.iret (v := 1) hx hb hr (fun t ht hW => ⟨⟨1, (), rfl, Eq.symm (((((if_neg c_1)).trans (if_pos c_2)).trans (if_neg c_41)).trans (if_pos c_68) : (f_X5_way_r p1) = 1), by rw [ht]; exact hP9, hD9⟩, hS.F ht⟩) hS.2.2 dX5_way_148
          · skip
            refine lv_iload_n hx hb dX5_way_126 rfl (lv_at hl 2 rfl) ?_
            refine lv_sipush (v := 162) hx hb dX5_way_127 (by decide) ?_
            refine lv_icmp_eq (tgt := 147) hx hb dX5_way_130 (by decide) (fun c_69 => ?_) (fun c_69 => ?_)
            · skip
              refine lv_iconst (v := 1) hx hb dX5_way_147 (by decide) ?_
              have hP9 : va_P (dC, dI) vwCl [] s.heap := by exact hP.sub (ws' := []) [] rfl
              have hD9 : va_D A [] := by exact hD.sub (ws' := []) [] (by decide) rfl
              exact W.iret (v := 1) hx hb hr (fun t ht hW => ⟨⟨1, (), rfl, Eq.symm ((((((if_neg c_1)).trans (if_pos c_2)).trans (if_neg c_41)).trans (if_neg c_68)).trans (if_pos c_69) : (f_X5_way_r p1) = 1), by rw [ht]; exact hP9, hD9⟩, hS.F ht⟩) hS.2.2 dX5_way_148
            · skip
              refine lv_iload_n hx hb dX5_way_133 rfl (lv_at hl 2 rfl) ?_
              refine lv_sipush (v := 192) hx hb dX5_way_134 (by decide) ?_
              refine lv_icmp_eq (tgt := 147) hx hb dX5_way_137 (by decide) (fun c_70 => ?_) (fun c_70 => ?_)
              · skip
                refine lv_iconst (v := 1) hx hb dX5_way_147 (by decide) ?_
                have hP9 : va_P (dC, dI) vwCl [] s.heap := by exact hP.sub (ws' := []) [] rfl
                have hD9 : va_D A [] := by exact hD.sub (ws' := []) [] (by decide) rfl
                exact W.iret (v := 1) hx hb hr (fun t ht hW => ⟨⟨1, (), rfl, Eq.symm (((((((if_neg c_1)).trans (if_pos c_2)).trans (if_neg c_41)).trans (if_neg c_68)).trans (if_neg c_69)).trans (if_pos c_70) : (f_X5_way_r p1) = 1), by rw [ht]; exact hP9, hD9⟩, hS.F ht⟩) hS.2.2 dX5_way_148
              · skip
                refine lv_iload_n hx hb dX5_way_140 rfl (lv_at hl 2 rfl) ?_
                refine lv_sipush (v := 224) hx hb dX5_way_141 (by decide) ?_
                refine lv_icmp_ne (tgt := 149) hx hb dX5_way_144 (by decide) (fun c_71 => ?_) (fun c_71 => ?_)
                · skip
                  refine lv_iload_n hx hb dX5_way_149 rfl (lv_at hl 1 rfl) ?_
                  refine lv_iconst (v := 1) hx hb dX5_way_150 (by decide) ?_
                  refine lv_icmp_ne (tgt := 156) hx hb dX5_way_151 (by decide) (fun c_72 => ?_) (fun c_72 => ?_)
                  · skip
                    refine lv_iload_n hx hb dX5_way_156 rfl (lv_at hl 1 rfl) ?_
                    refine lv_iconst (v := 3) hx hb dX5_way_157 (by decide) ?_
                    refine lv_icmp_ne (tgt := 163) hx hb dX5_way_158 (by decide) (fun c_73 => ?_) (fun c_73 => ?_)
                    · skip
                      refine lv_iload_n hx hb dX5_way_163 rfl (lv_at hl 1 rfl) ?_
                      refine lv_iconst (v := 5) hx hb dX5_way_164 (by decide) ?_
                      refine lv_icmp_ne (tgt := 178) hx hb dX5_way_165 (by decide) (fun c_74 => ?_) (fun c_74 => ?_)
                      · skip
                        refine lv_iload_n hx hb dX5_way_178 rfl (lv_at hl 1 rfl) ?_
                        refine lv_bipush (v := 7) hx hb dX5_way_179 (by decide) ?_
                        refine lv_icmp_ne (tgt := 196) hx hb dX5_way_181 (by decide) (fun c_75 => ?_) (fun c_75 => ?_)
                        · skip
                          refine lv_iload_n hx hb dX5_way_196 rfl (lv_at hl 2 rfl) ?_
                          refine lv_bipush (v := 10) hx hb dX5_way_197 (by decide) ?_
                          refine lv_icmp_eq (tgt := 220) hx hb dX5_way_199 (by decide) (fun c_76 => ?_) (fun c_76 => ?_)
                          · skip
                            refine lv_bipush (v := 10) hx hb dX5_way_220 (by decide) ?_
                            refine lv_goto (tgt := 226) hx hb dX5_way_222 (by decide) ?_
                            have hP9 : va_P (dC, dI) vwCl [] s.heap := by exact hP.sub (ws' := []) [] rfl
                            have hD9 : va_D A [] := by exact hD.sub (ws' := []) [] (by decide) rfl
                            exact W.iret (v := 10) hx hb hr (fun t ht hW => ⟨⟨10, (), rfl, Eq.symm (((((((((((((if_neg c_1)).trans (if_pos c_2)).trans (if_neg c_41)).trans (if_neg c_68)).trans (if_neg c_69)).trans (if_neg c_70)).trans (if_neg c_71)).trans (if_neg c_72)).trans (if_neg c_73)).trans (if_neg c_74)).trans (if_neg c_75)).trans (if_pos c_76) : (f_X5_way_r p1) = 10), by rw [ht]; exact hP9, hD9⟩, hS.F ht⟩) hS.2.2 dX5_way_226
                          · skip
                            refine lv_iload_n hx hb dX5_way_202 rfl (lv_at hl 2 rfl) ?_
                            refine lv_bipush (v := 42) hx hb dX5_way_203 (by decide) ?_
                            refine lv_icmp_eq (tgt := 220) hx hb dX5_way_205 (by decide) (fun c_77 => ?_) (fun c_77 => ?_)
                            · skip
                              refine lv_bipush (v := 10) hx hb dX5_way_220 (by decide) ?_
                              refine lv_goto (tgt := 226) hx hb dX5_way_222 (by decide) ?_
                              have hP9 : va_P (dC, dI) vwCl [] s.heap := by exact hP.sub (ws' := []) [] rfl
                              have hD9 : va_D A [] := by exact hD.sub (ws' := []) [] (by decide) rfl
                              exact W.iret (v := 10) hx hb hr (fun t ht hW => ⟨⟨10, (), rfl, Eq.symm ((((((((((((((if_neg c_1)).trans (if_pos c_2)).trans (if_neg c_41)).trans (if_neg c_68)).trans (if_neg c_69)).trans (if_neg c_70)).trans (if_neg c_71)).trans (if_neg c_72)).trans (if_neg c_73)).trans (if_neg c_74)).trans (if_neg c_75)).trans (if_neg c_76)).trans (if_pos c_77) : (f_X5_way_r p1) = 10), by rw [ht]; exact hP9, hD9⟩, hS.F ht⟩) hS.2.2 dX5_way_226
                            · skip
                              refine lv_iload_n hx hb dX5_way_208 rfl (lv_at hl 2 rfl) ?_
                              refine lv_bipush (v := 74) hx hb dX5_way_209 (by decide) ?_
                              refine lv_icmp_eq (tgt := 220) hx hb dX5_way_211 (by decide) (fun c_78 => ?_) (fun c_78 => ?_)
                              · skip
                                refine lv_bipush (v := 10) hx hb dX5_way_220 (by decide) ?_
                                refine lv_goto (tgt := 226) hx hb dX5_way_222 (by decide) ?_
                                have hP9 : va_P (dC, dI) vwCl [] s.heap := by exact hP.sub (ws' := []) [] rfl
                                have hD9 : va_D A [] := by exact hD.sub (ws' := []) [] (by decide) rfl
                                exact W.iret (v := 10) hx hb hr (fun t ht hW => ⟨⟨10, (), rfl, Eq.symm (((((((((((((((if_neg c_1)).trans (if_pos c_2)).trans (if_neg c_41)).trans (if_neg c_68)).trans (if_neg c_69)).trans (if_neg c_70)).trans (if_neg c_71)).trans (if_neg c_72)).trans (if_neg c_73)).trans (if_neg c_74)).trans (if_neg c_75)).trans (if_neg c_76)).trans (if_neg c_77)).trans (if_pos c_78) : (f_X5_way_r p1) = 10), by rw [ht]; exact hP9, hD9⟩, hS.F ht⟩) hS.2.2 dX5_way_226
                              · skip
                                refine lv_iload_n hx hb dX5_way_214 rfl (lv_at hl 2 rfl) ?_
                                refine lv_bipush (v := 106) hx hb dX5_way_215 (by decide) ?_
                                refine lv_icmp_ne (tgt := 225) hx hb dX5_way_217 (by decide) (fun c_79 => ?_) (fun c_79 => ?_)
                                · skip
                                  refine lv_iconst (v := 0) hx hb dX5_way_225 (by decide) ?_
                                  have hP9 : va_P (dC, dI) vwCl [] s.heap := by exact hP.sub (ws' := []) [] rfl
                                  have hD9 : va_D A [] := by exact hD.sub (ws' := []) [] (by decide) rfl
                                  exact W.iret (v := 0) hx hb hr (fun t ht hW => ⟨⟨0, (), rfl, Eq.symm ((((((((((((((((if_neg c_1)).trans (if_pos c_2)).trans (if_neg c_41)).trans (if_neg c_68)).trans (if_neg c_69)).trans (if_neg c_70)).trans (if_neg c_71)).trans (if_neg c_72)).trans (if_neg c_73)).trans (if_neg c_74)).trans (if_neg c_75)).trans (if_neg c_76)).trans (if_neg c_77)).trans (if_neg c_78)).trans (if_neg c_79) : (f_X5_way_r p1) = 0), by rw [ht]; exact hP9, hD9⟩, hS.F ht⟩) hS.2.2 dX5_way_226
                                · skip
                                  refine lv_bipush (v := 10) hx hb dX5_way_220 (by decide) ?_
                                  refine lv_goto (tgt := 226) hx hb dX5_way_222 (by decide) ?_
                                  have hP9 : va_P (dC, dI) vwCl [] s.heap := by exact hP.sub (ws' := []) [] rfl
                                  have hD9 : va_D A [] := by exact hD.sub (ws' := []) [] (by decide) rfl
                                  exact W.iret (v := 10) hx hb hr (fun t ht hW => ⟨⟨10, (), rfl, Eq.symm ((((((((((((((((if_neg c_1)).trans (if_pos c_2)).trans (if_neg c_41)).trans (if_neg c_68)).trans (if_neg c_69)).trans (if_neg c_70)).trans (if_neg c_71)).trans (if_neg c_72)).trans (if_neg c_73)).trans (if_neg c_74)).trans (if_neg c_75)).trans (if_neg c_76)).trans (if_neg c_77)).trans (if_neg c_78)).trans (if_pos c_79) : (f_X5_way_r p1) = 10), by rw [ht]; exact hP9, hD9⟩, hS.F ht⟩) hS.2.2 dX5_way_226
                        · skip
                          refine lv_iload_n hx hb dX5_way_184 rfl (lv_at hl 0 rfl) ?_
                          refine lv_if_eq (tgt := 193) hx hb dX5_way_185 (by decide) (fun _ => ?_) (fun c => absurd (by decide) c)
                          refine lv_bipush (v := 6) hx hb dX5_way_193 (by decide) ?_
                          have hP9 : va_P (dC, dI) vwCl [] s.heap := by exact hP.sub (ws' := []) [] rfl
                          have hD9 : va_D A [] := by exact hD.sub (ws' := []) [] (by decide) rfl
                          exact W.iret (v := 6) hx hb hr (fun t ht hW => ⟨⟨6, (), rfl, Eq.symm ((((((((((((if_neg c_1)).trans (if_pos c_2)).trans (if_neg c_41)).trans (if_neg c_68)).trans (if_neg c_69)).trans (if_neg c_70)).trans (if_neg c_71)).trans (if_neg c_72)).trans (if_neg c_73)).trans (if_neg c_74)).trans (if_pos c_75) : (f_X5_way_r p1) = 6), by rw [ht]; exact hP9, hD9⟩, hS.F ht⟩) hS.2.2 dX5_way_195
                      · skip
                        refine lv_iload_n hx hb dX5_way_168 rfl (lv_at hl 0 rfl) ?_
                        refine lv_if_eq (tgt := 176) hx hb dX5_way_169 (by decide) (fun _ => ?_) (fun c => absurd (by decide) c)
                        refine lv_iconst (v := 3) hx hb dX5_way_176 (by decide) ?_
                        have hP9 : va_P (dC, dI) vwCl [] s.heap := by exact hP.sub (ws' := []) [] rfl
                        have hD9 : va_D A [] := by exact hD.sub (ws' := []) [] (by decide) rfl
                        exact W.iret (v := 3) hx hb hr (fun t ht hW => ⟨⟨3, (), rfl, Eq.symm (((((((((((if_neg c_1)).trans (if_pos c_2)).trans (if_neg c_41)).trans (if_neg c_68)).trans (if_neg c_69)).trans (if_neg c_70)).trans (if_neg c_71)).trans (if_neg c_72)).trans (if_neg c_73)).trans (if_pos c_74) : (f_X5_way_r p1) = 3), by rw [ht]; exact hP9, hD9⟩, hS.F ht⟩) hS.2.2 dX5_way_177
                    · skip
                      refine lv_iconst (v := 5) hx hb dX5_way_161 (by decide) ?_
                      have hP9 : va_P (dC, dI) vwCl [] s.heap := by exact hP.sub (ws' := []) [] rfl
                      have hD9 : va_D A [] := by exact hD.sub (ws' := []) [] (by decide) rfl
                      exact W.iret (v := 5) hx hb hr (fun t ht hW => ⟨⟨5, (), rfl, Eq.symm ((((((((((if_neg c_1)).trans (if_pos c_2)).trans (if_neg c_41)).trans (if_neg c_68)).trans (if_neg c_69)).trans (if_neg c_70)).trans (if_neg c_71)).trans (if_neg c_72)).trans (if_pos c_73) : (f_X5_way_r p1) = 5), by rw [ht]; exact hP9, hD9⟩, hS.F ht⟩) hS.2.2 dX5_way_162
                  · skip
                    refine lv_iconst (v := 2) hx hb dX5_way_154 (by decide) ?_
                    have hP9 : va_P (dC, dI) vwCl [] s.heap := by exact hP.sub (ws' := []) [] rfl
                    have hD9 : va_D A [] := by exact hD.sub (ws' := []) [] (by decide) rfl
                    exact W.iret (v := 2) hx hb hr (fun t ht hW => ⟨⟨2, (), rfl, Eq.symm (((((((((if_neg c_1)).trans (if_pos c_2)).trans (if_neg c_41)).trans (if_neg c_68)).trans (if_neg c_69)).trans (if_neg c_70)).trans (if_neg c_71)).trans (if_pos c_72) : (f_X5_way_r p1) = 2), by rw [ht]; exact hP9, hD9⟩, hS.F ht⟩) hS.2.2 dX5_way_155
                · skip
                  refine lv_iconst (v := 1) hx hb dX5_way_147 (by decide) ?_
                  have hP9 : va_P (dC, dI) vwCl [] s.heap := by exact hP.sub (ws' := []) [] rfl
                  have hD9 : va_D A [] := by exact hD.sub (ws' := []) [] (by decide) rfl
                  exact W.iret (v := 1) hx hb hr (fun t ht hW => ⟨⟨1, (), rfl, Eq.symm ((((((((if_neg c_1)).trans (if_pos c_2)).trans (if_neg c_41)).trans (if_neg c_68)).trans (if_neg c_69)).trans (if_neg c_70)).trans (if_pos c_71) : (f_X5_way_r p1) = 1), by rw [ht]; exact hP9, hD9⟩, hS.F ht⟩) hS.2.2 dX5_way_148
  · skip
    refine lv_iload_n hx hb dX5_way_14 rfl (lv_at hl 0 rfl) ?_
    refine lv_if_ne (tgt := 23) hx hb dX5_way_15 (by decide) (fun c_80 => ?_) (fun c_80 => ?_)
    · skip
      refine lv_iload_n hx hb dX5_way_23 rfl (lv_at hl 0 rfl) ?_
      refine lv_iconst (v := 1) hx hb dX5_way_24 (by decide) ?_
      refine lv_icmp_ne (tgt := 32) hx hb dX5_way_25 (by decide) (fun c_81 => ?_) (fun c_81 => ?_)
      · skip
        refine lv_iload_n hx hb dX5_way_32 rfl (lv_at hl 0 rfl) ?_
        refine lv_iconst (v := 2) hx hb dX5_way_33 (by decide) ?_
        refine lv_icmp_ne (tgt := 41) hx hb dX5_way_34 (by decide) (fun c_82 => ?_) (fun c_82 => ?_)
        · skip
          refine lv_iload_n hx hb dX5_way_41 rfl (lv_at hl 0 rfl) ?_
          refine lv_iconst (v := 3) hx hb dX5_way_42 (by decide) ?_
          refine lv_icmp_ne (tgt := 50) hx hb dX5_way_43 (by decide) (fun c_83 => ?_) (fun c_83 => ?_)
          · skip
            refine lv_iload_n hx hb dX5_way_50 rfl (lv_at hl 0 rfl) ?_
            refine lv_iconst (v := 4) hx hb dX5_way_51 (by decide) ?_
            refine lv_icmp_ne (tgt := 60) hx hb dX5_way_52 (by decide) (fun c_84 => ?_) (fun c_84 => ?_)
            · skip
              refine lv_iload_n hx hb dX5_way_60 rfl (lv_at hl 0 rfl) ?_
              refine lv_iconst (v := 5) hx hb dX5_way_61 (by decide) ?_
              refine lv_icmp_ne (tgt := 69) hx hb dX5_way_62 (by decide) (fun c_85 => ?_) (fun c_85 => ?_)
              · skip
                refine lv_iload_n hx hb dX5_way_69 rfl (lv_at hl 0 rfl) ?_
                refine lv_bipush (v := 6) hx hb dX5_way_70 (by decide) ?_
                refine lv_icmp_ne (tgt := 80) hx hb dX5_way_72 (by decide) (fun c_86 => ?_) (fun c_86 => ?_)
                · skip
                  refine lv_bipush (v := 6) hx hb dX5_way_80 (by decide) ?_
                  have hP9 : va_P (dC, dI) vwCl [] s.heap := by exact hP.sub (ws' := []) [] rfl
                  have hD9 : va_D A [] := by exact hD.sub (ws' := []) [] (by decide) rfl
                  exact W.iret (v := 6) hx hb hr (fun t ht hW => ⟨⟨6, (), rfl, Eq.symm (((((((((if_pos c_1)).trans (if_neg c_80)).trans (if_neg c_81)).trans (if_neg c_82)).trans (if_neg c_83)).trans (if_neg c_84)).trans (if_neg c_85)).trans (if_neg c_86) : (f_X5_way_r p1) = 6), by rw [ht]; exact hP9, hD9⟩, hS.F ht⟩) hS.2.2 dX5_way_82
                · skip
                  refine lv_bipush (v := 7) hx hb dX5_way_75 (by decide) ?_
                  refine lv_goto (tgt := 82) hx hb dX5_way_77 (by decide) ?_
                  have hP9 : va_P (dC, dI) vwCl [] s.heap := by exact hP.sub (ws' := []) [] rfl
                  have hD9 : va_D A [] := by exact hD.sub (ws' := []) [] (by decide) rfl
                  exact W.iret (v := 7) hx hb hr (fun t ht hW => ⟨⟨7, (), rfl, Eq.symm (((((((((if_pos c_1)).trans (if_neg c_80)).trans (if_neg c_81)).trans (if_neg c_82)).trans (if_neg c_83)).trans (if_neg c_84)).trans (if_neg c_85)).trans (if_pos c_86) : (f_X5_way_r p1) = 7), by rw [ht]; exact hP9, hD9⟩, hS.F ht⟩) hS.2.2 dX5_way_82
              · skip
                refine lv_iconst (v := 3) hx hb dX5_way_65 (by decide) ?_
                refine lv_goto (tgt := 82) hx hb dX5_way_66 (by decide) ?_
                have hP9 : va_P (dC, dI) vwCl [] s.heap := by exact hP.sub (ws' := []) [] rfl
                have hD9 : va_D A [] := by exact hD.sub (ws' := []) [] (by decide) rfl
                exact W.iret (v := 3) hx hb hr (fun t ht hW => ⟨⟨3, (), rfl, Eq.symm ((((((((if_pos c_1)).trans (if_neg c_80)).trans (if_neg c_81)).trans (if_neg c_82)).trans (if_neg c_83)).trans (if_neg c_84)).trans (if_pos c_85) : (f_X5_way_r p1) = 3), by rw [ht]; exact hP9, hD9⟩, hS.F ht⟩) hS.2.2 dX5_way_82
            · skip
              refine lv_bipush (v := 9) hx hb dX5_way_55 (by decide) ?_
              refine lv_goto (tgt := 82) hx hb dX5_way_57 (by decide) ?_
              have hP9 : va_P (dC, dI) vwCl [] s.heap := by exact hP.sub (ws' := []) [] rfl
              have hD9 : va_D A [] := by exact hD.sub (ws' := []) [] (by decide) rfl
              exact W.iret (v := 9) hx hb hr (fun t ht hW => ⟨⟨9, (), rfl, Eq.symm (((((((if_pos c_1)).trans (if_neg c_80)).trans (if_neg c_81)).trans (if_neg c_82)).trans (if_neg c_83)).trans (if_pos c_84) : (f_X5_way_r p1) = 9), by rw [ht]; exact hP9, hD9⟩, hS.F ht⟩) hS.2.2 dX5_way_82
          · skip
            refine lv_iconst (v := 5) hx hb dX5_way_46 (by decide) ?_
            refine lv_goto (tgt := 82) hx hb dX5_way_47 (by decide) ?_
            have hP9 : va_P (dC, dI) vwCl [] s.heap := by exact hP.sub (ws' := []) [] rfl
            have hD9 : va_D A [] := by exact hD.sub (ws' := []) [] (by decide) rfl
            exact W.iret (v := 5) hx hb hr (fun t ht hW => ⟨⟨5, (), rfl, Eq.symm ((((((if_pos c_1)).trans (if_neg c_80)).trans (if_neg c_81)).trans (if_neg c_82)).trans (if_pos c_83) : (f_X5_way_r p1) = 5), by rw [ht]; exact hP9, hD9⟩, hS.F ht⟩) hS.2.2 dX5_way_82
        · skip
          refine lv_iconst (v := 1) hx hb dX5_way_37 (by decide) ?_
          refine lv_goto (tgt := 82) hx hb dX5_way_38 (by decide) ?_
          have hP9 : va_P (dC, dI) vwCl [] s.heap := by exact hP.sub (ws' := []) [] rfl
          have hD9 : va_D A [] := by exact hD.sub (ws' := []) [] (by decide) rfl
          exact W.iret (v := 1) hx hb hr (fun t ht hW => ⟨⟨1, (), rfl, Eq.symm (((((if_pos c_1)).trans (if_neg c_80)).trans (if_neg c_81)).trans (if_pos c_82) : (f_X5_way_r p1) = 1), by rw [ht]; exact hP9, hD9⟩, hS.F ht⟩) hS.2.2 dX5_way_82
      · skip
        refine lv_iconst (v := 2) hx hb dX5_way_28 (by decide) ?_
        refine lv_goto (tgt := 82) hx hb dX5_way_29 (by decide) ?_
        have hP9 : va_P (dC, dI) vwCl [] s.heap := by exact hP.sub (ws' := []) [] rfl
        have hD9 : va_D A [] := by exact hD.sub (ws' := []) [] (by decide) rfl
        exact W.iret (v := 2) hx hb hr (fun t ht hW => ⟨⟨2, (), rfl, Eq.symm ((((if_pos c_1)).trans (if_neg c_80)).trans (if_pos c_81) : (f_X5_way_r p1) = 2), by rw [ht]; exact hP9, hD9⟩, hS.F ht⟩) hS.2.2 dX5_way_82
    · skip
      refine lv_bipush (v := 8) hx hb dX5_way_18 (by decide) ?_
      refine lv_goto (tgt := 82) hx hb dX5_way_20 (by decide) ?_
      have hP9 : va_P (dC, dI) vwCl [] s.heap := by exact hP.sub (ws' := []) [] rfl
      have hD9 : va_D A [] := by exact hD.sub (ws' := []) [] (by decide) rfl
      exact W.iret (v := 8) hx hb hr (fun t ht hW => ⟨⟨8, (), rfl, Eq.symm (((if_pos c_1)).trans (if_pos c_80) : (f_X5_way_r p1) = 8), by rw [ht]; exact hP9, hD9⟩, hS.F ht⟩) hS.2.2 dX5_way_82

def f_X5_isKnown_r (p1 : Int32) : Int32 := (if (p1 - p1 / 4 * 4) = 1 then (if p1 = 137 then 0 else 1) else (if (p1 - p1 / 4 * 4) = 3 then 0 else (if (p1 - p1 / 4 * 4) = 2 then (if ((p1 >>> ((2 : Int32) &&& 31)) &&& 7) = 0 then (if p1 = 162 then 1 else 0) else (if ((p1 >>> ((2 : Int32) &&& 31)) &&& 7) = 4 then 0 else (if ((p1 >>> ((2 : Int32) &&& 31)) &&& 7) = 6 then (if p1 = 154 then 1 else (if p1 = 186 then 1 else 0)) else (if p1 = 158 then 0 else 1)))) else (if ((p1 >>> ((2 : Int32) &&& 31)) &&& 7) = 2 then 1 else (if ((p1 >>> ((2 : Int32) &&& 31)) &&& 7) = 4 then 1 else (if ((p1 >>> ((2 : Int32) &&& 31)) &&& 7) = 6 then 1 else (if ((p1 >>> ((2 : Int32) &&& 31)) &&& 7) = 0 then (if p1 = 128 then 0 else 1) else (if ((p1 >>> ((2 : Int32) &&& 31)) &&& 7) = 1 then (if (p1 / 32) = 1 then 1 else (if (p1 / 32) ≤ 3 then 0 else 1)) else (if ((p1 >>> ((2 : Int32) &&& 31)) &&& 7) = 3 then (if (p1 / 32) ≤ 0 then 0 else 1) else (if ((p1 >>> ((2 : Int32) &&& 31)) &&& 7) = 5 then (if (p1 / 32) = 4 then 1 else (if (p1 / 32) = 5 then 1 else 0)) else (if (p1 / 32) = 5 then 1 else 0)))))))))))
theorem b_X5_isKnown (p1 : Int32) : wB (f_X5_isKnown_r p1) := by
  unfold f_X5_isKnown_r
  (by_cases c0 : (p1 - p1 / 4 * 4) = 1; (· rw [if_pos c0]; (by_cases c1 : p1 = 137; (· rw [if_pos c1]; exact Or.inl rfl); (· rw [if_neg c1]; exact Or.inr rfl))); (· rw [if_neg c0]; (by_cases c2 : (p1 - p1 / 4 * 4) = 3; (· rw [if_pos c2]; exact Or.inl rfl); (· rw [if_neg c2]; (by_cases c3 : (p1 - p1 / 4 * 4) = 2; (· rw [if_pos c3]; (by_cases c4 : ((p1 >>> ((2 : Int32) &&& 31)) &&& 7) = 0; (· rw [if_pos c4]; (by_cases c5 : p1 = 162; (· rw [if_pos c5]; exact Or.inr rfl); (· rw [if_neg c5]; exact Or.inl rfl))); (· rw [if_neg c4]; (by_cases c6 : ((p1 >>> ((2 : Int32) &&& 31)) &&& 7) = 4; (· rw [if_pos c6]; exact Or.inl rfl); (· rw [if_neg c6]; (by_cases c7 : ((p1 >>> ((2 : Int32) &&& 31)) &&& 7) = 6; (· rw [if_pos c7]; (by_cases c8 : p1 = 154; (· rw [if_pos c8]; exact Or.inr rfl); (· rw [if_neg c8]; (by_cases c9 : p1 = 186; (· rw [if_pos c9]; exact Or.inr rfl); (· rw [if_neg c9]; exact Or.inl rfl))))); (· rw [if_neg c7]; (by_cases c10 : p1 = 158; (· rw [if_pos c10]; exact Or.inl rfl); (· rw [if_neg c10]; exact Or.inr rfl))))))))); (· rw [if_neg c3]; (by_cases c11 : ((p1 >>> ((2 : Int32) &&& 31)) &&& 7) = 2; (· rw [if_pos c11]; exact Or.inr rfl); (· rw [if_neg c11]; (by_cases c12 : ((p1 >>> ((2 : Int32) &&& 31)) &&& 7) = 4; (· rw [if_pos c12]; exact Or.inr rfl); (· rw [if_neg c12]; (by_cases c13 : ((p1 >>> ((2 : Int32) &&& 31)) &&& 7) = 6; (· rw [if_pos c13]; exact Or.inr rfl); (· rw [if_neg c13]; (by_cases c14 : ((p1 >>> ((2 : Int32) &&& 31)) &&& 7) = 0; (· rw [if_pos c14]; (by_cases c15 : p1 = 128; (· rw [if_pos c15]; exact Or.inl rfl); (· rw [if_neg c15]; exact Or.inr rfl))); (· rw [if_neg c14]; (by_cases c16 : ((p1 >>> ((2 : Int32) &&& 31)) &&& 7) = 1; (· rw [if_pos c16]; (by_cases c17 : (p1 / 32) = 1; (· rw [if_pos c17]; exact Or.inr rfl); (· rw [if_neg c17]; (by_cases c18 : (p1 / 32) ≤ 3; (· rw [if_pos c18]; exact Or.inl rfl); (· rw [if_neg c18]; exact Or.inr rfl))))); (· rw [if_neg c16]; (by_cases c19 : ((p1 >>> ((2 : Int32) &&& 31)) &&& 7) = 3; (· rw [if_pos c19]; (by_cases c20 : (p1 / 32) ≤ 0; (· rw [if_pos c20]; exact Or.inl rfl); (· rw [if_neg c20]; exact Or.inr rfl))); (· rw [if_neg c19]; (by_cases c21 : ((p1 >>> ((2 : Int32) &&& 31)) &&& 7) = 5; (· rw [if_pos c21]; (by_cases c22 : (p1 / 32) = 4; (· rw [if_pos c22]; exact Or.inr rfl); (· rw [if_neg c22]; (by_cases c23 : (p1 / 32) = 5; (· rw [if_pos c23]; exact Or.inr rfl); (· rw [if_neg c23]; exact Or.inl rfl))))); (· rw [if_neg c21]; (by_cases c24 : (p1 / 32) = 5; (· rw [if_pos c24]; exact Or.inr rfl); (· rw [if_neg c24]; exact Or.inl rfl))))))))))))))))))))))
set_option maxHeartbeats 4000000 in
set_option maxRecDepth 100000 in
/-- X5_isKnown -/
theorem c_X5_isKnown (l : Launch) (dC : Nat → ClassId) (dI : Nat → Nat → Nat) (sz : Nat) (p1 : Int32)  : Met l yX5_isKnown (Cond.code yX5_isKnown cX5_isKnown 4 (some .boolean) :: gw) { frames := 0, cells := 0, slots := 0, locals := 0 } (va_Pc [.int p1] (wPre (dC, dI) [] [] sz wX0)) (va_Qi (fun (r : Int32) (_ : Unit) => r = (f_X5_isKnown_r p1)) (fun _ t => wPost (dC, dI) (va_A [] sz) [] t) (va_A [] sz)) 0 0 (va_A [] sz) := by
  refine Met.ofW (cc := cX5_isKnown) (maxL := 4) (ret := (some .boolean)) (by decide) rfl ?_
  intro p e s m args below meth c s₁ B hml hv
  obtain ⟨rfl, hsz, hP, hK, hD0, hXX⟩ := hv
  have hx := B.exec
  have hb := B.bytes
  have hr := B.returns
  have hts := atoms_spec (ws := (Cond.code yX5_isKnown cX5_isKnown 4 (some .boolean) :: gw)) B.pre
  have hown : s.vm.findClass RX5 = some m.cls := findClass_of_methodNamed B.named
  have hlocks := B.notSynchronized
  subst hsz
  have hD := hD0.self (sz := s.heap.size)
  generalize hAe : va_A [] s.heap.size = A at hD ⊢
  have hA : ∀ q : Nat, s.heap.size ≤ q → A q := fun q h => by rw [← hAe]; exact Or.inr h
  have hS : va_S A s.heap s.heap [] := va_S.rf
  have hl := lv_entry ([.int p1]) (n := 4) (Nat.le_of_ble_eq_true rfl)
  rw [lg_entry_eq]
  generalize (lg_sl ([.int p1]) ++ List.replicate (4 - (lg_sl ([.int p1])).length) Slot.unset).toArray = ls at hl ⊢
  have hl : lv_has ls 4 [(0, .int p1)] := hl
  refine lv_iload_n hx hb dX5_isKnown_0 rfl (lv_at hl 0 rfl) ?_
  refine lv_iconst (v := 4) hx hb dX5_isKnown_1 (by decide) ?_
  refine lv_irem hx hb dX5_isKnown_2 (by decide) ?_
  refine lv_istore_n (lv' := [(1, .int (p1 - p1 / 4 * 4)), (0, .int p1)]) hx hb dX5_isKnown_3 rfl hl (by decide) rfl (fun ls hl => ?_)
  refine lv_iload_n hx hb dX5_isKnown_4 rfl (lv_at hl 1 rfl) ?_
  refine lv_iconst (v := 2) hx hb dX5_isKnown_5 (by decide) ?_
  refine lv_ishr hx hb dX5_isKnown_6 ?_
  refine lv_bipush (v := 7) hx hb dX5_isKnown_7 (by decide) ?_
  refine lv_iand hx hb dX5_isKnown_9 ?_
  refine lv_istore_n (lv' := [(2, .int ((p1 >>> ((2 : Int32) &&& 31)) &&& 7)), (1, .int (p1 - p1 / 4 * 4)), (0, .int p1)]) hx hb dX5_isKnown_10 rfl hl (by decide) rfl (fun ls hl => ?_)
  refine lv_iload_n hx hb dX5_isKnown_11 rfl (lv_at hl 2 rfl) ?_
  refine lv_bipush (v := 32) hx hb dX5_isKnown_12 (by decide) ?_
  refine lv_idiv hx hb dX5_isKnown_14 (by decide) ?_
  refine lv_istore_n (lv' := [(3, .int (p1 / 32)), (2, .int ((p1 >>> ((2 : Int32) &&& 31)) &&& 7)), (1, .int (p1 - p1 / 4 * 4)), (0, .int p1)]) hx hb dX5_isKnown_15 rfl hl (by decide) rfl (fun ls hl => ?_)
  refine lv_iload_n hx hb dX5_isKnown_16 rfl (lv_at hl 2 rfl) ?_
  refine lv_iconst (v := 1) hx hb dX5_isKnown_17 (by decide) ?_
  refine lv_icmp_ne (tgt := 34) hx hb dX5_isKnown_18 (by decide) (fun c_1 => ?_) (fun c_1 => ?_)
  · skip
    refine lv_iload_n hx hb dX5_isKnown_34 rfl (lv_at hl 2 rfl) ?_
    refine lv_iconst (v := 3) hx hb dX5_isKnown_35 (by decide) ?_
    refine lv_icmp_ne (tgt := 41) hx hb dX5_isKnown_36 (by decide) (fun c_2 => ?_) (fun c_2 => ?_)
    · skip
      refine lv_iload_n hx hb dX5_isKnown_41 rfl (lv_at hl 2 rfl) ?_
      refine lv_iconst (v := 2) hx hb dX5_isKnown_42 (by decide) ?_
      refine lv_icmp_ne (tgt := 109) hx hb dX5_isKnown_43 (by decide) (fun c_3 => ?_) (fun c_3 => ?_)
      · skip
        refine lv_iload_n hx hb dX5_isKnown_109 rfl (lv_at hl 1 rfl) ?_
        refine lv_iconst (v := 2) hx hb dX5_isKnown_110 (by decide) ?_
        refine lv_icmp_eq (tgt := 125) hx hb dX5_isKnown_111 (by decide) (fun c_4 => ?_) (fun c_4 => ?_)
        · skip
          refine lv_iconst (v := 1) hx hb dX5_isKnown_125 (by decide) ?_
          have hP9 : va_P (dC, dI) vwCl [] s.heap := by exact hP.sub (ws' := []) [] rfl
          have hD9 : va_D A [] := by exact hD.sub (ws' := []) [] (by decide) rfl
          exact W.zret (v := 1) hx hb hr rfl (fun t ht hW => ⟨⟨1, (), rfl, Eq.symm (((((if_neg c_1)).trans (if_neg c_2)).trans (if_neg c_3)).trans (if_pos c_4) : (f_X5_isKnown_r p1) = 1), by rw [ht]; exact hP9, hD9⟩, hS.F ht⟩) hS.2.2 dX5_isKnown_126
        · skip
          refine lv_iload_n hx hb dX5_isKnown_114 rfl (lv_at hl 1 rfl) ?_
          refine lv_iconst (v := 4) hx hb dX5_isKnown_115 (by decide) ?_
          refine lv_icmp_eq (tgt := 125) hx hb dX5_isKnown_116 (by decide) (fun c_5 => ?_) (fun c_5 => ?_)
          · skip
            refine lv_iconst (v := 1) hx hb dX5_isKnown_125 (by decide) ?_
            have hP9 : va_P (dC, dI) vwCl [] s.heap := by exact hP.sub (ws' := []) [] rfl
            have hD9 : va_D A [] := by exact hD.sub (ws' := []) [] (by decide) rfl
            exact W.zret (v := 1) hx hb hr rfl (fun t ht hW => ⟨⟨1, (), rfl, Eq.symm ((((((if_neg c_1)).trans (if_neg c_2)).trans (if_neg c_3)).trans (if_neg c_4)).trans (if_pos c_5) : (f_X5_isKnown_r p1) = 1), by rw [ht]; exact hP9, hD9⟩, hS.F ht⟩) hS.2.2 dX5_isKnown_126
          · skip
            refine lv_iload_n hx hb dX5_isKnown_119 rfl (lv_at hl 1 rfl) ?_
            refine lv_bipush (v := 6) hx hb dX5_isKnown_120 (by decide) ?_
            refine lv_icmp_ne (tgt := 127) hx hb dX5_isKnown_122 (by decide) (fun c_6 => ?_) (fun c_6 => ?_)
            · skip
              refine lv_iload_n hx hb dX5_isKnown_127 rfl (lv_at hl 1 rfl) ?_
              refine lv_if_ne (tgt := 144) hx hb dX5_isKnown_128 (by decide) (fun c_7 => ?_) (fun c_7 => ?_)
              · skip
                refine lv_iload_n hx hb dX5_isKnown_144 rfl (lv_at hl 1 rfl) ?_
                refine lv_iconst (v := 1) hx hb dX5_isKnown_145 (by decide) ?_
                refine lv_icmp_ne (tgt := 165) hx hb dX5_isKnown_146 (by decide) (fun c_8 => ?_) (fun c_8 => ?_)
                · skip
                  refine lv_iload_n hx hb dX5_isKnown_165 rfl (lv_at hl 1 rfl) ?_
                  refine lv_iconst (v := 3) hx hb dX5_isKnown_166 (by decide) ?_
                  refine lv_icmp_ne (tgt := 180) hx hb dX5_isKnown_167 (by decide) (fun c_9 => ?_) (fun c_9 => ?_)
                  · skip
                    refine lv_iload_n hx hb dX5_isKnown_180 rfl (lv_at hl 1 rfl) ?_
                    refine lv_iconst (v := 5) hx hb dX5_isKnown_181 (by decide) ?_
                    refine lv_icmp_ne (tgt := 203) hx hb dX5_isKnown_182 (by decide) (fun c_10 => ?_) (fun c_10 => ?_)
                    · skip
                      refine lv_iload_n hx hb dX5_isKnown_203 rfl (lv_at hl 0 rfl) ?_
                      refine lv_iconst (v := 5) hx hb dX5_isKnown_204 (by decide) ?_
                      refine lv_icmp_ne (tgt := 212) hx hb dX5_isKnown_205 (by decide) (fun c_11 => ?_) (fun c_11 => ?_)
                      · skip
                        refine lv_iconst (v := 0) hx hb dX5_isKnown_212 (by decide) ?_
                        have hP9 : va_P (dC, dI) vwCl [] s.heap := by exact hP.sub (ws' := []) [] rfl
                        have hD9 : va_D A [] := by exact hD.sub (ws' := []) [] (by decide) rfl
                        exact W.zret (v := 0) hx hb hr rfl (fun t ht hW => ⟨⟨0, (), rfl, Eq.symm ((((((((((((if_neg c_1)).trans (if_neg c_2)).trans (if_neg c_3)).trans (if_neg c_4)).trans (if_neg c_5)).trans (if_neg c_6)).trans (if_neg c_7)).trans (if_neg c_8)).trans (if_neg c_9)).trans (if_neg c_10)).trans (if_neg c_11) : (f_X5_isKnown_r p1) = 0), by rw [ht]; exact hP9, hD9⟩, hS.F ht⟩) hS.2.2 dX5_isKnown_213
                      · skip
                        refine lv_iconst (v := 1) hx hb dX5_isKnown_208 (by decide) ?_
                        refine lv_goto (tgt := 213) hx hb dX5_isKnown_209 (by decide) ?_
                        have hP9 : va_P (dC, dI) vwCl [] s.heap := by exact hP.sub (ws' := []) [] rfl
                        have hD9 : va_D A [] := by exact hD.sub (ws' := []) [] (by decide) rfl
                        exact W.zret (v := 1) hx hb hr rfl (fun t ht hW => ⟨⟨1, (), rfl, Eq.symm ((((((((((((if_neg c_1)).trans (if_neg c_2)).trans (if_neg c_3)).trans (if_neg c_4)).trans (if_neg c_5)).trans (if_neg c_6)).trans (if_neg c_7)).trans (if_neg c_8)).trans (if_neg c_9)).trans (if_neg c_10)).trans (if_pos c_11) : (f_X5_isKnown_r p1) = 1), by rw [ht]; exact hP9, hD9⟩, hS.F ht⟩) hS.2.2 dX5_isKnown_213
                    · skip
                      refine lv_iload_n hx hb dX5_isKnown_185 rfl (lv_at hl 0 rfl) ?_
                      refine lv_iconst (v := 4) hx hb dX5_isKnown_186 (by decide) ?_
                      refine lv_icmp_eq (tgt := 195) hx hb dX5_isKnown_187 (by decide) (fun c_12 => ?_) (fun c_12 => ?_)
                      · skip
                        refine lv_iconst (v := 1) hx hb dX5_isKnown_195 (by decide) ?_
                        refine lv_goto (tgt := 213) hx hb dX5_isKnown_196 (by decide) ?_
                        have hP9 : va_P (dC, dI) vwCl [] s.heap := by exact hP.sub (ws' := []) [] rfl
                        have hD9 : va_D A [] := by exact hD.sub (ws' := []) [] (by decide) rfl
                        exact W.zret (v := 1) hx hb hr rfl (fun t ht hW => ⟨⟨1, (), rfl, Eq.symm ((((((((((((if_neg c_1)).trans (if_neg c_2)).trans (if_neg c_3)).trans (if_neg c_4)).trans (if_neg c_5)).trans (if_neg c_6)).trans (if_neg c_7)).trans (if_neg c_8)).trans (if_neg c_9)).trans (if_pos c_10)).trans (if_pos c_12) : (f_X5_isKnown_r p1) = 1), by rw [ht]; exact hP9, hD9⟩, hS.F ht⟩) hS.2.2 dX5_isKnown_213
                      · skip
                        refine lv_iload_n hx hb dX5_isKnown_190 rfl (lv_at hl 0 rfl) ?_
                        refine lv_iconst (v := 5) hx hb dX5_isKnown_191 (by decide) ?_
                        refine lv_icmp_ne (tgt := 199) hx hb dX5_isKnown_192 (by decide) (fun c_13 => ?_) (fun c_13 => ?_)
                        · skip
                          refine lv_iconst (v := 0) hx hb dX5_isKnown_199 (by decide) ?_
                          refine lv_goto (tgt := 213) hx hb dX5_isKnown_200 (by decide) ?_
                          have hP9 : va_P (dC, dI) vwCl [] s.heap := by exact hP.sub (ws' := []) [] rfl
                          have hD9 : va_D A [] := by exact hD.sub (ws' := []) [] (by decide) rfl
                          exact W.zret (v := 0) hx hb hr rfl (fun t ht hW => ⟨⟨0, (), rfl, Eq.symm (((((((((((((if_neg c_1)).trans (if_neg c_2)).trans (if_neg c_3)).trans (if_neg c_4)).trans (if_neg c_5)).trans (if_neg c_6)).trans (if_neg c_7)).trans (if_neg c_8)).trans (if_neg c_9)).trans (if_pos c_10)).trans (if_neg c_12)).trans (if_neg c_13) : (f_X5_isKnown_r p1) = 0), by rw [ht]; exact hP9, hD9⟩, hS.F ht⟩) hS.2.2 dX5_isKnown_213
                        · skip
                          refine lv_iconst (v := 1) hx hb dX5_isKnown_195 (by decide) ?_
                          refine lv_goto (tgt := 213) hx hb dX5_isKnown_196 (by decide) ?_
                          have hP9 : va_P (dC, dI) vwCl [] s.heap := by exact hP.sub (ws' := []) [] rfl
                          have hD9 : va_D A [] := by exact hD.sub (ws' := []) [] (by decide) rfl
                          exact W.zret (v := 1) hx hb hr rfl (fun t ht hW => ⟨⟨1, (), rfl, Eq.symm (((((((((((((if_neg c_1)).trans (if_neg c_2)).trans (if_neg c_3)).trans (if_neg c_4)).trans (if_neg c_5)).trans (if_neg c_6)).trans (if_neg c_7)).trans (if_neg c_8)).trans (if_neg c_9)).trans (if_pos c_10)).trans (if_neg c_12)).trans (if_pos c_13) : (f_X5_isKnown_r p1) = 1), by rw [ht]; exact hP9, hD9⟩, hS.F ht⟩) hS.2.2 dX5_isKnown_213
                  · skip
                    refine lv_iload_n hx hb dX5_isKnown_170 rfl (lv_at hl 0 rfl) ?_
                    refine lv_if_le (tgt := 178) hx hb dX5_isKnown_171 (by decide) (fun c_14 => ?_) (fun c_14 => ?_)
                    · skip
                      refine lv_iconst (v := 0) hx hb dX5_isKnown_178 (by decide) ?_
                      have hP9 : va_P (dC, dI) vwCl [] s.heap := by exact hP.sub (ws' := []) [] rfl
                      have hD9 : va_D A [] := by exact hD.sub (ws' := []) [] (by decide) rfl
                      exact W.zret (v := 0) hx hb hr rfl (fun t ht hW => ⟨⟨0, (), rfl, Eq.symm (((((((((((if_neg c_1)).trans (if_neg c_2)).trans (if_neg c_3)).trans (if_neg c_4)).trans (if_neg c_5)).trans (if_neg c_6)).trans (if_neg c_7)).trans (if_neg c_8)).trans (if_pos c_9)).trans (if_pos c_14) : (f_X5_isKnown_r p1) = 0), by rw [ht]; exact hP9, hD9⟩, hS.F ht⟩) hS.2.2 dX5_isKnown_179
                    · skip
                      refine lv_iconst (v := 1) hx hb dX5_isKnown_174 (by decide) ?_
                      refine lv_goto (tgt := 179) hx hb dX5_isKnown_175 (by decide) ?_
                      have hP9 : va_P (dC, dI) vwCl [] s.heap := by exact hP.sub (ws' := []) [] rfl
                      have hD9 : va_D A [] := by exact hD.sub (ws' := []) [] (by decide) rfl
                      exact W.zret (v := 1) hx hb hr rfl (fun t ht hW => ⟨⟨1, (), rfl, Eq.symm (((((((((((if_neg c_1)).trans (if_neg c_2)).trans (if_neg c_3)).trans (if_neg c_4)).trans (if_neg c_5)).trans (if_neg c_6)).trans (if_neg c_7)).trans (if_neg c_8)).trans (if_pos c_9)).trans (if_neg c_14) : (f_X5_isKnown_r p1) = 1), by rw [ht]; exact hP9, hD9⟩, hS.F ht⟩) hS.2.2 dX5_isKnown_179
                · skip
                  refine lv_iload_n hx hb dX5_isKnown_149 rfl (lv_at hl 0 rfl) ?_
                  refine lv_iconst (v := 1) hx hb dX5_isKnown_150 (by decide) ?_
                  refine lv_icmp_eq (tgt := 159) hx hb dX5_isKnown_151 (by decide) (fun c_15 => ?_) (fun c_15 => ?_)
                  · skip
                    refine lv_iconst (v := 1) hx hb dX5_isKnown_159 (by decide) ?_
                    refine lv_goto (tgt := 164) hx hb dX5_isKnown_160 (by decide) ?_
                    have hP9 : va_P (dC, dI) vwCl [] s.heap := by exact hP.sub (ws' := []) [] rfl
                    have hD9 : va_D A [] := by exact hD.sub (ws' := []) [] (by decide) rfl
                    exact W.zret (v := 1) hx hb hr rfl (fun t ht hW => ⟨⟨1, (), rfl, Eq.symm ((((((((((if_neg c_1)).trans (if_neg c_2)).trans (if_neg c_3)).trans (if_neg c_4)).trans (if_neg c_5)).trans (if_neg c_6)).trans (if_neg c_7)).trans (if_pos c_8)).trans (if_pos c_15) : (f_X5_isKnown_r p1) = 1), by rw [ht]; exact hP9, hD9⟩, hS.F ht⟩) hS.2.2 dX5_isKnown_164
                  · skip
                    refine lv_iload_n hx hb dX5_isKnown_154 rfl (lv_at hl 0 rfl) ?_
                    refine lv_iconst (v := 3) hx hb dX5_isKnown_155 (by decide) ?_
                    refine lv_icmp_le (tgt := 163) hx hb dX5_isKnown_156 (by decide) (fun c_16 => ?_) (fun c_16 => ?_)
                    · skip
                      refine lv_iconst (v := 0) hx hb dX5_isKnown_163 (by decide) ?_
                      have hP9 : va_P (dC, dI) vwCl [] s.heap := by exact hP.sub (ws' := []) [] rfl
                      have hD9 : va_D A [] := by exact hD.sub (ws' := []) [] (by decide) rfl
                      exact W.zret (v := 0) hx hb hr rfl (fun t ht hW => ⟨⟨0, (), rfl, Eq.symm (((((((((((if_neg c_1)).trans (if_neg c_2)).trans (if_neg c_3)).trans (if_neg c_4)).trans (if_neg c_5)).trans (if_neg c_6)).trans (if_neg c_7)).trans (if_pos c_8)).trans (if_neg c_15)).trans (if_pos c_16) : (f_X5_isKnown_r p1) = 0), by rw [ht]; exact hP9, hD9⟩, hS.F ht⟩) hS.2.2 dX5_isKnown_164
                    · skip
                      refine lv_iconst (v := 1) hx hb dX5_isKnown_159 (by decide) ?_
                      refine lv_goto (tgt := 164) hx hb dX5_isKnown_160 (by decide) ?_
                      have hP9 : va_P (dC, dI) vwCl [] s.heap := by exact hP.sub (ws' := []) [] rfl
                      have hD9 : va_D A [] := by exact hD.sub (ws' := []) [] (by decide) rfl
                      exact W.zret (v := 1) hx hb hr rfl (fun t ht hW => ⟨⟨1, (), rfl, Eq.symm (((((((((((if_neg c_1)).trans (if_neg c_2)).trans (if_neg c_3)).trans (if_neg c_4)).trans (if_neg c_5)).trans (if_neg c_6)).trans (if_neg c_7)).trans (if_pos c_8)).trans (if_neg c_15)).trans (if_neg c_16) : (f_X5_isKnown_r p1) = 1), by rw [ht]; exact hP9, hD9⟩, hS.F ht⟩) hS.2.2 dX5_isKnown_164
              · skip
                refine lv_iload_n hx hb dX5_isKnown_131 rfl (lv_at hl 3 rfl) ?_
                refine lv_sipush (v := 128) hx hb dX5_isKnown_132 (by decide) ?_
                refine lv_icmp_eq (tgt := 142) hx hb dX5_isKnown_135 (by decide) (fun c_17 => ?_) (fun c_17 => ?_)
                · skip
                  refine lv_iconst (v := 0) hx hb dX5_isKnown_142 (by decide) ?_
                  have hP9 : va_P (dC, dI) vwCl [] s.heap := by exact hP.sub (ws' := []) [] rfl
                  have hD9 : va_D A [] := by exact hD.sub (ws' := []) [] (by decide) rfl
                  exact W.zret (v := 0) hx hb hr rfl (fun t ht hW => ⟨⟨0, (), rfl, Eq.symm (((((((((if_neg c_1)).trans (if_neg c_2)).trans (if_neg c_3)).trans (if_neg c_4)).trans (if_neg c_5)).trans (if_neg c_6)).trans (if_pos c_7)).trans (if_pos c_17) : (f_X5_isKnown_r p1) = 0), by rw [ht]; exact hP9, hD9⟩, hS.F ht⟩) hS.2.2 dX5_isKnown_143
                · skip
                  refine lv_iconst (v := 1) hx hb dX5_isKnown_138 (by decide) ?_
                  refine lv_goto (tgt := 143) hx hb dX5_isKnown_139 (by decide) ?_
                  have hP9 : va_P (dC, dI) vwCl [] s.heap := by exact hP.sub (ws' := []) [] rfl
                  have hD9 : va_D A [] := by exact hD.sub (ws' := []) [] (by decide) rfl
                  exact W.zret (v := 1) hx hb hr rfl (fun t ht hW => ⟨⟨1, (), rfl, Eq.symm (((((((((if_neg c_1)).trans (if_neg c_2)).trans (if_neg c_3)).trans (if_neg c_4)).trans (if_neg c_5)).trans (if_neg c_6)).trans (if_pos c_7)).trans (if_neg c_17) : (f_X5_isKnown_r p1) = 1), by rw [ht]; exact hP9, hD9⟩, hS.F ht⟩) hS.2.2 dX5_isKnown_143
            · skip
              refine lv_iconst (v := 1) hx hb dX5_isKnown_125 (by decide) ?_
              have hP9 : va_P (dC, dI) vwCl [] s.heap := by exact hP.sub (ws' := []) [] rfl
              have hD9 : va_D A [] := by exact hD.sub (ws' := []) [] (by decide) rfl
              exact W.zret (v := 1) hx hb hr rfl (fun t ht hW => ⟨⟨1, (), rfl, Eq.symm (((((((if_neg c_1)).trans (if_neg c_2)).trans (if_neg c_3)).trans (if_neg c_4)).trans (if_neg c_5)).trans (if_pos c_6) : (f_X5_isKnown_r p1) = 1), by rw [ht]; exact hP9, hD9⟩, hS.F ht⟩) hS.2.2 dX5_isKnown_126
      · skip
        refine lv_iload_n hx hb dX5_isKnown_46 rfl (lv_at hl 1 rfl) ?_
        refine lv_if_ne (tgt := 63) hx hb dX5_isKnown_47 (by decide) (fun c_18 => ?_) (fun c_18 => ?_)
        · skip
          refine lv_iload_n hx hb dX5_isKnown_63 rfl (lv_at hl 1 rfl) ?_
          refine lv_iconst (v := 4) hx hb dX5_isKnown_64 (by decide) ?_
          refine lv_icmp_ne (tgt := 70) hx hb dX5_isKnown_65 (by decide) (fun c_19 => ?_) (fun c_19 => ?_)
          · skip
            refine lv_iload_n hx hb dX5_isKnown_70 rfl (lv_at hl 1 rfl) ?_
            refine lv_bipush (v := 6) hx hb dX5_isKnown_71 (by decide) ?_
            refine lv_icmp_ne (tgt := 96) hx hb dX5_isKnown_73 (by decide) (fun c_20 => ?_) (fun c_20 => ?_)
            · skip
              refine lv_iload_n hx hb dX5_isKnown_96 rfl (lv_at hl 3 rfl) ?_
              refine lv_sipush (v := 158) hx hb dX5_isKnown_97 (by decide) ?_
              refine lv_icmp_eq (tgt := 107) hx hb dX5_isKnown_100 (by decide) (fun c_21 => ?_) (fun c_21 => ?_)
              · skip
                refine lv_iconst (v := 0) hx hb dX5_isKnown_107 (by decide) ?_
                have hP9 : va_P (dC, dI) vwCl [] s.heap := by exact hP.sub (ws' := []) [] rfl
                have hD9 : va_D A [] := by exact hD.sub (ws' := []) [] (by decide) rfl
                exact W.zret (v := 0) hx hb hr rfl (fun t ht hW => ⟨⟨0, (), rfl, Eq.symm ((((((((if_neg c_1)).trans (if_neg c_2)).trans (if_pos c_3)).trans (if_neg c_18)).trans (if_neg c_19)).trans (if_neg c_20)).trans (if_pos c_21) : (f_X5_isKnown_r p1) = 0), by rw [ht]; exact hP9, hD9⟩, hS.F ht⟩) hS.2.2 dX5_isKnown_108
              · skip
                refine lv_iconst (v := 1) hx hb dX5_isKnown_103 (by decide) ?_
                refine lv_goto (tgt := 108) hx hb dX5_isKnown_104 (by decide) ?_
                have hP9 : va_P (dC, dI) vwCl [] s.heap := by exact hP.sub (ws' := []) [] rfl
                have hD9 : va_D A [] := by exact hD.sub (ws' := []) [] (by decide) rfl
                exact W.zret (v := 1) hx hb hr rfl (fun t ht hW => ⟨⟨1, (), rfl, Eq.symm ((((((((if_neg c_1)).trans (if_neg c_2)).trans (if_pos c_3)).trans (if_neg c_18)).trans (if_neg c_19)).trans (if_neg c_20)).trans (if_neg c_21) : (f_X5_isKnown_r p1) = 1), by rw [ht]; exact hP9, hD9⟩, hS.F ht⟩) hS.2.2 dX5_isKnown_108
            · skip
              refine lv_iload_n hx hb dX5_isKnown_76 rfl (lv_at hl 3 rfl) ?_
              refine lv_sipush (v := 154) hx hb dX5_isKnown_77 (by decide) ?_
              refine lv_icmp_eq (tgt := 90) hx hb dX5_isKnown_80 (by decide) (fun c_22 => ?_) (fun c_22 => ?_)
              · skip
                refine lv_iconst (v := 1) hx hb dX5_isKnown_90 (by decide) ?_
                refine lv_goto (tgt := 95) hx hb dX5_isKnown_91 (by decide) ?_
                have hP9 : va_P (dC, dI) vwCl [] s.heap := by exact hP.sub (ws' := []) [] rfl
                have hD9 : va_D A [] := by exact hD.sub (ws' := []) [] (by decide) rfl
                exact W.zret (v := 1) hx hb hr rfl (fun t ht hW => ⟨⟨1, (), rfl, Eq.symm ((((((((if_neg c_1)).trans (if_neg c_2)).trans (if_pos c_3)).trans (if_neg c_18)).trans (if_neg c_19)).trans (if_pos c_20)).trans (if_pos c_22) : (f_X5_isKnown_r p1) = 1), by rw [ht]; exact hP9, hD9⟩, hS.F ht⟩) hS.2.2 dX5_isKnown_95
              · skip
                refine lv_iload_n hx hb dX5_isKnown_83 rfl (lv_at hl 3 rfl) ?_
                refine lv_sipush (v := 186) hx hb dX5_isKnown_84 (by decide) ?_
                refine lv_icmp_ne (tgt := 94) hx hb dX5_isKnown_87 (by decide) (fun c_23 => ?_) (fun c_23 => ?_)
                · skip
                  refine lv_iconst (v := 0) hx hb dX5_isKnown_94 (by decide) ?_
                  have hP9 : va_P (dC, dI) vwCl [] s.heap := by exact hP.sub (ws' := []) [] rfl
                  have hD9 : va_D A [] := by exact hD.sub (ws' := []) [] (by decide) rfl
                  exact W.zret (v := 0) hx hb hr rfl (fun t ht hW => ⟨⟨0, (), rfl, Eq.symm (((((((((if_neg c_1)).trans (if_neg c_2)).trans (if_pos c_3)).trans (if_neg c_18)).trans (if_neg c_19)).trans (if_pos c_20)).trans (if_neg c_22)).trans (if_neg c_23) : (f_X5_isKnown_r p1) = 0), by rw [ht]; exact hP9, hD9⟩, hS.F ht⟩) hS.2.2 dX5_isKnown_95
                · skip
                  refine lv_iconst (v := 1) hx hb dX5_isKnown_90 (by decide) ?_
                  refine lv_goto (tgt := 95) hx hb dX5_isKnown_91 (by decide) ?_
                  have hP9 : va_P (dC, dI) vwCl [] s.heap := by exact hP.sub (ws' := []) [] rfl
                  have hD9 : va_D A [] := by exact hD.sub (ws' := []) [] (by decide) rfl
                  exact W.zret (v := 1) hx hb hr rfl (fun t ht hW => ⟨⟨1, (), rfl, Eq.symm (((((((((if_neg c_1)).trans (if_neg c_2)).trans (if_pos c_3)).trans (if_neg c_18)).trans (if_neg c_19)).trans (if_pos c_20)).trans (if_neg c_22)).trans (if_pos c_23) : (f_X5_isKnown_r p1) = 1), by rw [ht]; exact hP9, hD9⟩, hS.F ht⟩) hS.2.2 dX5_isKnown_95
          · skip
            refine lv_iconst (v := 0) hx hb dX5_isKnown_68 (by decide) ?_
            have hP9 : va_P (dC, dI) vwCl [] s.heap := by exact hP.sub (ws' := []) [] rfl
            have hD9 : va_D A [] := by exact hD.sub (ws' := []) [] (by decide) rfl
            exact W.zret (v := 0) hx hb hr rfl (fun t ht hW => ⟨⟨0, (), rfl, Eq.symm ((((((if_neg c_1)).trans (if_neg c_2)).trans (if_pos c_3)).trans (if_neg c_18)).trans (if_pos c_19) : (f_X5_isKnown_r p1) = 0), by rw [ht]; exact hP9, hD9⟩, hS.F ht⟩) hS.2.2 dX5_isKnown_69
        · skip
          refine lv_iload_n hx hb dX5_isKnown_50 rfl (lv_at hl 3 rfl) ?_
          refine lv_sipush (v := 162) hx hb dX5_isKnown_51 (by decide) ?_
          refine lv_icmp_ne (tgt := 61) hx hb dX5_isKnown_54 (by decide) (fun c_24 => ?_) (fun c_24 => ?_)
          · skip
            refine lv_iconst (v := 0) hx hb dX5_isKnown_61 (by decide) ?_
            have hP9 : va_P (dC, dI) vwCl [] s.heap := by exact hP.sub (ws' := []) [] rfl
            have hD9 : va_D A [] := by exact hD.sub (ws' := []) [] (by decide) rfl
            exact W.zret (v := 0) hx hb hr rfl (fun t ht hW => ⟨⟨0, (), rfl, Eq.symm ((((((if_neg c_1)).trans (if_neg c_2)).trans (if_pos c_3)).trans (if_pos c_18)).trans (if_neg c_24) : (f_X5_isKnown_r p1) = 0), by rw [ht]; exact hP9, hD9⟩, hS.F ht⟩) hS.2.2 dX5_isKnown_62
          · skip
            refine lv_iconst (v := 1) hx hb dX5_isKnown_57 (by decide) ?_
            refine lv_goto (tgt := 62) hx hb dX5_isKnown_58 (by decide) ?_
            have hP9 : va_P (dC, dI) vwCl [] s.heap := by exact hP.sub (ws' := []) [] rfl
            have hD9 : va_D A [] := by exact hD.sub (ws' := []) [] (by decide) rfl
            exact W.zret (v := 1) hx hb hr rfl (fun t ht hW => ⟨⟨1, (), rfl, Eq.symm ((((((if_neg c_1)).trans (if_neg c_2)).trans (if_pos c_3)).trans (if_pos c_18)).trans (if_pos c_24) : (f_X5_isKnown_r p1) = 1), by rw [ht]; exact hP9, hD9⟩, hS.F ht⟩) hS.2.2 dX5_isKnown_62
    · skip
      refine lv_iconst (v := 0) hx hb dX5_isKnown_39 (by decide) ?_
      have hP9 : va_P (dC, dI) vwCl [] s.heap := by exact hP.sub (ws' := []) [] rfl
      have hD9 : va_D A [] := by exact hD.sub (ws' := []) [] (by decide) rfl
      exact W.zret (v := 0) hx hb hr rfl (fun t ht hW => ⟨⟨0, (), rfl, Eq.symm (((if_neg c_1)).trans (if_pos c_2) : (f_X5_isKnown_r p1) = 0), by rw [ht]; exact hP9, hD9⟩, hS.F ht⟩) hS.2.2 dX5_isKnown_40
  · skip
    refine lv_iload_n hx hb dX5_isKnown_21 rfl (lv_at hl 3 rfl) ?_
    refine lv_sipush (v := 137) hx hb dX5_isKnown_22 (by decide) ?_
    refine lv_icmp_eq (tgt := 32) hx hb dX5_isKnown_25 (by decide) (fun c_25 => ?_) (fun c_25 => ?_)
    · skip
      refine lv_iconst (v := 0) hx hb dX5_isKnown_32 (by decide) ?_
      have hP9 : va_P (dC, dI) vwCl [] s.heap := by exact hP.sub (ws' := []) [] rfl
      have hD9 : va_D A [] := by exact hD.sub (ws' := []) [] (by decide) rfl
      exact W.zret (v := 0) hx hb hr rfl (fun t ht hW => ⟨⟨0, (), rfl, Eq.symm (((if_pos c_1)).trans (if_pos c_25) : (f_X5_isKnown_r p1) = 0), by rw [ht]; exact hP9, hD9⟩, hS.F ht⟩) hS.2.2 dX5_isKnown_33
    · skip
      refine lv_iconst (v := 1) hx hb dX5_isKnown_28 (by decide) ?_
      refine lv_goto (tgt := 33) hx hb dX5_isKnown_29 (by decide) ?_
      have hP9 : va_P (dC, dI) vwCl [] s.heap := by exact hP.sub (ws' := []) [] rfl
      have hD9 : va_D A [] := by exact hD.sub (ws' := []) [] (by decide) rfl
      exact W.zret (v := 1) hx hb hr rfl (fun t ht hW => ⟨⟨1, (), rfl, Eq.symm (((if_pos c_1)).trans (if_neg c_25) : (f_X5_isKnown_r p1) = 1), by rw [ht]; exact hP9, hD9⟩, hS.F ht⟩) hS.2.2 dX5_isKnown_33
