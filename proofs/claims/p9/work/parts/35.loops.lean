/-! Arrays that are filled in a loop. -/
theorem arr_congr {cA : ClassId} {n : Nat} {f g : Nat → Value} (h : ∀ j, j < n → f j = g j) : arrV cA n f = arrV cA n g := by
  unfold arrV
  congr 1
  refine Array.ext_getElem? fun i => ?_
  by_cases hi : i < n
  · simp [hi, h i hi]
  · simp [hi]
theorem at_i {D : va_G} {cl : List vw_C} {a : Nat} {cA : ClassId} {n : Nat} {f g : Nat → Int32} {H : Heap} (h : va_at D cl (a, .inl (cA, n, .inl f)) H) (hfg : ∀ j, j < n → f j = g j) : va_at D cl (a, .inl (cA, n, .inl g)) H := by
  show H[a]? = some (vp_cell cA (n, .inl g))
  rw [vp_cell_i, ← arr_congr (f := fun j => Value.int (f j)) (fun j hj => by rw [hfg j hj]), ← vp_cell_i]
  exact h
theorem at_q {D : va_G} {cl : List vw_C} {a : Nat} {cA : ClassId} {n : Nat} {f g : Nat → Option Nat} {H : Heap} (h : va_at D cl (a, .inl (cA, n, .inr (.inr (.inr (.inr f))))) H) (hfg : ∀ j, j < n → f j = g j) : va_at D cl (a, .inl (cA, n, .inr (.inr (.inr (.inr g))))) H := by
  show H[a]? = some (vp_cell cA (n, .inr (.inr (.inr (.inr g)))))
  rw [vp_cell_q, ← arr_congr (f := fun j => va_rf (f j)) (fun j hj => by rw [hfg j hj]), ← vp_cell_q]
  exact h
/-- one cell of a world by another that says the same -/
theorem P_set {D : va_G} {cl : List vw_C} {ws : va_W} {H : Heap} (k : Nat) (q : Nat × va_E) (hP : va_P D cl ws H) (h : va_at D cl q H) : va_P D cl (ws.set k q) H := by
  intro i r hr
  rw [List.getElem?_set] at hr
  by_cases e : k = i
  · rw [if_pos e] at hr
    by_cases e2 : k < ws.length
    · rw [if_pos e2] at hr; cases hr; exact h
    · rw [if_neg e2] at hr; cases hr
  · rw [if_neg e] at hr; exact hP i r hr
theorem D_set {A : Nat → Prop} {ws : va_W} (k : Nat) (q r : Nat × va_E) (hD : va_D A ws) (h0 : ws[k]? = some r) (e0 : r.1 = q.1) : va_D A (ws.set k q) := by
  have key : ∀ (i : Nat) (x : Nat × va_E), (ws.set k q)[i]? = some x → ∃ y, ws[i]? = some y ∧ y.1 = x.1 := by
    intro i x hx
    rw [List.getElem?_set] at hx
    by_cases e : k = i
    · subst e
      rw [if_pos rfl] at hx
      by_cases e2 : k < ws.length
      · rw [if_pos e2] at hx; cases hx; exact ⟨r, h0, e0⟩
      · rw [if_neg e2] at hx; cases hx
    · rw [if_neg e] at hx; exact ⟨x, hx, rfl⟩
  refine ⟨fun i j a b ha hb hab => ?_, fun i a ha => ?_⟩
  · obtain ⟨a', h1, e1⟩ := key i a ha
    obtain ⟨b', h2, e2⟩ := key j b hb
    exact hD.1 i j a' b' h1 h2 (e1.trans (hab.trans e2.symm))
  · obtain ⟨a', h1, e1⟩ := key i a ha
    rw [← e1]; exact hD.2 i a' h1
set_option maxHeartbeats 4000000 in
set_option maxRecDepth 100000 in
/-- Arrays.fill's loop -/
theorem l_fill {p : Program} {l : Launch} {e : Env} {R : Room} {s : State} {m : MethodId} {args : Array Value} {below : List Frame} {meth : Method} {c : Code} {cells slots : Nat} {Q : State → Prop} {A : Nat → Prop} {D : va_G} {tys : List (ClassId × FieldType)} (hx : p.tables.exec = Jvm.exec) (hb : c.code = cJ7_fill_53178) (hK : va_K D vwCl tys s) {cyI : ClassId} (ht0 : tys[0]? = some (cyI, .int)) {h0 : Nat} {p2 : Int32} {H0 : Heap}
    (kk : ∀ (H : Heap) (locs : List Loc) (ls : Array Slot) (f : Nat → Int32), (∀ j, j < 4096 → f j = p2) → va_P D vwCl [(h0, .inl (cyI, 4096, .inl f))] H → va_D A [(h0, .inl (cyI, 4096, .inl f))] → va_S A H0 H locs → W p l e R s m args below meth c H locs cells slots Q (F0 m 20 ls [])) :
    ∀ (k i : Nat) (H : Heap) (locs : List Loc) (ls : Array Slot) (f : Nat → Int32), i + k = 4096 → (∀ j, j < i → f j = p2) → va_P D vwCl [(h0, .inl (cyI, 4096, .inl f))] H → va_D A [(h0, .inl (cyI, 4096, .inl f))] → va_S A H0 H locs → lv_has ls 4 [(3, .int 4096), (2, .int (nI i)), (0, .ref h0), (1, .int p2)] → W p l e R s m args below meth c H locs cells slots Q (F0 m 5 ls []) := by
  intro k
  induction k with
  | zero =>
    intro i H locs ls f hi hf hP hD hS hl
    refine lv_iload_n hx hb dJ7_fill_53178_5 rfl (lv_at hl 1 rfl) ?_
    refine lv_iload_n hx hb dJ7_fill_53178_6 rfl (lv_at hl 0 rfl) ?_
    refine lv_icmp_ge (tgt := 20) hx hb dJ7_fill_53178_7 (by decide) (fun c => ?_) (fun c => ?_)
    · exact kk H locs ls f (fun j hj => hf j (by omega)) hP hD hS
    · refine absurd ?_ c
      rw [show i = 4096 by omega]; decide
  | succ k ih =>
    intro i H locs ls f hi hf hP hD hS hl
    refine lv_iload_n hx hb dJ7_fill_53178_5 rfl (lv_at hl 1 rfl) ?_
    refine lv_iload_n hx hb dJ7_fill_53178_6 rfl (lv_at hl 0 rfl) ?_
    refine lv_icmp_ge (tgt := 20) hx hb dJ7_fill_53178_7 (by decide) (fun c => ?_) (fun c => ?_)
    · exact absurd c (by rw [show (4096 : Int32) = nI 4096 from rfl, nI_leI (by decide) (by omega)]; omega)
    · refine lv_aload_n hx hb dJ7_fill_53178_10 rfl (lv_at hl 2 rfl) ?_
      refine lv_iload_n hx hb dJ7_fill_53178_11 rfl (lv_at hl 1 rfl) ?_
      refine lv_iload_n hx hb dJ7_fill_53178_12 rfl (lv_at hl 3 rfl) ?_
      refine va_iast (D := D) hx hb hK hP hD hS 0 0 rfl ht0 (vp_in_nI (by omega) (by decide)) dJ7_fill_53178_13 (fun H locs hP hD hS => ?_)
      have hP : va_P D vwCl [(h0, .inl (cyI, 4096, .inl (upd f (nI i).toNatClampNeg p2)))] H := hP
      have hD : va_D A [(h0, .inl (cyI, 4096, .inl (upd f (nI i).toNatClampNeg p2)))] := hD
      refine lv_iinc (v := nI (i + 1)) (lv' := [(2, .int (nI (i + 1))), (3, .int 4096), (0, .ref h0), (1, .int p2)]) hx hb dJ7_fill_53178_14 hl (k := 1) rfl (nI_1 i) (by decide) rfl (fun ls hl => ?_)
      refine lv_goto (tgt := 5) hx hb dJ7_fill_53178_17 (by decide) ?_
      refine ih (i + 1) H locs ls _ (by omega) (fun j hj => ?_) hP hD hS (lv_sub hl [1, 0, 2, 3] rfl)
      rw [nI_clamp (by omega)]
      by_cases ej : j = i
      · subst ej; exact pk_us
      · rw [pk_un ej]; exact hf j (by omega)
