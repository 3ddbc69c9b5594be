section RWA
variable {p : Program} {l : Launch} {e : Env} {R : Room} {s : State} {m : MethodId} {args : Array Value} {below : List Frame} {meth : Method} {c : Code} {H : Heap} {locs : List Loc} {cells slots : Nat} {Q : State → Prop} {pc : Nat} {ls : Array Slot} {rest : List Value}
/-- a computed number, by its value -/
theorem lv_fold {x v : Int32} (h : x = v) (k : W p l e R s m args below meth c H locs cells slots Q (F0 m pc ls (.int v :: rest))) : W p l e R s m args below meth c H locs cells slots Q (F0 m pc ls (.int x :: rest)) := h ▸ k
theorem sw_at {x v : Int32} (h : x = v) (k : W p l e R s m args below meth c H locs cells slots Q (F0 m pc ls (.int v :: rest))) : W p l e R s m args below meth c H locs cells slots Q (F0 m pc ls (.int x :: rest)) := h ▸ k
/-- a reference out of an array, known -/
theorem lv_ref {x : Option Nat} {a : Nat} (h : x = some a) (k : W p l e R s m args below meth c H locs cells slots Q (F0 m pc ls (.ref a :: rest))) : W p l e R s m args below meth c H locs cells slots Q (F0 m pc ls (va_rf x :: rest)) := by
  subst h
  exact k
end RWA
theorem sw_by {p g : Prop} (h1 : p → g) (h2 : ¬ p → g) : g := Classical.byCases h1 h2
theorem sw_range {x : Int32} {lo hi : Int} (h : ∀ v : Int, lo ≤ v → v ≤ hi → ¬ x = Int32.ofInt v) : x.toInt < lo ∨ hi < x.toInt := by
  refine Classical.byContradiction fun q => ?_
  exact h x.toInt (by omega) (by omega) (Int32.ofInt_toInt x).symm
theorem sw_l0 {d k : Int} : Op.lookupswitch.offset [] d k = d := rfl
theorem sw_lc {x v : Int32} {a o : Int} {r : List (Int × Int)} {d : Int} (hv : v.toInt = a) (c : ¬ x = v) (h : Op.lookupswitch.offset r d x.toInt = d) : Op.lookupswitch.offset ((a, o) :: r) d x.toInt = d := by
  rw [Op.lookupswitch.offset_cons, if_neg (fun q => c (Int32.toInt_inj.mp (q.symm.trans hv.symm))), h]
/-- a boolean's value -/
def wB (x : Int32) : Prop := x = 0 ∨ x = 1
theorem wb_nar {x : Int32} (h : wB x) : narrow .boolean (.int x) = .int x := by
  rcases h with rfl | rfl <;> rfl
theorem wb_fit {x : Int32} (h : wB x) : fits .boolean (.int x) = true := by
  rcases h with rfl | rfl <;> rfl
theorem wb_vp {x : Int32} (h : wB x) : vp_nar .boolean x = x := by
  rcases h with rfl | rfl <;> rfl
theorem iX1 : ∀ w ∈ wsX10, w ∈ gw := fun w h => by
  obtain ⟨k, hk, rfl⟩ := List.mem_map.mp h
  have hk := List.mem_range.mp hk
  match k, hk with
  | 0, _ => exact gm_153
  | 1, _ => exact gm_155
  | 2, _ => exact gm_157
  | 3, _ => exact gm_159
  | 4, _ => exact gm_161
  | 5, _ => exact gm_163
  | 6, _ => exact gm_165
  | 7, _ => exact gm_167
  | 8, _ => exact gm_169
  | 9, _ => exact gm_171
  | 10, _ => exact gm_173
  | 11, _ => exact gm_175
  | 12, _ => exact gm_177
  | k + 13, hk => exact absurd hk (by omega)
theorem iX2 : ∀ w ∈ wsX20, w ∈ gw := fun w h => by
  obtain ⟨k, hk, rfl⟩ := List.mem_map.mp h
  have hk := List.mem_range.mp hk
  match k, hk with
  | 0, _ => exact gm_110
  | 1, _ => exact gm_112
  | 2, _ => exact gm_114
  | 3, _ => exact gm_116
  | 4, _ => exact gm_118
  | k + 5, hk => exact absurd hk (by omega)
theorem iX3 : ∀ w ∈ wsX30, w ∈ gw := fun w h => by
  obtain ⟨k, hk, rfl⟩ := List.mem_map.mp h
  have hk := List.mem_range.mp hk
  match k, hk with
  | 0, _ => exact gm_125
  | 1, _ => exact gm_127
  | 2, _ => exact gm_129
  | k + 3, hk => exact absurd hk (by omega)
theorem iX4 : ∀ w ∈ wsX40, w ∈ gw := fun w h => by
  obtain ⟨k, hk, rfl⟩ := List.mem_map.mp h
  have hk := List.mem_range.mp hk
  match k, hk with
  | 0, _ => exact gm_183
  | 1, _ => exact gm_185
  | 2, _ => exact gm_187
  | k + 3, hk => exact absurd hk (by omega)
theorem iX5 : ∀ w ∈ wsX50, w ∈ gw := fun w h => by
  obtain ⟨k, hk, rfl⟩ := List.mem_map.mp h
  have hk := List.mem_range.mp hk
  match k, hk with
  | 0, _ => exact gm_610
  | 1, _ => exact gm_612
  | 2, _ => exact gm_614
  | 3, _ => exact gm_616
  | 4, _ => exact gm_618
  | 5, _ => exact gm_620
  | 6, _ => exact gm_622
  | 7, _ => exact gm_624
  | 8, _ => exact gm_626
  | 9, _ => exact gm_628
  | 10, _ => exact gm_630
  | 11, _ => exact gm_632
  | 12, _ => exact gm_634
  | 13, _ => exact gm_636
  | 14, _ => exact gm_638
  | 15, _ => exact gm_640
  | 16, _ => exact gm_642
  | k + 17, hk => exact absurd hk (by omega)
