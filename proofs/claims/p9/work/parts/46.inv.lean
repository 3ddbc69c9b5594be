/-! The reference's ranges: what its numbers keep to, and calls whose contracts say it. -/
def bOk (n : Nat) (f : Nat → Int32) : Prop := ∀ j, j < n → vp_in (f j) 256
/-- bytes are bytes, PC is a word, a row has at most 24 bytes, the flags are six bits -/
def mOk (gB gX gS gC gR gM gL : Nat → Int32) (un : Int32) : Prop := bOk 8192 gB ∧ bOk 2 gX ∧ bOk 2 gS ∧ (∀ j, j < 2 → vp_in (gC j) 65536) ∧ bOk 192 gR ∧ (∀ j, j < 8 → vp_in (gM j) 25) ∧ bOk 8 gL ∧ vp_in un 64
theorem bOk_upd {n k : Nat} {f : Nat → Int32} {v : Int32} (h : bOk n f) (hv : vp_in v 256) : bOk n (upd f k v) := by
  intro j hj
  by_cases e : j = k
  · subst e; rw [pk_us]; exact hv
  · rw [pk_un e]; exact h j hj
theorem vOk_upd {n k N : Nat} {f : Nat → Int32} {v : Int32} (h : ∀ j, j < n → vp_in (f j) N) (hv : vp_in v N) : ∀ j, j < n → vp_in (upd f k v j) N := by
  intro j hj
  by_cases e : j = k
  · subst e; rw [pk_us]; exact hv
  · rw [pk_un e]; exact h j hj
section MOA
variable {gB gX gS gC gR gM gL : Nat → Int32} {un v : Int32} {k : Nat} {i : Int32}
theorem mo_B (h : mOk gB gX gS gC gR gM gL un) (hv : vp_in v 256) : mOk (upd gB k v) gX gS gC gR gM gL un := ⟨bOk_upd h.1 hv, h.2⟩
theorem mo_X (h : mOk gB gX gS gC gR gM gL un) (hv : vp_in v 256) : mOk gB (upd gX k v) gS gC gR gM gL un := ⟨h.1, bOk_upd h.2.1 hv, h.2.2⟩
theorem mo_S (h : mOk gB gX gS gC gR gM gL un) (hv : vp_in v 256) : mOk gB gX (upd gS k v) gC gR gM gL un := ⟨h.1, h.2.1, bOk_upd h.2.2.1 hv, h.2.2.2⟩
theorem mo_C (h : mOk gB gX gS gC gR gM gL un) (hv : vp_in v 65536) : mOk gB gX gS (upd gC k v) gR gM gL un := ⟨h.1, h.2.1, h.2.2.1, vOk_upd h.2.2.2.1 hv, h.2.2.2.2⟩
theorem mo_R (h : mOk gB gX gS gC gR gM gL un) (hv : vp_in v 256) : mOk gB gX gS gC (upd gR k v) gM gL un := ⟨h.1, h.2.1, h.2.2.1, h.2.2.2.1, bOk_upd h.2.2.2.2.1 hv, h.2.2.2.2.2⟩
theorem mo_M (h : mOk gB gX gS gC gR gM gL un) (hv : vp_in v 25) : mOk gB gX gS gC gR (upd gM k v) gL un := ⟨h.1, h.2.1, h.2.2.1, h.2.2.2.1, h.2.2.2.2.1, vOk_upd h.2.2.2.2.2.1 hv, h.2.2.2.2.2.2⟩
theorem mo_L (h : mOk gB gX gS gC gR gM gL un) (hv : vp_in v 256) : mOk gB gX gS gC gR gM (upd gL k v) un := ⟨h.1, h.2.1, h.2.2.1, h.2.2.2.1, h.2.2.2.2.1, h.2.2.2.2.2.1, bOk_upd h.2.2.2.2.2.2.1 hv, h.2.2.2.2.2.2.2⟩
theorem mo_u {un' : Int32} (h : mOk gB gX gS gC gR gM gL un) (hv : vp_in un' 64) : mOk gB gX gS gC gR gM gL un' := ⟨h.1, h.2.1, h.2.2.1, h.2.2.2.1, h.2.2.2.2.1, h.2.2.2.2.2.1, h.2.2.2.2.2.2.1, hv⟩
theorem vi_lt {n : Nat} (h : vp_in i n) : i.toNatClampNeg < n := Nat.not_le.mp fun q => h (Or.inr q)
theorem mr_B (h : mOk gB gX gS gC gR gM gL un) (hi : vp_in i 8192) : vp_in (gB i.toNatClampNeg) 256 := h.1 _ (vi_lt hi)
theorem mr_X (h : mOk gB gX gS gC gR gM gL un) (hi : vp_in i 2) : vp_in (gX i.toNatClampNeg) 256 := h.2.1 _ (vi_lt hi)
theorem mr_S (h : mOk gB gX gS gC gR gM gL un) (hi : vp_in i 2) : vp_in (gS i.toNatClampNeg) 256 := h.2.2.1 _ (vi_lt hi)
theorem mr_C (h : mOk gB gX gS gC gR gM gL un) (hi : vp_in i 2) : vp_in (gC i.toNatClampNeg) 65536 := h.2.2.2.1 _ (vi_lt hi)
theorem mr_R (h : mOk gB gX gS gC gR gM gL un) (hi : vp_in i 192) : vp_in (gR i.toNatClampNeg) 256 := h.2.2.2.2.1 _ (vi_lt hi)
theorem mr_M (h : mOk gB gX gS gC gR gM gL un) (hi : vp_in i 8) : vp_in (gM i.toNatClampNeg) 25 := h.2.2.2.2.2.1 _ (vi_lt hi)
theorem mr_L (h : mOk gB gX gS gC gR gM gL un) (hi : vp_in i 8) : vp_in (gL i.toNatClampNeg) 256 := h.2.2.2.2.2.2.1 _ (vi_lt hi)
end MOA
theorem vi_nn {x : Int32} {n : Nat} (h : vp_in x n) : 0 ≤ x := Int32.not_lt.mp fun q => h (Or.inl q)
theorem vi_nn1 {x : Int32} (h : vp_in x 65536) : 0 ≤ x + 1 := by
  obtain ⟨j, hj, rfl⟩ := vp_in_of h (by decide)
  rw [nI_1]; exact nI_pos' (by omega)
theorem vi_up {x : Int32} {n k : Nat} (h : vp_in x n) (hk : n ≤ k) : vp_in x k := fun q => q.elim (fun a => h (Or.inl a)) (fun a => h (Or.inr (Nat.le_trans hk a)))
/-- two bytes, a word -/
theorem vi_word {a b : Int32} (ha : vp_in a 256) (hb : vp_in b 256) : vp_in (a ||| (b <<< ((8 : Int32) &&& 31))) 65536 := by
  obtain ⟨i, hi, rfl⟩ := vp_in_of ha (by decide)
  obtain ⟨j, hj, rfl⟩ := vp_in_of hb (by decide)
  have e : nI j <<< ((8 : Int32) &&& 31) = nI (j * 256) := pk_shlN _ 8 (by decide) (by omega)
  have e2 : nI i ||| nI (j * 256) = nI (i ||| (j * 256)) := by
    apply Int32.toBitVec_inj.mp
    rw [Int32.toBitVec_or]
    show BitVec.ofNat 32 i ||| BitVec.ofNat 32 (j * 256) = BitVec.ofNat 32 (i ||| (j * 256))
    rw [BitVec.ofNat_or]
  rw [e, e2]
  exact vp_in_nI (Nat.or_lt_two_pow (n := 16) (by omega) (by omega)) (by decide)
section GPA
variable {p : Program} {l : Launch} {e : Env} {R : Room} {s : State} {m : MethodId} {args : Array Value} {below : List Frame} {meth : Method} {c : Code} {H : Heap} {locs : List Loc} {cells slots : Nat} {Q : State → Prop}
variable {mc ms : Nat} {rest : List Value} {D : va_G} {ws wc wr w1 : va_W} {A0 : Nat → Prop} {H0 : Heap} {pc : Nat} {ls : Array Slot} {st0 : List Value} {a : Array Value} {PO : Prop}
theorem gp_v (hr : va_Run p l e R s m args below meth c H locs cells slots mc ms (F0 m pc ls st0) rest (va_Qv (fun _ : Unit => PO) (fun _ t => wPost D (va_A wc H.size) w1 t) (va_A wc H.size) a) (va_A wc H.size)) (hP : va_P D vwCl ws H) (hD : va_D A0 ws) (hS : va_S A0 H0 H locs) (hA : ∀ q, H0.size ≤ q → A0 q)
    (isC isR : List Nat) (hC : isC.map (fun i => ws[i]?) = wc.map some) (hR : isR.map (fun i => ws[i]?) = wr.map some) (hn : va_nd isR = true) (hdis : ∀ i ∈ isR, i ∉ isC)
    (kk : ∀ (H1 : Heap) (locs1 : List Loc), PO → va_P D vwCl (wr ++ w1) H1 → va_D A0 (wr ++ w1) → va_S A0 H0 H1 locs1 → W p l e R s m args below meth c H1 locs1 (cells + mc) (slots + ms) Q (F0 m (pc + 3) ls rest)) : W p l e R s m args below meth c H locs cells slots Q (F0 m pc ls st0) := by
  have hF := va_free hD hS hA isC hC
  refine va_callv hr hS (fun q _ h => hF q h) hF (fun u t H1 locs1 ht hvm hw hB hz hk hS1 => ?_)
  obtain ⟨hP1, hD1⟩ := hB
  rw [ht] at hP1
  obtain ⟨hP2, hD2⟩ := va_join hP hD isC isR hC hR hn hdis hk hF hP1 hD1
  exact kk H1 locs1 hw hP2 hD2 hS1
theorem gp_i {v : Int32} (hr : va_Run p l e R s m args below meth c H locs cells slots mc ms (F0 m pc ls st0) rest (va_Qi (fun (r : Int32) (_ : Unit) => r = v ∧ PO) (fun _ t => wPost D (va_A wc H.size) w1 t) (va_A wc H.size) a) (va_A wc H.size)) (hP : va_P D vwCl ws H) (hD : va_D A0 ws) (hS : va_S A0 H0 H locs) (hA : ∀ q, H0.size ≤ q → A0 q)
    (isC isR : List Nat) (hC : isC.map (fun i => ws[i]?) = wc.map some) (hR : isR.map (fun i => ws[i]?) = wr.map some) (hn : va_nd isR = true) (hdis : ∀ i ∈ isR, i ∉ isC)
    (kk : ∀ (H1 : Heap) (locs1 : List Loc), PO → va_P D vwCl (wr ++ w1) H1 → va_D A0 (wr ++ w1) → va_S A0 H0 H1 locs1 → W p l e R s m args below meth c H1 locs1 (cells + mc) (slots + ms) Q (F0 m (pc + 3) ls (.int v :: rest))) : W p l e R s m args below meth c H locs cells slots Q (F0 m pc ls st0) := by
  have hF := va_free hD hS hA isC hC
  refine va_calli hr hS (fun q _ h => hF q h) hF (fun r u t H1 locs1 ht hvm hw hB hz hk hS1 => ?_)
  obtain ⟨hP1, hD1⟩ := hB
  rw [ht] at hP1
  obtain ⟨hw1, hw2⟩ := hw
  subst hw1
  obtain ⟨hP2, hD2⟩ := va_join hP hD isC isR hC hR hn hdis hk hF hP1 hD1
  exact kk H1 locs1 hw2 hP2 hD2 hS1
end GPA
theorem lv_foldL {p : Program} {l : Launch} {e : Env} {R : Room} {s : State} {m : MethodId} {args : Array Value} {below : List Frame} {meth : Method} {c : Code} {H : Heap} {locs : List Loc} {cells slots : Nat} {Q : State → Prop} {pc : Nat} {ls : Array Slot} {rest : List Value} {x v : Int64} (h : x = v) (k : W p l e R s m args below meth c H locs cells slots Q (F0 m pc ls (.long v :: rest))) : W p l e R s m args below meth c H locs cells slots Q (F0 m pc ls (.long x :: rest)) := h ▸ k
