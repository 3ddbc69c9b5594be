/-! Calls: load, reset, clear, and what the others answer. -/
set_option maxRecDepth 100000 in
def uN (f : Nat → Int32) (i : Nat → Nat) (v : Nat → Int32) : Nat → (Nat → Int32)
  | 0 => f
  | n + 1 => upd (uN f i v n) (i n) (v n)
set_option maxRecDepth 100000 in
theorem uN_add {f : Nat → Int32} {i : Nat → Nat} {v : Nat → Int32} (a : Nat) : ∀ b : Nat, uN f i v (a + b) = uN (uN f i v a) (fun k => i (a + k)) (fun k => v (a + k)) b
  | 0 => rfl
  | b + 1 => by
    show upd (uN f i v (a + b)) (i (a + b)) (v (a + b)) = upd (uN (uN f i v a) (fun k => i (a + k)) (fun k => v (a + k)) b) (i (a + b)) (v (a + b))
    rw [uN_add a b]
set_option maxRecDepth 100000 in
def ldi (p1 p2 : Int32) (k : Nat) : Nat := ((4096 * p1) + ((p2 + nI k) - (p2 + nI k) / 4096 * 4096)).toNatClampNeg
set_option maxRecDepth 100000 in
def ldw (p3 p4 p5 p6 p7 : Int32) (k : Nat) : Int32 := if k < 4 then p3 else if k < 8 then p4 else if k < 12 then p5 else if k < 16 then p6 else p7
set_option maxRecDepth 100000 in
def ldv (p3 p4 p5 p6 p7 : Int32) (k : Nat) : Int32 := ((ldw p3 p4 p5 p6 p7 k) >>> (nI (24 - 8 * (k % 4)) &&& 31)) &&& 255
set_option maxRecDepth 100000 in
def kpi (p : Int32) (k : Nat) : Nat := ((p + nI k) &&& 4095).toNatClampNeg
set_option maxRecDepth 100000 in
def kpv (v : Int32) (k : Nat) : Int32 := ((v.toUInt32 >>> ((nI (24 - 8 * k)).toUInt32 &&& Int32.toUInt32 31)).toInt32) &&& 255
set_option maxRecDepth 100000 in
theorem rm_uN {mm : Int32} (hm : wB mm) {om : Nat → Int32} {i i' : Nat → Nat} {v v' : Nat → Int32} {gB mem : Nat → Int32} (h : rm mm gB mem om) : ∀ n : Nat, (∀ k, k < n → i' k = 4096 * mm.toNatClampNeg + i k ∧ i k < 4096 ∧ v' k = v k ∧ s_b (v k)) → rm mm (uN gB i' v' n) (uN mem i v n) om
  | 0, _ => h
  | n + 1, q => by
    obtain ⟨q1, q2, q3, q4⟩ := q n (by omega)
    show rm mm (upd (uN gB i' v' n) (i' n) (v' n)) (upd (uN mem i v n) (i n) (v n)) om
    rw [q1, q3]
    exact rm_u hm (rm_uN hm h n (fun k hk => q k (by omega))) q2 q4
set_option maxRecDepth 100000 in
theorem s_ni {x : Int32} : (x.toBitVec.toNat : Int) % 256 = x.toInt % 256 := by
  have h1 := x.toBitVec.isLt
  have h2 : x.toInt = x.toBitVec.toInt := rfl
  rw [h2, BitVec.toInt_eq_toNat_cond]
  split <;> omega
set_option maxRecDepth 100000 in
theorem s_sh24 (v : Int32) : ((v.toUInt32 >>> ((24 : Int32).toUInt32 &&& Int32.toUInt32 31)).toInt32) &&& 255 = (v >>> ((24 : Int32) &&& 31)) &&& 255 := by
  rw [pk_and _ (m := 255) 8 (by decide), pk_and _ (m := 255) 8 (by decide), pk_ushr v 24 24 (by decide)]
  have e := pk_shr v ((24 : Int32) &&& 31) 24 (by decide)
  have a := s_ni (x := v >>> ((24 : Int32) &&& 31))
  have h1 := v.toBitVec.isLt
  have h2 : v.toInt = v.toBitVec.toInt := rfl
  rw [e, h2, Int.shiftRight_eq_div_pow, BitVec.toInt_eq_toNat_cond] at a
  congr 1
  split at a <;> omega
set_option maxRecDepth 100000 in
theorem s_sh16 (v : Int32) : ((v.toUInt32 >>> ((16 : Int32).toUInt32 &&& Int32.toUInt32 31)).toInt32) &&& 255 = (v >>> ((16 : Int32) &&& 31)) &&& 255 := by
  rw [pk_and _ (m := 255) 8 (by decide), pk_and _ (m := 255) 8 (by decide), pk_ushr v 16 16 (by decide)]
  have e := pk_shr v ((16 : Int32) &&& 31) 16 (by decide)
  have a := s_ni (x := v >>> ((16 : Int32) &&& 31))
  have h1 := v.toBitVec.isLt
  have h2 : v.toInt = v.toBitVec.toInt := rfl
  rw [e, h2, Int.shiftRight_eq_div_pow, BitVec.toInt_eq_toNat_cond] at a
  congr 1
  split at a <;> omega
set_option maxRecDepth 100000 in
theorem s_sh8 (v : Int32) : ((v.toUInt32 >>> ((8 : Int32).toUInt32 &&& Int32.toUInt32 31)).toInt32) &&& 255 = (v >>> ((8 : Int32) &&& 31)) &&& 255 := by
  rw [pk_and _ (m := 255) 8 (by decide), pk_and _ (m := 255) 8 (by decide), pk_ushr v 8 8 (by decide)]
  have e := pk_shr v ((8 : Int32) &&& 31) 8 (by decide)
  have a := s_ni (x := v >>> ((8 : Int32) &&& 31))
  have h1 := v.toBitVec.isLt
  have h2 : v.toInt = v.toBitVec.toInt := rfl
  rw [e, h2, Int.shiftRight_eq_div_pow, BitVec.toInt_eq_toNat_cond] at a
  congr 1
  split at a <;> omega
set_option maxRecDepth 100000 in
theorem s_sh0 (v : Int32) : ((v.toUInt32 >>> ((0 : Int32).toUInt32 &&& Int32.toUInt32 31)).toInt32) &&& 255 = (v >>> ((0 : Int32) &&& 31)) &&& 255 := by
  rw [pk_and _ (m := 255) 8 (by decide), pk_and _ (m := 255) 8 (by decide), pk_ushr v 0 0 (by decide)]
  have e := pk_shr v ((0 : Int32) &&& 31) 0 (by decide)
  have a := s_ni (x := v >>> ((0 : Int32) &&& 31))
  have h1 := v.toBitVec.isLt
  have h2 : v.toInt = v.toBitVec.toInt := rfl
  rw [e, h2, Int.shiftRight_eq_div_pow, BitVec.toInt_eq_toNat_cond] at a
  congr 1
  split at a <;> omega
set_option maxRecDepth 100000 in
theorem kp_v (v : Int32) {k : Nat} (h : k < 4) : kpv v k = (v >>> (nI (24 - 8 * k) &&& 31)) &&& 255 := by
  rcases (show k = 0 ∨ k = 1 ∨ k = 2 ∨ k = 3 by omega) with rfl | rfl | rfl | rfl
  · exact s_sh24 v
  · exact s_sh16 v
  · exact s_sh8 v
  · exact s_sh0 v
set_option maxRecDepth 100000 in
theorem kp_n (mem : Nat → Int32) (p v : Int32) {x : Int32} {m : Nat} (hm : m < 100) (h : (m = 0 ∧ x ≤ 0) ∨ (0 < m ∧ x = nI m)) : f_X1_keep_mem mem p v x = uN mem (kpi p) (kpv v) (min m 4) := by
  unfold f_X1_keep_mem
  have le : ∀ a b : Nat, a < 100 → b < 100 → (nI a ≤ nI b ↔ a ≤ b) := fun a b ha hb => nI_leI (by omega) (by omega)
  rcases h with ⟨rfl, h⟩ | ⟨h0, rfl⟩
  · rw [if_pos h]; rfl
  · have z : ¬ nI m ≤ 0 := fun w => by have := (le m 0 hm (by decide)).mp w; omega
    rw [if_neg z]
    by_cases c1 : m = 1
    · subst c1; rw [if_pos (show nI 1 ≤ 1 by decide)]; rfl
    rw [if_neg (fun w => by have := (le m 1 hm (by decide)).mp w; omega)]
    by_cases c2 : m = 2
    · subst c2; rw [if_pos (show nI 2 ≤ 2 by decide)]; rfl
    rw [if_neg (fun w => by have := (le m 2 hm (by decide)).mp w; omega)]
    by_cases c3 : m = 3
    · subst c3; rw [if_pos (show nI 3 ≤ 3 by decide)]; rfl
    rw [if_neg (fun w => by have := (le m 3 hm (by decide)).mp w; omega), show min m 4 = 4 by omega]; rfl
set_option maxRecDepth 100000 in
theorem lm_1 {gB : Nat → Int32} {p1 p2 p3 p4 p5 p6 p7 : Int32} (h1 : ¬ f_X5_isMachine_r p1 = 0) (h2 : ¬ f_X5_isPlace_r p2 = 0) : f_X5_load_gB gB p1 p2 p3 p4 p5 p6 p7 1 = uN gB (ldi p1 p2) (ldv p3 p4 p5 p6 p7) 1 := by unfold f_X5_load_gB; rw [if_neg h1, if_neg h2, if_neg (show ¬ (1 : Int32) < 1 by decide), if_pos (show (1 : Int32) ≤ 20 by decide), if_neg (show ¬ (1 : Int32) ≤ 0 by decide), if_pos (show (1 : Int32) ≤ 1 by decide)]; rfl
set_option maxRecDepth 100000 in
theorem lm_2 {gB : Nat → Int32} {p1 p2 p3 p4 p5 p6 p7 : Int32} (h1 : ¬ f_X5_isMachine_r p1 = 0) (h2 : ¬ f_X5_isPlace_r p2 = 0) : f_X5_load_gB gB p1 p2 p3 p4 p5 p6 p7 2 = uN gB (ldi p1 p2) (ldv p3 p4 p5 p6 p7) 2 := by unfold f_X5_load_gB; rw [if_neg h1, if_neg h2, if_neg (show ¬ (2 : Int32) < 1 by decide), if_pos (show (2 : Int32) ≤ 20 by decide), if_neg (show ¬ (2 : Int32) ≤ 0 by decide), if_neg (show ¬ (2 : Int32) ≤ 1 by decide), if_pos (show (2 : Int32) ≤ 2 by decide)]; rfl
set_option maxRecDepth 100000 in
theorem lm_3 {gB : Nat → Int32} {p1 p2 p3 p4 p5 p6 p7 : Int32} (h1 : ¬ f_X5_isMachine_r p1 = 0) (h2 : ¬ f_X5_isPlace_r p2 = 0) : f_X5_load_gB gB p1 p2 p3 p4 p5 p6 p7 3 = uN gB (ldi p1 p2) (ldv p3 p4 p5 p6 p7) 3 := by unfold f_X5_load_gB; rw [if_neg h1, if_neg h2, if_neg (show ¬ (3 : Int32) < 1 by decide), if_pos (show (3 : Int32) ≤ 20 by decide), if_neg (show ¬ (3 : Int32) ≤ 0 by decide), if_neg (show ¬ (3 : Int32) ≤ 1 by decide), if_neg (show ¬ (3 : Int32) ≤ 2 by decide), if_pos (show (3 : Int32) ≤ 3 by decide)]; rfl
set_option maxRecDepth 100000 in
theorem lm_4 {gB : Nat → Int32} {p1 p2 p3 p4 p5 p6 p7 : Int32} (h1 : ¬ f_X5_isMachine_r p1 = 0) (h2 : ¬ f_X5_isPlace_r p2 = 0) : f_X5_load_gB gB p1 p2 p3 p4 p5 p6 p7 4 = uN gB (ldi p1 p2) (ldv p3 p4 p5 p6 p7) 4 := by unfold f_X5_load_gB; rw [if_neg h1, if_neg h2, if_neg (show ¬ (4 : Int32) < 1 by decide), if_pos (show (4 : Int32) ≤ 20 by decide), if_neg (show ¬ (4 : Int32) ≤ 0 by decide), if_neg (show ¬ (4 : Int32) ≤ 1 by decide), if_neg (show ¬ (4 : Int32) ≤ 2 by decide), if_neg (show ¬ (4 : Int32) ≤ 3 by decide), if_pos (show (4 : Int32) ≤ 4 by decide)]; rfl
set_option maxRecDepth 100000 in
theorem lm_5 {gB : Nat → Int32} {p1 p2 p3 p4 p5 p6 p7 : Int32} (h1 : ¬ f_X5_isMachine_r p1 = 0) (h2 : ¬ f_X5_isPlace_r p2 = 0) : f_X5_load_gB gB p1 p2 p3 p4 p5 p6 p7 5 = uN gB (ldi p1 p2) (ldv p3 p4 p5 p6 p7) 5 := by unfold f_X5_load_gB; rw [if_neg h1, if_neg h2, if_neg (show ¬ (5 : Int32) < 1 by decide), if_pos (show (5 : Int32) ≤ 20 by decide), if_neg (show ¬ (5 : Int32) ≤ 0 by decide), if_neg (show ¬ (5 : Int32) ≤ 1 by decide), if_neg (show ¬ (5 : Int32) ≤ 2 by decide), if_neg (show ¬ (5 : Int32) ≤ 3 by decide), if_neg (show ¬ (5 : Int32) ≤ 4 by decide), if_pos (show (5 : Int32) ≤ 5 by decide)]; rfl
set_option maxRecDepth 100000 in
theorem lm_6 {gB : Nat → Int32} {p1 p2 p3 p4 p5 p6 p7 : Int32} (h1 : ¬ f_X5_isMachine_r p1 = 0) (h2 : ¬ f_X5_isPlace_r p2 = 0) : f_X5_load_gB gB p1 p2 p3 p4 p5 p6 p7 6 = uN gB (ldi p1 p2) (ldv p3 p4 p5 p6 p7) 6 := by unfold f_X5_load_gB; rw [if_neg h1, if_neg h2, if_neg (show ¬ (6 : Int32) < 1 by decide), if_pos (show (6 : Int32) ≤ 20 by decide), if_neg (show ¬ (6 : Int32) ≤ 0 by decide), if_neg (show ¬ (6 : Int32) ≤ 1 by decide), if_neg (show ¬ (6 : Int32) ≤ 2 by decide), if_neg (show ¬ (6 : Int32) ≤ 3 by decide), if_neg (show ¬ (6 : Int32) ≤ 4 by decide), if_neg (show ¬ (6 : Int32) ≤ 5 by decide), if_pos (show (6 : Int32) ≤ 6 by decide)]; rfl
set_option maxRecDepth 100000 in
theorem lm_7 {gB : Nat → Int32} {p1 p2 p3 p4 p5 p6 p7 : Int32} (h1 : ¬ f_X5_isMachine_r p1 = 0) (h2 : ¬ f_X5_isPlace_r p2 = 0) : f_X5_load_gB gB p1 p2 p3 p4 p5 p6 p7 7 = uN gB (ldi p1 p2) (ldv p3 p4 p5 p6 p7) 7 := by unfold f_X5_load_gB; rw [if_neg h1, if_neg h2, if_neg (show ¬ (7 : Int32) < 1 by decide), if_pos (show (7 : Int32) ≤ 20 by decide), if_neg (show ¬ (7 : Int32) ≤ 0 by decide), if_neg (show ¬ (7 : Int32) ≤ 1 by decide), if_neg (show ¬ (7 : Int32) ≤ 2 by decide), if_neg (show ¬ (7 : Int32) ≤ 3 by decide), if_neg (show ¬ (7 : Int32) ≤ 4 by decide), if_neg (show ¬ (7 : Int32) ≤ 5 by decide), if_neg (show ¬ (7 : Int32) ≤ 6 by decide), if_pos (show (7 : Int32) ≤ 7 by decide)]; rfl
set_option maxRecDepth 100000 in
theorem lm_8 {gB : Nat → Int32} {p1 p2 p3 p4 p5 p6 p7 : Int32} (h1 : ¬ f_X5_isMachine_r p1 = 0) (h2 : ¬ f_X5_isPlace_r p2 = 0) : f_X5_load_gB gB p1 p2 p3 p4 p5 p6 p7 8 = uN gB (ldi p1 p2) (ldv p3 p4 p5 p6 p7) 8 := by unfold f_X5_load_gB; rw [if_neg h1, if_neg h2, if_neg (show ¬ (8 : Int32) < 1 by decide), if_pos (show (8 : Int32) ≤ 20 by decide), if_neg (show ¬ (8 : Int32) ≤ 0 by decide), if_neg (show ¬ (8 : Int32) ≤ 1 by decide), if_neg (show ¬ (8 : Int32) ≤ 2 by decide), if_neg (show ¬ (8 : Int32) ≤ 3 by decide), if_neg (show ¬ (8 : Int32) ≤ 4 by decide), if_neg (show ¬ (8 : Int32) ≤ 5 by decide), if_neg (show ¬ (8 : Int32) ≤ 6 by decide), if_neg (show ¬ (8 : Int32) ≤ 7 by decide), if_pos (show (8 : Int32) ≤ 8 by decide)]; rfl
set_option maxRecDepth 100000 in
theorem lm_9 {gB : Nat → Int32} {p1 p2 p3 p4 p5 p6 p7 : Int32} (h1 : ¬ f_X5_isMachine_r p1 = 0) (h2 : ¬ f_X5_isPlace_r p2 = 0) : f_X5_load_gB gB p1 p2 p3 p4 p5 p6 p7 9 = uN gB (ldi p1 p2) (ldv p3 p4 p5 p6 p7) 9 := by unfold f_X5_load_gB; rw [if_neg h1, if_neg h2, if_neg (show ¬ (9 : Int32) < 1 by decide), if_pos (show (9 : Int32) ≤ 20 by decide), if_neg (show ¬ (9 : Int32) ≤ 0 by decide), if_neg (show ¬ (9 : Int32) ≤ 1 by decide), if_neg (show ¬ (9 : Int32) ≤ 2 by decide), if_neg (show ¬ (9 : Int32) ≤ 3 by decide), if_neg (show ¬ (9 : Int32) ≤ 4 by decide), if_neg (show ¬ (9 : Int32) ≤ 5 by decide), if_neg (show ¬ (9 : Int32) ≤ 6 by decide), if_neg (show ¬ (9 : Int32) ≤ 7 by decide), if_neg (show ¬ (9 : Int32) ≤ 8 by decide), if_pos (show (9 : Int32) ≤ 9 by decide)]; rfl
set_option maxRecDepth 100000 in
theorem lm_10 {gB : Nat → Int32} {p1 p2 p3 p4 p5 p6 p7 : Int32} (h1 : ¬ f_X5_isMachine_r p1 = 0) (h2 : ¬ f_X5_isPlace_r p2 = 0) : f_X5_load_gB gB p1 p2 p3 p4 p5 p6 p7 10 = uN gB (ldi p1 p2) (ldv p3 p4 p5 p6 p7) 10 := by unfold f_X5_load_gB; rw [if_neg h1, if_neg h2, if_neg (show ¬ (10 : Int32) < 1 by decide), if_pos (show (10 : Int32) ≤ 20 by decide), if_neg (show ¬ (10 : Int32) ≤ 0 by decide), if_neg (show ¬ (10 : Int32) ≤ 1 by decide), if_neg (show ¬ (10 : Int32) ≤ 2 by decide), if_neg (show ¬ (10 : Int32) ≤ 3 by decide), if_neg (show ¬ (10 : Int32) ≤ 4 by decide), if_neg (show ¬ (10 : Int32) ≤ 5 by decide), if_neg (show ¬ (10 : Int32) ≤ 6 by decide), if_neg (show ¬ (10 : Int32) ≤ 7 by decide), if_neg (show ¬ (10 : Int32) ≤ 8 by decide), if_neg (show ¬ (10 : Int32) ≤ 9 by decide), if_pos (show (10 : Int32) ≤ 10 by decide)]; rfl
set_option maxRecDepth 100000 in
theorem lm_11 {gB : Nat → Int32} {p1 p2 p3 p4 p5 p6 p7 : Int32} (h1 : ¬ f_X5_isMachine_r p1 = 0) (h2 : ¬ f_X5_isPlace_r p2 = 0) : f_X5_load_gB gB p1 p2 p3 p4 p5 p6 p7 11 = uN gB (ldi p1 p2) (ldv p3 p4 p5 p6 p7) 11 := by unfold f_X5_load_gB; rw [if_neg h1, if_neg h2, if_neg (show ¬ (11 : Int32) < 1 by decide), if_pos (show (11 : Int32) ≤ 20 by decide), if_neg (show ¬ (11 : Int32) ≤ 0 by decide), if_neg (show ¬ (11 : Int32) ≤ 1 by decide), if_neg (show ¬ (11 : Int32) ≤ 2 by decide), if_neg (show ¬ (11 : Int32) ≤ 3 by decide), if_neg (show ¬ (11 : Int32) ≤ 4 by decide), if_neg (show ¬ (11 : Int32) ≤ 5 by decide), if_neg (show ¬ (11 : Int32) ≤ 6 by decide), if_neg (show ¬ (11 : Int32) ≤ 7 by decide), if_neg (show ¬ (11 : Int32) ≤ 8 by decide), if_neg (show ¬ (11 : Int32) ≤ 9 by decide), if_neg (show ¬ (11 : Int32) ≤ 10 by decide), if_pos (show (11 : Int32) ≤ 11 by decide)]; rfl
set_option maxRecDepth 100000 in
theorem lm_12 {gB : Nat → Int32} {p1 p2 p3 p4 p5 p6 p7 : Int32} (h1 : ¬ f_X5_isMachine_r p1 = 0) (h2 : ¬ f_X5_isPlace_r p2 = 0) : f_X5_load_gB gB p1 p2 p3 p4 p5 p6 p7 12 = uN gB (ldi p1 p2) (ldv p3 p4 p5 p6 p7) 12 := by unfold f_X5_load_gB; rw [if_neg h1, if_neg h2, if_neg (show ¬ (12 : Int32) < 1 by decide), if_pos (show (12 : Int32) ≤ 20 by decide), if_neg (show ¬ (12 : Int32) ≤ 0 by decide), if_neg (show ¬ (12 : Int32) ≤ 1 by decide), if_neg (show ¬ (12 : Int32) ≤ 2 by decide), if_neg (show ¬ (12 : Int32) ≤ 3 by decide), if_neg (show ¬ (12 : Int32) ≤ 4 by decide), if_neg (show ¬ (12 : Int32) ≤ 5 by decide), if_neg (show ¬ (12 : Int32) ≤ 6 by decide), if_neg (show ¬ (12 : Int32) ≤ 7 by decide), if_neg (show ¬ (12 : Int32) ≤ 8 by decide), if_neg (show ¬ (12 : Int32) ≤ 9 by decide), if_neg (show ¬ (12 : Int32) ≤ 10 by decide), if_neg (show ¬ (12 : Int32) ≤ 11 by decide), if_pos (show (12 : Int32) ≤ 12 by decide)]; rfl
set_option maxRecDepth 100000 in
theorem lm_13 {gB : Nat → Int32} {p1 p2 p3 p4 p5 p6 p7 : Int32} (h1 : ¬ f_X5_isMachine_r p1 = 0) (h2 : ¬ f_X5_isPlace_r p2 = 0) : f_X5_load_gB gB p1 p2 p3 p4 p5 p6 p7 13 = uN gB (ldi p1 p2) (ldv p3 p4 p5 p6 p7) 13 := by unfold f_X5_load_gB; rw [if_neg h1, if_neg h2, if_neg (show ¬ (13 : Int32) < 1 by decide), if_pos (show (13 : Int32) ≤ 20 by decide), if_neg (show ¬ (13 : Int32) ≤ 0 by decide), if_neg (show ¬ (13 : Int32) ≤ 1 by decide), if_neg (show ¬ (13 : Int32) ≤ 2 by decide), if_neg (show ¬ (13 : Int32) ≤ 3 by decide), if_neg (show ¬ (13 : Int32) ≤ 4 by decide), if_neg (show ¬ (13 : Int32) ≤ 5 by decide), if_neg (show ¬ (13 : Int32) ≤ 6 by decide), if_neg (show ¬ (13 : Int32) ≤ 7 by decide), if_neg (show ¬ (13 : Int32) ≤ 8 by decide), if_neg (show ¬ (13 : Int32) ≤ 9 by decide), if_neg (show ¬ (13 : Int32) ≤ 10 by decide), if_neg (show ¬ (13 : Int32) ≤ 11 by decide), if_neg (show ¬ (13 : Int32) ≤ 12 by decide), if_pos (show (13 : Int32) ≤ 13 by decide)]; rfl
set_option maxRecDepth 100000 in
theorem lm_14 {gB : Nat → Int32} {p1 p2 p3 p4 p5 p6 p7 : Int32} (h1 : ¬ f_X5_isMachine_r p1 = 0) (h2 : ¬ f_X5_isPlace_r p2 = 0) : f_X5_load_gB gB p1 p2 p3 p4 p5 p6 p7 14 = uN gB (ldi p1 p2) (ldv p3 p4 p5 p6 p7) 14 := by unfold f_X5_load_gB; rw [if_neg h1, if_neg h2, if_neg (show ¬ (14 : Int32) < 1 by decide), if_pos (show (14 : Int32) ≤ 20 by decide), if_neg (show ¬ (14 : Int32) ≤ 0 by decide), if_neg (show ¬ (14 : Int32) ≤ 1 by decide), if_neg (show ¬ (14 : Int32) ≤ 2 by decide), if_neg (show ¬ (14 : Int32) ≤ 3 by decide), if_neg (show ¬ (14 : Int32) ≤ 4 by decide), if_neg (show ¬ (14 : Int32) ≤ 5 by decide), if_neg (show ¬ (14 : Int32) ≤ 6 by decide), if_neg (show ¬ (14 : Int32) ≤ 7 by decide), if_neg (show ¬ (14 : Int32) ≤ 8 by decide), if_neg (show ¬ (14 : Int32) ≤ 9 by decide), if_neg (show ¬ (14 : Int32) ≤ 10 by decide), if_neg (show ¬ (14 : Int32) ≤ 11 by decide), if_neg (show ¬ (14 : Int32) ≤ 12 by decide), if_neg (show ¬ (14 : Int32) ≤ 13 by decide), if_pos (show (14 : Int32) ≤ 14 by decide)]; rfl
set_option maxRecDepth 100000 in
theorem lm_15 {gB : Nat → Int32} {p1 p2 p3 p4 p5 p6 p7 : Int32} (h1 : ¬ f_X5_isMachine_r p1 = 0) (h2 : ¬ f_X5_isPlace_r p2 = 0) : f_X5_load_gB gB p1 p2 p3 p4 p5 p6 p7 15 = uN gB (ldi p1 p2) (ldv p3 p4 p5 p6 p7) 15 := by unfold f_X5_load_gB; rw [if_neg h1, if_neg h2, if_neg (show ¬ (15 : Int32) < 1 by decide), if_pos (show (15 : Int32) ≤ 20 by decide), if_neg (show ¬ (15 : Int32) ≤ 0 by decide), if_neg (show ¬ (15 : Int32) ≤ 1 by decide), if_neg (show ¬ (15 : Int32) ≤ 2 by decide), if_neg (show ¬ (15 : Int32) ≤ 3 by decide), if_neg (show ¬ (15 : Int32) ≤ 4 by decide), if_neg (show ¬ (15 : Int32) ≤ 5 by decide), if_neg (show ¬ (15 : Int32) ≤ 6 by decide), if_neg (show ¬ (15 : Int32) ≤ 7 by decide), if_neg (show ¬ (15 : Int32) ≤ 8 by decide), if_neg (show ¬ (15 : Int32) ≤ 9 by decide), if_neg (show ¬ (15 : Int32) ≤ 10 by decide), if_neg (show ¬ (15 : Int32) ≤ 11 by decide), if_neg (show ¬ (15 : Int32) ≤ 12 by decide), if_neg (show ¬ (15 : Int32) ≤ 13 by decide), if_neg (show ¬ (15 : Int32) ≤ 14 by decide), if_pos (show (15 : Int32) ≤ 15 by decide)]; rfl
set_option maxRecDepth 100000 in
theorem lm_16 {gB : Nat → Int32} {p1 p2 p3 p4 p5 p6 p7 : Int32} (h1 : ¬ f_X5_isMachine_r p1 = 0) (h2 : ¬ f_X5_isPlace_r p2 = 0) : f_X5_load_gB gB p1 p2 p3 p4 p5 p6 p7 16 = uN gB (ldi p1 p2) (ldv p3 p4 p5 p6 p7) 16 := by unfold f_X5_load_gB; rw [if_neg h1, if_neg h2, if_neg (show ¬ (16 : Int32) < 1 by decide), if_pos (show (16 : Int32) ≤ 20 by decide), if_neg (show ¬ (16 : Int32) ≤ 0 by decide), if_neg (show ¬ (16 : Int32) ≤ 1 by decide), if_neg (show ¬ (16 : Int32) ≤ 2 by decide), if_neg (show ¬ (16 : Int32) ≤ 3 by decide), if_neg (show ¬ (16 : Int32) ≤ 4 by decide), if_neg (show ¬ (16 : Int32) ≤ 5 by decide), if_neg (show ¬ (16 : Int32) ≤ 6 by decide), if_neg (show ¬ (16 : Int32) ≤ 7 by decide), if_neg (show ¬ (16 : Int32) ≤ 8 by decide), if_neg (show ¬ (16 : Int32) ≤ 9 by decide), if_neg (show ¬ (16 : Int32) ≤ 10 by decide), if_neg (show ¬ (16 : Int32) ≤ 11 by decide), if_neg (show ¬ (16 : Int32) ≤ 12 by decide), if_neg (show ¬ (16 : Int32) ≤ 13 by decide), if_neg (show ¬ (16 : Int32) ≤ 14 by decide), if_neg (show ¬ (16 : Int32) ≤ 15 by decide), if_pos (show (16 : Int32) ≤ 16 by decide)]; rfl
set_option maxRecDepth 100000 in
theorem lm_17 {gB : Nat → Int32} {p1 p2 p3 p4 p5 p6 p7 : Int32} (h1 : ¬ f_X5_isMachine_r p1 = 0) (h2 : ¬ f_X5_isPlace_r p2 = 0) : f_X5_load_gB gB p1 p2 p3 p4 p5 p6 p7 17 = uN gB (ldi p1 p2) (ldv p3 p4 p5 p6 p7) 17 := by unfold f_X5_load_gB; rw [if_neg h1, if_neg h2, if_neg (show ¬ (17 : Int32) < 1 by decide), if_pos (show (17 : Int32) ≤ 20 by decide), if_neg (show ¬ (17 : Int32) ≤ 0 by decide), if_neg (show ¬ (17 : Int32) ≤ 1 by decide), if_neg (show ¬ (17 : Int32) ≤ 2 by decide), if_neg (show ¬ (17 : Int32) ≤ 3 by decide), if_neg (show ¬ (17 : Int32) ≤ 4 by decide), if_neg (show ¬ (17 : Int32) ≤ 5 by decide), if_neg (show ¬ (17 : Int32) ≤ 6 by decide), if_neg (show ¬ (17 : Int32) ≤ 7 by decide), if_neg (show ¬ (17 : Int32) ≤ 8 by decide), if_neg (show ¬ (17 : Int32) ≤ 9 by decide), if_neg (show ¬ (17 : Int32) ≤ 10 by decide), if_neg (show ¬ (17 : Int32) ≤ 11 by decide), if_neg (show ¬ (17 : Int32) ≤ 12 by decide), if_neg (show ¬ (17 : Int32) ≤ 13 by decide), if_neg (show ¬ (17 : Int32) ≤ 14 by decide), if_neg (show ¬ (17 : Int32) ≤ 15 by decide), if_neg (show ¬ (17 : Int32) ≤ 16 by decide), if_pos (show (17 : Int32) ≤ 17 by decide)]; rfl
set_option maxRecDepth 100000 in
theorem lm_18 {gB : Nat → Int32} {p1 p2 p3 p4 p5 p6 p7 : Int32} (h1 : ¬ f_X5_isMachine_r p1 = 0) (h2 : ¬ f_X5_isPlace_r p2 = 0) : f_X5_load_gB gB p1 p2 p3 p4 p5 p6 p7 18 = uN gB (ldi p1 p2) (ldv p3 p4 p5 p6 p7) 18 := by unfold f_X5_load_gB; rw [if_neg h1, if_neg h2, if_neg (show ¬ (18 : Int32) < 1 by decide), if_pos (show (18 : Int32) ≤ 20 by decide), if_neg (show ¬ (18 : Int32) ≤ 0 by decide), if_neg (show ¬ (18 : Int32) ≤ 1 by decide), if_neg (show ¬ (18 : Int32) ≤ 2 by decide), if_neg (show ¬ (18 : Int32) ≤ 3 by decide), if_neg (show ¬ (18 : Int32) ≤ 4 by decide), if_neg (show ¬ (18 : Int32) ≤ 5 by decide), if_neg (show ¬ (18 : Int32) ≤ 6 by decide), if_neg (show ¬ (18 : Int32) ≤ 7 by decide), if_neg (show ¬ (18 : Int32) ≤ 8 by decide), if_neg (show ¬ (18 : Int32) ≤ 9 by decide), if_neg (show ¬ (18 : Int32) ≤ 10 by decide), if_neg (show ¬ (18 : Int32) ≤ 11 by decide), if_neg (show ¬ (18 : Int32) ≤ 12 by decide), if_neg (show ¬ (18 : Int32) ≤ 13 by decide), if_neg (show ¬ (18 : Int32) ≤ 14 by decide), if_neg (show ¬ (18 : Int32) ≤ 15 by decide), if_neg (show ¬ (18 : Int32) ≤ 16 by decide), if_neg (show ¬ (18 : Int32) ≤ 17 by decide), if_pos (show (18 : Int32) ≤ 18 by decide)]; rfl
set_option maxRecDepth 100000 in
theorem lm_19 {gB : Nat → Int32} {p1 p2 p3 p4 p5 p6 p7 : Int32} (h1 : ¬ f_X5_isMachine_r p1 = 0) (h2 : ¬ f_X5_isPlace_r p2 = 0) : f_X5_load_gB gB p1 p2 p3 p4 p5 p6 p7 19 = uN gB (ldi p1 p2) (ldv p3 p4 p5 p6 p7) 19 := by unfold f_X5_load_gB; rw [if_neg h1, if_neg h2, if_neg (show ¬ (19 : Int32) < 1 by decide), if_pos (show (19 : Int32) ≤ 20 by decide), if_neg (show ¬ (19 : Int32) ≤ 0 by decide), if_neg (show ¬ (19 : Int32) ≤ 1 by decide), if_neg (show ¬ (19 : Int32) ≤ 2 by decide), if_neg (show ¬ (19 : Int32) ≤ 3 by decide), if_neg (show ¬ (19 : Int32) ≤ 4 by decide), if_neg (show ¬ (19 : Int32) ≤ 5 by decide), if_neg (show ¬ (19 : Int32) ≤ 6 by decide), if_neg (show ¬ (19 : Int32) ≤ 7 by decide), if_neg (show ¬ (19 : Int32) ≤ 8 by decide), if_neg (show ¬ (19 : Int32) ≤ 9 by decide), if_neg (show ¬ (19 : Int32) ≤ 10 by decide), if_neg (show ¬ (19 : Int32) ≤ 11 by decide), if_neg (show ¬ (19 : Int32) ≤ 12 by decide), if_neg (show ¬ (19 : Int32) ≤ 13 by decide), if_neg (show ¬ (19 : Int32) ≤ 14 by decide), if_neg (show ¬ (19 : Int32) ≤ 15 by decide), if_neg (show ¬ (19 : Int32) ≤ 16 by decide), if_neg (show ¬ (19 : Int32) ≤ 17 by decide), if_neg (show ¬ (19 : Int32) ≤ 18 by decide), if_pos (show (19 : Int32) ≤ 19 by decide)]; rfl
set_option maxRecDepth 100000 in
theorem lm_20 {gB : Nat → Int32} {p1 p2 p3 p4 p5 p6 p7 : Int32} (h1 : ¬ f_X5_isMachine_r p1 = 0) (h2 : ¬ f_X5_isPlace_r p2 = 0) : f_X5_load_gB gB p1 p2 p3 p4 p5 p6 p7 20 = uN gB (ldi p1 p2) (ldv p3 p4 p5 p6 p7) 20 := by unfold f_X5_load_gB; rw [if_neg h1, if_neg h2, if_neg (show ¬ (20 : Int32) < 1 by decide), if_pos (show (20 : Int32) ≤ 20 by decide), if_neg (show ¬ (20 : Int32) ≤ 0 by decide), if_neg (show ¬ (20 : Int32) ≤ 1 by decide), if_neg (show ¬ (20 : Int32) ≤ 2 by decide), if_neg (show ¬ (20 : Int32) ≤ 3 by decide), if_neg (show ¬ (20 : Int32) ≤ 4 by decide), if_neg (show ¬ (20 : Int32) ≤ 5 by decide), if_neg (show ¬ (20 : Int32) ≤ 6 by decide), if_neg (show ¬ (20 : Int32) ≤ 7 by decide), if_neg (show ¬ (20 : Int32) ≤ 8 by decide), if_neg (show ¬ (20 : Int32) ≤ 9 by decide), if_neg (show ¬ (20 : Int32) ≤ 10 by decide), if_neg (show ¬ (20 : Int32) ≤ 11 by decide), if_neg (show ¬ (20 : Int32) ≤ 12 by decide), if_neg (show ¬ (20 : Int32) ≤ 13 by decide), if_neg (show ¬ (20 : Int32) ≤ 14 by decide), if_neg (show ¬ (20 : Int32) ≤ 15 by decide), if_neg (show ¬ (20 : Int32) ≤ 16 by decide), if_neg (show ¬ (20 : Int32) ≤ 17 by decide), if_neg (show ¬ (20 : Int32) ≤ 18 by decide), if_neg (show ¬ (20 : Int32) ≤ 19 by decide)]; rfl
set_option maxRecDepth 100000 in
theorem lm_n {gB : Nat → Int32} {p1 p2 p3 p4 p5 p6 p7 : Int32} (h1 : ¬ f_X5_isMachine_r p1 = 0) (h2 : ¬ f_X5_isPlace_r p2 = 0) {n : Nat} (h3 : 1 ≤ n) (h4 : n ≤ 20) : f_X5_load_gB gB p1 p2 p3 p4 p5 p6 p7 (nI n) = uN gB (ldi p1 p2) (ldv p3 p4 p5 p6 p7) n := by
  match n, h3, h4 with
  | 1, _, _ => exact lm_1 h1 h2
  | 2, _, _ => exact lm_2 h1 h2
  | 3, _, _ => exact lm_3 h1 h2
  | 4, _, _ => exact lm_4 h1 h2
  | 5, _, _ => exact lm_5 h1 h2
  | 6, _, _ => exact lm_6 h1 h2
  | 7, _, _ => exact lm_7 h1 h2
  | 8, _, _ => exact lm_8 h1 h2
  | 9, _, _ => exact lm_9 h1 h2
  | 10, _, _ => exact lm_10 h1 h2
  | 11, _, _ => exact lm_11 h1 h2
  | 12, _, _ => exact lm_12 h1 h2
  | 13, _, _ => exact lm_13 h1 h2
  | 14, _, _ => exact lm_14 h1 h2
  | 15, _, _ => exact lm_15 h1 h2
  | 16, _, _ => exact lm_16 h1 h2
  | 17, _, _ => exact lm_17 h1 h2
  | 18, _, _ => exact lm_18 h1 h2
  | 19, _, _ => exact lm_19 h1 h2
  | 20, _, _ => exact lm_20 h1 h2
  | n + 21, _, h => exact absurd h (by omega)
  | 0, h, _ => exact absurd h (by omega)
