def q_imm (w : Int32) : Int32 := w >>> ((11 : Int32) &&& 31)
def q_A (w : Int32) : Int32 := (w >>> ((4 : Int32) &&& 31)) &&& 7
def q_B (w : Int32) : Int32 := (w >>> ((7 : Int32) &&& 31)) &&& 7
def q_C (w : Int32) : Int32 := q_imm w &&& 7
def q_line (x : Int32) : Int32 := (x &&& 63) >>> ((1 : Int32) &&& 31)
def q_ix (x : Int32) : Nat := x.toNatClampNeg
theorem q_and (x : Int32) {m : Int32} (k : Nat) (hm : m.toBitVec.toNat = 2 ^ k - 1) (hk : k ≤ 30) : x &&& m = nI (q_ix (x &&& m)) ∧ q_ix (x &&& m) < 2 ^ k := by
  obtain ⟨j, h1, h2⟩ := pk_andE x k hm
  have h3 : 2 ^ k ≤ 2 ^ 30 := Nat.pow_le_pow_right (by decide) hk
  have h4 : q_ix (x &&& m) = j := by
    rw [h2]
    exact nI_clamp (by omega)
  rw [h4]
  exact ⟨h2, h1⟩
theorem q_m63 (x : Int32) : x &&& 63 = nI (q_ix (x &&& 63)) := (q_and x 6 (by decide) (by decide)).1
theorem q_l63 (x : Int32) : q_ix (x &&& 63) < 64 := (q_and x 6 (by decide) (by decide)).2
theorem q_m15 (x : Int32) : x &&& 15 = nI (q_ix (x &&& 15)) := (q_and x 4 (by decide) (by decide)).1
theorem q_l15 (x : Int32) : q_ix (x &&& 15) < 16 := (q_and x 4 (by decide) (by decide)).2
theorem q_m7 (x : Int32) : x &&& 7 = nI (q_ix (x &&& 7)) := (q_and x 3 (by decide) (by decide)).1
theorem q_l7 (x : Int32) : q_ix (x &&& 7) < 8 := (q_and x 3 (by decide) (by decide)).2
theorem ks_n64 {P : ks_P} (hP : ks_ok P) : ks_n P ≤ 64 := by have := hP.2.1; omega
theorem ks_T12 {P : ks_P} (hP : ks_ok P) : ks_T P ≤ 12 := by
  have h1 := hP.2.2.2.2.1
  have h2 : ks_S P ≤ 4 := by rcases hP.2.2.1 with h | h | h <;> omega
  exact Nat.mul_le_mul h2 h1
theorem ks_T64 {P : ks_P} (hP : ks_ok P) : ks_T P ≤ 64 := by have := ks_T12 hP; omega
theorem kw_st {P : ks_P} {a a' b b' : ks_M} {o o' : ks_O} (h1 : a = a') (h2 : b = b') (h3 : o = o') : ∀ k, (ks_dm P).1 k → ks_sl P a b o k = ks_sl P a' b' o' k := by
  subst h1; subst h2; subst h3; exact fun _ _ => rfl
def k_wget (a : ks_M) (c j : Nat) (x : Int32) : Int32 := if x &&& 1 = 0 then a (7, c, j) 3 else a (7, c, j) 4
def k_wput (a : ks_M) (c j : Nat) (x v : Int32) : ks_M := if x &&& 1 = 0 then ks_up a (7, c, j) 3 v else ks_up a (7, c, j) 4 v
def k_tell (a : ks_M) (c j : Nat) (x : Int32) : Int32 := if x = 1 then a (7, c, j) 1 else if x = 2 then a (7, c, j) 2 else if x = 3 then a (7, c, j) 3 else a (7, c, j) 4
def k_get (a : ks_M) (x : Int32) : Int32 := a (2, 0, 0) (q_ix (x &&& 63))
def k_put (a : ks_M) (x v : Int32) : ks_M := ks_up a (2, 0, 0) (q_ix (x &&& 63)) v
def k_keep1 (a : ks_M) (c j : Nat) : ks_M := k_put a (2 * a (7, c, j) 1) (a (7, c, j) 3)
def k_keep (a : ks_M) (c j : Nat) : ks_M := k_put (k_keep1 a c j) (2 * k_keep1 a c j (7, c, j) 1 + 1) (k_keep1 a c j (7, c, j) 4)
def k_fill1 (a : ks_M) (c j : Nat) (l : Int32) : ks_M := ks_up a (7, c, j) 1 l
def k_fill2 (a : ks_M) (c j : Nat) (l : Int32) : ks_M := ks_up (k_fill1 a c j l) (7, c, j) 3 (k_get (k_fill1 a c j l) (2 * l))
def k_fill (a : ks_M) (c j : Nat) (l : Int32) : ks_M := ks_up (k_fill2 a c j l) (7, c, j) 4 (k_get (k_fill2 a c j l) (2 * l + 1))
def k_find (a : ks_M) (c l : Nat) : Nat → Nat → Option Nat
  | 0, _ => none
  | k + 1, j => if ¬ a (7, c, j) 0 = 0 ∧ a (7, c, j) 1 = nI l then some j else k_find a c l k (j + 1)
def k_bet (a : ks_M) (c j : Nat) (q : Option Nat) : Bool := match q with
  | none => true
  | some i => decide (a (7, c, j) 5 < a (7, c, i) 5)
def k_room (a : ks_M) (c : Nat) : Nat → Nat → Option Nat → Option Nat
  | 0, _, q => q
  | k + 1, j, q => if a (7, c, j) 0 = 0 then some j else k_room a c k (j + 1) (if a (7, c, j) 2 = 0 ∧ k_bet a c j q = true then some j else q)
def k_dw (a : ks_M) (c : Nat) : Nat → ks_M
  | 0 => a
  | k + 1 => if ¬ k_dw a c k (7, c, k) 2 &&& 2 = 0 then ks_up (k_dw a c k) (7, c, k) 0 0 else k_dw a c k
def k_dm (a : ks_M) (c : Nat) : Nat → ks_M
  | 0 => a
  | k + 1 => ks_up (k_dm a c k) (7, c, k) 2 0
def k_cp (a : ks_M) (k0 k1 : tk_K) (n : Nat) : ks_M := fun k i => if k = k1 ∧ i < n then a k0 i else a k i
def k_ab1 (T : Nat) (a : ks_M) (c : Nat) (v : Int32) : ks_M := ks_up (k_cp (k_dm (k_dw a c T) c T) (10, c, 0) (9, c, 0) 8) (9, c, 0) 7 v
def k_ab2 (T : Nat) (a : ks_M) (c : Nat) (v : Int32) : ks_M := ks_up (ks_up (k_ab1 T a c v) (4, c, 0) 6 (k_ab1 T a c v (4, c, 0) 7)) (4, c, 0) 8 0
def k_abort (T : Nat) (a : ks_M) (c : Nat) (cause : Nat) (more : Int32) : ks_M := ks_up (k_ab2 T a c (nI cause + more)) (11, c, 0) cause (k_ab2 T a c (nI cause + more) (11, c, 0) cause + 1)
def k_reg (a : ks_M) (c : Nat) (x : Int32) : Int32 := a (9, c, 0) (q_ix x)
theorem q_mA (x : Int32) : q_A x = nI (q_ix (q_A x)) := q_m7 _
theorem q_lA (x : Int32) : q_ix (q_A x) < 8 := q_l7 _
theorem q_mB (x : Int32) : q_B x = nI (q_ix (q_B x)) := q_m7 _
theorem q_lB (x : Int32) : q_ix (q_B x) < 8 := q_l7 _
theorem q_mC (x : Int32) : q_C x = nI (q_ix (q_C x)) := q_m7 _
theorem q_lC (x : Int32) : q_ix (q_C x) < 8 := q_l7 _
def k_addr (a : ks_M) (c : Nat) (w : Int32) : Int32 := k_reg a c (q_B w) + q_imm w
def k_reckon (a : ks_M) (c : Nat) (w : Int32) : ks_M :=
  ks_up a (9, c, 0) (q_ix (q_A w)) (if w &&& 15 = 1 then q_imm w else if w &&& 15 = 2 then k_reg a c (q_B w) + k_reg a c (q_C w) else if w &&& 15 = 3 then k_reg a c (q_B w) - k_reg a c (q_C w) else if w &&& 15 = 4 then k_reg a c (q_B w) &&& k_reg a c (q_C w) else if w &&& 15 = 12 then a (4, c, 0) 8 else nI c)
def k_jump (a : ks_M) (c : Nat) (x : Int32) : ks_M := ks_up a (4, c, 0) 6 ((a (4, c, 0) 6 + x) &&& 15)
def k_branch (a : ks_M) (c : Nat) (w : Int32) : ks_M := if w &&& 15 = 7 then (if k_reg a c (q_A w) = 0 then k_jump a c (q_imm w) else a) else (if k_reg a c (q_B w) ≤ k_reg a c (q_A w) then a else k_jump a c (q_imm w))
def k_note (a : ks_M) (c : Nat) (x : Int32) : ks_M := ks_up (k_cp a (9, c, 0) (10, c, 0) 8) (4, c, 0) 7 ((k_cp a (9, c, 0) (10, c, 0) 8 (4, c, 0) 6 + x) &&& 15)
def k_deep (a : ks_M) (c : Nat) : ks_M := ks_up a (4, c, 0) 8 (a (4, c, 0) 8 + 1)
def k_begin (T : Nat) (a : ks_M) (c : Nat) (x : Int32) : Int32 × ks_M := if a (4, c, 0) 8 = 3 then (2, k_abort T a c 3 0) else if a (4, c, 0) 8 = 0 then (4, k_deep (k_note a c x) c) else (4, k_deep a c)
def k_end1 (a : ks_M) (c : Nat) : ks_M := ks_up a (4, c, 0) 8 (a (4, c, 0) 8 - 1)
def k_end2 (T : Nat) (a : ks_M) (c : Nat) : ks_M := ks_up (k_dm (k_end1 a c) c T) (11, c, 0) 0 (k_dm (k_end1 a c) c T (11, c, 0) 0 + 1)
def k_end (T : Nat) (a : ks_M) (c : Nat) : Int32 × ks_M := if k_end1 a c (4, c, 0) 8 ≤ 0 then (3, k_end2 T a c) else (4, k_end1 a c)
def k_give (T : Nat) (a : ks_M) (c : Nat) (x : Int32) : Int32 × ks_M := if a (4, c, 0) 8 = 0 then (4, a) else (2, k_abort T a c 4 (8 * (x &&& 255)))
def k_fault (T : Nat) (a : ks_M) (c : Nat) (x : Int32) : Int32 × ks_M := if a (4, c, 0) 8 ≤ 0 then (0, ks_up (ks_up a (4, c, 0) 9 1) (4, c, 0) 6 x) else (2, k_abort T a c 5 0)
def q_b (w : Bool) : Int32 := if w then 1 else 0
def k_kp (a : ks_M) (c j : Nat) : ks_M := if a (7, c, j) 0 = 2 then k_keep a c j else a
def k_meet1 (T : Nat) (a : ks_M) (c j : Nat) (w : Bool) : ks_M := if a (7, c, j) 2 &&& 2 = 0 then (if w = true then (if a (7, c, j) 2 = 0 then a else k_abort T a c 1 0) else a) else k_abort T a c 1 0
def k_meet2 (a : ks_M) (c j : Nat) (w : Bool) : ks_M := if a (7, c, j) 0 = 0 then a else ks_up (k_kp a c j) (7, c, j) 0 (if w = true then 0 else 1)
def k_meet (T : Nat) (a : ks_M) (c j : Nat) (w : Bool) : ks_M := k_meet2 (k_meet1 T a c j w) c j w
def k_first (S W l : Nat) : Nat := l % S * W
def k_ask1 (S W : Nat) (x : Int32) (l : Nat) (w : Bool) (c : Nat) (a : ks_M) : ks_M := if nI c = x then a else match k_find a c l W (k_first S W l) with
  | none => a
  | some j => k_meet (S * W) a c j w
def k_send (S W : Nat) (x : Int32) (l : Nat) (w : Bool) : Nat → Nat → ks_M → ks_M
  | 0, _, a => a
  | k + 1, c, a => k_send S W x l w k (c + 1) (k_ask1 S W x l w c a)
def k_refill (a : ks_M) (c j : Nat) (l : Int32) : ks_M := ks_up (k_fill (k_kp a c j) c j l) (7, c, j) 0 1
def k_kp2 (a : ks_M) (c j : Nat) (t : Bool) : ks_M := if t = true then (if a (7, c, j) 0 = 2 then (if a (7, c, j) 2 &&& 2 = 0 then k_keep a c j else a) else a) else a
def k_modify (a : ks_M) (c j : Nat) (t : Bool) : ks_M := ks_up (k_kp2 a c j t) (7, c, j) 0 2
def k_ask (n S W : Nat) (a : ks_M) (c l : Nat) (w : Bool) : ks_M := k_send S W (nI c) l w n 0 (ks_up a (0, 0, 0) 2 (a (0, 0, 0) 2 + 1))
def k_rq (n S W : Nat) (a : ks_M) (c l : Nat) (w : Bool) (had : Bool) (j : Nat) : ks_M := if had = true then (if w = true then (if a (7, c, j) 0 = 2 then a else k_ask n S W a c l w) else a) else k_ask n S W a c l w
def k_rf (a : ks_M) (c j l : Nat) (had : Bool) : ks_M := if had = true then a else k_refill a c j (nI l)
def k_md (a : ks_M) (c j : Nat) (w : Bool) : ks_M := if w = true then (if a (4, c, 0) 8 ≤ 0 then k_modify a c j false else k_modify a c j true) else a
def k_mk (a : ks_M) (c j : Nat) (w : Bool) : ks_M := if a (4, c, 0) 8 ≤ 0 then a else ks_up a (7, c, j) 2 (a (7, c, j) 2 ||| (if w = true then 2 else 1))
def k_us1 (a : ks_M) : ks_M := ks_up a (0, 0, 0) 3 (a (0, 0, 0) 3 + 1)
def k_us (a : ks_M) (c j : Nat) : ks_M := ks_up (k_us1 a) (7, c, j) 5 (k_us1 a (0, 0, 0) 3)
def k_acc2 (n S W : Nat) (a : ks_M) (c l : Nat) (w had : Bool) (j : Nat) : ks_M := k_us (k_mk (k_md (k_rf (k_rq n S W a c l w had j) c j l had) c j w) c j w) c j
def k_acc (n S W : Nat) (a : ks_M) (c l : Nat) (w : Bool) : Option Nat × ks_M := match k_find a c l W (k_first S W l) with
  | some j => (some j, k_acc2 n S W a c l w true j)
  | none => match k_room a c W (k_first S W l) none with
    | some j => (some j, k_acc2 n S W a c l w false j)
    | none => (none, k_abort (S * W) a c 2 0)
def q_ln (x : Int32) : Nat := q_ix (x &&& 63) / 2
theorem q_ln_lt (x : Int32) : q_ln x < 32 := by have := q_l63 x; unfold q_ln; omega
theorem q_ln_eq (x : Int32) : q_line x = nI (q_ln x) := by
  have h := q_l63 x
  unfold q_line q_ln
  rw [q_m63 x]
  have h2 : q_ix (nI (q_ix (x &&& 63))) = q_ix (x &&& 63) := nI_clamp (by omega)
  rw [h2, pk_shrN (by omega) _ 1 (by decide)]
def k_load (n S W : Nat) (a : ks_M) (c : Nat) (w : Int32) : Int32 × ks_M := match (k_acc n S W a c (q_ln (k_addr a c w)) false).1 with
  | none => (2, (k_acc n S W a c (q_ln (k_addr a c w)) false).2)
  | some j => (4, ks_up (k_acc n S W a c (q_ln (k_addr a c w)) false).2 (9, c, 0) (q_ix (q_A w)) (k_wget (k_acc n S W a c (q_ln (k_addr a c w)) false).2 c j (k_addr a c w)))
def k_save (n S W : Nat) (a : ks_M) (c : Nat) (w : Int32) : Int32 × ks_M := match (k_acc n S W a c (q_ln (k_addr a c w)) true).1 with
  | none => (2, (k_acc n S W a c (q_ln (k_addr a c w)) true).2)
  | some j => (4, k_wput (k_acc n S W a c (q_ln (k_addr a c w)) true).2 c j (k_addr a c w) (k_reg (k_acc n S W a c (q_ln (k_addr a c w)) true).2 c (q_A w)))
def q_pc (x : Int32) : Prop := x = nI (q_ix x) ∧ q_ix x < 16
def k_word (a : ks_M) (c : Nat) : Int32 := a (8, c, 0) (q_ix (a (4, c, 0) 6))
def k_next (a : ks_M) (c : Nat) : ks_M := ks_up a (4, c, 0) 6 ((a (4, c, 0) 6 + 1) &&& 15)
def k_do (n S W : Nat) (a : ks_M) (c : Nat) (w x : Int32) : Int32 × ks_M :=
  if w &&& 15 = 0 then (1, ks_up a (4, c, 0) 6 x) else if w &&& 15 = 5 then k_load n S W a c w else if w &&& 15 = 6 then k_save n S W a c w else if w &&& 15 = 7 then (4, k_branch a c w) else if w &&& 15 = 8 then (4, k_branch a c w) else if w &&& 15 = 9 then k_begin (S * W) a c (q_imm w) else if w &&& 15 = 10 then (if a (4, c, 0) 8 = 0 then k_fault (S * W) a c x else k_end (S * W) a c) else if w &&& 15 = 11 then k_give (S * W) a c (q_imm w) else if w &&& 15 = 1 then (4, k_reckon a c w) else if w &&& 15 = 2 then (4, k_reckon a c w) else if w &&& 15 = 3 then (4, k_reckon a c w) else if w &&& 15 = 4 then (4, k_reckon a c w) else if w &&& 15 = 12 then (4, k_reckon a c w) else if w &&& 15 = 13 then (4, k_reckon a c w) else k_fault (S * W) a c x
def k_step (n S W : Nat) (a : ks_M) (c : Nat) : Int32 × ks_M := if a (4, c, 0) 9 = 0 then k_do n S W (k_next a c) c (k_word a c) (a (4, c, 0) 6) else (0, a)
def k_pk (S W : Nat) (a : ks_M) (l : Nat) (x : Int32) : Nat → Nat → Int32
  | 0, _ => k_get a x
  | k + 1, c => match k_find a c l W (k_first S W l) with
    | none => k_pk S W a l x k (c + 1)
    | some j => if a (7, c, j) 0 = 2 then (if a (7, c, j) 2 &&& 2 = 0 then k_wget a c j x else k_pk S W a l x k (c + 1)) else k_pk S W a l x k (c + 1)
def k_poke (n S W : Nat) (a : ks_M) (x v : Int32) : ks_M := k_put (k_send S W (-1) (q_ln x) true n 0 a) x v
theorem k_find_lt (a : ks_M) (c l : Nat) : ∀ (k j0 : Nat) {j : Nat}, k_find a c l k j0 = some j → j0 ≤ j ∧ j < j0 + k
  | 0, j0, j, h => by cases h
  | k + 1, j0, j, h => by
    rw [k_find] at h
    split at h
    · cases h; omega
    · have := k_find_lt a c l k (j0 + 1) h
      omega
theorem k_room_lt (a : ks_M) (c : Nat) : ∀ (k j0 : Nat) (q : Option Nat) {j : Nat}, k_room a c k j0 q = some j → (j0 ≤ j ∧ j < j0 + k) ∨ q = some j
  | 0, j0, q, j, h => Or.inr h
  | k + 1, j0, q, j, h => by
    rw [k_room] at h
    split at h
    · cases h; left; omega
    · rcases k_room_lt a c k (j0 + 1) _ h with h1 | h1
      · left; omega
      · split at h1
        · cases h1; left; omega
        · exact Or.inr h1
