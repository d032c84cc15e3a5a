theorem r_wj {P : ks_P} (hP : ks_ok P) {c t u : Nat} (hu : u < ks_W P) : 12 * nI c + 3 * nI t + nI u = nI (r_pj (ks_W P) c (t * ks_W P + u)) := by
  have h0 := hP.2.2.2.1
  rw [show (12 : Int32) = nI 12 from rfl, show (3 : Int32) = nI 3 from rfl, pk_mul, pk_mul, nI_add, nI_add]
  unfold r_pj
  rw [Nat.mul_comm t, Nat.mul_add_div h0, Nat.mul_add_mod, Nat.div_eq_of_lt hu, Nat.mod_eq_of_lt hu, Nat.add_zero]
def r_hit (S W : Nat) (a : ks_M) (l : Nat) (x : Int32) (c : Nat) : Option Int32 := match k_find a c l W (k_first S W l) with
  | none => none
  | some j => if a (7, c, j) 0 = 2 then (if a (7, c, j) 2 &&& 2 = 0 then some (k_wget a c j x) else none) else none
def r_pk1 (S W : Nat) (a : ks_M) (l : Nat) (x : Int32) (c : Nat) (v : Int32) : Int32 := match r_hit S W a l x c with
  | none => v
  | some w => w
def r_pk (S W : Nat) (a : ks_M) (l : Nat) (x : Int32) : Nat → Nat → Int32 → Int32
  | 0, _, v => v
  | k + 1, c, v => r_pk S W a l x k (c + 1) (r_pk1 S W a l x c v)
theorem k_pk_hit (S W : Nat) (a : ks_M) (l : Nat) (x : Int32) (k c : Nat) : k_pk S W a l x (k + 1) c = match r_hit S W a l x c with
    | none => k_pk S W a l x k (c + 1)
    | some w => w := by
  rw [k_pk, r_hit]
  cases k_find a c l W (k_first S W l) with
  | none => rfl
  | some j =>
    by_cases h : a (7, c, j) 0 = 2
    · by_cases h2 : a (7, c, j) 2 &&& 2 = 0
      · simp only [if_pos h, if_pos h2]
      · simp only [if_pos h, if_neg h2]
    · simp only [if_neg h]
theorem r_pk_none (S W : Nat) (a : ks_M) (l : Nat) (x : Int32) : ∀ (k c : Nat) (v : Int32), (∀ i, c ≤ i → i < c + k → r_hit S W a l x i = none) → r_pk S W a l x k c v = v
  | 0, _, _, _ => rfl
  | k + 1, c, v, h => by
    rw [r_pk, r_pk1, h c (Nat.le_refl c) (by omega)]
    exact r_pk_none S W a l x k (c + 1) v (fun i h1 h2 => h i (by omega) (by omega))
theorem r_pk_eq (S W : Nat) (a : ks_M) (l : Nat) (x : Int32) : ∀ (k c : Nat), (∀ i i' w, c ≤ i → i < c + k → c ≤ i' → i' < c + k → r_hit S W a l x i = some w → i ≠ i' → r_hit S W a l x i' = none) → r_pk S W a l x k c (k_get a x) = k_pk S W a l x k c
  | 0, _, _ => rfl
  | k + 1, c, h => by
    rw [r_pk, r_pk1, k_pk_hit]
    cases hc : r_hit S W a l x c with
    | none => exact r_pk_eq S W a l x k (c + 1) (fun i i' w h1 h2 h3 h4 => h i i' w (by omega) (by omega) (by omega) (by omega))
    | some w => exact r_pk_none S W a l x k (c + 1) w (fun i h1 h2 => h c i w (Nat.le_refl c) (by omega) (by omega) (by omega) hc (by omega))
