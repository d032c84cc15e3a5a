theorem q_ix_nI {n : Nat} (h : n < 2 ^ 31) : q_ix (nI n) = n := nI_clamp h
def r_pj (W c j : Nat) : Nat := 12 * c + 3 * (j / W) + j % W
theorem r_pj_lt {P : ks_P} (hP : ks_ok P) {c j : Nat} (hc : c < ks_n P) (hj : j < ks_T P) : r_pj (ks_W P) c j < 36 := by
  have h1 := hP.2.1
  have h2 := hP.2.2.2.2.1
  have h0 := hP.2.2.2.1
  have h3 : j % ks_W P < ks_W P := Nat.mod_lt _ h0
  have h4 : j / ks_W P < ks_S P := Nat.div_lt_of_lt_mul (by rw [Nat.mul_comm]; exact hj)
  have h5 : ks_S P ≤ 4 := by rcases hP.2.2.1 with h | h | h <;> omega
  unfold r_pj
  omega
theorem r_pj_F {P : ks_P} (hP : ks_ok P) (c y : Nat) {u : Nat} (hu : u < ks_W P) : 12 * c + 3 * (y % ks_S P) + u = r_pj (ks_W P) c (k_first (ks_S P) (ks_W P) y + u) := by
  have h0 := hP.2.2.2.1
  unfold r_pj k_first
  rw [Nat.mul_comm (y % ks_S P), Nat.mul_add_div h0, Nat.mul_add_mod, Nat.div_eq_of_lt hu, Nat.mod_eq_of_lt hu]
  omega
theorem ks_vk_pj {P : ks_P} (hP : ks_ok P) {c j : Nat} (hj : j < ks_T P) : ((7, r_pj (ks_W P) c j / 12, ks_J (ks_S P) (ks_W P) (r_pj (ks_W P) c j % 12)) : tk_K) = (7, c, j) := by
  have h2 := hP.2.2.2.2.1
  have h0 := hP.2.2.2.1
  have h3 : j % ks_W P < ks_W P := Nat.mod_lt _ h0
  have h4 : j / ks_W P < ks_S P := Nat.div_lt_of_lt_mul (by rw [Nat.mul_comm]; exact hj)
  have h5 : ks_S P ≤ 4 := by rcases hP.2.2.1 with h | h | h <;> omega
  have e1 : r_pj (ks_W P) c j / 12 = c := by unfold r_pj; omega
  have e2 : r_pj (ks_W P) c j % 12 = 3 * (j / ks_W P) + j % ks_W P := by unfold r_pj; omega
  have e3 : (3 * (j / ks_W P) + j % ks_W P) % 3 = j % ks_W P := by omega
  have e4 : (3 * (j / ks_W P) + j % ks_W P) / 3 = j / ks_W P := by omega
  have e5 : ks_J (ks_S P) (ks_W P) (3 * (j / ks_W P) + j % ks_W P) = j := by
    unfold ks_J
    rw [e3, e4, if_pos ⟨h3, h4⟩, Nat.mul_comm]
    exact Nat.div_add_mod j (ks_W P)
  rw [e1, e2, e5]
def r_int (W c : Nat) (q : Option Nat) : Int32 := match q with
  | none => -1
  | some j => nI (r_pj W c j)
theorem nI_nm1 {n : Nat} (h : n < 2 ^ 31) : ¬ nI n = -1 := fun e => by
  have h1 := nI_toInt h
  rw [e] at h1
  have h2 : (-1 : Int32).toInt = -1 := by decide
  omega
theorem r_place {P : ks_P} (hP : ks_ok P) {c y u : Nat} (hy : y < 32) (hu : u < ks_W P) : 12 * nI c + 3 * (nI y - nI y / nI (ks_S P) * nI (ks_S P)) + nI u = nI (r_pj (ks_W P) c (k_first (ks_S P) (ks_W P) y + u)) := by
  have h0 : 0 < ks_S P := by rcases hP.2.2.1 with h | h | h <;> omega
  have h5 : ks_S P ≤ 4 := by rcases hP.2.2.1 with h | h | h <;> omega
  rw [pk_rem (by omega) h0 (by omega), show (12 : Int32) = nI 12 from rfl, show (3 : Int32) = nI 3 from rfl, pk_mul, pk_mul, nI_add, nI_add, r_pj_F hP c y hu]
def r_mat (b : ks_M) (c y j : Nat) : Prop := ¬ b (7, c, j) 0 = 0 ∧ b (7, c, j) 1 = nI y
def r_find (b : ks_M) (c y F : Nat) : Nat → Option Nat
  | 0 => none
  | u + 1 => if ¬ b (7, c, F + u) 0 = 0 ∧ b (7, c, F + u) 1 = nI y then some (F + u) else r_find b c y F u
theorem k_find_snoc (b : ks_M) (c y : Nat) : ∀ (k F : Nat), k_find b c y (k + 1) F = match k_find b c y k F with
    | some j => some j
    | none => if ¬ b (7, c, F + k) 0 = 0 ∧ b (7, c, F + k) 1 = nI y then some (F + k) else none
  | 0, F => by
    rw [k_find, k_find]
    rfl
  | k + 1, F => by
    rw [k_find, k_find_snoc b c y k (F + 1)]
    conv => rhs; rw [k_find]
    by_cases h : ¬ b (7, c, F) 0 = 0 ∧ b (7, c, F) 1 = nI y
    · rw [if_pos h, if_pos h]
    · rw [if_neg h, if_neg h, show F + 1 + k = F + (k + 1) by omega]
theorem k_find_mat (b : ks_M) (c y : Nat) : ∀ (k F : Nat) {j : Nat}, k_find b c y k F = some j → r_mat b c y j
  | 0, F, j, h => by cases h
  | k + 1, F, j, h => by
    rw [k_find] at h
    split at h
    · rename_i h1
      cases h
      exact h1
    · exact k_find_mat b c y k (F + 1) h
def r_uniq (b : ks_M) (c T : Nat) : Prop := ∀ j j', j < T → j' < T → ¬ b (7, c, j) 0 = 0 → ¬ b (7, c, j') 0 = 0 → b (7, c, j) 1 = b (7, c, j') 1 → j = j'
theorem r_find_eq {b : ks_M} {c y F T : Nat} (hu : r_uniq b c T) : ∀ (k : Nat), F + k ≤ T → r_find b c y F k = k_find b c y k F
  | 0, _ => rfl
  | k + 1, hk => by
    rw [r_find, k_find_snoc, r_find_eq hu k (by omega)]
    cases h : k_find b c y k F with
    | none => rfl
    | some j =>
      have h1 := k_find_lt b c y k F h
      have h2 := k_find_mat b c y k F h
      rw [if_neg]
      intro q
      have := hu j (F + k) (by omega) (by omega) h2.1 q.1 (h2.2.trans q.2.symm)
      omega
def k_inv (b : ks_M) (c : Nat) : Nat → Nat → Option Nat
  | 0, _ => none
  | k + 1, j => if b (7, c, j) 0 = 0 then some j else k_inv b c k (j + 1)
def r_dn (b : ks_M) (c F : Nat) : Nat → Option Nat → Option Nat
  | 0, q => q
  | i + 1, q => r_dn b c F i (if b (7, c, F + i) 0 = 0 then some (F + i) else q)
def r_up (b : ks_M) (c : Nat) : Nat → Nat → Option Nat → Option Nat
  | 0, _, q => q
  | k + 1, j, q => r_up b c k (j + 1) (if b (7, c, j) 2 = 0 ∧ k_bet b c j q = true then some j else q)
theorem k_room_eq (b : ks_M) (c : Nat) : ∀ (k j : Nat) (q : Option Nat), k_room b c k j q = match k_inv b c k j with
    | some i => some i
    | none => r_up b c k j q
  | 0, j, q => rfl
  | k + 1, j, q => by
    rw [k_room, k_inv, r_up]
    by_cases h : b (7, c, j) 0 = 0
    · rw [if_pos h, if_pos h]
    · rw [if_neg h, if_neg h, k_room_eq b c k (j + 1)]
theorem k_inv_snoc (b : ks_M) (c : Nat) : ∀ (k F : Nat), k_inv b c (k + 1) F = match k_inv b c k F with
    | some j => some j
    | none => if b (7, c, F + k) 0 = 0 then some (F + k) else none
  | 0, F => by
    rw [k_inv, k_inv]
    rfl
  | k + 1, F => by
    rw [k_inv, k_inv_snoc b c k (F + 1)]
    conv => rhs; rw [k_inv]
    by_cases h : b (7, c, F) 0 = 0
    · rw [if_pos h, if_pos h]
    · rw [if_neg h, if_neg h, show F + 1 + k = F + (k + 1) by omega]
theorem r_dn_eq (b : ks_M) (c F : Nat) : ∀ (i : Nat) (q : Option Nat), r_dn b c F i q = match k_inv b c i F with
    | some j => some j
    | none => q
  | 0, q => rfl
  | i + 1, q => by
    rw [r_dn, r_dn_eq b c F i, k_inv_snoc]
    cases k_inv b c i F with
    | some j => rfl
    | none =>
      by_cases h : b (7, c, F + i) 0 = 0
      · simp [h]
      · simp [h]
def k_abv (T : Nat) (a : ks_M) (c q : Nat) (v : Int32) : ks_M := ks_up (k_ab2 T a c v) (11, c, 0) q (k_ab2 T a c v (11, c, 0) q + 1)
def r_ab1 (S W : Nat) (b : ks_M) (c r : Nat) : ks_M := if b (7, c, ks_J S W r) 2 &&& 2 = 0 then b else ks_up b (7, c, ks_J S W r) 0 0
def r_ab (S W : Nat) (b : ks_M) (c : Nat) : Nat → ks_M
  | 0 => b
  | r + 1 => ks_up (r_ab1 S W (r_ab S W b c r) c r) (7, c, ks_J S W r) 2 0
def r_cp (b : ks_M) (c : Nat) : Nat → ks_M
  | 0 => b
  | r + 1 => ks_up (r_cp b c r) (9, c, 0) r (r_cp b c r (10, c, 0) r)
def q_lin (x : Int32) : Prop := ∃ l : Nat, l < 32 ∧ x = nI l
theorem q_2x {x : Int32} (h : q_lin x) : 2 * x = nI (q_ix ((2 * x) &&& 63)) ∧ 2 * x + 1 = nI (q_ix ((2 * x + 1) &&& 63)) := by
  obtain ⟨l, hl, rfl⟩ := h
  have e1 : 2 * nI l = nI (2 * l) := by rw [show (2 : Int32) = nI 2 from rfl, pk_mul]
  have e2 : 2 * nI l + 1 = nI (2 * l + 1) := by rw [e1, nI_1]
  rw [e1, nI_1, pk_andN (by omega) 6 (by decide), pk_andN (by omega) 6 (by decide), q_ix_nI (by omega), q_ix_nI (by omega), Nat.mod_eq_of_lt (by omega), Nat.mod_eq_of_lt (by omega)]
  exact ⟨rfl, rfl⟩
