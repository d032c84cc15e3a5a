def k_regq (a : ks_M) (c r : Nat) : Int32 := if nI r = 8 then a (4, c, 0) 6 else if nI r = 9 then a (4, c, 0) 8 else if nI r = 10 then (if a (4, c, 0) 9 = 0 then 0 else 1) else a (9, c, 0) r
def k_jumpto (a : ks_M) (c : Nat) (x : Int32) : ks_M := ks_up (ks_up a (4, c, 0) 6 (x &&& 15)) (4, c, 0) 9 0
def k_wayq (a : ks_M) (c j : Nat) (x : Int32) : Int32 := if x = 0 then a (7, c, j) 0 else if a (7, c, j) 0 = 0 then -1 else k_tell a c j x
def q_who (x : Int32) (i : Nat) : Int32 := (x.toUInt32 >>> ((2 * nI i).toUInt32 &&& Int32.toUInt32 31)).toInt32 &&& 3
def q_core (n : Nat) (x : Int32) (i : Nat) : Nat := q_ix (q_who x i) % n
theorem q_who_eq (x : Int32) (i : Nat) : q_who x i = nI (q_ix (q_who x i)) := (q_and _ 2 (by decide) (by decide)).1
theorem q_who_lt (x : Int32) (i : Nat) : q_ix (q_who x i) < 4 := (q_and _ 2 (by decide) (by decide)).2
theorem q_core_eq {n : Nat} (h0 : 0 < n) (hn : n < 2 ^ 31) (x : Int32) (i : Nat) : q_who x i - q_who x i / nI n * nI n = nI (q_core n x i) := by
  have h := q_who_lt x i
  have e : q_who x i - q_who x i / nI n * nI n = nI (q_ix (q_who x i)) - nI (q_ix (q_who x i)) / nI n * nI n := by rw [← q_who_eq]
  rw [e, pk_rem (by omega) h0 hn]
  rfl
theorem q_core_lt {n : Nat} (h0 : 0 < n) (x : Int32) (i : Nat) : q_core n x i < n := Nat.mod_lt _ h0
def k_run (n S W : Nat) (x : Int32) : Nat → Nat → Int32 → ks_M → Int32 × ks_M
  | 0, _, v, a => (v, a)
  | k + 1, i, v, a => k_run n S W x k (i + 1) (if (k_step n S W a (q_core n x i)).1 = 3 then v + 1 else v) (k_step n S W a (q_core n x i)).2
def k_I (n : Nat) (a : ks_M) : Prop := ∀ c, c < n → q_pc (a (4, c, 0) 6) ∧ q_pc (a (4, c, 0) 7)
