def k_mv (n S W : Nat) (b : ks_M) (c r : Nat) (x : Int32) (w : Bool) : Int32 × ks_M := match (k_acc n S W b c (q_ln x) w).1 with
  | none => (2, (k_acc n S W b c (q_ln x) w).2)
  | some j => (4, if w = true then k_wput (k_acc n S W b c (q_ln x) w).2 c j x ((k_acc n S W b c (q_ln x) w).2 (9, c, 0) r) else ks_up (k_acc n S W b c (q_ln x) w).2 (9, c, 0) r (k_wget (k_acc n S W b c (q_ln x) w).2 c j x))
theorem k_load_mv (n S W : Nat) (a : ks_M) (c : Nat) (w : Int32) : k_load n S W a c w = k_mv n S W a c (q_ix (q_A w)) (k_addr a c w) false := by
  unfold k_load k_mv
  cases (k_acc n S W a c (q_ln (k_addr a c w)) false).1 <;> rfl
theorem k_save_mv (n S W : Nat) (a : ks_M) (c : Nat) (w : Int32) : k_save n S W a c w = k_mv n S W a c (q_ix (q_A w)) (k_addr a c w) true := by
  unfold k_save k_mv
  cases (k_acc n S W a c (q_ln (k_addr a c w)) true).1 <;> rfl
theorem q_dv (x : Int32) : (x &&& 63) / 2 = nI (q_ln x) := by
  have h := q_l63 x
  have e : (x &&& 63) / 2 = nI (q_ix (x &&& 63)) / nI 2 := by rw [← q_m63 x]; rfl
  rw [e, pk_div (by omega) (by decide) (by decide)]
  rfl
theorem q_ra (c : Nat) (w : Int32) : 8 * nI c + q_A w = nI (8 * c + q_ix (q_A w)) := by
  have h := q_mul 8 c (q_ix (q_A w))
  rw [← q_mA w] at h
  exact h
theorem q_rb (c : Nat) (w : Int32) : 8 * nI c + q_B w = nI (8 * c + q_ix (q_B w)) := by
  have h := q_mul 8 c (q_ix (q_B w))
  rw [← q_mB w] at h
  exact h
theorem q_rc (c : Nat) (w : Int32) : 8 * nI c + q_C w = nI (8 * c + q_ix (q_C w)) := by
  have h := q_mul 8 c (q_ix (q_C w))
  rw [← q_mC w] at h
  exact h
theorem q_pg {x : Int32} (hp : q_pc x) (c : Nat) : 16 * nI c + x = nI (16 * c + q_ix x) := by
  have h := q_mul 16 c (q_ix x)
  rw [← hp.1] at h
  exact h
theorem q_back {x : Int32} (hp : q_pc x) : (((x + 1) &&& 15) + 15) &&& 15 = x := by
  obtain ⟨h1, h2⟩ := hp
  generalize q_ix x = p at h1 h2
  subst h1
  rw [nI_1, pk_andN (by omega) 4 (by decide), show (15 : Int32) = nI 15 from rfl, nI_add, show nI 15 = (15 : Int32) from rfl, pk_andN (by omega) 4 (by decide)]
  congr 1
  omega
theorem k_up_back (b : ks_M) (k : tk_K) (i : Nat) (v : Int32) : ks_up (ks_up b k i v) k i (b k i) = b := by
  funext k' i'
  by_cases h : k' = k ∧ i' = i
  · obtain ⟨rfl, rfl⟩ := h
    rw [ks_up_eq]
  · rw [ks_up_ne _ _ h, ks_up_ne _ _ h]
def r_nt (b : ks_M) (c : Nat) : Nat → ks_M
  | 0 => b
  | r + 1 => ks_up (r_nt b c r) (10, c, 0) r (r_nt b c r (9, c, 0) r)
theorem r_nt_at (b : ks_M) (c : Nat) : ∀ (r : Nat), r_nt b c r = k_cp b (9, c, 0) (10, c, 0) r
  | 0 => by
    funext k i
    simp [r_nt, k_cp]
  | r + 1 => by
    rw [r_nt, r_nt_at b c r]
    funext k i
    by_cases h : k = (10, c, 0) ∧ i = r
    · obtain ⟨rfl, rfl⟩ := h
      rw [ks_up_eq]
      simp [k_cp]
    · rw [ks_up_ne _ _ h]
      unfold k_cp
      by_cases h1 : k = (10, c, 0)
      · subst h1
        have h2 : ¬ i = r := fun q => h ⟨rfl, q⟩
        by_cases h3 : i < r
        · rw [if_pos ⟨rfl, h3⟩, if_pos ⟨rfl, by omega⟩]
        · rw [if_neg (fun q => h3 q.2), if_neg (fun q => by have := q.2; omega)]
      · rw [if_neg (fun q => h1 q.1), if_neg (fun q => h1 q.1)]
theorem r_nt_4 (b : ks_M) (c r i : Nat) : r_nt b c r (4, c, 0) i = b (4, c, 0) i := by
  rw [r_nt_at]
  exact k_cp_ne b _ _ (by simp)
def r_dm (S W : Nat) (b : ks_M) (c : Nat) : Nat → ks_M
  | 0 => b
  | r + 1 => ks_up (r_dm S W b c r) (7, c, ks_J S W r) 2 0
theorem r_dm_ne (S W : Nat) (b : ks_M) (c : Nat) : ∀ (r : Nat) (k' : tk_K) (i' : Nat), (∀ s, s < r → ¬ (k' = (7, c, ks_J S W s) ∧ i' = 2)) → r_dm S W b c r k' i' = b k' i'
  | 0, _, _, _ => rfl
  | r + 1, k', i', h => by
    rw [r_dm, ks_up_ne _ _ (h r (by omega)), r_dm_ne S W b c r k' i' (fun s hs => h s (by omega))]
theorem r_dm_at (S W : Nat) (b : ks_M) (c : Nat) : ∀ (r s : Nat), s < r → r_dm S W b c r (7, c, ks_J S W s) 2 = 0
  | 0, s, h => absurd h (by omega)
  | r + 1, s, h => by
    rw [r_dm]
    by_cases hk : ks_J S W s = ks_J S W r
    · rw [hk, ks_up_eq]
    · rw [ks_up_ne _ _ (fun q => hk (by have := q.1; simp at this; exact this))]
      by_cases hs : s = r
      · subst hs; exact absurd rfl hk
      · exact r_dm_at S W b c r s (by omega)
theorem r_dm_eq {P : ks_P} (hP : ks_ok P) (b : ks_M) (c : Nat) (hj : ∀ j, ks_T P ≤ j → b (7, c, j) 2 = 0) : r_dm (ks_S P) (ks_W P) b c 12 = k_dm b c (ks_T P) := by
  funext k' i'
  by_cases hk : ∃ j, k' = (7, c, j) ∧ i' = 2
  · obtain ⟨j, rfl, rfl⟩ := hk
    by_cases hjT : j < ks_T P
    · obtain ⟨r, hr, rfl⟩ := ks_J_T hP hjT
      rw [r_dm_at _ _ b c 12 r hr, k_dm_at _ _ _ _ hjT]
    · rw [k_dm_ne _ _ _ _ _ (fun j2 h2 q => by simp at q; omega)]
      by_cases hh : ∃ r, r < 12 ∧ ks_J (ks_S P) (ks_W P) r = j
      · obtain ⟨r, hr, rfl⟩ := hh
        rw [r_dm_at _ _ b c 12 r hr, hj _ (Nat.not_lt.mp hjT)]
      · rw [r_dm_ne _ _ b c 12 _ _ (fun s hs q => hh ⟨s, hs, by have := q.1; simp at this; exact this.symm⟩)]
  · rw [k_dm_ne _ _ _ _ _ (fun j _ q => hk ⟨j, q⟩), r_dm_ne _ _ b c 12 _ _ (fun s _ q => hk ⟨_, q⟩)]
theorem v12k2 {P : ks_P} {c r : Nat} (hr : r < 12) : ((7, (12 * c + r) / 12, ks_J (ks_S P) (ks_W P) ((12 * c + r) % 12)) : tk_K) = (7, c, ks_J (ks_S P) (ks_W P) r) := v12k _ _ hr
theorem q_sh (x : Int32) {i : Nat} (hi : i < 16) : (x >>> ((2 * nI i) &&& 31)) &&& 3 = q_who x i := by
  have hk : ((2 * nI i) &&& 31 : Int32) = nI (2 * i) := by
    rw [show (2 : Int32) = nI 2 from rfl, pk_mul, pk_andN (by omega) 5 (by decide), Nat.mod_eq_of_lt (by omega)]
  have e1 : ∀ j, j < 16 → ((nI (2 * j)).toBitVec.smod 32).toNat = 2 * j := by decide +kernel
  have e2 : ∀ j, j < 16 → (((2 * nI j : Int32).toUInt32 &&& Int32.toUInt32 31).toBitVec % 32).toNat = 2 * j := by decide +kernel
  have h1 := pk_shr x (nI (2 * i)) (2 * i) (e1 i hi)
  have h2 := pk_ushr x (2 * nI i) (2 * i) (e2 i hi)
  unfold q_who
  rw [hk, pk_and _ 2 (by decide), pk_and _ 2 (by decide), h2]
  congr 1
  have h3 : (x >>> nI (2 * i)).toInt = (x >>> nI (2 * i)).toBitVec.toInt := rfl
  have h4 : x.toInt = x.toBitVec.toInt := rfl
  rw [h3, h4, BitVec.toInt_eq_toNat_bmod, BitVec.toInt_eq_toNat_bmod] at h1
  have hA : (x >>> nI (2 * i)).toBitVec.toNat < 4294967296 := BitVec.isLt _
  have hB : x.toBitVec.toNat < 4294967296 := BitVec.isLt _
  generalize (x >>> nI (2 * i)).toBitVec.toNat = A at h1 hA ⊢
  generalize x.toBitVec.toNat = B at h1 hB ⊢
  have key : ∀ n : Nat, n < 4294967296 → (n : Int).bmod (2 ^ 32) = n ∨ (n : Int).bmod (2 ^ 32) = n - 4294967296 := by
    intro n hn
    unfold Int.bmod
    simp only [Nat.reducePow]
    split <;> omega
  rw [Int.shiftRight_eq_div_pow] at h1
  have hc : i = 0 ∨ i = 1 ∨ i = 2 ∨ i = 3 ∨ i = 4 ∨ i = 5 ∨ i = 6 ∨ i = 7 ∨ i = 8 ∨ i = 9 ∨ i = 10 ∨ i = 11 ∨ i = 12 ∨ i = 13 ∨ i = 14 ∨ i = 15 := by omega
  clear hi hk e1 e2 h2 h3 h4
  rcases key A hA with e | e <;> rcases key B hB with f | f <;> rw [e, f] at h1 <;> rcases hc with rfl | rfl | rfl | rfl | rfl | rfl | rfl | rfl | rfl | rfl | rfl | rfl | rfl | rfl | rfl | rfl <;> simp only [Nat.reduceMul, Nat.reducePow] at h1 ⊢ <;> omega
