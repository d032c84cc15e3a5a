theorem ks_J_inj {P : ks_P} (hP : ks_ok P) {r r' : Nat} (h : r < 12) (h' : r' < 12) (e : ks_J (ks_S P) (ks_W P) r = ks_J (ks_S P) (ks_W P) r') : r = r' := by
  have hS : ks_S P < 5 := by rcases hP.2.2.1 with h | h | h <;> omega
  have hW : ks_W P < 4 := by have := hP.2.2.2.2.1; omega
  have e1 := ks_I_J (ks_S P) hS (ks_W P) hW r h hP.2.2.2.1
  have e2 := ks_I_J (ks_S P) hS (ks_W P) hW r' h' hP.2.2.2.1
  rw [e, e2] at e1
  exact e1.symm
theorem ks_J_T {P : ks_P} (hP : ks_ok P) {j : Nat} (hj : j < ks_T P) : ∃ r, r < 12 ∧ ks_J (ks_S P) (ks_W P) r = j := by
  have h2 := hP.2.2.2.2.1
  have h0 := hP.2.2.2.1
  have h3 : j % ks_W P < ks_W P := Nat.mod_lt _ h0
  have h4 : j / ks_W P < ks_S P := Nat.div_lt_of_lt_mul (by rw [Nat.mul_comm]; exact hj)
  have h5 : ks_S P ≤ 4 := by rcases hP.2.2.1 with h | h | h <;> omega
  refine ⟨3 * (j / ks_W P) + j % ks_W P, by omega, ?_⟩
  unfold ks_J
  rw [show (3 * (j / ks_W P) + j % ks_W P) % 3 = j % ks_W P by omega, show (3 * (j / ks_W P) + j % ks_W P) / 3 = j / ks_W P by omega, if_pos ⟨h3, h4⟩, Nat.mul_comm]
  exact Nat.div_add_mod j (ks_W P)
theorem k_dw_ne (a : ks_M) (c : Nat) : ∀ (k : Nat) (k' : tk_K) (i' : Nat), (∀ j, j < k → ¬ (k' = (7, c, j) ∧ i' = 0)) → k_dw a c k k' i' = a k' i'
  | 0, _, _, _ => rfl
  | k + 1, k', i', h => by
    have ih := k_dw_ne a c k k' i' (fun j hj => h j (by omega))
    rw [k_dw]
    split
    · rw [ks_up_ne _ _ (h k (by omega)), ih]
    · exact ih
theorem k_dw_at (a : ks_M) (c : Nat) : ∀ (k j : Nat), j < k → k_dw a c k (7, c, j) 0 = if a (7, c, j) 2 &&& 2 = 0 then a (7, c, j) 0 else 0
  | 0, j, h => absurd h (by omega)
  | k + 1, j, h => by
    have e2 : k_dw a c k (7, c, k) 2 = a (7, c, k) 2 := k_dw_ne a c k _ _ (fun j hj q => by simp at q)
    rw [k_dw, e2]
    by_cases hk : j = k
    · subst hk
      have e0 : k_dw a c j (7, c, j) 0 = a (7, c, j) 0 := k_dw_ne a c j _ _ (fun j' hj q => by simp at q; omega)
      by_cases hm : a (7, c, j) 2 &&& 2 = 0
      · rw [if_neg (not_not_intro hm), if_pos hm, e0]
      · rw [if_pos hm, if_neg hm, ks_up_eq]
    · have ih := k_dw_at a c k j (by omega)
      split
      · rw [ks_up_ne _ _ (fun q => by simp at q; exact hk q), ih]
      · exact ih
theorem k_dm_ne (a : ks_M) (c : Nat) : ∀ (k : Nat) (k' : tk_K) (i' : Nat), (∀ j, j < k → ¬ (k' = (7, c, j) ∧ i' = 2)) → k_dm a c k k' i' = a k' i'
  | 0, _, _, _ => rfl
  | k + 1, k', i', h => by
    rw [k_dm, ks_up_ne _ _ (h k (by omega)), k_dm_ne a c k k' i' (fun j hj => h j (by omega))]
theorem k_dm_at (a : ks_M) (c : Nat) : ∀ (k j : Nat), j < k → k_dm a c k (7, c, j) 2 = 0
  | 0, j, h => absurd h (by omega)
  | k + 1, j, h => by
    rw [k_dm]
    by_cases hk : j = k
    · subst hk
      rw [ks_up_eq]
    · rw [ks_up_ne _ _ (fun q => by simp at q; exact hk q), k_dm_at a c k j (by omega)]
theorem r_ab_ne (S W : Nat) (b : ks_M) (c : Nat) : ∀ (r : Nat) (k' : tk_K) (i' : Nat), (∀ s, s < r → ¬ (k' = (7, c, ks_J S W s) ∧ (i' = 0 ∨ i' = 2))) → r_ab S W b c r k' i' = b k' i'
  | 0, _, _, _ => rfl
  | r + 1, k', i', h => by
    have ih := r_ab_ne S W b c r k' i' (fun s hs => h s (by omega))
    have hr := h r (by omega)
    rw [r_ab, ks_up_ne _ _ (fun q => hr ⟨q.1, Or.inr q.2⟩)]
    unfold r_ab1
    split
    · exact ih
    · rw [ks_up_ne _ _ (fun q => hr ⟨q.1, Or.inl q.2⟩), ih]
theorem r_ab_at {P : ks_P} (hP : ks_ok P) (b : ks_M) (c : Nat) : ∀ (r s : Nat), s < r → r ≤ 12 → r_ab (ks_S P) (ks_W P) b c r (7, c, ks_J (ks_S P) (ks_W P) s) 2 = 0 ∧ r_ab (ks_S P) (ks_W P) b c r (7, c, ks_J (ks_S P) (ks_W P) s) 0 = if b (7, c, ks_J (ks_S P) (ks_W P) s) 2 &&& 2 = 0 then b (7, c, ks_J (ks_S P) (ks_W P) s) 0 else 0
  | 0, s, h, _ => absurd h (by omega)
  | r + 1, s, h, hr => by
    have hd : ∀ x, x < r → ks_J (ks_S P) (ks_W P) r ≠ ks_J (ks_S P) (ks_W P) x := fun x hx q => by
      have := ks_J_inj hP (by omega) (by omega) q
      omega
    have e2 : r_ab (ks_S P) (ks_W P) b c r (7, c, ks_J (ks_S P) (ks_W P) r) 2 = b (7, c, ks_J (ks_S P) (ks_W P) r) 2 := r_ab_ne _ _ b c r _ _ (fun x hx q => by simp at q; exact hd x hx q)
    have e0 : r_ab (ks_S P) (ks_W P) b c r (7, c, ks_J (ks_S P) (ks_W P) r) 0 = b (7, c, ks_J (ks_S P) (ks_W P) r) 0 := r_ab_ne _ _ b c r _ _ (fun x hx q => by simp at q; exact hd x hx q)
    by_cases hk : s = r
    · subst hk
      refine ⟨by rw [r_ab, ks_up_eq], ?_⟩
      rw [r_ab, ks_up_ne _ _ (fun q => by simp at q)]
      unfold r_ab1
      rw [e2]
      by_cases hm : b (7, c, ks_J (ks_S P) (ks_W P) s) 2 &&& 2 = 0
      · rw [if_pos hm, if_pos hm, e0]
      · rw [if_neg hm, if_neg hm, ks_up_eq]
    · have ih := r_ab_at hP b c r s (by omega) (by omega)
      have hne : ks_J (ks_S P) (ks_W P) s ≠ ks_J (ks_S P) (ks_W P) r := fun q => hd s (by omega) q.symm
      have n1 : ∀ (i i' : Nat), ¬ (((7, c, ks_J (ks_S P) (ks_W P) s) : tk_K) = (7, c, ks_J (ks_S P) (ks_W P) r) ∧ i' = i) := fun i i' q => hne (by have := q.1; simp at this; exact this)
      rw [r_ab, ks_up_ne _ _ (n1 _ _), ks_up_ne _ _ (n1 _ _)]
      unfold r_ab1
      split
      · exact ih
      · rw [ks_up_ne _ _ (n1 _ _), ks_up_ne _ _ (n1 _ _)]
        exact ih
theorem r_ab_eq {P : ks_P} (hP : ks_ok P) (b : ks_M) (c : Nat) (hj : ∀ j, ks_T P ≤ j → b (7, c, j) 2 = 0) : r_ab (ks_S P) (ks_W P) b c 12 = k_dm (k_dw b c (ks_T P)) c (ks_T P) := by
  funext k' i'
  by_cases hk : ∃ j, k' = (7, c, j)
  · obtain ⟨j, rfl⟩ := hk
    have dwm : ∀ j' : Nat, k_dw b c (ks_T P) (7, c, j') 2 = b (7, c, j') 2 := fun j' => k_dw_ne b c _ _ _ (fun _ _ q => by simp at q)
    by_cases hjT : j < ks_T P
    · obtain ⟨r, hr, rfl⟩ := ks_J_T hP hjT
      have h1 := r_ab_at hP b c 12 r hr (by omega)
      by_cases i2 : i' = 2
      · subst i2
        rw [h1.1, k_dm_at _ c _ _ hjT]
      · rw [k_dm_ne _ c _ _ _ (fun _ _ q => i2 q.2)]
        by_cases i0 : i' = 0
        · subst i0
          rw [h1.2, k_dw_at b c _ _ hjT]
        · rw [k_dw_ne b c _ _ _ (fun _ _ q => i0 q.2), r_ab_ne _ _ b c 12 _ _ (fun _ _ q => by rcases q.2 with q | q <;> omega)]
    · rw [k_dm_ne _ c _ _ _ (fun j2 h2 q => by simp at q; omega), k_dw_ne b c _ _ _ (fun j2 h2 q => by simp at q; omega)]
      by_cases hh : ∃ r, r < 12 ∧ ks_J (ks_S P) (ks_W P) r = j
      · obtain ⟨r, hr, rfl⟩ := hh
        have h1 := r_ab_at hP b c 12 r hr (by omega)
        have h0 := hj _ (Nat.not_lt.mp hjT)
        by_cases i2 : i' = 2
        · subst i2
          rw [h1.1, h0]
        · by_cases i0 : i' = 0
          · subst i0
            rw [h1.2, h0, if_pos (by decide)]
          · rw [r_ab_ne _ _ b c 12 _ _ (fun _ _ q => by rcases q.2 with q | q <;> omega)]
      · rw [r_ab_ne _ _ b c 12 _ _ (fun s hs q => hh ⟨s, hs, by have := q.1; simp at this; exact this.symm⟩)]
  · rw [k_dm_ne _ c _ _ _ (fun j _ q => hk ⟨j, q.1⟩), k_dw_ne b c _ _ _ (fun j _ q => hk ⟨j, q.1⟩), r_ab_ne _ _ b c 12 _ _ (fun s _ q => hk ⟨_, q.1⟩)]
theorem r_cp_at (b : ks_M) (c : Nat) : ∀ (r : Nat), r_cp b c r = k_cp b (10, c, 0) (9, c, 0) r
  | 0 => by
    funext k i
    simp [r_cp, k_cp]
  | r + 1 => by
    rw [r_cp, r_cp_at b c r]
    funext k i
    by_cases h : k = (9, c, 0) ∧ i = r
    · obtain ⟨rfl, rfl⟩ := h
      rw [ks_up_eq]
      simp [k_cp]
    · rw [ks_up_ne _ _ h]
      unfold k_cp
      by_cases h1 : k = (9, c, 0)
      · subst h1
        have h2 : ¬ i = r := fun q => h ⟨rfl, q⟩
        by_cases h3 : i < r
        · rw [if_pos ⟨rfl, h3⟩, if_pos ⟨rfl, by omega⟩]
        · rw [if_neg (fun q => h3 q.2), if_neg (fun q => by have := q.2; omega)]
      · rw [if_neg (fun q => h1 q.1), if_neg (fun q => h1 q.1)]
theorem v12k (S W : Nat) {c r : Nat} (hr : r < 12) : ((7, (12 * c + r) / 12, ks_J S W ((12 * c + r) % 12)) : tk_K) = (7, c, ks_J S W r) := by
  rw [show (12 * c + r) / 12 = c by omega, show (12 * c + r) % 12 = r by omega]
theorem v8k (f : Nat) {c r : Nat} (hr : r < 8) : ((f, (8 * c + r) / 8, 0) : tk_K) = (f, c, 0) := by
  rw [show (8 * c + r) / 8 = c by omega]
theorem v8i {c r : Nat} (hr : r < 8) : (8 * c + r) % 8 = r := by omega
theorem v6k (f : Nat) {c r : Nat} (hr : r < 6) : ((f, (6 * c + r) / 6, 0) : tk_K) = (f, c, 0) := by
  rw [show (6 * c + r) / 6 = c by omega]
theorem v6i {c r : Nat} (hr : r < 6) : (6 * c + r) % 6 = r := by omega
theorem v16k (f : Nat) {c r : Nat} (hr : r < 16) : ((f, (16 * c + r) / 16, 0) : tk_K) = (f, c, 0) := by
  rw [show (16 * c + r) / 16 = c by omega]
theorem v16i {c r : Nat} (hr : r < 16) : (16 * c + r) % 16 = r := by omega
theorem q_mul (m c r : Nat) : nI m * nI c + nI r = nI (m * c + r) := by rw [pk_mul, nI_add]
theorem q_dec (x : Int32) : x + Int32.ofInt (-1) = x - 1 := by
  rw [show Int32.ofInt (-1) = -1 from by decide, Int32.sub_eq_add_neg]
theorem r_room0 {b : ks_M} {c F W : Nat} (h : r_dn b c F W none = none) : k_room b c W F none = r_up b c W F none := by
  rw [r_dn_eq] at h
  rw [k_room_eq]
  cases hi : k_inv b c W F with
  | none => rfl
  | some j => rw [hi] at h; cases h
theorem r_room1 {b : ks_M} {c F W j : Nat} (h : r_dn b c F W none = some j) : k_room b c W F none = some j := by
  rw [r_dn_eq] at h
  rw [k_room_eq]
  cases hi : k_inv b c W F with
  | none => rw [hi] at h; cases h
  | some i => rw [hi] at h; exact h
theorem k_keep1_7 (b : ks_M) (c j : Nat) (c' j' i : Nat) : k_keep1 b c j (7, c', j') i = b (7, c', j') i := by
  unfold k_keep1 k_put
  exact ks_up_nk b _ (by simp)
