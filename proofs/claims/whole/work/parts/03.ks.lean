abbrev ks_M : Type := tk_K → Nat → Int32
def ks_up (a : ks_M) (k : tk_K) (i : Nat) (v : Int32) : ks_M := fun k' i' => if k' = k ∧ i' = i then v else a k' i'
theorem ks_up_eq (a : ks_M) (k : tk_K) (i : Nat) (v : Int32) : ks_up a k i v k i = v := by simp [ks_up]
theorem ks_up_ne (a : ks_M) {k k' : tk_K} {i i' : Nat} (v : Int32) (h : ¬ (k' = k ∧ i' = i)) : ks_up a k i v k' i' = a k' i' := if_neg h
theorem ks_up_nk (a : ks_M) {k k' : tk_K} {i i' : Nat} (v : Int32) (h : k' ≠ k) : ks_up a k i v k' i' = a k' i' := if_neg (fun q => h q.1)
abbrev ks_O : Type := Int64 × Int32
abbrev ks_P : Type := va_G × (Nat → ClassId) × (tk_K → Nat) × Nat × Nat × Nat × Heap
abbrev ks_n (P : ks_P) : Nat := P.2.2.2.1
abbrev ks_S (P : ks_P) : Nat := P.2.2.2.2.1
abbrev ks_W (P : ks_P) : Nat := P.2.2.2.2.2.1
abbrev ks_T (P : ks_P) : Nat := ks_S P * ks_W P
def ks_kd (P : ks_P) (k : tk_K) : Nat ⊕ (Nat × Nat) := match k.1 with
  | 0 => .inl 0
  | 1 => .inl 1
  | 2 => .inr (0, 64)
  | 3 => .inr (3, ks_n P)
  | 4 => .inl 2
  | 5 => .inl 3
  | 6 => .inr (4, ks_T P)
  | 7 => .inl 4
  | 8 => .inr (0, 16)
  | 9 => .inr (0, 8)
  | 10 => .inr (0, 8)
  | 11 => .inr (0, 6)
  | 12 => .inl 5
  | 13 => .inr (0, 64)
  | 14 => .inr (0, 24)
  | 15 => .inr (0, 24)
  | 16 => .inr (0, 48)
  | 17 => .inr (0, 3)
  | 18 => .inr (0, 3)
  | 19 => .inr (0, 3)
  | 20 => .inr (1, 3)
  | 21 => .inr (0, 18)
  | 28 => .inr (2, 1)
  | _ => .inr (0, 36)
def ks_do (P : ks_P) (k : tk_K) : Prop := match k.1 with
  | 4 => k.2.1 < ks_n P ∧ k.2.2 = 0
  | 5 => k.2.1 < ks_n P ∧ k.2.2 = 0
  | 6 => k.2.1 < ks_n P ∧ k.2.2 = 0
  | 7 => k.2.1 < ks_n P ∧ k.2.2 < ks_T P
  | 8 => k.2.1 < ks_n P ∧ k.2.2 = 0
  | 9 => k.2.1 < ks_n P ∧ k.2.2 = 0
  | 10 => k.2.1 < ks_n P ∧ k.2.2 = 0
  | 11 => k.2.1 < ks_n P ∧ k.2.2 = 0
  | f => f ≤ 28 ∧ k.2.1 = 0 ∧ k.2.2 = 0
def ks_dm (P : ks_P) : tk_W := (ks_do P, none)
def ks_aT (P : ks_P) : List (ClassId × FieldType) := [(P.2.1 0, .int), (P.2.1 1, .boolean), (P.2.1 2, .long), (P.2.1 3, .object R_Core), (P.2.1 4, .object R_Way)]
def ks_G (P : ks_P) : tk_G := (P.1, classes, ks_aT P, P.2.2.1, ks_kd P, ks_do P, NW, P.2.2.2.2.2.2)
abbrev ks_ad (P : ks_P) : tk_K → Nat := tk_ad (ks_G P)
def ks_J (S W r : Nat) : Nat := if r % 3 < W ∧ r / 3 < S then (r / 3) * W + r % 3 else 12 + r
def ks_I (W j : Nat) : Nat := if j < 12 then (j / W) * 3 + j % W else j - 12
theorem ks_I_J : ∀ S, S < 5 → ∀ W, W < 4 → ∀ r, r < 12 → 0 < W → ks_I W (ks_J S W r) = r := by decide +kernel
def ks_vk (S W f i : Nat) : tk_K := match f with
  | 13 => (2, 0, 0)
  | 14 => (9, i / 8, 0)
  | 15 => (10, i / 8, 0)
  | 16 => (8, i / 16, 0)
  | 17 => (4, i, 0)
  | 18 => (4, i, 0)
  | 19 => (4, i, 0)
  | 20 => (4, i, 0)
  | 21 => (11, i / 6, 0)
  | _ => (7, i / 12, ks_J S W (i % 12))
def ks_vi (f i : Nat) : Nat := match f with
  | 13 => i
  | 14 => i % 8
  | 15 => i % 8
  | 16 => i % 16
  | 17 => 6
  | 18 => 8
  | 19 => 7
  | 20 => 9
  | 21 => i % 6
  | f => f - 22
def ks_iv (W : Nat) (k : tk_K) (v : Nat) : Nat × Nat := match k.1 with
  | 2 => (13, v)
  | 9 => (14, 8 * k.2.1 + v)
  | 10 => (15, 8 * k.2.1 + v)
  | 8 => (16, 16 * k.2.1 + v)
  | 4 => (match v with
    | 6 => (17, k.2.1)
    | 8 => (18, k.2.1)
    | 7 => (19, k.2.1)
    | _ => (20, k.2.1))
  | 11 => (21, 6 * k.2.1 + v)
  | _ => (22 + v, 12 * k.2.1 + ks_I W k.2.2)
theorem ks_iv_v {S W : Nat} (hS : S < 5) (hW : W < 4) (h0 : 0 < W) : ∀ (f i : Nat), 13 ≤ f → f ≤ 27 → ks_iv W (ks_vk S W f i) (ks_vi f i) = (f, i) := by
  intro f i h1 h2
  match f, h1, h2 with
  | 13, _, _ => exact rfl
  | 14, _, _ => exact by show (14, 8 * (i / 8) + i % 8) = (14, i); rw [show 8 * (i / 8) + i % 8 = i by omega]
  | 15, _, _ => exact by show (15, 8 * (i / 8) + i % 8) = (15, i); rw [show 8 * (i / 8) + i % 8 = i by omega]
  | 16, _, _ => exact by show (16, 16 * (i / 16) + i % 16) = (16, i); rw [show 16 * (i / 16) + i % 16 = i by omega]
  | 17, _, _ => exact rfl
  | 18, _, _ => exact rfl
  | 19, _, _ => exact rfl
  | 20, _, _ => exact rfl
  | 21, _, _ => exact by show (21, 6 * (i / 6) + i % 6) = (21, i); rw [show 6 * (i / 6) + i % 6 = i by omega]
  | 22, _, _ => exact by show (22 + (22 - 22), 12 * (i / 12) + ks_I W (ks_J S W (i % 12))) = (22, i); rw [ks_I_J S hS W hW (i % 12) (by omega) h0, show 12 * (i / 12) + i % 12 = i by omega]
  | 23, _, _ => exact by show (22 + (23 - 22), 12 * (i / 12) + ks_I W (ks_J S W (i % 12))) = (23, i); rw [ks_I_J S hS W hW (i % 12) (by omega) h0, show 12 * (i / 12) + i % 12 = i by omega]
  | 24, _, _ => exact by show (22 + (24 - 22), 12 * (i / 12) + ks_I W (ks_J S W (i % 12))) = (24, i); rw [ks_I_J S hS W hW (i % 12) (by omega) h0, show 12 * (i / 12) + i % 12 = i by omega]
  | 25, _, _ => exact by show (22 + (25 - 22), 12 * (i / 12) + ks_I W (ks_J S W (i % 12))) = (25, i); rw [ks_I_J S hS W hW (i % 12) (by omega) h0, show 12 * (i / 12) + i % 12 = i by omega]
  | 26, _, _ => exact by show (22 + (26 - 22), 12 * (i / 12) + ks_I W (ks_J S W (i % 12))) = (26, i); rw [ks_I_J S hS W hW (i % 12) (by omega) h0, show 12 * (i / 12) + i % 12 = i by omega]
  | 27, _, _ => exact by show (22 + (27 - 22), 12 * (i / 12) + ks_I W (ks_J S W (i % 12))) = (27, i); rw [ks_I_J S hS W hW (i % 12) (by omega) h0, show 12 * (i / 12) + i % 12 = i by omega]
  | f + 28, _, h => exact absurd h (by omega)
theorem ks_v_inj {S W : Nat} (hS : S < 5) (hW : W < 4) (h0 : 0 < W) {f f' i i' : Nat} (h1 : 13 ≤ f) (h2 : f ≤ 27) (h1' : 13 ≤ f') (h2' : f' ≤ 27) (hk : ks_vk S W f i = ks_vk S W f' i') (hv : ks_vi f i = ks_vi f' i') : f = f' ∧ i = i' := by
  have e1 := ks_iv_v hS hW h0 f i h1 h2
  have e2 := ks_iv_v hS hW h0 f' i' h1' h2'
  rw [hk, hv, e2] at e1
  exact ⟨(congrArg Prod.fst e1).symm, (congrArg Prod.snd e1).symm⟩
def ks_int (k : tk_K) (j : Nat) : Bool := match k.1 with
  | 0 => decide (2 ≤ j)
  | 2 => true
  | 4 => decide (6 ≤ j)
  | 7 => true
  | 8 => true
  | 9 => true
  | 10 => true
  | 11 => true
  | _ => false
def ks_cs (P : ks_P) (b : ks_M) (o : ks_O) (k : tk_K) (j : Nat) : Value := match k.1 with
  | 0 => (match j with
    | 0 => .ref (ks_ad P (1, 0, 0))
    | _ => .ref (ks_ad P (3, 0, 0)))
  | 1 => .ref (ks_ad P (2, 0, 0))
  | 2 => .null
  | 7 => .null
  | 8 => .null
  | 9 => .null
  | 10 => .null
  | 11 => .null
  | 3 => .ref (ks_ad P (4, j, 0))
  | 4 => (match j with
    | 0 => .int (nI k.2.1)
    | 1 => .ref (ks_ad P (5, k.2.1, 0))
    | 2 => .ref (ks_ad P (8, k.2.1, 0))
    | 3 => .ref (ks_ad P (9, k.2.1, 0))
    | 4 => .ref (ks_ad P (10, k.2.1, 0))
    | _ => .ref (ks_ad P (11, k.2.1, 0)))
  | 5 => (match j with
    | 0 => .int (nI (ks_S P))
    | 1 => .int (nI (ks_W P))
    | _ => .ref (ks_ad P (6, k.2.1, 0)))
  | 6 => .ref (ks_ad P (7, k.2.1, j))
  | 12 => (match j with
    | 0 => .int (nI (ks_n P))
    | 1 => .int (nI (ks_S P))
    | 2 => .int (nI (ks_W P))
    | 3 => .int o.2
    | 4 => .int (b (0, 0, 0) 3)
    | 5 => .int (b (0, 0, 0) 2)
    | j + 6 => .ref (ks_ad P (13 + j, 0, 0)))
  | 28 => (match j with
    | 0 => .long o.1
    | _ => .long 0)
  | f => .int (b (ks_vk (ks_S P) (ks_W P) f j) (ks_vi f j))
def ks_sl (P : ks_P) (a b : ks_M) (o : ks_O) : tk_L := fun k j => match ks_int k j with
  | true => .int (a k j)
  | false => ks_cs P b o k j
def ks_ok (P : ks_P) : Prop := 1 ≤ ks_n P ∧ ks_n P ≤ 3 ∧ (ks_S P = 1 ∨ ks_S P = 2 ∨ ks_S P = 4) ∧ 1 ≤ ks_W P ∧ ks_W P ≤ 3 ∧ tk_A (ks_G P)
theorem ks_wa (P : ks_P) (a b : ks_M) (o : ks_O) {k : tk_K} {j : Nat} (h : ks_int k j = true) (v : Int32) : tk_up (ks_sl P a b o) k j (.int v) = ks_sl P (ks_up a k j v) b o := by
  funext k' j'
  by_cases hk : k' = k
  · subst hk
    rw [tk_up_self]
    by_cases hj : j' = j
    · subst hj
      simp [updV, ks_sl, h, ks_up]
    · simp [updV, hj, ks_sl, ks_up]
  · rw [tk_up_ne _ _ _ hk]
    simp [ks_sl, ks_up, hk]
theorem ks_cs_arr (P : ks_P) (b : ks_M) (o : ks_O) {f : Nat} (h1 : 13 ≤ f) (h2 : f ≤ 27) (c d j : Nat) : ks_cs P b o (f, c, d) j = .int (b (ks_vk (ks_S P) (ks_W P) f j) (ks_vi f j)) := by
  match f, h1, h2 with
  | 13, _, _ => rfl
  | 14, _, _ => rfl
  | 15, _, _ => rfl
  | 16, _, _ => rfl
  | 17, _, _ => rfl
  | 18, _, _ => rfl
  | 19, _, _ => rfl
  | 20, _, _ => rfl
  | 21, _, _ => rfl
  | 22, _, _ => rfl
  | 23, _, _ => rfl
  | 24, _, _ => rfl
  | 25, _, _ => rfl
  | 26, _, _ => rfl
  | 27, _, _ => rfl
  | f + 28, _, h => exact absurd h (by omega)
theorem ks_int_ref {f : Nat} (h1 : 12 ≤ f) (c d j : Nat) : ks_int (f, c, d) j = false := by
  unfold ks_int
  match f, h1 with
  | f + 12, _ => rfl
theorem ks_vk_fam (S W f i : Nat) : (ks_vk S W f i).1 ≠ 0 ∧ (ks_vk S W f i).1 ≠ 12 := by
  unfold ks_vk
  split <;> simp
theorem ks_cs_up (P : ks_P) (b : ks_M) (o : ks_O) {f i : Nat} (v : Int32) (k : tk_K) (j : Nat) (hk : k.1 ≤ 28) (h : 13 ≤ k.1 → k.1 ≤ 27 → ¬ (ks_vk (ks_S P) (ks_W P) k.1 j = ks_vk (ks_S P) (ks_W P) f i ∧ ks_vi k.1 j = ks_vi f i)) : ks_cs P (ks_up b (ks_vk (ks_S P) (ks_W P) f i) (ks_vi f i) v) o k j = ks_cs P b o k j := by
  obtain ⟨g, c, d⟩ := k
  have hf := ks_vk_fam (ks_S P) (ks_W P) f i
  have h12 : ∀ x : Nat, ks_up b (ks_vk (ks_S P) (ks_W P) f i) (ks_vi f i) v (12, 0, 0) x = b (12, 0, 0) x := fun x => ks_up_nk b v (fun q => hf.2 (by rw [← q]))
  have h00 : ∀ x : Nat, ks_up b (ks_vk (ks_S P) (ks_W P) f i) (ks_vi f i) v (0, 0, 0) x = b (0, 0, 0) x := fun x => ks_up_nk b v (fun q => hf.1 (by rw [← q]))
  by_cases h13 : 13 ≤ g ∧ g ≤ 27
  · rw [ks_cs_arr P _ o h13.1 h13.2, ks_cs_arr P _ o h13.1 h13.2, ks_up_ne b v (h h13.1 h13.2)]
  · have hg : g ≤ 28 := hk
    have hg2 : g ≤ 12 ∨ g = 28 := by omega
    match g, hg2 with
    | 0, _ => rfl
    | 1, _ => rfl
    | 2, _ => rfl
    | 3, _ => rfl
    | 4, _ => rfl
    | 5, _ => rfl
    | 6, _ => rfl
    | 7, _ => rfl
    | 8, _ => rfl
    | 9, _ => rfl
    | 10, _ => rfl
    | 11, _ => rfl
    | 28, _ => rfl
    | 12, _ =>
      match j with
      | 0 => rfl
      | 1 => rfl
      | 2 => rfl
      | 3 => rfl
      | 4 => exact congrArg Value.int (h00 3)
      | 5 => exact congrArg Value.int (h00 2)
      | j + 6 => rfl
theorem ks_do_28 {P : ks_P} {k : tk_K} (h : ks_do P k) : k.1 ≤ 28 := by
  unfold ks_do at h
  split at h <;> first | omega | exact h.1
theorem ks_do_00 {P : ks_P} {f c d : Nat} (h : ks_do P (f, c, d)) (hf : 12 ≤ f) : c = 0 ∧ d = 0 := by
  unfold ks_do at h
  split at h <;> first | (exfalso; simp at *; omega) | exact h.2
theorem ks_wb (P : ks_P) (hP : ks_ok P) (a b : ks_M) (o : ks_O) {f : Nat} (h1 : 13 ≤ f) (h2 : f ≤ 27) (i : Nat) (v : Int32) : ∀ k, ks_do P k → tk_up (ks_sl P a b o) (f, 0, 0) i (.int v) k = ks_sl P a (ks_up b (ks_vk (ks_S P) (ks_W P) f i) (ks_vi f i) v) o k := by
  intro k hk
  obtain ⟨g, c, d⟩ := k
  have hS : ks_S P < 5 := by rcases hP.2.2.1 with h | h | h <;> omega
  have hW : ks_W P < 4 := by have := hP.2.2.2.2.1; omega
  have hW0 : 0 < ks_W P := hP.2.2.2.1
  funext j
  by_cases e : (g, c, d) = (f, 0, 0)
  · cases e
    rw [tk_up_self]
    by_cases hj : j = i
    · subst hj
      simp only [updV, if_true, ks_sl, ks_int_ref (show 12 ≤ f by omega)]
      rw [ks_cs_arr P _ o h1 h2, ks_up_eq]
    · simp only [updV, hj, if_false, ks_sl, ks_int_ref (show 12 ≤ f by omega)]
      exact (ks_cs_up P b o v (f, 0, 0) j (by show f ≤ 28; omega) (fun _ _ q => hj (ks_v_inj hS hW hW0 h1 h2 h1 h2 q.1 q.2).2)).symm
  · rw [tk_up_ne _ _ _ e]
    unfold ks_sl
    split
    · rfl
    · refine (ks_cs_up P b o v (g, c, d) j (ks_do_28 hk) (fun g1 g2 q => ?_)).symm
      have hgf : g = f := (ks_v_inj hS hW hW0 g1 g2 h1 h2 q.1 q.2).1
      have h00 := ks_do_00 hk (by omega)
      exact e (by rw [hgf, h00.1, h00.2])
def ks_fk (j : Nat) : tk_K × Nat := match j with
  | 4 => ((0, 0, 0), 3)
  | _ => ((0, 0, 0), 2)
theorem ks_vk_ne (S W f i : Nat) {j : Nat} : ks_vk S W f i ≠ (ks_fk j).1 := by
  have h := ks_vk_fam S W f i
  intro q
  rw [q] at h
  unfold ks_fk at h
  split at h <;> simp at h
theorem ks_wf (P : ks_P) (a b : ks_M) (o : ks_O) {j0 : Nat} (hj0 : j0 = 4 ∨ j0 = 5) (v : Int32) : ∀ k, ks_do P k → tk_up (ks_sl P a b o) (12, 0, 0) j0 (.int v) k = ks_sl P a (ks_up b (ks_fk j0).1 (ks_fk j0).2 v) o k := by
  intro k hk
  obtain ⟨g, c, d⟩ := k
  funext j
  by_cases e : (g, c, d) = (12, 0, 0)
  · cases e
    rw [tk_up_self]
    rcases hj0 with rfl | rfl
    · match j with
      | 0 => rfl
      | 1 => rfl
      | 2 => rfl
      | 3 => rfl
      | 4 => exact congrArg Value.int (ks_up_eq b (0, 0, 0) 3 v).symm
      | 5 => exact congrArg Value.int (ks_up_ne b v (by decide)).symm
      | j + 6 =>
        show (if j + 6 = 4 then _ else _) = _
        rw [if_neg (by omega)]
        rfl
    · match j with
      | 0 => rfl
      | 1 => rfl
      | 2 => rfl
      | 3 => rfl
      | 4 => exact congrArg Value.int (ks_up_ne b v (by decide)).symm
      | 5 => exact congrArg Value.int (ks_up_eq b (0, 0, 0) 2 v).symm
      | j + 6 =>
        show (if j + 6 = 5 then _ else _) = _
        rw [if_neg (by omega)]
        rfl
  · rw [tk_up_ne _ _ _ e]
    unfold ks_sl
    split
    · rfl
    · by_cases h13 : 13 ≤ g ∧ g ≤ 27
      · rw [ks_cs_arr P _ o h13.1 h13.2, ks_cs_arr P _ o h13.1 h13.2, ks_up_nk b v (ks_vk_ne _ _ _ _)]
      · have hg : g ≤ 28 := ks_do_28 hk
        have hg2 : g < 12 ∨ g = 12 ∨ g = 28 := by omega
        match g, hg2 with
        | 0, _ => rfl
        | 1, _ => rfl
        | 2, _ => rfl
        | 3, _ => rfl
        | 4, _ => rfl
        | 5, _ => rfl
        | 6, _ => rfl
        | 7, _ => rfl
        | 8, _ => rfl
        | 9, _ => rfl
        | 10, _ => rfl
        | 11, _ => rfl
        | 28, _ => rfl
        | 12, _ =>
          have h00 := ks_do_00 hk (Nat.le_refl 12)
          exact absurd (by rw [h00.1, h00.2]) e
theorem ks_wc (P : ks_P) (a b : ks_M) (o : ks_O) (v : Int32) : ∀ k, ks_do P k → tk_up (ks_sl P a b o) (12, 0, 0) 3 (.int v) k = ks_sl P a b (o.1, v) k := by
  intro k hk
  obtain ⟨g, c, d⟩ := k
  funext j
  by_cases e : (g, c, d) = (12, 0, 0)
  · cases e
    rw [tk_up_self]
    match j with
    | 0 => rfl
    | 1 => rfl
    | 2 => rfl
    | 3 => rfl
    | 4 => rfl
    | 5 => rfl
    | j + 6 =>
      show (if j + 6 = 3 then _ else _) = _
      rw [if_neg (by omega)]
      rfl
  · rw [tk_up_ne _ _ _ e]
    unfold ks_sl
    split
    · rfl
    · by_cases h13 : 13 ≤ g ∧ g ≤ 27
      · rw [ks_cs_arr P _ o h13.1 h13.2, ks_cs_arr P _ (o.1, v) h13.1 h13.2]
      · have hg : g ≤ 28 := ks_do_28 hk
        have hg2 : g < 12 ∨ g = 12 ∨ g = 28 := by omega
        match g, hg2 with
        | 0, _ => rfl
        | 1, _ => rfl
        | 2, _ => rfl
        | 3, _ => rfl
        | 4, _ => rfl
        | 5, _ => rfl
        | 6, _ => rfl
        | 7, _ => rfl
        | 8, _ => rfl
        | 9, _ => rfl
        | 10, _ => rfl
        | 11, _ => rfl
        | 28, _ => rfl
        | 12, _ =>
          have h00 := ks_do_00 hk (Nat.le_refl 12)
          exact absurd (by rw [h00.1, h00.2]) e
theorem ks_wo (P : ks_P) (a b : ks_M) (o : ks_O) (v : Int64) : ∀ k, ks_do P k → tk_up (ks_sl P a b o) (28, 0, 0) 0 (.long v) k = ks_sl P a b (v, o.2) k := by
  intro k hk
  obtain ⟨g, c, d⟩ := k
  funext j
  by_cases e : (g, c, d) = (28, 0, 0)
  · cases e
    rw [tk_up_self]
    match j with
    | 0 => rfl
    | j + 1 => rfl
  · rw [tk_up_ne _ _ _ e]
    unfold ks_sl
    split
    · rfl
    · by_cases h13 : 13 ≤ g ∧ g ≤ 27
      · rw [ks_cs_arr P _ o h13.1 h13.2, ks_cs_arr P _ (v, o.2) h13.1 h13.2]
      · have hg : g ≤ 28 := ks_do_28 hk
        have hg2 : g ≤ 12 ∨ g = 28 := by omega
        match g, hg2 with
        | 0, _ => rfl
        | 1, _ => rfl
        | 2, _ => rfl
        | 3, _ => rfl
        | 4, _ => rfl
        | 5, _ => rfl
        | 6, _ => rfl
        | 7, _ => rfl
        | 8, _ => rfl
        | 9, _ => rfl
        | 10, _ => rfl
        | 11, _ => rfl
        | 12, _ => rfl
        | 28, _ =>
          have h00 := ks_do_00 hk (show 12 ≤ 28 by decide)
          exact absurd (by rw [h00.1, h00.2]) e
theorem ks_d0 {P : ks_P} {f : Nat} (h : f = 0 ∨ f = 1 ∨ f = 2 ∨ f = 3 ∨ (12 ≤ f ∧ f ≤ 28)) : (ks_dm P).1 (f, 0, 0) := by
  show ks_do P (f, 0, 0)
  rcases h with rfl | rfl | rfl | rfl | ⟨h1, h2⟩
  · exact ⟨by decide, rfl, rfl⟩
  · exact ⟨by decide, rfl, rfl⟩
  · exact ⟨by decide, rfl, rfl⟩
  · exact ⟨by decide, rfl, rfl⟩
  · unfold ks_do
    match f, h1 with
    | f + 12, _ => exact ⟨h2, rfl, rfl⟩
theorem ks_d7 {P : ks_P} {c j : Nat} (hc : c < ks_n P) (hj : j < ks_T P) : (ks_dm P).1 (7, c, j) := ⟨hc, hj⟩
theorem ks_d4 {P : ks_P} {c : Nat} (hc : c < ks_n P) : (ks_dm P).1 (4, c, 0) := ⟨hc, rfl⟩
theorem ks_d5 {P : ks_P} {c : Nat} (hc : c < ks_n P) : (ks_dm P).1 (5, c, 0) := ⟨hc, rfl⟩
theorem ks_d6 {P : ks_P} {c : Nat} (hc : c < ks_n P) : (ks_dm P).1 (6, c, 0) := ⟨hc, rfl⟩
theorem ks_d8 {P : ks_P} {c : Nat} (hc : c < ks_n P) : (ks_dm P).1 (8, c, 0) := ⟨hc, rfl⟩
theorem ks_d9 {P : ks_P} {c : Nat} (hc : c < ks_n P) : (ks_dm P).1 (9, c, 0) := ⟨hc, rfl⟩
theorem ks_d10 {P : ks_P} {c : Nat} (hc : c < ks_n P) : (ks_dm P).1 (10, c, 0) := ⟨hc, rfl⟩
theorem ks_d11 {P : ks_P} {c : Nat} (hc : c < ks_n P) : (ks_dm P).1 (11, c, 0) := ⟨hc, rfl⟩
