def k_met (S W : Nat) (b : ks_M) (c y : Nat) (w : Bool) : ks_M := match k_find b c y W (k_first S W y) with
  | none => b
  | some j => k_meet (S * W) b c j w
theorem k_ask1_met (S W : Nat) (x : Int32) (y : Nat) (w : Bool) (c : Nat) (a : ks_M) : k_ask1 S W x y w c a = if nI c = x then a else k_met S W a c y w := rfl
theorem k_cp_ne (a : ks_M) {k0 k1 k : tk_K} (n i : Nat) (h : k ≠ k1) : k_cp a k0 k1 n k i = a k i := if_neg (fun q => h q.1)
theorem k_abv_7 (T : Nat) (a : ks_M) (c q : Nat) (v : Int32) (c' j' i : Nat) : k_abv T a c q v (7, c', j') i = k_dm (k_dw a c T) c T (7, c', j') i := by
  unfold k_abv k_ab2 k_ab1
  rw [ks_up_nk _ _ (by simp), ks_up_nk _ _ (by simp), ks_up_nk _ _ (by simp), ks_up_nk _ _ (by simp), k_cp_ne _ _ _ (by simp)]
theorem k_abort_abv (T : Nat) (a : ks_M) (c q : Nat) (m : Int32) : k_abort T a c q m = k_abv T a c q (nI q + m) := rfl
theorem k_ab_i (T : Nat) (a : ks_M) (c q : Nat) (v : Int32) (c' j' : Nat) {i : Nat} (h0 : i ≠ 0) (h2 : i ≠ 2) : k_abv T a c q v (7, c', j') i = a (7, c', j') i := by
  rw [k_abv_7, k_dm_ne _ _ _ _ _ (fun _ _ z => h2 z.2), k_dw_ne _ _ _ _ _ (fun _ _ z => h0 z.2)]
theorem k_ab_c (T : Nat) (a : ks_M) (c q : Nat) (v : Int32) {c' : Nat} (j' i : Nat) (h : c' ≠ c) : k_abv T a c q v (7, c', j') i = a (7, c', j') i := by
  rw [k_abv_7, k_dm_ne _ _ _ _ _ (fun _ _ z => by simp at z; exact h z.1.1), k_dw_ne _ _ _ _ _ (fun _ _ z => by simp at z; exact h z.1.1)]
theorem k_ab_j (T : Nat) (a : ks_M) (c q : Nat) (v : Int32) (c' : Nat) {j' : Nat} (i : Nat) (h : T ≤ j') : k_abv T a c q v (7, c', j') i = a (7, c', j') i := by
  rw [k_abv_7, k_dm_ne _ _ _ _ _ (fun _ _ z => by simp at z; omega), k_dw_ne _ _ _ _ _ (fun _ _ z => by simp at z; omega)]
theorem k_ab_m (T : Nat) (a : ks_M) (c q : Nat) (v : Int32) {j : Nat} (h : j < T) : k_abv T a c q v (7, c, j) 2 = 0 := by
  rw [k_abv_7, k_dm_at _ _ _ _ h]
theorem k_ab_s (T : Nat) (a : ks_M) (c q : Nat) (v : Int32) {j : Nat} (h : j < T) : k_abv T a c q v (7, c, j) 0 = if a (7, c, j) 2 &&& 2 = 0 then a (7, c, j) 0 else 0 := by
  rw [k_abv_7, k_dm_ne _ _ _ _ _ (fun _ _ z => by simp at z), k_dw_at _ _ _ _ h]
theorem k_keep_ne (a : ks_M) (c j : Nat) {k : tk_K} (i : Nat) (h : k ≠ (2, 0, 0)) : k_keep a c j k i = a k i := by
  unfold k_keep k_keep1 k_put
  rw [ks_up_nk _ _ h, ks_up_nk _ _ h]
theorem k_kp_ne (a : ks_M) (c j : Nat) {k : tk_K} (i : Nat) (h : k ≠ (2, 0, 0)) : k_kp a c j k i = a k i := by
  unfold k_kp
  split
  · exact k_keep_ne a c j i h
  · rfl
def r_Vc (T : Nat) (b : ks_M) (c : Nat) : Prop := r_uniq b c T ∧ (∀ j, T ≤ j → b (7, c, j) 2 = 0) ∧ ∀ j, j < T → q_lin (b (7, c, j) 1) ∧ (b (7, c, j) 0 = 0 → b (7, c, j) 2 = 0)
def r_V (n T : Nat) (b : ks_M) : Prop := ∀ c, c < n → r_Vc T b c
def r_le (T : Nat) (a a' : ks_M) (c : Nat) : Prop := (∀ j, a' (7, c, j) 1 = a (7, c, j) 1) ∧ (∀ j, T ≤ j → a' (7, c, j) 2 = a (7, c, j) 2) ∧ ∀ j, j < T → (¬ a' (7, c, j) 0 = 0 → ¬ a (7, c, j) 0 = 0) ∧ (a' (7, c, j) 0 = 0 → a' (7, c, j) 2 = 0)
theorem r_Vc_le {T : Nat} {a a' : ks_M} {c : Nat} (h : r_Vc T a c) (hl : r_le T a a' c) : r_Vc T a' c := by
  refine ⟨fun j j' hj hj' v v' e => ?_, fun j hj => ?_, fun j hj => ⟨?_, (hl.2.2 j hj).2⟩⟩
  · exact h.1 j j' hj hj' ((hl.2.2 j hj).1 v) ((hl.2.2 j' hj').1 v') (by rw [← hl.1 j, ← hl.1 j']; exact e)
  · rw [hl.2.1 j hj]; exact h.2.1 j hj
  · rw [hl.1 j]; exact (h.2.2 j hj).1
theorem r_le_refl {T : Nat} {a a' : ks_M} {c : Nat} (h : r_Vc T a c) (e : ∀ j i, a' (7, c, j) i = a (7, c, j) i) : r_le T a a' c :=
  ⟨fun j => e j 1, fun j _ => e j 2, fun j hj => ⟨fun v => by rw [← e j 0]; exact v, fun v => by rw [e j 2]; exact (h.2.2 j hj).2 (by rw [← e j 0]; exact v)⟩⟩
theorem r_le_abv {T : Nat} {a : ks_M} {c : Nat} (q : Nat) (v : Int32) : r_le T a (k_abv T a c q v) c := by
  refine ⟨fun j => k_ab_i T a c q v c j (by decide) (by decide), fun j hj => k_ab_j T a c q v c 2 hj, fun j hj => ⟨fun z => ?_, fun _ => k_ab_m T a c q v hj⟩⟩
  rw [k_ab_s T a c q v hj] at z
  split at z
  · exact z
  · exact absurd rfl z
theorem r_le_meet1 {T : Nat} {a : ks_M} {c : Nat} (h : r_Vc T a c) (j : Nat) (w : Bool) : r_le T a (k_meet1 T a c j w) c := by
  unfold k_meet1
  split
  · split
    · split
      · exact r_le_refl h (fun _ _ => rfl)
      · exact r_le_abv 1 _
    · exact r_le_refl h (fun _ _ => rfl)
  · exact r_le_abv 1 _
theorem k_meet1_m {T : Nat} {a : ks_M} {c j : Nat} (hj : j < T) : k_meet1 T a c j true (7, c, j) 2 = 0 := by
  unfold k_meet1
  split
  · rw [if_pos rfl]
    split
    · assumption
    · exact k_ab_m T a c 1 _ hj
  · exact k_ab_m T a c 1 _ hj
theorem k_meet1_c (T : Nat) (a : ks_M) (c j : Nat) (w : Bool) {c' : Nat} (j' i : Nat) (h : c' ≠ c) : k_meet1 T a c j w (7, c', j') i = a (7, c', j') i := by
  unfold k_meet1
  split
  · split
    · split
      · rfl
      · exact k_ab_c T a c 1 _ j' i h
    · rfl
  · exact k_ab_c T a c 1 _ j' i h
theorem k_meet2_c (a : ks_M) (c j : Nat) (w : Bool) {c' : Nat} (j' i : Nat) (h : c' ≠ c) : k_meet2 a c j w (7, c', j') i = a (7, c', j') i := by
  unfold k_meet2
  split
  · rfl
  · rw [ks_up_ne _ _ (fun q => by simp at q; exact h q.1.1), k_kp_ne _ _ _ _ (by simp)]
theorem k_meet_c (T : Nat) (a : ks_M) (c j : Nat) (w : Bool) {c' : Nat} (j' i : Nat) (h : c' ≠ c) : k_meet T a c j w (7, c', j') i = a (7, c', j') i := by
  unfold k_meet
  rw [k_meet2_c _ _ _ _ _ _ h, k_meet1_c _ _ _ _ _ _ _ h]
theorem r_le_meet {T : Nat} {a : ks_M} {c : Nat} (h : r_Vc T a c) {j : Nat} (hj : j < T) (w : Bool) : r_le T a (k_meet T a c j w) c := by
  have h1 := r_le_meet1 h j w
  unfold k_meet k_meet2
  split
  · exact h1
  · rename_i hs
    have e : ∀ j' i, ¬ (j' = j ∧ i = 0) → ks_up (k_kp (k_meet1 T a c j w) c j) (7, c, j) 0 (if w = true then 0 else 1) (7, c, j') i = k_meet1 T a c j w (7, c, j') i := fun j' i hn => by
      rw [ks_up_ne _ _ (fun q => hn (by simp at q; exact q)), k_kp_ne _ _ _ _ (by simp)]
    refine ⟨fun j' => by rw [e j' 1 (fun q => by simp at q)]; exact h1.1 j', fun j' hj' => by rw [e j' 2 (fun q => by simp at q)]; exact h1.2.1 j' hj', fun j' hj' => ?_⟩
    by_cases hjj : j' = j
    · subst hjj
      refine ⟨fun _ => (h1.2.2 j' hj').1 hs, fun z => ?_⟩
      rw [e j' 2 (fun q => by simp at q)]
      rw [ks_up_eq] at z
      cases w with
      | true => exact k_meet1_m hj'
      | false => exact absurd z (by decide)
    · rw [e j' 0 (fun q => hjj q.1), e j' 2 (fun q => by simp at q)]
      exact h1.2.2 j' hj'
theorem r_Vc_met {S W : Nat} {b : ks_M} {c y : Nat} (h : r_Vc (S * W) b c) (hF : k_first S W y + W ≤ S * W) (w : Bool) : r_Vc (S * W) (k_met S W b c y w) c := by
  unfold k_met
  cases hf : k_find b c y W (k_first S W y) with
  | none => exact h
  | some j =>
    have := k_find_lt b c y _ _ hf
    exact r_Vc_le h (r_le_meet h (by omega) w)
theorem k_met_c (S W : Nat) (b : ks_M) (c y : Nat) (w : Bool) {c' : Nat} (j' i : Nat) (h : c' ≠ c) : k_met S W b c y w (7, c', j') i = b (7, c', j') i := by
  unfold k_met
  cases k_find b c y W (k_first S W y) with
  | none => rfl
  | some j => exact k_meet_c _ _ _ _ _ _ _ h
theorem r_Vc_eq {T : Nat} {a a' : ks_M} {c : Nat} (h : r_Vc T a c) (e : ∀ j i, a' (7, c, j) i = a (7, c, j) i) : r_Vc T a' c := r_Vc_le h (r_le_refl h e)
theorem r_V_met {n S W : Nat} {b : ks_M} (h : r_V n (S * W) b) {c y : Nat} (hF : k_first S W y + W ≤ S * W) (w : Bool) : r_V n (S * W) (k_met S W b c y w) := fun c' hc' => by
  by_cases e : c' = c
  · subst e
    exact r_Vc_met (h c' hc') hF w
  · exact r_Vc_eq (h c' hc') (fun j i => k_met_c S W b c y w j i e)
theorem r_V_ask1 {n S W : Nat} {b : ks_M} (h : r_V n (S * W) b) (x : Int32) {c y : Nat} (hF : k_first S W y + W ≤ S * W) (w : Bool) : r_V n (S * W) (k_ask1 S W x y w c b) := by
  rw [k_ask1_met]
  split
  · exact h
  · exact r_V_met h hF w
theorem r_V_send {n S W : Nat} (x : Int32) {y : Nat} (hF : k_first S W y + W ≤ S * W) (w : Bool) : ∀ (k i : Nat) (b : ks_M), r_V n (S * W) b → r_V n (S * W) (k_send S W x y w k i b)
  | 0, _, _, h => h
  | k + 1, i, b, h => r_V_send x hF w k (i + 1) _ (r_V_ask1 h x hF w)
theorem k_send_own (S W : Nat) {c y : Nat} (w : Bool) (hc : c < 64) : ∀ (k i : Nat) (b : ks_M), i + k ≤ 64 → ∀ j' z, k_send S W (nI c) y w k i b (7, c, j') z = b (7, c, j') z
  | 0, _, _, _, _, _ => rfl
  | k + 1, i, b, hk, j', z => by
    rw [k_send, k_send_own S W w hc k (i + 1) _ (by omega), k_ask1_met]
    split
    · rfl
    · rename_i hne
      exact k_met_c S W b i y w j' z (fun q => hne (by rw [q]))
theorem k_us1_ne (a : ks_M) {k : tk_K} (i : Nat) (h : k ≠ (0, 0, 0)) : k_us1 a k i = a k i := ks_up_nk a _ h
theorem k_modify_4 (a : ks_M) (c j : Nat) (t : Bool) (c' i : Nat) : k_modify a c j t (4, c', 0) i = a (4, c', 0) i := by
  unfold k_modify k_kp2
  rw [ks_up_nk _ _ (by simp)]
  split
  · split
    · split
      · exact k_keep_ne a c j i (by simp)
      · rfl
    · rfl
  · rfl
theorem r_refill {b : ks_M} {c j y : Nat} (hy : y < 32) (hm : b (7, c, j) 2 = 0) (b1 : ks_M) (e1 : k_kp b c j = b1) : ks_up (ks_up (ks_up (ks_up (ks_up b1 (7, c, j) 0 1) (7, c, j) 1 (nI y)) (7, c, j) 2 0) (7, c, j) 3 (b1 (2, 0, 0) (2 * y))) (7, c, j) 4 (b1 (2, 0, 0) (2 * y + 1)) = k_refill b c j (nI y) := by
  have hm1 : b1 (7, c, j) 2 = 0 := by rw [← e1, k_kp_ne _ _ _ _ (by simp)]; exact hm
  have q1 : q_ix ((2 * nI y) &&& 63) = 2 * y := by
    rw [show (2 : Int32) = nI 2 from rfl, pk_mul, pk_andN (by omega) 6 (by decide), q_ix_nI (by omega), Nat.mod_eq_of_lt (by omega)]
  have q2 : q_ix ((2 * nI y + 1) &&& 63) = 2 * y + 1 := by
    rw [show (2 : Int32) = nI 2 from rfl, pk_mul, nI_1, pk_andN (by omega) 6 (by decide), q_ix_nI (by omega), Nat.mod_eq_of_lt (by omega)]
  unfold k_refill k_fill k_fill2 k_fill1 k_get
  rw [e1, q1, q2]
  funext k i
  by_cases hk : k = (7, c, j)
  · subst hk
    by_cases i0 : i = 0
    · subst i0; simp [ks_up]
    · by_cases i1 : i = 1
      · subst i1; simp [ks_up]
      · by_cases i2 : i = 2
        · subst i2; simp [ks_up, hm1]
        · by_cases i3 : i = 3
          · subst i3; simp [ks_up]
          · by_cases i4 : i = 4
            · subst i4; simp [ks_up]
            · simp [ks_up, i0, i1, i2, i3, i4]
  · simp [ks_up, hk]
theorem k_room_m {T : Nat} {b : ks_M} {c : Nat} (h : r_Vc T b c) : ∀ (k j0 : Nat) (q : Option Nat) {j : Nat}, j0 + k ≤ T → (∀ i, q = some i → b (7, c, i) 2 = 0) → k_room b c k j0 q = some j → b (7, c, j) 2 = 0
  | 0, _, _, _, _, hq, e => hq _ e
  | k + 1, j0, q, j, hk, hq, e => by
    rw [k_room] at e
    split at e
    · rename_i hs
      cases e
      exact (h.2.2 j0 (by omega)).2 hs
    · refine k_room_m h k (j0 + 1) _ (by omega) (fun i hi => ?_) e
      split at hi
      · rename_i hm
        cases hi
        exact hm.1
      · exact hq i hi
def r_f4 (b : ks_M) (c j y : Nat) : ks_M := ks_up (ks_up (ks_up b (7, c, j) 0 1) (7, c, j) 1 (nI y)) (7, c, j) 2 0
def r_f5 (b : ks_M) (c j y : Nat) : ks_M := ks_up (r_f4 b c j y) (7, c, j) 3 (r_f4 b c j y (2, 0, 0) (2 * y))
def r_fl (b : ks_M) (c j y : Nat) : ks_M := ks_up (r_f5 b c j y) (7, c, j) 4 (r_f5 b c j y (2, 0, 0) (2 * y + 1))
theorem r_f4_2 (b : ks_M) (c j y i : Nat) : r_f4 b c j y (2, 0, 0) i = b (2, 0, 0) i := by
  unfold r_f4
  rw [ks_up_nk _ _ (by simp), ks_up_nk _ _ (by simp), ks_up_nk _ _ (by simp)]
theorem r_f5_2 (b : ks_M) (c j y i : Nat) : r_f5 b c j y (2, 0, 0) i = b (2, 0, 0) i := by
  unfold r_f5
  rw [ks_up_nk _ _ (by simp), r_f4_2]
theorem r_fill2 {b : ks_M} {c j y : Nat} (hy : y < 32) (hm : b (7, c, j) 2 = 0) {b1 : ks_M} (e1 : k_kp b c j = b1) : r_fl b1 c j y = k_refill b c j (nI y) := by
  rw [← r_refill hy hm b1 e1]
  unfold r_fl
  rw [r_f5_2]
  unfold r_f5
  rw [r_f4_2]
  rfl
theorem r_fl1 (b : ks_M) (c j y : Nat) : r_fl b c j y (7, c, j) 1 = nI y := by
  unfold r_fl r_f5 r_f4
  rw [ks_up_ne _ _ (by simp), ks_up_ne _ _ (by simp), ks_up_ne _ _ (by simp), ks_up_eq]
