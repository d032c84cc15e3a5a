def r_S (S W : Nat) (a : ks_M) (c : Nat) : Prop := ∀ j, j < S * W → ¬ a (7, c, j) 0 = 0 → ∃ y, y < 32 ∧ a (7, c, j) 1 = nI y ∧ y % S = j / W
def r_C (n T : Nat) (a : ks_M) : Prop := ∀ c c' j j', c < n → c' < n → c ≠ c' → j < T → j' < T → a (7, c, j) 0 = 2 → ¬ a (7, c', j') 0 = 0 → ¬ a (7, c, j) 1 = a (7, c', j') 1
def j_7 (n S W : Nat) (a : ks_M) : Prop := r_V n (S * W) a ∧ (∀ c, c < n → r_S S W a c) ∧ r_C n (S * W) a
def j_sh (n T : Nat) (a a' : ks_M) : Prop := ∀ c, c < n → r_le T a a' c ∧ ∀ j, j < T → a' (7, c, j) 0 = 2 → a (7, c, j) 0 = 2
theorem j_7_sh {n S W : Nat} {a a' : ks_M} (h : j_7 n S W a) (hs : j_sh n (S * W) a a') : j_7 n S W a' := by
  refine ⟨fun c hc => r_Vc_le (h.1 c hc) (hs c hc).1, fun c hc j hj v => ?_, fun c c' j j' hc hc' hne hj hj' h2 hv => ?_⟩
  · rw [(hs c hc).1.1 j]
    exact h.2.1 c hc j hj (((hs c hc).1.2.2 j hj).1 v)
  · rw [(hs c hc).1.1 j, (hs c' hc').1.1 j']
    exact h.2.2 c c' j j' hc hc' hne hj hj' ((hs c hc).2 j hj h2) (((hs c' hc').1.2.2 j' hj').1 hv)
theorem j_sh_e {n T : Nat} {a a' : ks_M} (h : r_V n T a) (e : ∀ c j i, i < 3 → a' (7, c, j) i = a (7, c, j) i) : j_sh n T a a' := fun c hc =>
  ⟨⟨fun j => e c j 1 (by decide), fun j _ => e c j 2 (by decide), fun j hj => ⟨fun v => by rw [← e c j 0 (by decide)]; exact v, fun v => by rw [e c j 2 (by decide)]; exact ((h c hc).2.2 j hj).2 (by rw [← e c j 0 (by decide)]; exact v)⟩⟩, fun j _ v => by rw [← e c j 0 (by decide)]; exact v⟩
theorem j_sh_1 {n T : Nat} {a a' : ks_M} (h : r_V n T a) (c : Nat) (hl : c < n → r_le T a a' c) (h2 : ∀ j, j < T → a' (7, c, j) 0 = 2 → a (7, c, j) 0 = 2) (e : ∀ c' j i, c' ≠ c → a' (7, c', j) i = a (7, c', j) i) : j_sh n T a a' := fun c' hc' => by
  by_cases q : c' = c
  · subst q
    exact ⟨hl hc', h2⟩
  · exact ⟨r_le_refl (h c' hc') (fun j i => e c' j i q), fun j _ v => by rw [← e c' j 0 q]; exact v⟩
theorem j_abv2 {T : Nat} {a : ks_M} {c q : Nat} {v : Int32} {j : Nat} (hj : j < T) (h : k_abv T a c q v (7, c, j) 0 = 2) : a (7, c, j) 0 = 2 := by
  rw [k_ab_s T a c q v hj] at h
  split at h
  · exact h
  · exact absurd h (by decide)
theorem j_sh_abv {n T : Nat} {a : ks_M} (h : r_V n T a) (c q : Nat) (v : Int32) : j_sh n T a (k_abv T a c q v) :=
  j_sh_1 h c (fun _ => r_le_abv q v) (fun _ hj h2 => j_abv2 hj h2) (fun c' j i hne => k_ab_c T a c q v j i hne)
theorem j_sh_dm {n T : Nat} {a : ks_M} (h : r_V n T a) (c : Nat) : j_sh n T a (k_dm a c T) := by
  have e0 : ∀ c' j i, i ≠ 2 → k_dm a c T (7, c', j) i = a (7, c', j) i := fun c' j i hi => k_dm_ne a c T _ _ (fun _ _ z => hi z.2)
  refine j_sh_1 h c (fun hc => ⟨fun j => e0 c j 1 (by decide), fun j hj => k_dm_ne a c T _ _ (fun j' hj' z => by simp at z; omega), fun j hj => ⟨fun v => by rw [← e0 c j 0 (by decide)]; exact v, fun _ => k_dm_at a c T j hj⟩⟩) (fun j _ v => by rw [← e0 c j 0 (by decide)]; exact v) (fun c' j i hne => k_dm_ne a c T _ _ (fun j' _ z => by simp at z; exact hne z.1.1))
theorem j_meet1_2 {T : Nat} {a : ks_M} {c j0 : Nat} {w : Bool} {j : Nat} (hj : j < T) (h : k_meet1 T a c j0 w (7, c, j) 0 = 2) : a (7, c, j) 0 = 2 := by
  unfold k_meet1 at h
  split at h
  · split at h
    · split at h
      · exact h
      · exact j_abv2 hj h
    · exact h
  · exact j_abv2 hj h
theorem j_meet_0 {T : Nat} {a : ks_M} {c j : Nat} {w : Bool} : k_meet T a c j w (7, c, j) 0 = 0 ∨ (w = false ∧ k_meet T a c j w (7, c, j) 0 = 1) := by
  unfold k_meet k_meet2
  split
  · left; assumption
  · rw [ks_up_eq]
    cases w with
    | true => exact Or.inl rfl
    | false => exact Or.inr ⟨rfl, rfl⟩
theorem j_sh_met {n S W : Nat} {a : ks_M} (h : r_V n (S * W) a) {c y : Nat} (hF : k_first S W y + W ≤ S * W) (w : Bool) : j_sh n (S * W) a (k_met S W a c y w) := by
  unfold k_met
  cases hf : k_find a c y W (k_first S W y) with
  | none => exact j_sh_e h (fun _ _ _ _ => rfl)
  | some j =>
    have hj := k_find_lt a c y _ _ hf
    refine j_sh_1 h c (fun hc => r_le_meet (h c hc) (by omega) w) (fun j' hj' h2 => ?_) (fun c' j' i hne => k_meet_c _ _ _ _ _ _ _ hne)
    by_cases q : j' = j
    · subst q
      rcases j_meet_0 (T := S * W) (a := a) (c := c) (j := j') (w := w) with z | z
      · exact absurd (h2.symm.trans z) (by decide)
      · exact absurd (h2.symm.trans z.2) (by decide)
    · refine j_meet1_2 (w := w) (j0 := j) hj' ?_
      have h3 : k_meet2 (k_meet1 (S * W) a c j w) c j w (7, c, j') 0 = 2 := h2
      by_cases z0 : k_meet1 (S * W) a c j w (7, c, j) 0 = 0
      · rw [k_meet2, if_pos z0] at h3
        exact h3
      · rw [k_meet2, if_neg z0, ks_up_ne _ _ (fun z => q (by simp at z; exact z)), k_kp_ne _ _ _ _ (by simp)] at h3
        exact h3
theorem j_7_ask1 {n S W : Nat} {a : ks_M} (h : j_7 n S W a) (x : Int32) {c y : Nat} (hF : k_first S W y + W ≤ S * W) (w : Bool) : j_7 n S W (k_ask1 S W x y w c a) := by
  rw [k_ask1_met]
  split
  · exact h
  · exact j_7_sh h (j_sh_met h.1 hF w)
theorem j_7_send {n S W : Nat} (x : Int32) {y : Nat} (hF : k_first S W y + W ≤ S * W) (w : Bool) : ∀ (k i : Nat) (b : ks_M), j_7 n S W b → j_7 n S W (k_send S W x y w k i b)
  | 0, _, _, h => h
  | k + 1, i, b, h => j_7_send x hF w k (i + 1) _ (j_7_ask1 h x hF w)
theorem k_find_some (a : ks_M) (c y : Nat) : ∀ (k F j : Nat), F ≤ j → j < F + k → r_mat a c y j → ∃ j', k_find a c y k F = some j'
  | 0, F, j, h1, h2, _ => absurd h2 (by omega)
  | k + 1, F, j, h1, h2, h => by
    rw [k_find]
    split
    · exact ⟨F, rfl⟩
    · rename_i hn
      by_cases q : j = F
      · subst q
        exact absurd h hn
      · exact k_find_some a c y k (F + 1) j (by omega) (by omega) h
theorem k_set_in {S W y j : Nat} (hW : 0 < W) (h : y % S = j / W) : k_first S W y ≤ j ∧ j < k_first S W y + W := by
  unfold k_first
  rw [h]
  have h1 := Nat.div_add_mod j W
  have h2 := Nat.mod_lt j hW
  rw [Nat.mul_comm] at h1
  omega
theorem k_set_of {S W y j : Nat} (hW : 0 < W) (h1 : k_first S W y ≤ j) (h2 : j < k_first S W y + W) : y % S = j / W := by
  unfold k_first at h1 h2
  have e : j = W * (y % S) + (j - y % S * W) := by rw [Nat.mul_comm W]; omega
  rw [e, Nat.mul_add_div hW, Nat.div_eq_of_lt (by omega)]
  omega
theorem k_find_all {n S W : Nat} {a : ks_M} (h : j_7 n S W a) {c y j : Nat} (hc : c < n) (hy : y < 32) (hW : 0 < W) (hj : j < S * W) (hv : ¬ a (7, c, j) 0 = 0) (hl : a (7, c, j) 1 = nI y) (hF : k_first S W y + W ≤ S * W) : k_find a c y W (k_first S W y) = some j := by
  obtain ⟨y', hy', e, hs⟩ := h.2.1 c hc j hj hv
  have ey : y' = y := (nI_eq (by omega) (by omega)).mp (e.symm.trans hl)
  subst ey
  have hin := k_set_in hW hs
  obtain ⟨j', hf⟩ := k_find_some a c y' W (k_first S W y') j hin.1 hin.2 ⟨hv, hl⟩
  have hm := k_find_mat a c y' _ _ hf
  have hlt := k_find_lt a c y' _ _ hf
  have : j' = j := (h.1 c hc).1 j' j (by omega) hj hm.1 hv (hm.2.trans hl.symm)
  rw [hf, this]
def r_no (T : Nat) (a : ks_M) (c y : Nat) (w : Bool) : Prop := ∀ j, j < T → ¬ a (7, c, j) 0 = 0 → a (7, c, j) 1 = nI y → w = false ∧ ¬ a (7, c, j) 0 = 2
theorem k_met_no {n S W : Nat} {a : ks_M} (h : j_7 n S W a) {c y : Nat} (hc : c < n) (hy : y < 32) (hW : 0 < W) (hF : k_first S W y + W ≤ S * W) (w : Bool) : r_no (S * W) (k_met S W a c y w) c y w := by
  intro j hj hv hl
  have hs := j_sh_met h.1 (c := c) hF w c hc
  rw [hs.1.1 j] at hl
  have hf := k_find_all h hc hy hW hj ((hs.1.2.2 j hj).1 hv) hl hF
  have e : k_met S W a c y w = k_meet (S * W) a c j w := by unfold k_met; rw [hf]
  rw [e] at hv ⊢
  rcases j_meet_0 (T := S * W) (a := a) (c := c) (j := j) (w := w) with z | z
  · exact absurd z hv
  · exact ⟨z.1, by rw [z.2]; decide⟩
theorem k_send_low (S W : Nat) (x : Int32) {c y : Nat} (w : Bool) : ∀ (k i : Nat) (b : ks_M), c < i → ∀ j' z, k_send S W x y w k i b (7, c, j') z = b (7, c, j') z
  | 0, _, _, _, _, _ => rfl
  | k + 1, i, b, hk, j', z => by
    rw [k_send, k_send_low S W x w k (i + 1) _ (by omega), k_ask1_met]
    split
    · rfl
    · exact k_met_c S W b i y w j' z (by omega)
theorem k_send_no {n S W : Nat} (x : Int32) {c y : Nat} (hc : c < n) (hx : ¬ nI c = x) (hy : y < 32) (hW : 0 < W) (hF : k_first S W y + W ≤ S * W) (w : Bool) : ∀ (k i : Nat) (b : ks_M), j_7 n S W b → i ≤ c → c < i + k → r_no (S * W) (k_send S W x y w k i b) c y w
  | 0, i, b, h, h1, h2 => absurd h2 (by omega)
  | k + 1, i, b, h, h1, h2 => by
    rw [k_send]
    by_cases q : i = c
    · subst q
      have e := k_send_low S W x (c := i) (y := y) w k (i + 1) (k_ask1 S W x y w i b) (by omega)
      intro j hj
      rw [e, e, k_ask1_met, if_neg hx]
      exact k_met_no h hc hy hW hF w j hj
    · exact k_send_no x hc hx hy hW hF w k (i + 1) _ (j_7_ask1 h x hF w) (by omega) (by omega)
theorem j_7_put {n S W : Nat} {a f : ks_M} (h : j_7 n S W a) {c j y : Nat} (hj : j < S * W) (hy : y < 32) (hset : y % S = j / W) (e1 : ∀ c' j' i, ¬ (c' = c ∧ j' = j) → i < 3 → f (7, c', j') i = a (7, c', j') i) (hl : f (7, c, j) 1 = nI y) (hv : ¬ f (7, c, j) 0 = 0) (H1 : ∀ j', j' < S * W → j' ≠ j → ¬ a (7, c, j') 0 = 0 → ¬ a (7, c, j') 1 = nI y) (H2 : ∀ c' j', c' < n → c' ≠ c → j' < S * W → ¬ a (7, c', j') 0 = 0 → a (7, c', j') 1 = nI y → ¬ f (7, c, j) 0 = 2 ∧ ¬ a (7, c', j') 0 = 2) : j_7 n S W f := by
  refine ⟨fun c' hc' => ⟨fun i i' hi hi' v v' e => ?_, fun i hi => ?_, fun i hi => ?_⟩, fun c' hc' i hi v => ?_, fun c1 c2 i i' hc1 hc2 hne hi hi' h2 v e => ?_⟩
  · by_cases q : c' = c ∧ i = j
    · by_cases q' : c' = c ∧ i' = j
      · rw [q.2, q'.2]
      · have z := e1 c' i' 1 q' (by decide)
        have z0 := e1 c' i' 0 q' (by decide)
        rw [z0] at v'
        rw [z, q.1, q.2, hl] at e
        rw [q.1] at v'
        exact absurd e.symm (H1 i' hi' (fun p => q' ⟨q.1, p⟩) v')
    · by_cases q' : c' = c ∧ i' = j
      · have z := e1 c' i 1 q (by decide)
        have z0 := e1 c' i 0 q (by decide)
        rw [z0] at v
        rw [z, q'.1, q'.2, hl] at e
        rw [q'.1] at v
        exact absurd e (H1 i hi (fun p => q ⟨q'.1, p⟩) v)
      · rw [e1 c' i 0 q (by decide)] at v
        rw [e1 c' i' 0 q' (by decide)] at v'
        rw [e1 c' i 1 q (by decide), e1 c' i' 1 q' (by decide)] at e
        exact (h.1 c' hc').1 i i' hi hi' v v' e
  · rw [e1 c' i 2 (fun q => by omega) (by decide)]
    exact (h.1 c' hc').2.1 i hi
  · by_cases q : c' = c ∧ i = j
    · rw [q.1, q.2]
      exact ⟨⟨y, hy, hl⟩, fun z => absurd z hv⟩
    · rw [e1 c' i 0 q (by decide), e1 c' i 1 q (by decide), e1 c' i 2 q (by decide)]
      exact (h.1 c' hc').2.2 i hi
  · by_cases q : c' = c ∧ i = j
    · rw [q.1, q.2]
      exact ⟨y, hy, hl, hset⟩
    · rw [e1 c' i 0 q (by decide)] at v
      rw [e1 c' i 1 q (by decide)]
      exact h.2.1 c' hc' i hi v
  · by_cases q : c1 = c ∧ i = j
    · have q' : ¬ (c2 = c ∧ i' = j) := fun p => hne (by rw [q.1, p.1])
      rw [e1 c2 i' 0 q' (by decide)] at v
      rw [q.1, q.2, hl, e1 c2 i' 1 q' (by decide)] at e
      rw [q.1, q.2] at h2
      exact (H2 c2 i' hc2 (fun p => hne (by rw [q.1, p])) hi' v e.symm).1 h2
    · rw [e1 c1 i 0 q (by decide)] at h2
      rw [e1 c1 i 1 q (by decide)] at e
      by_cases q' : c2 = c ∧ i' = j
      · rw [q'.1, q'.2, hl] at e
        exact (H2 c1 i hc1 (fun p => hne (by rw [q'.1, p])) hi (by rw [h2]; decide) e).2 h2
      · rw [e1 c2 i' 0 q' (by decide)] at v
        rw [e1 c2 i' 1 q' (by decide)] at e
        exact h.2.2 c1 c2 i i' hc1 hc2 hne hi hi' h2 v e
