theorem k_us_7 (a : ks_M) (c j : Nat) {c' j' i : Nat} (h : ¬ (c' = c ∧ j' = j) ∨ i ≠ 5) : k_us a c j (7, c', j') i = a (7, c', j') i := by
  unfold k_us k_us1
  rw [ks_up_ne _ _ (fun z => by simp at z; omega), ks_up_nk _ _ (by simp)]
theorem k_mk_7 (a : ks_M) (c j : Nat) (w : Bool) {c' j' i : Nat} (h : ¬ (c' = c ∧ j' = j) ∨ i ≠ 2) : k_mk a c j w (7, c', j') i = a (7, c', j') i := by
  unfold k_mk
  split
  · rfl
  · rw [ks_up_ne _ _ (fun z => by simp at z; omega)]
theorem k_kp2_ne (a : ks_M) (c j : Nat) (t : Bool) {k : tk_K} (i : Nat) (h : k ≠ (2, 0, 0)) : k_kp2 a c j t k i = a k i := by
  unfold k_kp2
  split
  · split
    · split
      · exact k_keep_ne a c j i h
      · rfl
    · rfl
  · rfl
theorem k_md_7 (a : ks_M) (c j : Nat) (w : Bool) {c' j' i : Nat} (h : ¬ (c' = c ∧ j' = j) ∨ i ≠ 0) : k_md a c j w (7, c', j') i = a (7, c', j') i := by
  unfold k_md k_modify
  split
  · split
    · rw [ks_up_ne _ _ (fun z => by simp at z; omega), k_kp2_ne _ _ _ _ _ (by simp)]
    · rw [ks_up_ne _ _ (fun z => by simp at z; omega), k_kp2_ne _ _ _ _ _ (by simp)]
  · rfl
theorem k_md_0 (a : ks_M) (c j : Nat) (w : Bool) : k_md a c j w (7, c, j) 0 = if w = true then 2 else a (7, c, j) 0 := by
  unfold k_md k_modify
  split
  · split
    · rw [ks_up_eq]
    · rw [ks_up_eq]
  · rfl
theorem k_rf_7 (a : ks_M) (c j l : Nat) (had : Bool) {c' j' : Nat} (i : Nat) (h : ¬ (c' = c ∧ j' = j)) : k_rf a c j l had (7, c', j') i = a (7, c', j') i := by
  have hk : ((7, c', j') : tk_K) ≠ (7, c, j) := fun z => h (by simp at z; exact z)
  unfold k_rf k_refill k_fill k_fill2 k_fill1
  split
  · rfl
  · rw [ks_up_nk _ _ hk, ks_up_nk _ _ hk, ks_up_nk _ _ hk, ks_up_nk _ _ hk, k_kp_ne _ _ _ _ (by simp)]
theorem k_rf_1 (a : ks_M) (c j l : Nat) (had : Bool) : k_rf a c j l had (7, c, j) 1 = if had = true then a (7, c, j) 1 else nI l := by
  unfold k_rf k_refill k_fill k_fill2 k_fill1
  split
  · rfl
  · rw [ks_up_ne _ _ (by simp), ks_up_ne _ _ (by simp), ks_up_ne _ _ (by simp), ks_up_eq]
theorem k_rf_0 (a : ks_M) (c j l : Nat) (had : Bool) : k_rf a c j l had (7, c, j) 0 = if had = true then a (7, c, j) 0 else 1 := by
  unfold k_rf k_refill
  split
  · rfl
  · rw [ks_up_eq]
theorem k_rf_4 (a : ks_M) (c j l : Nat) (had : Bool) (c' i : Nat) : k_rf a c j l had (4, c', 0) i = a (4, c', 0) i := by
  unfold k_rf k_refill k_fill k_fill2 k_fill1
  split
  · rfl
  · rw [ks_up_nk _ _ (by simp), ks_up_nk _ _ (by simp), ks_up_nk _ _ (by simp), ks_up_nk _ _ (by simp), k_kp_ne _ _ _ _ (by simp)]
theorem k_md_4 (a : ks_M) (c j : Nat) (w : Bool) (c' i : Nat) : k_md a c j w (4, c', 0) i = a (4, c', 0) i := by
  unfold k_md
  split
  · split
    · exact k_modify_4 a c j _ c' i
    · exact k_modify_4 a c j _ c' i
  · rfl
theorem k_mk_4 (a : ks_M) (c j : Nat) (w : Bool) (c' i : Nat) : k_mk a c j w (4, c', 0) i = a (4, c', 0) i := by
  unfold k_mk
  split
  · rfl
  · rw [ks_up_nk _ _ (by simp)]
theorem k_acc2_4 (n S W : Nat) (a : ks_M) (c l : Nat) (w had : Bool) (j c' i : Nat) : k_acc2 n S W a c l w had j (4, c', 0) i = k_rq n S W a c l w had j (4, c', 0) i := by
  unfold k_acc2 k_us k_us1
  rw [ks_up_nk _ _ (by simp), ks_up_nk _ _ (by simp), k_mk_4, k_md_4, k_rf_4]
theorem k_acc2_7 (n S W : Nat) (a : ks_M) (c l : Nat) (w had : Bool) (j : Nat) {c' j' : Nat} (i : Nat) (h : ¬ (c' = c ∧ j' = j)) : k_acc2 n S W a c l w had j (7, c', j') i = k_rq n S W a c l w had j (7, c', j') i := by
  unfold k_acc2
  rw [k_us_7 _ _ _ (Or.inl h), k_mk_7 _ _ _ _ (Or.inl h), k_md_7 _ _ _ _ (Or.inl h), k_rf_7 _ _ _ _ _ _ h]
theorem k_acc2_1 (n S W : Nat) (a : ks_M) (c l : Nat) (w had : Bool) (j : Nat) : k_acc2 n S W a c l w had j (7, c, j) 1 = if had = true then k_rq n S W a c l w had j (7, c, j) 1 else nI l := by
  unfold k_acc2
  rw [k_us_7 _ _ _ (Or.inr (by decide)), k_mk_7 _ _ _ _ (Or.inr (by decide)), k_md_7 _ _ _ _ (Or.inr (by decide)), k_rf_1]
theorem k_acc2_0 (n S W : Nat) (a : ks_M) (c l : Nat) (w had : Bool) (j : Nat) : k_acc2 n S W a c l w had j (7, c, j) 0 = if w = true then 2 else if had = true then k_rq n S W a c l w had j (7, c, j) 0 else 1 := by
  unfold k_acc2
  rw [k_us_7 _ _ _ (Or.inr (by decide)), k_mk_7 _ _ _ _ (Or.inr (by decide)), k_md_0, k_rf_0]
theorem j_7_e {n S W : Nat} {a a' : ks_M} (h : j_7 n S W a) (e : ∀ c j i, i < 3 → a' (7, c, j) i = a (7, c, j) i) : j_7 n S W a' := j_7_sh h (j_sh_e h.1 e)
theorem j_7_ask {n S W : Nat} {a : ks_M} (h : j_7 n S W a) (c : Nat) {y : Nat} (hF : k_first S W y + W ≤ S * W) (w : Bool) : j_7 n S W (k_ask n S W a c y w) :=
  j_7_send (nI c) hF w n 0 _ (j_7_e h (fun _ _ _ _ => ks_up_nk _ _ (by simp)))
theorem k_ask_own {n S W : Nat} (hn : n ≤ 64) (a : ks_M) {c y : Nat} (hc : c < n) (w : Bool) (j i : Nat) : k_ask n S W a c y w (7, c, j) i = a (7, c, j) i := by
  unfold k_ask
  rw [k_send_own S W w (by omega) n 0 _ (by omega), ks_up_nk _ _ (by simp)]
theorem k_ask_no {n S W : Nat} {a : ks_M} (h : j_7 n S W a) {c c' y : Nat} (hn : n ≤ 64) (hc : c < n) (hc' : c' < n) (hne : c' ≠ c) (hy : y < 32) (hW : 0 < W) (hF : k_first S W y + W ≤ S * W) (w : Bool) : r_no (S * W) (k_ask n S W a c y w) c' y w :=
  k_send_no (nI c) hc' (fun z => hne ((nI_eq (by omega) (by omega)).mp z)) hy hW hF w n 0 _ (j_7_e h (fun _ _ _ _ => ks_up_nk _ _ (by simp))) (by omega) (by omega)
theorem j_7_rq {n S W : Nat} {a : ks_M} (h : j_7 n S W a) (c : Nat) {y : Nat} (hF : k_first S W y + W ≤ S * W) (w had : Bool) (j : Nat) : j_7 n S W (k_rq n S W a c y w had j) := by
  unfold k_rq
  split
  · split
    · split
      · exact h
      · exact j_7_ask h c hF w
    · exact h
  · exact j_7_ask h c hF w
theorem k_rq_own {n S W : Nat} (hn : n ≤ 64) (a : ks_M) {c y : Nat} (hc : c < n) (w had : Bool) (j j' i : Nat) : k_rq n S W a c y w had j (7, c, j') i = a (7, c, j') i := by
  unfold k_rq
  split
  · split
    · split
      · rfl
      · exact k_ask_own hn a hc w j' i
    · rfl
  · exact k_ask_own hn a hc w j' i
theorem j_7_acc2 {n S W : Nat} {a : ks_M} (h : j_7 n S W a) {c y j : Nat} (hn : n ≤ 64) (hc : c < n) (hy : y < 32) (hW : 0 < W) (hF : k_first S W y + W ≤ S * W) (w had : Bool) (h1 : k_first S W y ≤ j) (h2 : j < k_first S W y + W) (hh : had = true → ¬ a (7, c, j) 0 = 0 ∧ a (7, c, j) 1 = nI y) (hm : had = false → k_find a c y W (k_first S W y) = none) : j_7 n S W (k_acc2 n S W a c y w had j) := by
  have hj : j < S * W := by omega
  refine j_7_put (j_7_rq h c hF w had j) hj hy (k_set_of hW h1 h2) (fun c' j' i hne _ => k_acc2_7 n S W a c y w had j i hne) ?_ ?_ (fun j' hj' hne v => ?_) (fun c' j' hc' hne hj' v hl => ?_)
  · rw [k_acc2_1, k_rq_own hn a hc]
    cases had with
    | true => exact (hh rfl).2
    | false => rfl
  · rw [k_acc2_0, k_rq_own hn a hc]
    cases w with
    | true => exact (show ¬ ((2 : Int32) = 0) by decide)
    | false =>
      cases had with
      | true => exact (hh rfl).1
      | false => exact (show ¬ ((1 : Int32) = 0) by decide)
  · rw [k_rq_own hn a hc] at v ⊢
    intro hl
    cases had with
    | true => exact hne ((h.1 c hc).1 j' j hj' hj v (hh rfl).1 (hl.trans (hh rfl).2.symm))
    | false =>
      have z := k_find_all h hc hy hW hj' v hl hF
      rw [hm rfl] at z
      cases z
  · have key : (k_rq n S W a c y w had j = k_ask n S W a c y w ∧ (had = true → w = true)) ∨ (k_rq n S W a c y w had j = a ∧ had = true ∧ (w = true → a (7, c, j) 0 = 2)) := by
      unfold k_rq
      cases had with
      | false => exact Or.inl ⟨rfl, fun z => by cases z⟩
      | true =>
        cases w with
        | false => exact Or.inr ⟨rfl, rfl, fun z => by cases z⟩
        | true =>
          by_cases z : a (7, c, j) 0 = 2
          · exact Or.inr ⟨(if_pos rfl).trans ((if_pos rfl).trans (if_pos z)), rfl, fun _ => z⟩
          · exact Or.inl ⟨(if_pos rfl).trans ((if_pos rfl).trans (if_neg z)), fun _ => rfl⟩
    rcases key with ⟨e, k1⟩ | ⟨e, k1, k2⟩
    · rw [e] at v hl
      have z := k_ask_no h hn hc hc' hne hy hW hF w j' hj' v hl
      refine ⟨?_, by rw [e]; exact z.2⟩
      rw [k_acc2_0, z.1]
      cases had with
      | true => exact absurd (k1 rfl) (by rw [z.1]; decide)
      | false => exact (show ¬ ((1 : Int32) = 2) by decide)
    · rw [e] at v hl
      have hd := hh k1
      refine ⟨fun q => ?_, fun q => ?_⟩
      · have q2 : a (7, c, j) 0 = 2 := by
          rw [k_acc2_0, k_rq_own hn a hc, k1] at q
          cases w with
          | true => exact k2 rfl
          | false => exact q
        exact h.2.2 c c' j j' hc hc' (fun p => hne p.symm) hj hj' q2 v (hd.2.trans hl.symm)
      · rw [e] at q
        exact h.2.2 c' c j' j hc' hc hne hj' hj q hd.1 (hl.trans hd.2.symm)
def j_J (n S W : Nat) (a : ks_M) : Prop := j_7 n S W a ∧ k_I n a
theorem j_I_e {n : Nat} {a a' : ks_M} (h : k_I n a) (e : ∀ c i, i = 6 ∨ i = 7 → a' (4, c, 0) i = a (4, c, 0) i) : k_I n a' := fun c hc => by
  rw [e c 6 (Or.inl rfl), e c 7 (Or.inr rfl)]
  exact h c hc
theorem k_ab1_4 (T : Nat) (a : ks_M) (c : Nat) (v : Int32) (c' i : Nat) : k_ab1 T a c v (4, c', 0) i = a (4, c', 0) i := by
  unfold k_ab1
  rw [ks_up_nk _ _ (by simp), k_cp_ne _ _ _ (by simp), k_dm_ne _ _ _ _ _ (fun _ _ z => by simp at z), k_dw_ne _ _ _ _ _ (fun _ _ z => by simp at z)]
theorem k_abv_47 (T : Nat) (a : ks_M) (c q : Nat) (v : Int32) (c' : Nat) : k_abv T a c q v (4, c', 0) 7 = a (4, c', 0) 7 := by
  unfold k_abv k_ab2
  rw [ks_up_nk _ _ (by simp), ks_up_ne _ _ (by simp), ks_up_ne _ _ (by simp), k_ab1_4]
theorem k_abv_46 (T : Nat) (a : ks_M) (c q : Nat) (v : Int32) (c' : Nat) : k_abv T a c q v (4, c', 0) 6 = if c' = c then a (4, c, 0) 7 else a (4, c', 0) 6 := by
  unfold k_abv k_ab2
  rw [ks_up_nk _ _ (by simp), ks_up_ne _ _ (by simp)]
  split
  · rename_i e
    subst e
    rw [ks_up_eq, k_ab1_4]
  · rename_i e
    rw [ks_up_nk _ _ (fun z => e (by simp at z; exact z)), k_ab1_4]
theorem j_I_abv {n : Nat} {a : ks_M} (h : k_I n a) (T c q : Nat) (v : Int32) : k_I n (k_abv T a c q v) := fun c' hc' => by
  rw [k_abv_47, k_abv_46]
  split
  · rename_i e
    subst e
    exact ⟨(h c' hc').2, (h c' hc').2⟩
  · exact h c' hc'
theorem j_abort {n S W : Nat} {a : ks_M} (h : j_J n S W a) (c q : Nat) (m : Int32) : j_J n S W (k_abort (S * W) a c q m) := by
  rw [k_abort_abv]
  exact ⟨j_7_sh h.1 (j_sh_abv h.1.1 c q _), j_I_abv h.2 _ c q _⟩
theorem j_up {n S W : Nat} {a : ks_M} (h : j_J n S W a) {k : tk_K} (i : Nat) (v : Int32) (h7 : k.1 ≠ 7) (h4 : k.1 ≠ 4) : j_J n S W (ks_up a k i v) :=
  ⟨j_7_e h.1 (fun c j i _ => ks_up_nk _ _ (fun z => h7 (by rw [← z]))), j_I_e h.2 (fun c i _ => ks_up_nk _ _ (fun z => h4 (by rw [← z])))⟩
theorem j_up4 {n S W : Nat} {a : ks_M} (h : j_J n S W a) (c i : Nat) (v : Int32) (hv : i = 6 ∨ i = 7 → q_pc v) : j_J n S W (ks_up a (4, c, 0) i v) := by
  refine ⟨j_7_e h.1 (fun c j i _ => ks_up_nk _ _ (by simp)), fun c' hc' => ⟨?_, ?_⟩⟩
  · by_cases e : ((4, c', 0) : tk_K) = (4, c, 0) ∧ 6 = i
    · rw [e.1, ← e.2, ks_up_eq]
      exact hv (Or.inl e.2.symm)
    · rw [ks_up_ne _ _ e]
      exact (h.2 c' hc').1
  · by_cases e : ((4, c', 0) : tk_K) = (4, c, 0) ∧ 7 = i
    · rw [e.1, ← e.2, ks_up_eq]
      exact hv (Or.inr e.2.symm)
    · rw [ks_up_ne _ _ e]
      exact (h.2 c' hc').2
theorem j_up7 {n S W : Nat} {a : ks_M} (h : j_J n S W a) (c j i : Nat) (v : Int32) (hi : 3 ≤ i) : j_J n S W (ks_up a (7, c, j) i v) :=
  ⟨j_7_e h.1 (fun c j i hi => ks_up_ne _ _ (fun z => by omega)), j_I_e h.2 (fun c i _ => ks_up_nk _ _ (by simp))⟩
theorem j_cp {n S W : Nat} {a : ks_M} (h : j_J n S W a) (k0 : tk_K) {k1 : tk_K} (m : Nat) (h7 : k1.1 ≠ 7) (h4 : k1.1 ≠ 4) : j_J n S W (k_cp a k0 k1 m) :=
  ⟨j_7_e h.1 (fun c j i _ => k_cp_ne _ _ _ (fun z => h7 (by rw [← z]))), j_I_e h.2 (fun c i _ => k_cp_ne _ _ _ (fun z => h4 (by rw [← z])))⟩
theorem j_dm {n S W : Nat} {a : ks_M} (h : j_J n S W a) (c : Nat) : j_J n S W (k_dm a c (S * W)) :=
  ⟨j_7_sh h.1 (j_sh_dm h.1.1 c), j_I_e h.2 (fun c' i _ => k_dm_ne _ _ _ _ _ (fun _ _ z => by simp at z))⟩
theorem j_put {n S W : Nat} {a : ks_M} (h : j_J n S W a) (x v : Int32) : j_J n S W (k_put a x v) := j_up h _ _ (by decide) (by decide)
theorem j_I_met {n S W : Nat} {a : ks_M} (h : k_I n a) (c y : Nat) (w : Bool) : k_I n (k_met S W a c y w) := by
  unfold k_met
  cases k_find a c y W (k_first S W y) with
  | none => exact h
  | some j =>
    have h1 : k_I n (k_meet1 (S * W) a c j w) := by
      unfold k_meet1
      split
      · split
        · split
          · exact h
          · exact j_I_abv h _ _ _ _
        · exact h
      · exact j_I_abv h _ _ _ _
    refine j_I_e h1 (fun c' i _ => ?_)
    show k_meet2 (k_meet1 (S * W) a c j w) c j w (4, c', 0) i = _
    by_cases z0 : k_meet1 (S * W) a c j w (7, c, j) 0 = 0
    · rw [k_meet2, if_pos z0]
    · rw [k_meet2, if_neg z0, ks_up_nk _ _ (by simp), k_kp_ne _ _ _ _ (by simp)]
theorem j_I_send {n S W : Nat} (x : Int32) (y : Nat) (w : Bool) : ∀ (k i : Nat) (b : ks_M), k_I n b → k_I n (k_send S W x y w k i b)
  | 0, _, _, h => h
  | k + 1, i, b, h => by
    rw [k_send]
    refine j_I_send x y w k (i + 1) _ ?_
    rw [k_ask1_met]
    split
    · exact h
    · exact j_I_met h _ _ _
theorem j_send {n S W : Nat} {b : ks_M} (h : j_J n S W b) (x : Int32) {y : Nat} (hF : k_first S W y + W ≤ S * W) (w : Bool) (k i : Nat) : j_J n S W (k_send S W x y w k i b) :=
  ⟨j_7_send x hF w k i b h.1, j_I_send x y w k i b h.2⟩
theorem j_I_rq {n S W : Nat} {a : ks_M} (h : k_I n a) (c y : Nat) (w had : Bool) (j : Nat) : k_I n (k_rq n S W a c y w had j) := by
  have ha : k_I n (k_ask n S W a c y w) := j_I_send _ _ _ _ _ _ (j_I_e h (fun _ _ _ => ks_up_nk _ _ (by simp)))
  unfold k_rq
  split
  · split
    · split
      · exact h
      · exact ha
    · exact h
  · exact ha
theorem j_acc {n S W : Nat} {a : ks_M} (h : j_J n S W a) {c y : Nat} (hn : n ≤ 64) (hc : c < n) (hy : y < 32) (hW : 0 < W) (hF : k_first S W y + W ≤ S * W) (w : Bool) : j_J n S W (k_acc n S W a c y w).2 := by
  unfold k_acc
  cases hf : k_find a c y W (k_first S W y) with
  | some j =>
    have hl := k_find_lt a c y _ _ hf
    have hm := k_find_mat a c y _ _ hf
    exact ⟨j_7_acc2 h.1 hn hc hy hW hF w true hl.1 hl.2 (fun _ => hm) (fun z => by cases z), j_I_e (j_I_rq h.2 c y w true j) (fun c' i _ => k_acc2_4 n S W a c y w true j c' i)⟩
  | none =>
    cases hg : k_room a c W (k_first S W y) none with
    | some j =>
      have hl : k_first S W y ≤ j ∧ j < k_first S W y + W := by
        rcases k_room_lt a c _ _ _ hg with z | z
        · exact z
        · cases z
      exact ⟨j_7_acc2 h.1 hn hc hy hW hF w false hl.1 hl.2 (fun z => by cases z) (fun _ => hf), j_I_e (j_I_rq h.2 c y w false j) (fun c' i _ => k_acc2_4 n S W a c y w false j c' i)⟩
    | none => exact j_abort h c 2 0
theorem q_pc15 (x : Int32) : q_pc (x &&& 15) := q_and _ 4 (by decide) (by decide)
theorem j_fault {n S W : Nat} {a : ks_M} (h : j_J n S W a) (c : Nat) (x : Int32) (hx : q_pc x) : j_J n S W (k_fault (S * W) a c x).2 := by
  unfold k_fault
  split
  · exact j_up4 (j_up4 h c 9 1 (fun z => by omega)) c 6 x (fun _ => hx)
  · exact j_abort h c 5 0
theorem j_branch {n S W : Nat} {a : ks_M} (h : j_J n S W a) (c : Nat) (w : Int32) : j_J n S W (k_branch a c w) := by
  have hj : ∀ x, j_J n S W (k_jump a c x) := fun x => j_up4 h c 6 _ (fun _ => q_pc15 _)
  unfold k_branch
  split
  · split
    · exact hj _
    · exact h
  · split
    · exact h
    · exact hj _
theorem j_ite {n S W : Nat} {p : Prop} [d : Decidable p] {x y : Int32 × ks_M} (h1 : j_J n S W x.2) (h2 : j_J n S W y.2) : j_J n S W (if p then x else y).2 := by
  by_cases z : p
  · rw [if_pos z]; exact h1
  · rw [if_neg z]; exact h2
theorem j_do {n S W : Nat} {a : ks_M} (h : j_J n S W a) {c : Nat} (hn : n ≤ 64) (hc : c < n) (hW : 0 < W) (hF : ∀ y, k_first S W y + W ≤ S * W) (w x : Int32) (hx : q_pc x) : j_J n S W (k_do n S W a c w x).2 := by
  have hacc : ∀ y w', y < 32 → j_J n S W (k_acc n S W a c y w').2 := fun y w' hy => j_acc h hn hc hy hW (hF y) w'
  have hwp : ∀ (b : ks_M) (j : Nat) (u v : Int32), j_J n S W b → j_J n S W (k_wput b c j u v) := fun b j u v z => by
    unfold k_wput
    split
    · exact j_up7 z c j 3 _ (by decide)
    · exact j_up7 z c j 4 _ (by decide)
  have hld : j_J n S W (k_load n S W a c w).2 := by
    have z := hacc (q_ln (k_addr a c w)) false (q_ln_lt _)
    unfold k_load
    cases (k_acc n S W a c (q_ln (k_addr a c w)) false).1 with
    | none => exact z
    | some j => exact j_up z _ _ (by simp) (by simp)
  have hsv : j_J n S W (k_save n S W a c w).2 := by
    have z := hacc (q_ln (k_addr a c w)) true (q_ln_lt _)
    unfold k_save
    cases (k_acc n S W a c (q_ln (k_addr a c w)) true).1 with
    | none => exact z
    | some j => exact hwp _ j _ _ z
  have hrk : j_J n S W (k_reckon a c w) := j_up h _ _ (by simp) (by simp)
  have hbr := j_branch h c w
  have hft := j_fault h c x hx
  have hbg : j_J n S W (k_begin (S * W) a c (q_imm w)).2 := by
    have hd : ∀ b, j_J n S W b → j_J n S W (k_deep b c) := fun b hb => j_up4 hb c 8 _ (fun z => by omega)
    unfold k_begin
    split
    · exact j_abort h c 3 0
    · split
      · exact hd _ (j_up4 (j_cp h _ _ (by simp) (by simp)) c 7 _ (fun _ => q_pc15 _))
      · exact hd _ h
  have hen : j_J n S W (k_end (S * W) a c).2 := by
    have h1 : j_J n S W (k_end1 a c) := j_up4 h c 8 _ (fun z => by omega)
    unfold k_end
    split
    · exact j_up (j_dm h1 c) _ _ (by simp) (by simp)
    · exact h1
  have hgv : j_J n S W (k_give (S * W) a c (q_imm w)).2 := by
    unfold k_give
    split
    · exact h
    · exact j_abort h c 4 _
  have h0 : j_J n S W (ks_up a (4, c, 0) 6 x) := j_up4 h c 6 x (fun _ => hx)
  exact j_ite h0 (j_ite hld (j_ite hsv (j_ite hbr (j_ite hbr (j_ite hbg (j_ite (j_ite hft hen) (j_ite hgv (j_ite hrk (j_ite hrk (j_ite hrk (j_ite hrk (j_ite hrk (j_ite hrk hft)))))))))))))
theorem j_step {n S W : Nat} {a : ks_M} (h : j_J n S W a) {c : Nat} (hn : n ≤ 64) (hc : c < n) (hW : 0 < W) (hF : ∀ y, k_first S W y + W ≤ S * W) : j_J n S W (k_step n S W a c).2 := by
  unfold k_step
  split
  · exact j_do (j_up4 h c 6 _ (fun _ => q_pc15 _)) hn hc hW hF _ _ (h.2 c hc).1
  · exact h
theorem j_run {n S W : Nat} (hn : n ≤ 64) (h0 : 0 < n) (hW : 0 < W) (hF : ∀ y, k_first S W y + W ≤ S * W) (x : Int32) : ∀ (k i : Nat) (v : Int32) (a : ks_M), j_J n S W a → j_J n S W (k_run n S W x k i v a).2
  | 0, _, _, _, h => h
  | k + 1, i, v, a, h => by
    rw [k_run]
    exact j_run hn h0 hW hF x k (i + 1) _ _ (j_step h hn (q_core_lt h0 x i) hW hF)
theorem j_poke {n S W : Nat} {a : ks_M} (h : j_J n S W a) (hF : ∀ y, k_first S W y + W ≤ S * W) (x v : Int32) : j_J n S W (k_poke n S W a x v) := j_put (j_send h _ (hF _) true n 0) x v
theorem j_jumpto {n S W : Nat} {a : ks_M} (h : j_J n S W a) (c : Nat) (x : Int32) : j_J n S W (k_jumpto a c x) := j_up4 (j_up4 h c 6 _ (fun _ => q_pc15 _)) c 9 0 (fun z => by omega)
theorem j_code {n S W : Nat} {a : ks_M} (h : j_J n S W a) (c i : Nat) (v : Int32) : j_J n S W (ks_up a (8, c, 0) i v) := j_up h i v (by simp) (by simp)
theorem q_pc0 : q_pc 0 := by unfold q_pc; decide
theorem j_zero (n S W : Nat) : j_J n S W (fun _ _ => 0) :=
  ⟨⟨fun _ _ => ⟨fun _ _ _ _ v => absurd rfl v, fun _ _ => rfl, fun _ _ => ⟨⟨0, by decide, rfl⟩, fun _ => rfl⟩⟩, fun _ _ _ _ v => absurd rfl v, fun _ _ _ _ _ _ _ _ _ v => absurd (show (0 : Int32) = 2 from v) (by decide)⟩, fun _ _ => ⟨q_pc0, q_pc0⟩⟩
theorem r_hit_one {n S W : Nat} {a : ks_M} (h : j_7 n S W a) {y : Nat} (hF : k_first S W y + W ≤ S * W) (x : Int32) {c c' : Nat} (hc : c < n) (hc' : c' < n) (hne : c ≠ c') {w : Int32} (e : r_hit S W a y x c = some w) : r_hit S W a y x c' = none := by
  unfold r_hit at e ⊢
  cases hf' : k_find a c' y W (k_first S W y) with
  | none => rfl
  | some j' =>
    cases hf : k_find a c y W (k_first S W y) with
    | none => rw [hf] at e; cases e
    | some j =>
      rw [hf] at e
      have m := k_find_mat a c y _ _ hf
      have m' := k_find_mat a c' y _ _ hf'
      have l1 := k_find_lt a c y _ _ hf
      have l2 := k_find_lt a c' y _ _ hf'
      by_cases z : a (7, c, j) 0 = 2
      · exact absurd (m.2.trans m'.2.symm) (h.2.2 c c' j j' hc hc' hne (by omega) (by omega) z m'.1)
      · simp only [if_neg z] at e
        cases e
theorem j_peek {n S W : Nat} {a : ks_M} (h : j_7 n S W a) {y : Nat} (hF : k_first S W y + W ≤ S * W) (x : Int32) : r_pk S W a y x n 0 (k_get a x) = k_pk S W a y x n 0 :=
  r_pk_eq S W a y x n 0 (fun i i' w _ h2 _ h4 e hne => r_hit_one h hF x (by omega) (by omega) hne e)
