def q_n3 (x : Int32) : Nat := if x < 1 then 1 else if 3 < x then 3 else q_ix x
def q_s4 (x : Int32) : Nat := if x ≤ 1 then 1 else if x ≤ 3 then 2 else 4
theorem q_n3_in {x : Int32} (h1 : ¬ x < 1) (h3 : ¬ 3 < x) : x = 1 ∨ x = 2 ∨ x = 3 := by
  have h0 : ¬ x < 0 := fun h => h1 (Int32.lt_trans h (by decide))
  have e := q_nn h0
  have hl := q_nnl h0
  have a1 : ¬ q_ix x < 1 := fun z => h1 (by rw [e]; exact nI_lt (b := 1) z (by decide))
  have a3 : ¬ 3 < q_ix x := fun z => h3 (by rw [e]; exact nI_lt (a := 3) z hl)
  have : q_ix x = 1 ∨ q_ix x = 2 ∨ q_ix x = 3 := by omega
  rcases this with h | h | h
  · exact Or.inl (by rw [e, h]; rfl)
  · exact Or.inr (Or.inl (by rw [e, h]; rfl))
  · exact Or.inr (Or.inr (by rw [e, h]; rfl))
theorem q_n3_eq (x : Int32) : (if 1 < (if x < 3 then x else 3) then (if x < 3 then x else 3) else 1) = nI (q_n3 x) := by
  by_cases h1 : x < 1
  · have h2 : x < 3 := Int32.lt_trans h1 (by decide)
    have h3 : ¬ 1 < x := fun z => absurd (Int32.lt_trans z h1) (by decide)
    unfold q_n3
    rw [if_pos h2, if_neg h3, if_pos h1]
    rfl
  · by_cases h3 : 3 < x
    · have h2 : ¬ x < 3 := fun z => absurd (Int32.lt_trans z h3) Int32.lt_irrefl
      unfold q_n3
      rw [if_neg h2, if_neg h1, if_pos h3]
      rfl
    · rcases q_n3_in h1 h3 with rfl | rfl | rfl <;> decide
theorem q_n3_b (x : Int32) : 1 ≤ q_n3 x ∧ q_n3 x ≤ 3 := by
  unfold q_n3
  split
  · decide
  · split
    · decide
    · rename_i h1 h3
      rcases q_n3_in h1 h3 with rfl | rfl | rfl <;> decide
theorem q_s4_b (x : Int32) : q_s4 x = 1 ∨ q_s4 x = 2 ∨ q_s4 x = 4 := by
  unfold q_s4
  split
  · exact Or.inl rfl
  · split
    · exact Or.inr (Or.inl rfl)
    · exact Or.inr (Or.inr rfl)
def cn_cr (S : tk_K → Nat → Bool) (T : Nat) : Nat → tk_K → Nat → Bool
  | 0 => S
  | i + 1 => cn_set (cn_co (cn_wy (cn_ca (cn_cr S T i) i) i T) i) (3, 0, 0) i
theorem cn_co_mono {S : tk_K → Nat → Bool} {c : Nat} {k : tk_K} {j : Nat} (h : S k j = true) : cn_co S c k j = true := cn_set_mono (cn_set_mono (cn_set_mono (cn_set_mono (cn_set_mono (cn_set_mono h)))))
theorem cn_ca_mono {S : tk_K → Nat → Bool} {c : Nat} {k : tk_K} {j : Nat} (h : S k j = true) : cn_ca S c k j = true := cn_set_mono (cn_set_mono (cn_set_mono h))
theorem cn_co_nk {S : tk_K → Nat → Bool} {c : Nat} {k : tk_K} {j : Nat} (h : k ≠ (4, c, 0)) : cn_co S c k j = S k j := by
  unfold cn_co
  rw [cn_set_nk h, cn_set_nk h, cn_set_nk h, cn_set_nk h, cn_set_nk h, cn_set_nk h]
theorem cn_ca_nk {S : tk_K → Nat → Bool} {c : Nat} {k : tk_K} {j : Nat} (h : k ≠ (5, c, 0)) : cn_ca S c k j = S k j := by
  unfold cn_ca
  rw [cn_set_nk h, cn_set_nk h, cn_set_nk h]
theorem cn_cr_mono {S : tk_K → Nat → Bool} {T : Nat} {k : tk_K} {j : Nat} (h : S k j = true) : ∀ i, cn_cr S T i k j = true
  | 0 => h
  | i + 1 => cn_set_mono (cn_co_mono (cn_wy_mono (cn_ca_mono (cn_cr_mono h i)) T))
theorem cn_cr_nk {S : tk_K → Nat → Bool} {T : Nat} {k : tk_K} {j : Nat} (h3 : k ≠ (3, 0, 0)) : ∀ i, (∀ c, c < i → k ≠ (4, c, 0) ∧ k ≠ (5, c, 0) ∧ k ≠ (6, c, 0)) → cn_cr S T i k j = S k j
  | 0, _ => rfl
  | i + 1, h => by
    have hi := h i (by omega)
    rw [cn_cr, cn_set_nk h3, cn_co_nk hi.1, cn_wy_nk hi.2.2, cn_ca_nk hi.2.1]
    exact cn_cr_nk h3 i (fun c hc => h c (by omega))
theorem cn_c10 : ∀ j, j < 10 → cn_dft (4, 0, 0) j = defaultValue (t_Core j) := by decide +kernel
theorem cn_c3 : ∀ j, j < 3 → cn_dft (5, 0, 0) j = defaultValue (t_Cache j) := by decide +kernel
theorem cn_c1 : ∀ j, j < 1 → cn_dft (1, 0, 0) j = defaultValue (t_Store j) := by decide +kernel
abbrev cn_F (l : Launch) (P : ks_P) (y : MethodName) (cc : ByteArray) (As : List Value) (z : Nat) (S : tk_K → Nat → Bool) (r : Int32) : Prop :=
  tk_M l (ks_G P) (cn_dm P z) (cn_dm P z) y (Cond.code y cc 1 (some .int) :: WS) (cn_rm 1 0 0) As (cn_sl P S) (some (.int r)) (cn_sl P S)

set_option maxRecDepth 100000 in
set_option maxHeartbeats 4000000 in
theorem c_TC_oneToThree (l : Launch) (P : ks_P) (hP : ks_ok P) (S : tk_K → Nat → Bool) (z : Nat) (x : Int32) : cn_F l P y_TC_oneToThree b_TC_oneToThree [.int x] z S (nI (q_n3 x)) := by
  refine tk_of hP.2.2.2.2.2 (by decide) rfl (Nat.le_of_ble_eq_true rfl) ?_
  intro p e s m below meth c0 X hlk hr hnm
  refine tk_iconst (v := 1) X d_TC_oneToThree_0 (by decide) ?_
  refine tk_iconst (v := 3) X d_TC_oneToThree_1 (by decide) ?_
  refine tk_iload_n X d_TC_oneToThree_2 rfl rfl ?_
  refine tk_mini X m_TC_131 m_st_min mi_Math m_co_min (Nat.le_of_ble_eq_true rfl) (Nat.le_of_ble_eq_true rfl) (Nat.le_of_ble_eq_true rfl) (Nat.le_of_ble_eq_true rfl) d_TC_oneToThree_3 ?_
  refine tk_maxi X m_TC_137 m_st_max mi_Math m_co_max (Nat.le_of_ble_eq_true rfl) (Nat.le_of_ble_eq_true rfl) (Nat.le_of_ble_eq_true rfl) (Nat.le_of_ble_eq_true rfl) d_TC_oneToThree_6 ?_
  rw [q_n3_eq]
  exact tk_iret X hlk hr d_TC_oneToThree_9 (rfl) (fun _ h => h) (Or.inr rfl) (fun _ _ => rfl)

set_option maxRecDepth 100000 in
set_option maxHeartbeats 4000000 in
theorem c_TC_nearestSets (l : Launch) (P : ks_P) (hP : ks_ok P) (S : tk_K → Nat → Bool) (z : Nat) (x : Int32) : cn_F l P y_TC_nearestSets b_TC_nearestSets [.int x] z S (nI (q_s4 x)) := by
  refine tk_of hP.2.2.2.2.2 (by decide) rfl (Nat.le_of_ble_eq_true rfl) ?_
  intro p e s m below meth c0 X hlk hr hnm
  refine tk_iload_n X d_TC_nearestSets_0 rfl rfl ?_
  refine tk_iconst (v := 1) X d_TC_nearestSets_1 (by decide) ?_
  refine tk_icmp_gt (tgt := 7) X d_TC_nearestSets_2 (by decide) (fun h1 => ?_) (fun h1 => ?_)
  · refine tk_iload_n X d_TC_nearestSets_7 rfl rfl ?_
    refine tk_iconst (v := 3) X d_TC_nearestSets_8 (by decide) ?_
    have e1 : ¬ x ≤ 1 := Int32.not_le.mpr h1
    refine tk_icmp_gt (tgt := 16) X d_TC_nearestSets_9 (by decide) (fun h3 => ?_) (fun h3 => ?_)
    · refine tk_iconst (v := 4) X d_TC_nearestSets_16 (by decide) ?_
      have e : q_s4 x = 4 := (if_neg e1).trans (if_neg (Int32.not_le.mpr h3))
      exact tk_iret X hlk hr d_TC_nearestSets_17 (by rw [e]; rfl) (fun _ h => h) (Or.inr rfl) (fun _ _ => rfl)
    · refine tk_iconst (v := 2) X d_TC_nearestSets_12 (by decide) ?_
      refine tk_goto (tgt := 17) X d_TC_nearestSets_13 (by decide) ?_
      have e : q_s4 x = 2 := (if_neg e1).trans (if_pos (Int32.not_lt.mp h3))
      exact tk_iret X hlk hr d_TC_nearestSets_17 (by rw [e]; rfl) (fun _ h => h) (Or.inr rfl) (fun _ _ => rfl)
  · refine tk_iconst (v := 1) X d_TC_nearestSets_5 (by decide) ?_
    have e : q_s4 x = 1 := if_pos (Int32.not_lt.mp h1)
    exact tk_iret X hlk hr d_TC_nearestSets_6 (by rw [e]; rfl) (fun _ h => h) (Or.inr rfl) (fun _ _ => rfl)

section LC2
variable {p : Program} {l : Launch} {e : Env} {s : State} {m : MethodId} {args : Array Value} {below : List Frame} {meth : Method} {c0 : Code} {P : ks_P} {Q : State → Prop}
set_option maxRecDepth 100000 in
set_option maxHeartbeats 4000000 in
theorem lp_TC_init (X : tk_X p m c0 s args (ks_G P) R_TC b_TC_init 6 WS) (hP : ks_ok P) (hO : cn_ok P) {S : tk_K → Nat → Bool} {x y w : Int32} (hs : ks_S P = q_s4 y) (hw : ks_W P = q_n3 w) (h01 : S (0, 0, 0) 1 = true) (h4 : ∀ c j, S (4, c, 0) j = false) (h5 : ∀ c j, S (5, c, 0) j = false) (h6 : ∀ c j, S (6, c, 0) j = false) (kend : tk_go p l e (cn_rm 3 100 1000) s m args below meth c0 (ks_G P) (cn_dm P (4 + (cn_q (ks_T P) * (ks_n P) + 0))) 6 (3 + 19 * (ks_n P)) (68 + 135 * (ks_n P)) Q (cn_sl P (cn_cr S (ks_T P) (ks_n P))) 77 [some (.ref (ks_ad P (0, 0, 0))), some (.int x), some (.int y), some (.int w), some (.int (nI (ks_n P))), some (.int (nI (ks_n P)))] []) : ∀ (k i : Nat), i + k = ks_n P → tk_go p l e (cn_rm 3 100 1000) s m args below meth c0 (ks_G P) (cn_dm P (4 + (cn_q (ks_T P) * i + 0))) 6 (3 + 19 * i) (68 + 135 * i) Q (cn_sl P (cn_cr S (ks_T P) i)) 33 [some (.ref (ks_ad P (0, 0, 0))), some (.int x), some (.int y), some (.int w), some (.int (nI (ks_n P))), some (.int (nI i))] []
  | 0, i, hi => by
    have hn64 := ks_n64 hP
    have hin : i = ks_n P := by omega
    rw [hin]
    refine tk_iload X d_TC_init_33 rfl ?_
    refine tk_iload X d_TC_init_35 rfl ?_
    refine tk_icmp_ge (tgt := 77) X d_TC_init_37 (by decide) (fun _ => kend) (fun h => absurd (nI_le (Nat.le_refl _) (by omega)) h)
  | k + 1, i, hi => by
    have hn64 := ks_n64 hP
    have hT12 := ks_T12 hP
    have hn3 := hP.2.1
    have hc : i < ks_n P := by omega
    refine tk_iload X d_TC_init_33 rfl ?_
    refine tk_iload X d_TC_init_35 rfl ?_
    refine tk_icmp_ge (tgt := 77) X d_TC_init_37 (by decide) (fun h => absurd h (nI_ge hc (by omega))) (fun _ => ?_)
    refine tk_aload_n X d_TC_init_40 rfl rfl ?_
    refine tk_get X (k := (0, 0, 0)) (dm := cn_dm P (4 + (cn_q (ks_T P) * i + 0))) ⟨ks_d0 (P := P) (f := 0) (by decide), by show 0 < _; omega⟩ rfl hc_TC hi_TC 1 (by decide) m_TC_22 (v := .ref (ks_ad P (3, 0, 0))) (cn_is (cn_cr_mono h01 _)) d_TC_init_41 ?_
    refine tk_iload X d_TC_init_44 rfl ?_
    refine cn_new X hO (k := (4, i, 0)) (z := 4 + (cn_q (ks_T P) * i + 0)) ⟨hc, rfl⟩ rfl rfl hc_Core hi_Core t_Core t_Core_ok m_TC_20 mt_Core mi_Core (fun j hj => (cn_c10 j hj).symm.trans (cn_unv ((cn_cr_nk (by simp) i (fun c hc => ⟨by simp; omega, by simp, by simp⟩)).trans (h4 i j)) rfl)) (by show 3 + 19 * i + 1 ≤ 100; omega) (by show 68 + 135 * i + 10 ≤ 1000; omega) d_TC_init_46 ?_
    refine tk_dup X rfl d_TC_init_49 ?_
    refine tk_iload X d_TC_init_50 rfl ?_
    refine cn_new X hO (k := (5, i, 0)) (z := 4 + (cn_q (ks_T P) * i + 0) + 1) ⟨hc, rfl⟩ rfl rfl hc_Cache hi_Cache t_Cache t_Cache_ok m_TC_26 mt_Cache mi_Cache (fun j hj => (cn_c3 j hj).symm.trans (cn_unv ((cn_cr_nk (by simp) i (fun c hc => ⟨by simp, by simp; omega, by simp⟩)).trans (h5 i j)) rfl)) (by show 3 + 19 * i + 1 + 1 ≤ 100; omega) (by show 68 + 135 * i + 10 + 3 ≤ 1000; omega) d_TC_init_52 ?_
    refine tk_dup X rfl d_TC_init_55 ?_
    refine tk_iload_n X d_TC_init_56 rfl rfl ?_
    refine tk_callS X (c_TC_nearestSets l P hP (cn_cr S (ks_T P) i) _ y) (cn_site (n := 1) mc_TC_nearestSets mi_TC (by decide +kernel) (Nat.le_of_ble_eq_true rfl) (Nat.le_of_ble_eq_true rfl)) m_TC_28 ms_TC_nearestSets rfl (Nat.le_of_ble_eq_true rfl) ⟨by show 3 + 19 * i + 1 + 1 + 0 ≤ 100; omega, by show 68 + 135 * i + 10 + 3 + 0 ≤ 1000; omega⟩ rfl d_TC_init_57 ?_
    refine tk_iload_n X d_TC_init_60 rfl rfl ?_
    refine tk_callS X (c_TC_oneToThree l P hP (cn_cr S (ks_T P) i) _ w) (cn_site (n := 1) mc_TC_oneToThree mi_TC (by decide +kernel) (Nat.le_of_ble_eq_true rfl) (Nat.le_of_ble_eq_true rfl)) m_TC_7 ms_TC_oneToThree rfl (Nat.le_of_ble_eq_true rfl) ⟨by show 3 + 19 * i + 1 + 1 + 0 + 0 ≤ 100; omega, by show 68 + 135 * i + 10 + 3 + 0 + 0 ≤ 1000; omega⟩ rfl d_TC_init_61 ?_
    rw [← hs, ← hw]
    refine tk_callI X (c_Cache_init l P hP hO (cn_cr S (ks_T P) i) i hc (fun j => (cn_cr_nk (by simp) i (fun c hc => ⟨by simp, by simp, by simp; omega⟩)).trans (h6 i j))) (cn_site (n := 2) mc_Cache_init mi_Cache (by decide +kernel) (Nat.le_of_ble_eq_true rfl) (Nat.le_of_ble_eq_true rfl)) rfl m_TC_31 ms_Cache_init rfl (Nat.le_of_ble_eq_true rfl) ⟨by show 3 + 19 * i + 1 + 1 + 0 + 0 + (1 + ks_T P) ≤ 100; omega, by show 68 + 135 * i + 10 + 3 + 0 + 0 + (ks_T P + 6 * ks_T P) ≤ 1000; omega⟩ rfl d_TC_init_64 ?_
    refine tk_callI X (c_Core_init l P hP hO (cn_wy (cn_ca (cn_cr S (ks_T P) i) i) i (ks_T P)) i hc) (cn_site (n := 2) mc_Core_init mi_Core (by decide +kernel) (Nat.le_of_ble_eq_true rfl) (Nat.le_of_ble_eq_true rfl)) rfl m_TC_34 ms_Core_init rfl (Nat.le_of_ble_eq_true rfl) ⟨by show 3 + 19 * i + 1 + 1 + 0 + 0 + (1 + ks_T P) + 4 ≤ 100; omega, by show 68 + 135 * i + 10 + 3 + 0 + 0 + (ks_T P + 6 * ks_T P) + 38 ≤ 1000; omega⟩ rfl d_TC_init_67 ?_
    refine tk_aast X (dm := cn_dm P (4 + (cn_q (ks_T P) * i + (3 + ks_T P)) + 1 + 1 + 1 + 1)) (k := (3, 0, 0)) (kv := (4, i, 0)) ⟨ks_d0 (P := P) (f := 3) (by decide), by show 3 < _; omega⟩ ⟨⟨hc, rfl⟩, by show 4 + (cn_q (ks_T P) * i + 0) < _; omega⟩ rfl rfl rfl hc_Core (vp_in_nI hc (by omega)) d_TC_init_70 ?_
    rw [nI_clamp (by omega), show tk_up (cn_sl P (cn_co (cn_wy (cn_ca (cn_cr S (ks_T P) i) i) i (ks_T P)) i)) (3, 0, 0) i (.ref (tk_ad (ks_G P) (4, i, 0))) = cn_sl P (cn_cr S (ks_T P) (i + 1)) from cn_put P _ (3, 0, 0) i]
    refine tk_iinc (v := nI (i + 1)) X d_TC_init_71 rfl (q_inc i) (by decide) rfl ?_
    refine tk_goto (tgt := 33) X d_TC_init_74 (by decide) ?_
    have hz : 4 + (cn_q (ks_T P) * i + (3 + ks_T P)) + 1 + 1 + 1 + 1 = 4 + (cn_q (ks_T P) * (i + 1) + 0) := by
      rw [Nat.mul_add, Nat.mul_one]
      unfold cn_q
      omega
    rw [hz]
    refine tk_widen (k := 3 + 19 * (i + 1)) (n := 68 + 135 * (i + 1)) (by show 3 + 19 * i + 1 + 1 + 0 + 0 + (1 + ks_T P) + 4 ≤ _; omega) (by show 68 + 135 * i + 10 + 3 + 0 + 0 + (ks_T P + 6 * ks_T P) + 38 ≤ _; omega) ?_
    exact lp_TC_init X hP hO hs hw h01 h4 h5 h6 kend k (i + 1) (by omega)
end LC2

set_option maxRecDepth 100000 in
set_option maxHeartbeats 4000000 in
theorem c_TC_init (l : Launch) (P : ks_P) (hP : ks_ok P) (hO : cn_ok P) (S : tk_K → Nat → Bool) (x y w : Int32) (hn : ks_n P = q_n3 x) (hs : ks_S P = q_s4 y) (hw : ks_W P = q_n3 w) (h1 : ∀ j, S (1, 0, 0) j = false) (h3 : ∀ j, S (3, 0, 0) j = false) (h4 : ∀ c j, S (4, c, 0) j = false) (h5 : ∀ c j, S (5, c, 0) j = false) (h6 : ∀ c j, S (6, c, 0) j = false) : cn_M l P y_TC_init b_TC_init 6 3 100 1000 [.ref (ks_ad P (0, 0, 0)), .int x, .int y, .int w] 1 (4 + (cn_q (ks_T P) * ks_n P + 0)) S (cn_cr (cn_set (cn_set (cn_set S (1, 0, 0) 0) (0, 0, 0) 0) (0, 0, 0) 1) (ks_T P) (ks_n P)) := by
  have hn64 := ks_n64 hP
  have hn3 := hP.2.1
  refine tk_of hP.2.2.2.2.2 (by decide) rfl (Nat.le_of_ble_eq_true rfl) ?_
  intro p e s m below meth c0 X hlk hr hnm
  refine tk_aload_n X d_TC_init_0 rfl rfl ?_
  refine tk_objInit X m_TC_1 m_oi m_oc (Nat.le_of_ble_eq_true rfl) (Nat.le_of_ble_eq_true rfl) d_TC_init_1 ?_
  refine tk_iload_n X d_TC_init_4 rfl rfl ?_
  refine tk_callS X (c_TC_oneToThree l P hP S _ x) (cn_site (n := 1) mc_TC_oneToThree mi_TC (by decide +kernel) (Nat.le_of_ble_eq_true rfl) (Nat.le_of_ble_eq_true rfl)) m_TC_7 ms_TC_oneToThree rfl (Nat.le_of_ble_eq_true rfl) ⟨(Nat.le_of_ble_eq_true rfl), (Nat.le_of_ble_eq_true rfl)⟩ rfl d_TC_init_5 ?_
  rw [← hn]
  refine tk_istore X d_TC_init_8 (by decide) rfl ?_
  refine tk_aload_n X d_TC_init_10 rfl rfl ?_
  refine cn_new X hO (k := (1, 0, 0)) (z := 1) (ks_d0 (P := P) (f := 1) (by decide)) rfl rfl hc_Store hi_Store t_Store t_Store_ok m_TC_13 mt_Store mi_Store (fun j hj => (cn_c1 j hj).symm.trans (cn_unv (h1 j) rfl)) (Nat.le_of_ble_eq_true rfl) (Nat.le_of_ble_eq_true rfl) d_TC_init_11 ?_
  refine tk_dup X rfl d_TC_init_14 ?_
  refine tk_callIN X (c_Store_init l P hP hO S) (cn_site (n := 0) mc_Store_init mi_Store (by decide +kernel) (Nat.le_of_ble_eq_true rfl) (Nat.le_of_ble_eq_true rfl)) rfl n_TC_15 ms_Store_init rfl (Nat.le_of_ble_eq_true rfl) ⟨(Nat.le_of_ble_eq_true rfl), (Nat.le_of_ble_eq_true rfl)⟩ rfl d_TC_init_15 ?_
  refine cn_putF X hnm (k := (0, 0, 0)) (z := 3) ⟨ks_d0 (P := P) (f := 0) (by decide), (show (0 : Nat) < 3 by decide)⟩ rfl hc_TC hi_TC t_TC t_TC_ok n_TC 0 (by decide) m_TC_16 rfl rfl (v := .ref (ks_ad P (1, 0, 0))) rfl rfl rfl d_TC_init_18 ?_
  refine tk_aload_n X d_TC_init_21 rfl rfl ?_
  refine tk_iload X d_TC_init_22 rfl ?_
  refine cn_anew X hO (k := (3, 0, 0)) (z := 3) (ks_d0 (P := P) (f := 3) (by decide)) rfl rfl rfl m_TC_20 n_ao_Core (nI_pos (by omega)) (nI_clamp (by omega)) (by omega) (fun j _ => cn_unv (((cn_set_nk (by simp)).trans (cn_set_nk (by simp))).trans (h3 j)) rfl) (Nat.le_of_ble_eq_true rfl) (by show 0 + 0 + 1 + 64 + ks_n P ≤ 1000; omega) d_TC_init_24 ?_
  refine cn_putF X hnm (k := (0, 0, 0)) (z := 4) ⟨ks_d0 (P := P) (f := 0) (by decide), (show (0 : Nat) < 4 by decide)⟩ rfl hc_TC hi_TC t_TC t_TC_ok n_TC 1 (by decide) m_TC_22 rfl rfl (v := .ref (ks_ad P (3, 0, 0))) rfl rfl rfl d_TC_init_27 ?_
  refine tk_iconst (v := 0) X d_TC_init_30 (by decide) ?_
  refine tk_istore X d_TC_init_31 (by decide) rfl ?_
  refine tk_widen (k := 3 + 19 * 0) (n := 68 + 135 * 0) (Nat.le_of_ble_eq_true rfl) (by show 0 + 0 + 1 + 64 + ks_n P ≤ 68 + 135 * 0; omega) ?_
  refine lp_TC_init X hP hO (S := (cn_set (cn_set (cn_set S (1, 0, 0) 0) (0, 0, 0) 0) (0, 0, 0) 1)) hs hw (cn_set_eq _ _ _) (fun c j => (cn_set_nk (by simp)).trans ((cn_set_nk (by simp)).trans ((cn_set_nk (by simp)).trans (h4 c j)))) (fun c j => (cn_set_nk (by simp)).trans ((cn_set_nk (by simp)).trans ((cn_set_nk (by simp)).trans (h5 c j)))) (fun c j => (cn_set_nk (by simp)).trans ((cn_set_nk (by simp)).trans ((cn_set_nk (by simp)).trans (h6 c j)))) ?_ (ks_n P) 0 (by omega)
  refine tk_widen (k := 100) (n := 1000) (by omega) (by omega) ?_
  exact tk_vret X hlk hr d_TC_init_77 rfl (fun _ h => h) (Or.inr rfl) (fun _ _ => rfl)
