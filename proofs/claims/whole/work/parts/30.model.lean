set_option maxRecDepth 100000 in
set_option maxHeartbeats 4000000 in
theorem c_Model_thrown (l : Launch) (P : ks_P) (hP : ks_ok P)  (a b : ks_M) (o : ks_O) : kc l P y_Model_thrown b_Model_thrown 1 (some .int) 0 [.ref (tk_ad (ks_G P) (12, 0, 0))] a b o (some (.int o.2)) a b o := by
  have hn64 := ks_n64 hP
  have hT64 := ks_T64 hP
  refine tk_of hP.2.2.2.2.2 (by decide) rfl (Nat.le_of_ble_eq_true rfl) ?_
  intro p e s m below meth c0 X hlk hr hnm
  refine tk_aload_n X d_Model_thrown_0 rfl rfl ?_
  refine tk_get X (k := (12, 0, 0)) (dm := ks_dm P) (ks_d0 (by decide)) rfl hc_Model hi_Model 3 (by decide) m_Model_66 (v := .int _) rfl d_Model_thrown_1 ?_
  exact tk_iret X hlk hr d_Model_thrown_4 (rfl) (fun _ h => h) (Or.inr rfl) (fun _ _ => rfl)

set_option maxRecDepth 100000 in
set_option maxHeartbeats 4000000 in
theorem c_Model_fail (l : Launch) (P : ks_P) (hP : ks_ok P) (x : Int32) (a b : ks_M) (o : ks_O) : kc l P y_Model_fail b_Model_fail 2 (some .int) 0 [.ref (tk_ad (ks_G P) (12, 0, 0)), .int x] a b o (some (.int 0)) a b (o.1, x) := by
  have hn64 := ks_n64 hP
  have hT64 := ks_T64 hP
  refine tk_of hP.2.2.2.2.2 (by decide) rfl (Nat.le_of_ble_eq_true rfl) ?_
  intro p e s m below meth c0 X hlk hr hnm
  refine tk_aload_n X d_Model_fail_0 rfl rfl ?_
  refine tk_iload_n X d_Model_fail_1 rfl rfl ?_
  refine kr_code X hc_Model hi_Model t_Model t_Model_ok n_Model (by decide) m_Model_66 rfl rfl rfl d_Model_fail_2 ?_
  refine tk_iconst (v := 0) X d_Model_fail_5 (by decide) ?_
  exact tk_iret X hlk hr d_Model_fail_6 (rfl) (fun _ h => h) (Or.inr rfl) (fun _ _ => rfl)

set_option maxRecDepth 100000 in
set_option maxHeartbeats 4000000 in
theorem c_Model_isCore (l : Launch) (P : ks_P) (hP : ks_ok P) (c : Nat) (hc : c < ks_n P) (a b : ks_M) (o : ks_O) : kc l P y_Model_isCore b_Model_isCore 2 (some .boolean) 0 [.ref (tk_ad (ks_G P) (12, 0, 0)), .int (nI c)] a b o (some (.int 1)) a b o := by
  have hn64 := ks_n64 hP
  have hT64 := ks_T64 hP
  refine tk_of hP.2.2.2.2.2 (by decide) rfl (Nat.le_of_ble_eq_true rfl) ?_
  intro p e s m below meth c0 X hlk hr hnm
  refine tk_iload_n X d_Model_isCore_0 rfl rfl ?_
  refine tk_if_lt (tgt := 16) X d_Model_isCore_1 (by decide) (fun h => absurd h (nI_pos (by omega))) (fun _ => ?_)
  refine tk_iload_n X d_Model_isCore_4 rfl rfl ?_
  refine tk_aload_n X d_Model_isCore_5 rfl rfl ?_
  refine tk_get X (k := (12, 0, 0)) (dm := ks_dm P) (ks_d0 (by decide)) rfl hc_Model hi_Model 0 (by decide) m_Model_56 (v := .int _) rfl d_Model_isCore_6 ?_
  refine tk_icmp_ge (tgt := 16) X d_Model_isCore_9 (by decide) (fun h => absurd h (nI_ge hc (by omega))) (fun _ => ?_)
  refine tk_iconst (v := 1) X d_Model_isCore_12 (by decide) ?_
  refine tk_goto (tgt := 17) X d_Model_isCore_13 (by decide) ?_
  exact tk_zret X hlk hr (by decide) d_Model_isCore_17 rfl (fun _ h => h) (Or.inr rfl) (fun _ _ => rfl)

set_option maxRecDepth 100000 in
set_option maxHeartbeats 4000000 in
theorem c_Model_isCore0 (l : Launch) (P : ks_P) (hP : ks_ok P) (x : Int32) (hx : x < 0 ∨ nI (ks_n P) ≤ x) (a b : ks_M) (o : ks_O) : kc l P y_Model_isCore b_Model_isCore 2 (some .boolean) 0 [.ref (tk_ad (ks_G P) (12, 0, 0)), .int x] a b o (some (.int 0)) a b o := by
  have hn64 := ks_n64 hP
  have hT64 := ks_T64 hP
  refine tk_of hP.2.2.2.2.2 (by decide) rfl (Nat.le_of_ble_eq_true rfl) ?_
  intro p e s m below meth c0 X hlk hr hnm
  refine tk_iload_n X d_Model_isCore_0 rfl rfl ?_
  refine tk_if_lt (tgt := 16) X d_Model_isCore_1 (by decide) (fun h1 => ?_) (fun h1 => ?_)
  · skip
    refine tk_iconst (v := 0) X d_Model_isCore_16 (by decide) ?_
    exact tk_zret X hlk hr (by decide) d_Model_isCore_17 rfl (fun _ h => h) (Or.inr rfl) (fun _ _ => rfl)
  · skip
    refine tk_iload_n X d_Model_isCore_4 rfl rfl ?_
    refine tk_aload_n X d_Model_isCore_5 rfl rfl ?_
    refine tk_get X (k := (12, 0, 0)) (dm := ks_dm P) (ks_d0 (by decide)) rfl hc_Model hi_Model 0 (by decide) m_Model_56 (v := .int _) rfl d_Model_isCore_6 ?_
    refine tk_icmp_ge (tgt := 16) X d_Model_isCore_9 (by decide) (fun _ => ?_) (fun h => absurd (hx.resolve_left h1) h)
    refine tk_iconst (v := 0) X d_Model_isCore_16 (by decide) ?_
    exact tk_zret X hlk hr (by decide) d_Model_isCore_17 rfl (fun _ h => h) (Or.inr rfl) (fun _ _ => rfl)

set_option maxRecDepth 100000 in
set_option maxHeartbeats 4000000 in
theorem c_Model_place (l : Launch) (P : ks_P) (hP : ks_ok P) (c y u : Nat) (hy : y < 32) (hu : u < ks_W P) (a b : ks_M) (o : ks_O) : kc l P y_Model_place b_Model_place 4 (some .int) 0 [.ref (tk_ad (ks_G P) (12, 0, 0)), .int (nI c), .int (nI y), .int (nI u)] a b o (some (.int (nI (r_pj (ks_W P) c ((k_first (ks_S P) (ks_W P) y) + u))))) a b o := by
  have hn64 := ks_n64 hP
  have hT64 := ks_T64 hP
  refine tk_of hP.2.2.2.2.2 (by decide) rfl (Nat.le_of_ble_eq_true rfl) ?_
  intro p e s m below meth c0 X hlk hr hnm
  refine tk_bipush (v := 12) X d_Model_place_0 (by decide) ?_
  refine tk_iload_n X d_Model_place_2 rfl rfl ?_
  refine tk_imul X d_Model_place_3 ?_
  refine tk_iconst (v := 3) X d_Model_place_4 (by decide) ?_
  refine tk_iload_n X d_Model_place_5 rfl rfl ?_
  refine tk_aload_n X d_Model_place_6 rfl rfl ?_
  refine tk_get X (k := (12, 0, 0)) (dm := ks_dm P) (ks_d0 (by decide)) rfl hc_Model hi_Model 1 (by decide) m_Model_60 (v := .int _) rfl d_Model_place_7 ?_
  refine tk_irem X d_Model_place_10 (nI_ne0 (by rcases hP.2.2.1 with h | h | h <;> omega) (by rcases hP.2.2.1 with h | h | h <;> omega)) ?_
  refine tk_imul X d_Model_place_11 ?_
  refine tk_iadd X d_Model_place_12 ?_
  refine tk_iload_n X d_Model_place_13 rfl rfl ?_
  refine tk_iadd X d_Model_place_14 ?_
  exact tk_iret X hlk hr d_Model_place_15 (by rw [r_place hP hy hu]) (fun _ h => h) (Or.inr rfl) (fun _ _ => rfl)

section LP
variable {p : Program} {l : Launch} {e : Env} {R : Room} {s : State} {m : MethodId} {args : Array Value} {below : List Frame} {meth : Method} {c0 : Code} {P : ks_P} {cells slots : Nat} {Q : State → Prop}
set_option maxRecDepth 100000 in
set_option maxHeartbeats 4000000 in
theorem lp_Model_find (X : tk_X p m c0 s args (ks_G P) R_Model b_Model_find 6 WS) (hP : ks_ok P) {c y : Nat} (hc : c < ks_n P) (hy : y < 32) (a b : ks_M) (o : ks_O) (kend : ∀ t5, tk_go p l e (ks_rm 1) s m args below meth c0 (ks_G P) (ks_dm P) 6 0 0 Q (ks_sl P a b o) 54 [some (.ref (tk_ad (ks_G P) (12, 0, 0))), some (.int (nI c)), some (.int (nI y)), some (.int (r_int (ks_W P) c (r_find b c y (k_first (ks_S P) (ks_W P) y) (ks_W P)))), some (.int (nI (ks_W P))), t5] []) : ∀ (k u : Nat) (t5 : Option Value), u + k = ks_W P → tk_go p l e (ks_rm 1) s m args below meth c0 (ks_G P) (ks_dm P) 6 0 0 Q (ks_sl P a b o) 5 [some (.ref (tk_ad (ks_G P) (12, 0, 0))), some (.int (nI c)), some (.int (nI y)), some (.int (r_int (ks_W P) c (r_find b c y (k_first (ks_S P) (ks_W P) y) u))), some (.int (nI u)), t5] [] := by
  have hn64 := ks_n64 hP
  have hT64 := ks_T64 hP
  intro k
  induction k with
  | zero =>
    intro u t5 hu
    have hu2 : u = ks_W P := by omega
    subst hu2
    refine tk_iload X d_Model_find_5 rfl ?_
    refine tk_aload_n X d_Model_find_7 rfl rfl ?_
    refine tk_get X (k := (12, 0, 0)) (dm := ks_dm P) (ks_d0 (by decide)) rfl hc_Model hi_Model 2 (by decide) m_Model_63 (v := .int _) rfl d_Model_find_8 ?_
    refine tk_icmp_ge (tgt := 54) X d_Model_find_11 (by decide) (fun _ => ?_) (fun h => absurd (nI_le (Nat.le_refl _) (by have := hP.2.2.2.2.1; omega)) h)
    exact kend t5
  | succ k ih =>
    intro u t5 hu
    have hu2 : u < ks_W P := by omega
    have hF := k_first_le hP y
    have hj : (k_first (ks_S P) (ks_W P) y) + u < ks_T P := by omega
    refine tk_iload X d_Model_find_5 rfl ?_
    refine tk_aload_n X d_Model_find_7 rfl rfl ?_
    refine tk_get X (k := (12, 0, 0)) (dm := ks_dm P) (ks_d0 (by decide)) rfl hc_Model hi_Model 2 (by decide) m_Model_63 (v := .int _) rfl d_Model_find_8 ?_
    refine tk_icmp_ge (tgt := 54) X d_Model_find_11 (by decide) (fun h => absurd h (nI_ge hu2 (by have := hP.2.2.2.2.1; omega))) (fun _ => ?_)
    refine tk_aload_n X d_Model_find_14 rfl rfl ?_
    refine tk_iload_n X d_Model_find_15 rfl rfl ?_
    refine tk_iload_n X d_Model_find_16 rfl rfl ?_
    refine tk_iload X d_Model_find_17 rfl ?_
    refine tk_callV X (kb := (12, 0, 0)) (ks_d0 (by decide)) rfl hc_Model (c_Model_place l P hP c y u hy hu2 a b o) (ks_site (n := 3) mc_Model_place mi_Model (by decide +kernel) (by decide) (by decide)) m_Model_69 ms_Model_place mv_Model_place rfl (Nat.le_of_ble_eq_true rfl) ⟨Nat.le_of_ble_eq_true rfl, Nat.le_of_ble_eq_true rfl⟩ rfl d_Model_find_19 ?_
    refine tk_istore X d_Model_find_22 (by decide) rfl ?_
    refine tk_aload_n X d_Model_find_24 rfl rfl ?_
    refine tk_get X (k := (12, 0, 0)) (dm := ks_dm P) (ks_d0 (by decide)) rfl hc_Model hi_Model 15 (by decide) m_Model_38 (v := .ref (tk_ad (ks_G P) (22, 0, 0))) rfl d_Model_find_25 ?_
    refine tk_iload X d_Model_find_28 rfl ?_
    refine kr_iald X (f := 22) (i' := 0) (by decide) (by decide) rfl (by decide) rfl (r_pj_lt hP hc hj) (ks_vk_pj hP hj) rfl d_Model_find_30 ?_
    refine tk_if_eq (tgt := 48) X d_Model_find_31 (by decide) (fun h1 => ?_) (fun h1 => ?_)
    · skip
      refine tk_iinc (v := nI (u + 1)) X d_Model_find_48 rfl (q_inc u) (by decide) rfl ?_
      refine tk_goto (tgt := 5) X d_Model_find_51 (by decide) ?_
      have ih2 := ih (u + 1) (some (.int (nI (r_pj (ks_W P) c ((k_first (ks_S P) (ks_W P) y) + u))))) (by omega)
      rw [r_find, if_neg (fun q => q.1 h1)] at ih2
      exact ih2
    · skip
      refine tk_aload_n X d_Model_find_34 rfl rfl ?_
      refine tk_get X (k := (12, 0, 0)) (dm := ks_dm P) (ks_d0 (by decide)) rfl hc_Model hi_Model 16 (by decide) m_Model_41 (v := .ref (tk_ad (ks_G P) (23, 0, 0))) rfl d_Model_find_35 ?_
      refine tk_iload X d_Model_find_38 rfl ?_
      refine kr_iald X (f := 23) (i' := 1) (by decide) (by decide) rfl (by decide) rfl (r_pj_lt hP hc hj) (ks_vk_pj hP hj) rfl d_Model_find_40 ?_
      refine tk_iload_n X d_Model_find_41 rfl rfl ?_
      refine tk_icmp_ne (tgt := 48) X d_Model_find_42 (by decide) (fun h2 => ?_) (fun h2 => ?_)
      · skip
        refine tk_iinc (v := nI (u + 1)) X d_Model_find_48 rfl (q_inc u) (by decide) rfl ?_
        refine tk_goto (tgt := 5) X d_Model_find_51 (by decide) ?_
        have ih2 := ih (u + 1) (some (.int (nI (r_pj (ks_W P) c ((k_first (ks_S P) (ks_W P) y) + u))))) (by omega)
        rw [r_find, if_neg (fun q => h2 q.2)] at ih2
        exact ih2
      · skip
        refine tk_iload X d_Model_find_45 rfl ?_
        refine tk_istore_n X d_Model_find_47 rfl (by decide) rfl ?_
        refine tk_iinc (v := nI (u + 1)) X d_Model_find_48 rfl (q_inc u) (by decide) rfl ?_
        refine tk_goto (tgt := 5) X d_Model_find_51 (by decide) ?_
        have ih2 := ih (u + 1) (some (.int (nI (r_pj (ks_W P) c ((k_first (ks_S P) (ks_W P) y) + u))))) (by omega)
        rw [r_find, if_pos ⟨h1, h2⟩] at ih2
        exact ih2
end LP

set_option maxRecDepth 100000 in
set_option maxHeartbeats 4000000 in
theorem c_Model_find (l : Launch) (P : ks_P) (hP : ks_ok P) (c y : Nat) (hc : c < ks_n P) (hy : y < 32) (a b : ks_M) (o : ks_O) (hu : r_uniq b c (ks_T P)) : kc l P y_Model_find b_Model_find 6 (some .int) 1 [.ref (tk_ad (ks_G P) (12, 0, 0)), .int (nI c), .int (nI y)] a b o (some (.int (r_int (ks_W P) c (k_find b c y (ks_W P) (k_first (ks_S P) (ks_W P) y))))) a b o := by
  have hn64 := ks_n64 hP
  have hT64 := ks_T64 hP
  refine tk_of hP.2.2.2.2.2 (by decide) rfl (Nat.le_of_ble_eq_true rfl) ?_
  intro p e s m below meth c0 X hlk hr hnm
  refine tk_iconst (v := -1) X d_Model_find_0 (by decide) ?_
  refine tk_istore_n X d_Model_find_1 rfl (by decide) rfl ?_
  refine tk_iconst (v := 0) X d_Model_find_2 (by decide) ?_
  refine tk_istore X d_Model_find_3 (by decide) rfl ?_
  refine lp_Model_find X hP hc hy a b o (fun t5 => ?_) (ks_W P) 0 _ (by omega)
  refine tk_iload_n X d_Model_find_54 rfl rfl ?_
  exact tk_iret X hlk hr d_Model_find_55 (by rw [r_find_eq hu (ks_W P) (k_first_le hP y)]) (fun _ h => h) (Or.inr rfl) (fun _ _ => rfl)

section LP
variable {p : Program} {l : Launch} {e : Env} {R : Room} {s : State} {m : MethodId} {args : Array Value} {below : List Frame} {meth : Method} {c0 : Code} {P : ks_P} {cells slots : Nat} {Q : State → Prop}
set_option maxRecDepth 100000 in
set_option maxHeartbeats 4000000 in
theorem lp_Model_room1 (X : tk_X p m c0 s args (ks_G P) R_Model b_Model_room 6 WS) (hP : ks_ok P) {c y : Nat} (hc : c < ks_n P) (hy : y < 32) (a b : ks_M) (o : ks_O) {r : Option Nat} (kend : ∀ t5, tk_go p l e (ks_rm 1) s m args below meth c0 (ks_G P) (ks_dm P) 6 0 0 Q (ks_sl P a b o) 44 [some (.ref (tk_ad (ks_G P) (12, 0, 0))), some (.int (nI c)), some (.int (nI y)), some (.int (r_int (ks_W P) c r)), some (.int (nI 0 - 1)), t5] []) : ∀ (i : Nat) (q : Option Nat) (t5 : Option Value), i ≤ ks_W P → r_dn b c (k_first (ks_S P) (ks_W P) y) i q = r → tk_go p l e (ks_rm 1) s m args below meth c0 (ks_G P) (ks_dm P) 6 0 0 Q (ks_sl P a b o) 10 [some (.ref (tk_ad (ks_G P) (12, 0, 0))), some (.int (nI c)), some (.int (nI y)), some (.int (r_int (ks_W P) c q)), some (.int (nI i - 1)), t5] [] := by
  have hn64 := ks_n64 hP
  have hT64 := ks_T64 hP
  intro k
  induction k with
  | zero =>
    intro q t5 hi hk
    have hk2 : q = r := hk
    subst hk2
    refine tk_iload X d_Model_room_10 rfl ?_
    refine tk_if_lt (tgt := 44) X d_Model_room_12 (by decide) (fun _ => ?_) (fun h => absurd (by decide) h)
    exact kend t5
  | succ k ih =>
    intro q t5 hi hk
    have hk3 : k < ks_W P := by omega
    have hF := k_first_le hP y
    have hj : (k_first (ks_S P) (ks_W P) y) + k < ks_T P := by omega
    have e0 : nI (k + 1) - 1 = nI k := nI_pred k
    rw [e0]
    refine tk_iload X d_Model_room_10 rfl ?_
    refine tk_if_lt (tgt := 44) X d_Model_room_12 (by decide) (fun h => absurd h (nI_pos (by omega))) (fun _ => ?_)
    refine tk_aload_n X d_Model_room_15 rfl rfl ?_
    refine tk_iload_n X d_Model_room_16 rfl rfl ?_
    refine tk_iload_n X d_Model_room_17 rfl rfl ?_
    refine tk_iload X d_Model_room_18 rfl ?_
    refine tk_callV X (kb := (12, 0, 0)) (ks_d0 (by decide)) rfl hc_Model (c_Model_place l P hP c y k hy hk3 a b o) (ks_site (n := 3) mc_Model_place mi_Model (by decide +kernel) (by decide) (by decide)) m_Model_69 ms_Model_place mv_Model_place rfl (Nat.le_of_ble_eq_true rfl) ⟨Nat.le_of_ble_eq_true rfl, Nat.le_of_ble_eq_true rfl⟩ rfl d_Model_room_20 ?_
    refine tk_istore X d_Model_room_23 (by decide) rfl ?_
    refine tk_aload_n X d_Model_room_25 rfl rfl ?_
    refine tk_get X (k := (12, 0, 0)) (dm := ks_dm P) (ks_d0 (by decide)) rfl hc_Model hi_Model 15 (by decide) m_Model_38 (v := .ref (tk_ad (ks_G P) (22, 0, 0))) rfl d_Model_room_26 ?_
    refine tk_iload X d_Model_room_29 rfl ?_
    refine kr_iald X (f := 22) (i' := 0) (by decide) (by decide) rfl (by decide) rfl (r_pj_lt hP hc hj) (ks_vk_pj hP hj) rfl d_Model_room_31 ?_
    refine tk_if_ne (tgt := 38) X d_Model_room_32 (by decide) (fun h1 => ?_) (fun h1 => ?_)
    · skip
      refine tk_iinc (v := nI k - 1) X d_Model_room_38 rfl (q_dec _) (by decide) rfl ?_
      refine tk_goto (tgt := 10) X d_Model_room_41 (by decide) ?_
      exact ih q _ (by omega) (by rw [r_dn, if_neg h1] at hk; exact hk)
    · skip
      refine tk_iload X d_Model_room_35 rfl ?_
      refine tk_istore_n X d_Model_room_37 rfl (by decide) rfl ?_
      refine tk_iinc (v := nI k - 1) X d_Model_room_38 rfl (q_dec _) (by decide) rfl ?_
      refine tk_goto (tgt := 10) X d_Model_room_41 (by decide) ?_
      exact ih (some ((k_first (ks_S P) (ks_W P) y) + k)) _ (by omega) (by rw [r_dn, if_pos h1] at hk; exact hk)
end LP
