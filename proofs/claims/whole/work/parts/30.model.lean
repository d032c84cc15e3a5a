set_option maxRecDepth 100000 in
set_option maxHeartbeats 4000000 in
theorem c_Model_thrown (l : Launch) (P : ks_P) (hP : ks_ok P)  (a b : ks_M) (o : ks_O) : kc l P y_Model_thrown b_Model_thrown 1 (some .int) 0 [.ref (tk_ad (ks_G P) (12, 0, 0))] a b o (some (.int o.2)) a b o := by
  have hn64 := ks_n64 hP
  have hT64 := ks_T64 hP
  refine tk_of hP.2.2.2.2.2 (by decide) rfl (Nat.le_of_ble_eq_true rfl) ?_
  intro p e s m below meth c0 X hlk hr hnm
  refine tk_aload_n X d_Model_thrown_0 rfl rfl ?_
  refine tk_get X (k := (12, 0, 0)) (dm := ks_dm P) (ks_d0 (by decide)) rfl hc_Model hi_Model 3 (by decide) m_Model_66 (v := .int _) rfl d_Model_thrown_1 ?_
  exact tk_iret X hlk hr d_Model_thrown_4 (rfl) (fun _ h => h) (Or.inr rfl) (fun _ _ => rfl)

set_option maxRecDepth 100000 in
set_option maxHeartbeats 4000000 in
theorem c_Model_fail (l : Launch) (P : ks_P) (hP : ks_ok P) (x : Int32) (a b : ks_M) (o : ks_O) : kc l P y_Model_fail b_Model_fail 2 (some .int) 0 [.ref (tk_ad (ks_G P) (12, 0, 0)), .int x] a b o (some (.int 0)) a b (o.1, x) := by
  have hn64 := ks_n64 hP
  have hT64 := ks_T64 hP
  refine tk_of hP.2.2.2.2.2 (by decide) rfl (Nat.le_of_ble_eq_true rfl) ?_
  intro p e s m below meth c0 X hlk hr hnm
  refine tk_aload_n X d_Model_fail_0 rfl rfl ?_
  refine tk_iload_n X d_Model_fail_1 rfl rfl ?_
  refine kr_code X hc_Model hi_Model t_Model t_Model_ok n_Model (by decide) m_Model_66 rfl rfl rfl d_Model_fail_2 ?_
  refine tk_iconst (v := 0) X d_Model_fail_5 (by decide) ?_
  exact tk_iret X hlk hr d_Model_fail_6 (rfl) (fun _ h => h) (Or.inr rfl) (fun _ _ => rfl)

set_option maxRecDepth 100000 in
set_option maxHeartbeats 4000000 in
theorem c_Model_isCore (l : Launch) (P : ks_P) (hP : ks_ok P) (c : Nat) (hc : c < ks_n P) (a b : ks_M) (o : ks_O) : kc l P y_Model_isCore b_Model_isCore 2 (some .boolean) 0 [.ref (tk_ad (ks_G P) (12, 0, 0)), .int (nI c)] a b o (some (.int 1)) a b o := by
  have hn64 := ks_n64 hP
  have hT64 := ks_T64 hP
  refine tk_of hP.2.2.2.2.2 (by decide) rfl (Nat.le_of_ble_eq_true rfl) ?_
  intro p e s m below meth c0 X hlk hr hnm
  refine tk_iload_n X d_Model_isCore_0 rfl rfl ?_
  refine tk_if_lt (tgt := 16) X d_Model_isCore_1 (by decide) (fun h => absurd h (nI_pos (by omega))) (fun _ => ?_)
  refine tk_iload_n X d_Model_isCore_4 rfl rfl ?_
  refine tk_aload_n X d_Model_isCore_5 rfl rfl ?_
  refine tk_get X (k := (12, 0, 0)) (dm := ks_dm P) (ks_d0 (by decide)) rfl hc_Model hi_Model 0 (by decide) m_Model_56 (v := .int _) rfl d_Model_isCore_6 ?_
  refine tk_icmp_ge (tgt := 16) X d_Model_isCore_9 (by decide) (fun h => absurd h (nI_ge hc (by omega))) (fun _ => ?_)
  refine tk_iconst (v := 1) X d_Model_isCore_12 (by decide) ?_
  refine tk_goto (tgt := 17) X d_Model_isCore_13 (by decide) ?_
  exact tk_zret X hlk hr (by decide) d_Model_isCore_17 rfl (fun _ h => h) (Or.inr rfl) (fun _ _ => rfl)

set_option maxRecDepth 100000 in
set_option maxHeartbeats 4000000 in
theorem c_Model_isCore0 (l : Launch) (P : ks_P) (hP : ks_ok P) (x : Int32) (hx : x < 0 ∨ nI (ks_n P) ≤ x) (a b : ks_M) (o : ks_O) : kc l P y_Model_isCore b_Model_isCore 2 (some .boolean) 0 [.ref (tk_ad (ks_G P) (12, 0, 0)), .int x] a b o (some (.int 0)) a b o := by
  have hn64 := ks_n64 hP
  have hT64 := ks_T64 hP
  refine tk_of hP.2.2.2.2.2 (by decide) rfl (Nat.le_of_ble_eq_true rfl) ?_
  intro p e s m below meth c0 X hlk hr hnm
  refine tk_iload_n X d_Model_isCore_0 rfl rfl ?_
  refine tk_if_lt (tgt := 16) X d_Model_isCore_1 (by decide) (fun h1 => ?_) (fun h1 => ?_)
  · skip
    refine tk_iconst (v := 0) X d_Model_isCore_16 (by decide) ?_
    exact tk_zret X hlk hr (by decide) d_Model_isCore_17 rfl (fun _ h => h) (Or.inr rfl) (fun _ _ => rfl)
  · skip
    refine tk_iload_n X d_Model_isCore_4 rfl rfl ?_
    refine tk_aload_n X d_Model_isCore_5 rfl rfl ?_
    refine tk_get X (k := (12, 0, 0)) (dm := ks_dm P) (ks_d0 (by decide)) rfl hc_Model hi_Model 0 (by decide) m_Model_56 (v := .int _) rfl d_Model_isCore_6 ?_
    refine tk_icmp_ge (tgt := 16) X d_Model_isCore_9 (by decide) (fun _ => ?_) (fun h => absurd (hx.resolve_left h1) h)
    refine tk_iconst (v := 0) X d_Model_isCore_16 (by decide) ?_
    exact tk_zret X hlk hr (by decide) d_Model_isCore_17 rfl (fun _ h => h) (Or.inr rfl) (fun _ _ => rfl)

set_option maxRecDepth 100000 in
set_option maxHeartbeats 4000000 in
theorem c_Model_place (l : Launch) (P : ks_P) (hP : ks_ok P) (c y u : Nat) (hy : y < 32) (hu : u < ks_W P) (a b : ks_M) (o : ks_O) : kc l P y_Model_place b_Model_place 4 (some .int) 0 [.ref (tk_ad (ks_G P) (12, 0, 0)), .int (nI c), .int (nI y), .int (nI u)] a b o (some (.int (nI (r_pj (ks_W P) c ((k_first (ks_S P) (ks_W P) y) + u))))) a b o := by
  have hn64 := ks_n64 hP
  have hT64 := ks_T64 hP
  refine tk_of hP.2.2.2.2.2 (by decide) rfl (Nat.le_of_ble_eq_true rfl) ?_
  intro p e s m below meth c0 X hlk hr hnm
  refine tk_bipush (v := 12) X d_Model_place_0 (by decide) ?_
  refine tk_iload_n X d_Model_place_2 rfl rfl ?_
  refine tk_imul X d_Model_place_3 ?_
  refine tk_iconst (v := 3) X d_Model_place_4 (by decide) ?_
  refine tk_iload_n X d_Model_place_5 rfl rfl ?_
  refine tk_aload_n X d_Model_place_6 rfl rfl ?_
  refine tk_get X (k := (12, 0, 0)) (dm := ks_dm P) (ks_d0 (by decide)) rfl hc_Model hi_Model 1 (by decide) m_Model_60 (v := .int _) rfl d_Model_place_7 ?_
  refine tk_irem X d_Model_place_10 (nI_ne0 (by rcases hP.2.2.1 with h | h | h <;> omega) (by rcases hP.2.2.1 with h | h | h <;> omega)) ?_
  refine tk_imul X d_Model_place_11 ?_
  refine tk_iadd X d_Model_place_12 ?_
  refine tk_iload_n X d_Model_place_13 rfl rfl ?_
  refine tk_iadd X d_Model_place_14 ?_
  exact tk_iret X hlk hr d_Model_place_15 (by rw [r_place hP hy hu]) (fun _ h => h) (Or.inr rfl) (fun _ _ => rfl)

section LP
variable {p : Program} {l : Launch} {e : Env} {R : Room} {s : State} {m : MethodId} {args : Array Value} {below : List Frame} {meth : Method} {c0 : Code} {P : ks_P} {cells slots : Nat} {Q : State → Prop}
set_option maxRecDepth 100000 in
set_option maxHeartbeats 4000000 in
theorem lp_Model_find (X : tk_X p m c0 s args (ks_G P) R_Model b_Model_find 6 WS) (hP : ks_ok P) {c y : Nat} (hc : c < ks_n P) (hy : y < 32) (a b : ks_M) (o : ks_O) (kend : ∀ t5, tk_go p l e (ks_rm 1) s m args below meth c0 (ks_G P) (ks_dm P) 6 0 0 Q (ks_sl P a b o) 54 [some (.ref (tk_ad (ks_G P) (12, 0, 0))), some (.int (nI c)), some (.int (nI y)), some (.int (r_int (ks_W P) c (r_find b c y (k_first (ks_S P) (ks_W P) y) (ks_W P)))), some (.int (nI (ks_W P))), t5] []) : ∀ (k u : Nat) (t5 : Option Value), u + k = ks_W P → tk_go p l e (ks_rm 1) s m args below meth c0 (ks_G P) (ks_dm P) 6 0 0 Q (ks_sl P a b o) 5 [some (.ref (tk_ad (ks_G P) (12, 0, 0))), some (.int (nI c)), some (.int (nI y)), some (.int (r_int (ks_W P) c (r_find b c y (k_first (ks_S P) (ks_W P) y) u))), some (.int (nI u)), t5] [] := by
  have hn64 := ks_n64 hP
  have hT64 := ks_T64 hP
  intro k
  induction k with
  | zero =>
    intro u t5 hu
    have hu2 : u = ks_W P := by omega
    subst hu2
    refine tk_iload X d_Model_find_5 rfl ?_
    refine tk_aload_n X d_Model_find_7 rfl rfl ?_
    refine tk_get X (k := (12, 0, 0)) (dm := ks_dm P) (ks_d0 (by decide)) rfl hc_Model hi_Model 2 (by decide) m_Model_63 (v := .int _) rfl d_Model_find_8 ?_
    refine tk_icmp_ge (tgt := 54) X d_Model_find_11 (by decide) (fun _ => ?_) (fun h => absurd (nI_le (Nat.le_refl _) (by have := hP.2.2.2.2.1; omega)) h)
    exact kend t5
  | succ k ih =>
    intro u t5 hu
    have hu2 : u < ks_W P := by omega
    have hF := k_first_le hP y
    have hj : (k_first (ks_S P) (ks_W P) y) + u < ks_T P := by omega
    refine tk_iload X d_Model_find_5 rfl ?_
    refine tk_aload_n X d_Model_find_7 rfl rfl ?_
    refine tk_get X (k := (12, 0, 0)) (dm := ks_dm P) (ks_d0 (by decide)) rfl hc_Model hi_Model 2 (by decide) m_Model_63 (v := .int _) rfl d_Model_find_8 ?_
    refine tk_icmp_ge (tgt := 54) X d_Model_find_11 (by decide) (fun h => absurd h (nI_ge hu2 (by have := hP.2.2.2.2.1; omega))) (fun _ => ?_)
    refine tk_aload_n X d_Model_find_14 rfl rfl ?_
    refine tk_iload_n X d_Model_find_15 rfl rfl ?_
    refine tk_iload_n X d_Model_find_16 rfl rfl ?_
    refine tk_iload X d_Model_find_17 rfl ?_
    refine tk_callV X (kb := (12, 0, 0)) (ks_d0 (by decide)) rfl hc_Model (c_Model_place l P hP c y u hy hu2 a b o) (ks_site (n := 3) mc_Model_place mi_Model (by decide +kernel) (by decide) (by decide)) m_Model_69 ms_Model_place mv_Model_place rfl (Nat.le_of_ble_eq_true rfl) ⟨Nat.le_of_ble_eq_true rfl, Nat.le_of_ble_eq_true rfl⟩ rfl d_Model_find_19 ?_
    refine tk_istore X d_Model_find_22 (by decide) rfl ?_
    refine tk_aload_n X d_Model_find_24 rfl rfl ?_
    refine tk_get X (k := (12, 0, 0)) (dm := ks_dm P) (ks_d0 (by decide)) rfl hc_Model hi_Model 15 (by decide) m_Model_38 (v := .ref (tk_ad (ks_G P) (22, 0, 0))) rfl d_Model_find_25 ?_
    refine tk_iload X d_Model_find_28 rfl ?_
    refine kr_iald X (f := 22) (i' := 0) (by decide) (by decide) rfl (by decide) rfl (r_pj_lt hP hc hj) (ks_vk_pj hP hj) rfl d_Model_find_30 ?_
    refine tk_if_eq (tgt := 48) X d_Model_find_31 (by decide) (fun h1 => ?_) (fun h1 => ?_)
    · skip
      refine tk_iinc (v := nI (u + 1)) X d_Model_find_48 rfl (q_inc u) (by decide) rfl ?_
      refine tk_goto (tgt := 5) X d_Model_find_51 (by decide) ?_
      have ih2 := ih (u + 1) (some (.int (nI (r_pj (ks_W P) c ((k_first (ks_S P) (ks_W P) y) + u))))) (by omega)
      rw [r_find, if_neg (fun q => q.1 h1)] at ih2
      exact ih2
    · skip
      refine tk_aload_n X d_Model_find_34 rfl rfl ?_
      refine tk_get X (k := (12, 0, 0)) (dm := ks_dm P) (ks_d0 (by decide)) rfl hc_Model hi_Model 16 (by decide) m_Model_41 (v := .ref (tk_ad (ks_G P) (23, 0, 0))) rfl d_Model_find_35 ?_
      refine tk_iload X d_Model_find_38 rfl ?_
      refine kr_iald X (f := 23) (i' := 1) (by decide) (by decide) rfl (by decide) rfl (r_pj_lt hP hc hj) (ks_vk_pj hP hj) rfl d_Model_find_40 ?_
      refine tk_iload_n X d_Model_find_41 rfl rfl ?_
      refine tk_icmp_ne (tgt := 48) X d_Model_find_42 (by decide) (fun h2 => ?_) (fun h2 => ?_)
      · skip
        refine tk_iinc (v := nI (u + 1)) X d_Model_find_48 rfl (q_inc u) (by decide) rfl ?_
        refine tk_goto (tgt := 5) X d_Model_find_51 (by decide) ?_
        have ih2 := ih (u + 1) (some (.int (nI (r_pj (ks_W P) c ((k_first (ks_S P) (ks_W P) y) + u))))) (by omega)
        rw [r_find, if_neg (fun q => h2 q.2)] at ih2
        exact ih2
      · skip
        refine tk_iload X d_Model_find_45 rfl ?_
        refine tk_istore_n X d_Model_find_47 rfl (by decide) rfl ?_
        refine tk_iinc (v := nI (u + 1)) X d_Model_find_48 rfl (q_inc u) (by decide) rfl ?_
        refine tk_goto (tgt := 5) X d_Model_find_51 (by decide) ?_
        have ih2 := ih (u + 1) (some (.int (nI (r_pj (ks_W P) c ((k_first (ks_S P) (ks_W P) y) + u))))) (by omega)
        rw [r_find, if_pos ⟨h1, h2⟩] at ih2
        exact ih2
end LP

set_option maxRecDepth 100000 in
set_option maxHeartbeats 4000000 in
theorem c_Model_find (l : Launch) (P : ks_P) (hP : ks_ok P) (c y : Nat) (hc : c < ks_n P) (hy : y < 32) (a b : ks_M) (o : ks_O) (hu : r_uniq b c (ks_T P)) : kc l P y_Model_find b_Model_find 6 (some .int) 1 [.ref (tk_ad (ks_G P) (12, 0, 0)), .int (nI c), .int (nI y)] a b o (some (.int (r_int (ks_W P) c (k_find b c y (ks_W P) (k_first (ks_S P) (ks_W P) y))))) a b o := by
  have hn64 := ks_n64 hP
  have hT64 := ks_T64 hP
  refine tk_of hP.2.2.2.2.2 (by decide) rfl (Nat.le_of_ble_eq_true rfl) ?_
  intro p e s m below meth c0 X hlk hr hnm
  refine tk_iconst (v := -1) X d_Model_find_0 (by decide) ?_
  refine tk_istore_n X d_Model_find_1 rfl (by decide) rfl ?_
  refine tk_iconst (v := 0) X d_Model_find_2 (by decide) ?_
  refine tk_istore X d_Model_find_3 (by decide) rfl ?_
  refine lp_Model_find X hP hc hy a b o (fun t5 => ?_) (ks_W P) 0 _ (by omega)
  refine tk_iload_n X d_Model_find_54 rfl rfl ?_
  exact tk_iret X hlk hr d_Model_find_55 (by rw [r_find_eq hu (ks_W P) (k_first_le hP y)]) (fun _ h => h) (Or.inr rfl) (fun _ _ => rfl)

section LP
variable {p : Program} {l : Launch} {e : Env} {R : Room} {s : State} {m : MethodId} {args : Array Value} {below : List Frame} {meth : Method} {c0 : Code} {P : ks_P} {cells slots : Nat} {Q : State → Prop}
set_option maxRecDepth 100000 in
set_option maxHeartbeats 4000000 in
theorem lp_Model_room1 (X : tk_X p m c0 s args (ks_G P) R_Model b_Model_room 6 WS) (hP : ks_ok P) {c y : Nat} (hc : c < ks_n P) (hy : y < 32) (a b : ks_M) (o : ks_O) {r : Option Nat} (kend : ∀ t5, tk_go p l e (ks_rm 1) s m args below meth c0 (ks_G P) (ks_dm P) 6 0 0 Q (ks_sl P a b o) 44 [some (.ref (tk_ad (ks_G P) (12, 0, 0))), some (.int (nI c)), some (.int (nI y)), some (.int (r_int (ks_W P) c r)), some (.int (nI 0 - 1)), t5] []) : ∀ (i : Nat) (q : Option Nat) (t5 : Option Value), i ≤ ks_W P → r_dn b c (k_first (ks_S P) (ks_W P) y) i q = r → tk_go p l e (ks_rm 1) s m args below meth c0 (ks_G P) (ks_dm P) 6 0 0 Q (ks_sl P a b o) 10 [some (.ref (tk_ad (ks_G P) (12, 0, 0))), some (.int (nI c)), some (.int (nI y)), some (.int (r_int (ks_W P) c q)), some (.int (nI i - 1)), t5] [] := by
  have hn64 := ks_n64 hP
  have hT64 := ks_T64 hP
  intro k
  induction k with
  | zero =>
    intro q t5 hi hk
    have hk2 : q = r := hk
    subst hk2
    refine tk_iload X d_Model_room_10 rfl ?_
    refine tk_if_lt (tgt := 44) X d_Model_room_12 (by decide) (fun _ => ?_) (fun h => absurd (by decide) h)
    exact kend t5
  | succ k ih =>
    intro q t5 hi hk
    have hk3 : k < ks_W P := by omega
    have hF := k_first_le hP y
    have hj : (k_first (ks_S P) (ks_W P) y) + k < ks_T P := by omega
    have e0 : nI (k + 1) - 1 = nI k := nI_pred k
    rw [e0]
    refine tk_iload X d_Model_room_10 rfl ?_
    refine tk_if_lt (tgt := 44) X d_Model_room_12 (by decide) (fun h => absurd h (nI_pos (by omega))) (fun _ => ?_)
    refine tk_aload_n X d_Model_room_15 rfl rfl ?_
    refine tk_iload_n X d_Model_room_16 rfl rfl ?_
    refine tk_iload_n X d_Model_room_17 rfl rfl ?_
    refine tk_iload X d_Model_room_18 rfl ?_
    refine tk_callV X (kb := (12, 0, 0)) (ks_d0 (by decide)) rfl hc_Model (c_Model_place l P hP c y k hy hk3 a b o) (ks_site (n := 3) mc_Model_place mi_Model (by decide +kernel) (by decide) (by decide)) m_Model_69 ms_Model_place mv_Model_place rfl (Nat.le_of_ble_eq_true rfl) ⟨Nat.le_of_ble_eq_true rfl, Nat.le_of_ble_eq_true rfl⟩ rfl d_Model_room_20 ?_
    refine tk_istore X d_Model_room_23 (by decide) rfl ?_
    refine tk_aload_n X d_Model_room_25 rfl rfl ?_
    refine tk_get X (k := (12, 0, 0)) (dm := ks_dm P) (ks_d0 (by decide)) rfl hc_Model hi_Model 15 (by decide) m_Model_38 (v := .ref (tk_ad (ks_G P) (22, 0, 0))) rfl d_Model_room_26 ?_
    refine tk_iload X d_Model_room_29 rfl ?_
    refine kr_iald X (f := 22) (i' := 0) (by decide) (by decide) rfl (by decide) rfl (r_pj_lt hP hc hj) (ks_vk_pj hP hj) rfl d_Model_room_31 ?_
    refine tk_if_ne (tgt := 38) X d_Model_room_32 (by decide) (fun h1 => ?_) (fun h1 => ?_)
    · skip
      refine tk_iinc (v := nI k - 1) X d_Model_room_38 rfl (q_dec _) (by decide) rfl ?_
      refine tk_goto (tgt := 10) X d_Model_room_41 (by decide) ?_
      exact ih q _ (by omega) (by rw [r_dn, if_neg h1] at hk; exact hk)
    · skip
      refine tk_iload X d_Model_room_35 rfl ?_
      refine tk_istore_n X d_Model_room_37 rfl (by decide) rfl ?_
      refine tk_iinc (v := nI k - 1) X d_Model_room_38 rfl (q_dec _) (by decide) rfl ?_
      refine tk_goto (tgt := 10) X d_Model_room_41 (by decide) ?_
      exact ih (some ((k_first (ks_S P) (ks_W P) y) + k)) _ (by omega) (by rw [r_dn, if_pos h1] at hk; exact hk)
end LP

section LP
variable {p : Program} {l : Launch} {e : Env} {R : Room} {s : State} {m : MethodId} {args : Array Value} {below : List Frame} {meth : Method} {c0 : Code} {P : ks_P} {cells slots : Nat} {Q : State → Prop}
set_option maxRecDepth 100000 in
set_option maxHeartbeats 4000000 in
theorem lp_Model_room2 (X : tk_X p m c0 s args (ks_G P) R_Model b_Model_room 6 WS) (hP : ks_ok P) {c y : Nat} (hc : c < ks_n P) (hy : y < 32) (a b : ks_M) (o : ks_O) {r : Option Nat} (kend : ∀ t5, tk_go p l e (ks_rm 1) s m args below meth c0 (ks_G P) (ks_dm P) 6 0 0 Q (ks_sl P a b o) 113 [some (.ref (tk_ad (ks_G P) (12, 0, 0))), some (.int (nI c)), some (.int (nI y)), some (.int (r_int (ks_W P) c r)), some (.int (nI (ks_W P))), t5] []) : ∀ (k u : Nat) (q : Option Nat) (t5 : Option Value), (∀ i, q = some i → i < ks_T P) → u + k = ks_W P → r_up b c k ((k_first (ks_S P) (ks_W P) y) + u) q = r → tk_go p l e (ks_rm 1) s m args below meth c0 (ks_G P) (ks_dm P) 6 0 0 Q (ks_sl P a b o) 54 [some (.ref (tk_ad (ks_G P) (12, 0, 0))), some (.int (nI c)), some (.int (nI y)), some (.int (r_int (ks_W P) c q)), some (.int (nI u)), t5] [] := by
  have hn64 := ks_n64 hP
  have hT64 := ks_T64 hP
  intro k
  induction k with
  | zero =>
    intro u q t5 hq hu hk
    have hu2 : u = ks_W P := by omega
    subst hu2
    have hk2 : q = r := hk
    subst hk2
    refine tk_iload X d_Model_room_54 rfl ?_
    refine tk_aload_n X d_Model_room_56 rfl rfl ?_
    refine tk_get X (k := (12, 0, 0)) (dm := ks_dm P) (ks_d0 (by decide)) rfl hc_Model hi_Model 2 (by decide) m_Model_63 (v := .int _) rfl d_Model_room_57 ?_
    refine tk_icmp_ge (tgt := 113) X d_Model_room_60 (by decide) (fun _ => ?_) (fun h => absurd (nI_le (Nat.le_refl _) (by have := hP.2.2.2.2.1; omega)) h)
    exact kend t5
  | succ k ih =>
    intro u q t5 hq hu hk
    have hu2 : u < ks_W P := by omega
    have hF := k_first_le hP y
    have hj : (k_first (ks_S P) (ks_W P) y) + u < ks_T P := by omega
    cases q with
    | none =>
      refine tk_iload X d_Model_room_54 rfl ?_
      refine tk_aload_n X d_Model_room_56 rfl rfl ?_
      refine tk_get X (k := (12, 0, 0)) (dm := ks_dm P) (ks_d0 (by decide)) rfl hc_Model hi_Model 2 (by decide) m_Model_63 (v := .int _) rfl d_Model_room_57 ?_
      refine tk_icmp_ge (tgt := 113) X d_Model_room_60 (by decide) (fun h => absurd h (nI_ge hu2 (by have := hP.2.2.2.2.1; omega))) (fun _ => ?_)
      refine tk_aload_n X d_Model_room_63 rfl rfl ?_
      refine tk_iload_n X d_Model_room_64 rfl rfl ?_
      refine tk_iload_n X d_Model_room_65 rfl rfl ?_
      refine tk_iload X d_Model_room_66 rfl ?_
      refine tk_callV X (kb := (12, 0, 0)) (ks_d0 (by decide)) rfl hc_Model (c_Model_place l P hP c y u hy hu2 a b o) (ks_site (n := 3) mc_Model_place mi_Model (by decide +kernel) (by decide) (by decide)) m_Model_69 ms_Model_place mv_Model_place rfl (Nat.le_of_ble_eq_true rfl) ⟨Nat.le_of_ble_eq_true rfl, Nat.le_of_ble_eq_true rfl⟩ rfl d_Model_room_68 ?_
      refine tk_istore X d_Model_room_71 (by decide) rfl ?_
      refine tk_aload_n X d_Model_room_73 rfl rfl ?_
      refine tk_get X (k := (12, 0, 0)) (dm := ks_dm P) (ks_d0 (by decide)) rfl hc_Model hi_Model 17 (by decide) m_Model_44 (v := .ref (tk_ad (ks_G P) (24, 0, 0))) rfl d_Model_room_74 ?_
      refine tk_iload X d_Model_room_77 rfl ?_
      refine kr_iald X (f := 24) (i' := 2) (by decide) (by decide) rfl (by decide) rfl (r_pj_lt hP hc hj) (ks_vk_pj hP hj) rfl d_Model_room_79 ?_
      refine tk_if_ne (tgt := 107) X d_Model_room_80 (by decide) (fun h1 => ?_) (fun h1 => ?_)
      · skip
        refine tk_iinc (v := nI (u + 1)) X d_Model_room_107 rfl (q_inc u) (by decide) rfl ?_
        refine tk_goto (tgt := 54) X d_Model_room_110 (by decide) ?_
        exact ih (u + 1) none _ hq (by omega) (by rw [r_up, if_neg (fun z => h1 z.1)] at hk; exact hk)
      · skip
        refine tk_iload_n X d_Model_room_83 rfl rfl ?_
        refine tk_iconst (v := -1) X d_Model_room_84 (by decide) ?_
        refine tk_icmp_eq (tgt := 104) X d_Model_room_85 (by decide) (fun _ => ?_) (fun h => absurd rfl h)
        refine tk_iload X d_Model_room_104 rfl ?_
        refine tk_istore_n X d_Model_room_106 rfl (by decide) rfl ?_
        refine tk_iinc (v := nI (u + 1)) X d_Model_room_107 rfl (q_inc u) (by decide) rfl ?_
        refine tk_goto (tgt := 54) X d_Model_room_110 (by decide) ?_
        exact ih (u + 1) (some ((k_first (ks_S P) (ks_W P) y) + u)) _ (fun i2 e2 => by cases e2; exact hj) (by omega) (by rw [r_up, if_pos ⟨h1, rfl⟩] at hk; exact hk)
    | some i =>
      have hi : i < ks_T P := hq i rfl
      refine tk_iload X d_Model_room_54 rfl ?_
      refine tk_aload_n X d_Model_room_56 rfl rfl ?_
      refine tk_get X (k := (12, 0, 0)) (dm := ks_dm P) (ks_d0 (by decide)) rfl hc_Model hi_Model 2 (by decide) m_Model_63 (v := .int _) rfl d_Model_room_57 ?_
      refine tk_icmp_ge (tgt := 113) X d_Model_room_60 (by decide) (fun h => absurd h (nI_ge hu2 (by have := hP.2.2.2.2.1; omega))) (fun _ => ?_)
      refine tk_aload_n X d_Model_room_63 rfl rfl ?_
      refine tk_iload_n X d_Model_room_64 rfl rfl ?_
      refine tk_iload_n X d_Model_room_65 rfl rfl ?_
      refine tk_iload X d_Model_room_66 rfl ?_
      refine tk_callV X (kb := (12, 0, 0)) (ks_d0 (by decide)) rfl hc_Model (c_Model_place l P hP c y u hy hu2 a b o) (ks_site (n := 3) mc_Model_place mi_Model (by decide +kernel) (by decide) (by decide)) m_Model_69 ms_Model_place mv_Model_place rfl (Nat.le_of_ble_eq_true rfl) ⟨Nat.le_of_ble_eq_true rfl, Nat.le_of_ble_eq_true rfl⟩ rfl d_Model_room_68 ?_
      refine tk_istore X d_Model_room_71 (by decide) rfl ?_
      refine tk_aload_n X d_Model_room_73 rfl rfl ?_
      refine tk_get X (k := (12, 0, 0)) (dm := ks_dm P) (ks_d0 (by decide)) rfl hc_Model hi_Model 17 (by decide) m_Model_44 (v := .ref (tk_ad (ks_G P) (24, 0, 0))) rfl d_Model_room_74 ?_
      refine tk_iload X d_Model_room_77 rfl ?_
      refine kr_iald X (f := 24) (i' := 2) (by decide) (by decide) rfl (by decide) rfl (r_pj_lt hP hc hj) (ks_vk_pj hP hj) rfl d_Model_room_79 ?_
      refine tk_if_ne (tgt := 107) X d_Model_room_80 (by decide) (fun h1 => ?_) (fun h1 => ?_)
      · skip
        refine tk_iinc (v := nI (u + 1)) X d_Model_room_107 rfl (q_inc u) (by decide) rfl ?_
        refine tk_goto (tgt := 54) X d_Model_room_110 (by decide) ?_
        exact ih (u + 1) (some i) _ hq (by omega) (by rw [r_up, if_neg (fun z => h1 z.1)] at hk; exact hk)
      · skip
        refine tk_iload_n X d_Model_room_83 rfl rfl ?_
        refine tk_iconst (v := -1) X d_Model_room_84 (by decide) ?_
        refine tk_icmp_eq (tgt := 104) X d_Model_room_85 (by decide) (fun h => absurd h (nI_nm1 (Nat.lt_trans (r_pj_lt hP hc hi) (by decide)))) (fun _ => ?_)
        refine tk_aload_n X d_Model_room_88 rfl rfl ?_
        refine tk_get X (k := (12, 0, 0)) (dm := ks_dm P) (ks_d0 (by decide)) rfl hc_Model hi_Model 20 (by decide) m_Model_53 (v := .ref (tk_ad (ks_G P) (27, 0, 0))) rfl d_Model_room_89 ?_
        refine tk_iload X d_Model_room_92 rfl ?_
        refine kr_iald X (f := 27) (i' := 5) (by decide) (by decide) rfl (by decide) rfl (r_pj_lt hP hc hj) (ks_vk_pj hP hj) rfl d_Model_room_94 ?_
        refine tk_aload_n X d_Model_room_95 rfl rfl ?_
        refine tk_get X (k := (12, 0, 0)) (dm := ks_dm P) (ks_d0 (by decide)) rfl hc_Model hi_Model 20 (by decide) m_Model_53 (v := .ref (tk_ad (ks_G P) (27, 0, 0))) rfl d_Model_room_96 ?_
        refine tk_iload_n X d_Model_room_99 rfl rfl ?_
        refine kr_iald X (f := 27) (i' := 5) (by decide) (by decide) rfl (by decide) rfl (r_pj_lt hP hc hi) (ks_vk_pj hP hi) rfl d_Model_room_100 ?_
        refine tk_icmp_ge (tgt := 107) X d_Model_room_101 (by decide) (fun h2 => ?_) (fun h2 => ?_)
        · skip
          refine tk_iinc (v := nI (u + 1)) X d_Model_room_107 rfl (q_inc u) (by decide) rfl ?_
          refine tk_goto (tgt := 54) X d_Model_room_110 (by decide) ?_
          exact ih (u + 1) (some i) _ hq (by omega) (by rw [r_up, if_neg (fun z => absurd (of_decide_eq_true z.2) (Int32.not_lt.mpr h2))] at hk; exact hk)
        · skip
          refine tk_iload X d_Model_room_104 rfl ?_
          refine tk_istore_n X d_Model_room_106 rfl (by decide) rfl ?_
          refine tk_iinc (v := nI (u + 1)) X d_Model_room_107 rfl (q_inc u) (by decide) rfl ?_
          refine tk_goto (tgt := 54) X d_Model_room_110 (by decide) ?_
          exact ih (u + 1) (some ((k_first (ks_S P) (ks_W P) y) + u)) _ (fun i2 e2 => by cases e2; exact hj) (by omega) (by rw [r_up, if_pos ⟨h1, decide_eq_true (Int32.not_le.mp h2)⟩] at hk; exact hk)
end LP

set_option maxRecDepth 100000 in
set_option maxHeartbeats 4000000 in
theorem c_Model_room (l : Launch) (P : ks_P) (hP : ks_ok P) (c y : Nat) (hc : c < ks_n P) (hy : y < 32) (a b : ks_M) (o : ks_O) : kc l P y_Model_room b_Model_room 6 (some .int) 1 [.ref (tk_ad (ks_G P) (12, 0, 0)), .int (nI c), .int (nI y)] a b o (some (.int (r_int (ks_W P) c (k_room b c (ks_W P) (k_first (ks_S P) (ks_W P) y) none)))) a b o := by
  have hn64 := ks_n64 hP
  have hT64 := ks_T64 hP
  refine tk_of hP.2.2.2.2.2 (by decide) rfl (Nat.le_of_ble_eq_true rfl) ?_
  intro p e s m below meth c0 X hlk hr hnm
  refine tk_iconst (v := -1) X d_Model_room_0 (by decide) ?_
  refine tk_istore_n X d_Model_room_1 rfl (by decide) rfl ?_
  refine tk_aload_n X d_Model_room_2 rfl rfl ?_
  refine tk_get X (k := (12, 0, 0)) (dm := ks_dm P) (ks_d0 (by decide)) rfl hc_Model hi_Model 2 (by decide) m_Model_63 (v := .int _) rfl d_Model_room_3 ?_
  refine tk_iconst (v := 1) X d_Model_room_6 (by decide) ?_
  refine tk_isub X d_Model_room_7 ?_
  refine tk_istore X d_Model_room_8 (by decide) rfl ?_
  refine lp_Model_room1 X hP hc hy a b o (r := r_dn b c (k_first (ks_S P) (ks_W P) y) (ks_W P) none) (fun t5 => ?_) (ks_W P) none _ (Nat.le_refl _) rfl
  cases hr1 : r_dn b c (k_first (ks_S P) (ks_W P) y) (ks_W P) none with
  | none =>
    refine tk_iload_n X d_Model_room_44 rfl rfl ?_
    refine tk_iconst (v := -1) X d_Model_room_45 (by decide) ?_
    refine tk_icmp_eq (tgt := 51) X d_Model_room_46 (by decide) (fun _ => ?_) (fun h => absurd rfl h)
    refine tk_iconst (v := 0) X d_Model_room_51 (by decide) ?_
    refine tk_istore X d_Model_room_52 (by decide) rfl ?_
    refine lp_Model_room2 X hP hc hy a b o (r := r_up b c (ks_W P) (k_first (ks_S P) (ks_W P) y) none) (fun t6 => ?_) (ks_W P) 0 none _ (fun i h => by cases h) (by omega) rfl
    refine tk_iload_n X d_Model_room_113 rfl rfl ?_
    exact tk_iret X hlk hr d_Model_room_114 (by rw [r_room0 hr1]) (fun _ h => h) (Or.inr rfl) (fun _ _ => rfl)
  | some j =>
    refine tk_iload_n X d_Model_room_44 rfl rfl ?_
    refine tk_iconst (v := -1) X d_Model_room_45 (by decide) ?_
    refine tk_icmp_eq (tgt := 51) X d_Model_room_46 (by decide) (fun h => absurd h (nI_nm1 (Nat.lt_trans (r_pj_lt hP hc (k_room_T hP (r_room1 hr1))) (by decide)))) (fun _ => ?_)
    refine tk_iload_n X d_Model_room_49 rfl rfl ?_
    exact tk_iret X hlk hr d_Model_room_50 (by rw [r_room1 hr1]) (fun _ h => h) (Or.inr rfl) (fun _ _ => rfl)

set_option maxRecDepth 100000 in
set_option maxHeartbeats 4000000 in
theorem c_Model_toMemory (l : Launch) (P : ks_P) (hP : ks_ok P) (c j : Nat) (hc : c < ks_n P) (hj : j < ks_T P) (a b : ks_M) (o : ks_O) (hl : q_lin (b (7, c, j) 1)) : kc l P y_Model_toMemory b_Model_toMemory 2 none 0 [.ref (tk_ad (ks_G P) (12, 0, 0)), .int (nI (r_pj (ks_W P) c j))] a b o (none) a (k_keep b c j) o := by
  have hn64 := ks_n64 hP
  have hT64 := ks_T64 hP
  have hl2 : q_lin (k_keep1 b c j (7, c, j) 1) := by rw [k_keep1_7]; exact hl
  refine tk_of hP.2.2.2.2.2 (by decide) rfl (Nat.le_of_ble_eq_true rfl) ?_
  intro p e s m below meth c0 X hlk hr hnm
  refine tk_aload_n X d_Model_toMemory_0 rfl rfl ?_
  refine tk_get X (k := (12, 0, 0)) (dm := ks_dm P) (ks_d0 (by decide)) rfl hc_Model hi_Model 6 (by decide) m_Model_7 (v := .ref (tk_ad (ks_G P) (13, 0, 0))) rfl d_Model_toMemory_1 ?_
  refine tk_iconst (v := 2) X d_Model_toMemory_4 (by decide) ?_
  refine tk_aload_n X d_Model_toMemory_5 rfl rfl ?_
  refine tk_get X (k := (12, 0, 0)) (dm := ks_dm P) (ks_d0 (by decide)) rfl hc_Model hi_Model 16 (by decide) m_Model_41 (v := .ref (tk_ad (ks_G P) (23, 0, 0))) rfl d_Model_toMemory_6 ?_
  refine tk_iload_n X d_Model_toMemory_9 rfl rfl ?_
  refine kr_iald X (f := 23) (i' := 1) (by decide) (by decide) rfl (by decide) rfl (r_pj_lt hP hc hj) (ks_vk_pj hP hj) rfl d_Model_toMemory_10 ?_
  refine tk_imul X d_Model_toMemory_11 ?_
  refine tk_aload_n X d_Model_toMemory_12 rfl rfl ?_
  refine tk_get X (k := (12, 0, 0)) (dm := ks_dm P) (ks_d0 (by decide)) rfl hc_Model hi_Model 18 (by decide) m_Model_47 (v := .ref (tk_ad (ks_G P) (25, 0, 0))) rfl d_Model_toMemory_13 ?_
  refine tk_iload_n X d_Model_toMemory_16 rfl rfl ?_
  refine kr_iald X (f := 25) (i' := 3) (by decide) (by decide) rfl (by decide) rfl (r_pj_lt hP hc hj) (ks_vk_pj hP hj) rfl d_Model_toMemory_17 ?_
  refine kr_iast X hP (f := 13) (i' := (q_ix ((2 * b (7, c, j) 1) &&& 63))) (k' := (2, 0, 0)) (by decide) (by decide) rfl (by decide) (q_2x hl).1 (q_l63 _) rfl rfl d_Model_toMemory_18 ?_
  refine tk_aload_n X d_Model_toMemory_19 rfl rfl ?_
  refine tk_get X (k := (12, 0, 0)) (dm := ks_dm P) (ks_d0 (by decide)) rfl hc_Model hi_Model 6 (by decide) m_Model_7 (v := .ref (tk_ad (ks_G P) (13, 0, 0))) rfl d_Model_toMemory_20 ?_
  refine tk_iconst (v := 2) X d_Model_toMemory_23 (by decide) ?_
  refine tk_aload_n X d_Model_toMemory_24 rfl rfl ?_
  refine tk_get X (k := (12, 0, 0)) (dm := ks_dm P) (ks_d0 (by decide)) rfl hc_Model hi_Model 16 (by decide) m_Model_41 (v := .ref (tk_ad (ks_G P) (23, 0, 0))) rfl d_Model_toMemory_25 ?_
  refine tk_iload_n X d_Model_toMemory_28 rfl rfl ?_
  refine kr_iald X (f := 23) (i' := 1) (by decide) (by decide) rfl (by decide) rfl (r_pj_lt hP hc hj) (ks_vk_pj hP hj) rfl d_Model_toMemory_29 ?_
  refine tk_imul X d_Model_toMemory_30 ?_
  refine tk_iconst (v := 1) X d_Model_toMemory_31 (by decide) ?_
  refine tk_iadd X d_Model_toMemory_32 ?_
  refine tk_aload_n X d_Model_toMemory_33 rfl rfl ?_
  refine tk_get X (k := (12, 0, 0)) (dm := ks_dm P) (ks_d0 (by decide)) rfl hc_Model hi_Model 19 (by decide) m_Model_50 (v := .ref (tk_ad (ks_G P) (26, 0, 0))) rfl d_Model_toMemory_34 ?_
  refine tk_iload_n X d_Model_toMemory_37 rfl rfl ?_
  refine kr_iald X (f := 26) (i' := 4) (by decide) (by decide) rfl (by decide) rfl (r_pj_lt hP hc hj) (ks_vk_pj hP hj) rfl d_Model_toMemory_38 ?_
  refine kr_iast X hP (f := 13) (i' := (q_ix ((2 * k_keep1 b c j (7, c, j) 1 + 1) &&& 63))) (k' := (2, 0, 0)) (by decide) (by decide) rfl (by decide) (q_2x hl2).2 (q_l63 _) rfl rfl d_Model_toMemory_39 ?_
  exact tk_vret X hlk hr d_Model_toMemory_40 rfl (fun _ h => h) (Or.inr rfl) (fun _ _ => rfl)

section LP
variable {p : Program} {l : Launch} {e : Env} {R : Room} {s : State} {m : MethodId} {args : Array Value} {below : List Frame} {meth : Method} {c0 : Code} {P : ks_P} {cells slots : Nat} {Q : State → Prop}
set_option maxRecDepth 100000 in
set_option maxHeartbeats 4000000 in
theorem lp_Model_abort1 (X : tk_X p m c0 s args (ks_G P) R_Model b_Model_abort 5 WS) (hP : ks_ok P) {c q : Nat} (hc : c < ks_n P) (v : Int32) (a b : ks_M) (o : ks_O) (kend : tk_go p l e R s m args below meth c0 (ks_G P) (ks_dm P) 5 cells slots Q (ks_sl P a (r_ab (ks_S P) (ks_W P) b c 12) o) 52 [some (.ref (tk_ad (ks_G P) (12, 0, 0))), some (.int (nI c)), some (.int (nI q)), some (.int v), some (.int (nI (12 * c + 12)))] []) : ∀ (k r : Nat), r + k = 12 → tk_go p l e R s m args below meth c0 (ks_G P) (ks_dm P) 5 cells slots Q (ks_sl P a (r_ab (ks_S P) (ks_W P) b c r) o) 6 [some (.ref (tk_ad (ks_G P) (12, 0, 0))), some (.int (nI c)), some (.int (nI q)), some (.int v), some (.int (nI (12 * c + r)))] [] := by
  have hn64 := ks_n64 hP
  have hT64 := ks_T64 hP
  intro k
  induction k with
  | zero =>
    intro r hr
    have hr2 : r = 12 := by omega
    subst hr2
    have hc3 : c < 3 := by have := hP.2.1; omega
    refine tk_iload X d_Model_abort_6 rfl ?_
    refine tk_bipush (v := 12) X d_Model_abort_8 (by decide) ?_
    refine tk_iload_n X d_Model_abort_10 rfl rfl ?_
    refine tk_imul X d_Model_abort_11 ?_
    refine tk_bipush (v := 12) X d_Model_abort_12 (by decide) ?_
    refine tk_iadd X d_Model_abort_14 ?_
    refine tk_icmp_ge (tgt := 52) X d_Model_abort_15 (by decide) (fun _ => ?_) (fun h => absurd (by rw [show (12 : Int32) = nI 12 from rfl, q_mul]; exact nI_le (Nat.le_refl _) (by omega)) h)
    exact kend
  | succ k ih =>
    intro r hr
    have hr2 : r < 12 := by omega
    have hc3 : c < 3 := by have := hP.2.1; omega
    refine tk_iload X d_Model_abort_6 rfl ?_
    refine tk_bipush (v := 12) X d_Model_abort_8 (by decide) ?_
    refine tk_iload_n X d_Model_abort_10 rfl rfl ?_
    refine tk_imul X d_Model_abort_11 ?_
    refine tk_bipush (v := 12) X d_Model_abort_12 (by decide) ?_
    refine tk_iadd X d_Model_abort_14 ?_
    refine tk_icmp_ge (tgt := 52) X d_Model_abort_15 (by decide) (fun h => absurd h (by rw [show (12 : Int32) = nI 12 from rfl, q_mul]; exact nI_ge (by omega) (by omega))) (fun _ => ?_)
    refine tk_aload_n X d_Model_abort_18 rfl rfl ?_
    refine tk_get X (k := (12, 0, 0)) (dm := ks_dm P) (ks_d0 (by decide)) rfl hc_Model hi_Model 17 (by decide) m_Model_44 (v := .ref (tk_ad (ks_G P) (24, 0, 0))) rfl d_Model_abort_19 ?_
    refine tk_iload X d_Model_abort_22 rfl ?_
    refine kr_iald X (f := 24) (i' := 2) (by decide) (by decide) rfl (by decide) rfl (by omega) (v12k _ _ hr2) rfl d_Model_abort_24 ?_
    refine tk_iconst (v := 2) X d_Model_abort_25 (by decide) ?_
    refine tk_iand X d_Model_abort_26 ?_
    refine tk_if_eq (tgt := 38) X d_Model_abort_27 (by decide) (fun h1 => ?_) (fun h1 => ?_)
    · skip
      refine tk_aload_n X d_Model_abort_38 rfl rfl ?_
      refine tk_get X (k := (12, 0, 0)) (dm := ks_dm P) (ks_d0 (by decide)) rfl hc_Model hi_Model 17 (by decide) m_Model_44 (v := .ref (tk_ad (ks_G P) (24, 0, 0))) rfl d_Model_abort_39 ?_
      refine tk_iload X d_Model_abort_42 rfl ?_
      refine tk_iconst (v := 0) X d_Model_abort_44 (by decide) ?_
      refine kr_iast X hP (f := 24) (i' := 2) (by decide) (by decide) rfl (by decide) rfl (by omega) (v12k _ _ hr2) rfl d_Model_abort_45 ?_
      refine tk_iinc (v := nI (12 * c + (r + 1))) X d_Model_abort_46 rfl (q_inc _) (by decide) rfl ?_
      refine tk_goto (tgt := 6) X d_Model_abort_49 (by decide) ?_
      have e1 : r_ab1 (ks_S P) (ks_W P) (r_ab (ks_S P) (ks_W P) b c r) c r = _ := if_pos h1
      have ih2 := ih (r + 1) (by omega)
      rw [show r_ab (ks_S P) (ks_W P) b c (r + 1) = _ from by rw [r_ab, e1]] at ih2
      exact ih2
    · skip
      refine tk_aload_n X d_Model_abort_30 rfl rfl ?_
      refine tk_get X (k := (12, 0, 0)) (dm := ks_dm P) (ks_d0 (by decide)) rfl hc_Model hi_Model 15 (by decide) m_Model_38 (v := .ref (tk_ad (ks_G P) (22, 0, 0))) rfl d_Model_abort_31 ?_
      refine tk_iload X d_Model_abort_34 rfl ?_
      refine tk_iconst (v := 0) X d_Model_abort_36 (by decide) ?_
      refine kr_iast X hP (f := 22) (i' := 0) (by decide) (by decide) rfl (by decide) rfl (by omega) (v12k _ _ hr2) rfl d_Model_abort_37 ?_
      refine tk_aload_n X d_Model_abort_38 rfl rfl ?_
      refine tk_get X (k := (12, 0, 0)) (dm := ks_dm P) (ks_d0 (by decide)) rfl hc_Model hi_Model 17 (by decide) m_Model_44 (v := .ref (tk_ad (ks_G P) (24, 0, 0))) rfl d_Model_abort_39 ?_
      refine tk_iload X d_Model_abort_42 rfl ?_
      refine tk_iconst (v := 0) X d_Model_abort_44 (by decide) ?_
      refine kr_iast X hP (f := 24) (i' := 2) (by decide) (by decide) rfl (by decide) rfl (by omega) (v12k _ _ hr2) rfl d_Model_abort_45 ?_
      refine tk_iinc (v := nI (12 * c + (r + 1))) X d_Model_abort_46 rfl (q_inc _) (by decide) rfl ?_
      refine tk_goto (tgt := 6) X d_Model_abort_49 (by decide) ?_
      have e1 : r_ab1 (ks_S P) (ks_W P) (r_ab (ks_S P) (ks_W P) b c r) c r = _ := if_neg h1
      have ih2 := ih (r + 1) (by omega)
      rw [show r_ab (ks_S P) (ks_W P) b c (r + 1) = _ from by rw [r_ab, e1]] at ih2
      exact ih2
end LP

section LP
variable {p : Program} {l : Launch} {e : Env} {R : Room} {s : State} {m : MethodId} {args : Array Value} {below : List Frame} {meth : Method} {c0 : Code} {P : ks_P} {cells slots : Nat} {Q : State → Prop}
set_option maxRecDepth 100000 in
set_option maxHeartbeats 4000000 in
theorem lp_Model_abort2 (X : tk_X p m c0 s args (ks_G P) R_Model b_Model_abort 5 WS) (hP : ks_ok P) {c q : Nat} (hc : c < ks_n P) (v : Int32) (a b : ks_M) (o : ks_O) (kend : tk_go p l e R s m args below meth c0 (ks_G P) (ks_dm P) 5 cells slots Q (ks_sl P a (r_cp b c 8) o) 92 [some (.ref (tk_ad (ks_G P) (12, 0, 0))), some (.int (nI c)), some (.int (nI q)), some (.int v), some (.int (nI 8))] []) : ∀ (k r : Nat), r + k = 8 → tk_go p l e R s m args below meth c0 (ks_G P) (ks_dm P) 5 cells slots Q (ks_sl P a (r_cp b c r) o) 55 [some (.ref (tk_ad (ks_G P) (12, 0, 0))), some (.int (nI c)), some (.int (nI q)), some (.int v), some (.int (nI r))] [] := by
  have hn64 := ks_n64 hP
  have hT64 := ks_T64 hP
  intro k
  induction k with
  | zero =>
    intro r hr
    have hr2 : r = 8 := by omega
    subst hr2
    have hc3 : c < 3 := by have := hP.2.1; omega
    refine tk_iload X d_Model_abort_55 rfl ?_
    refine tk_bipush (v := 8) X d_Model_abort_57 (by decide) ?_
    refine tk_icmp_ge (tgt := 92) X d_Model_abort_59 (by decide) (fun _ => ?_) (fun h => absurd (nI_le (Nat.le_refl 8) (by decide)) h)
    exact kend
  | succ k ih =>
    intro r hr
    have hr2 : r < 8 := by omega
    have hc3 : c < 3 := by have := hP.2.1; omega
    refine tk_iload X d_Model_abort_55 rfl ?_
    refine tk_bipush (v := 8) X d_Model_abort_57 (by decide) ?_
    refine tk_icmp_ge (tgt := 92) X d_Model_abort_59 (by decide) (fun h => absurd h (nI_ge hr2 (by decide))) (fun _ => ?_)
    refine tk_aload_n X d_Model_abort_62 rfl rfl ?_
    refine tk_get X (k := (12, 0, 0)) (dm := ks_dm P) (ks_d0 (by decide)) rfl hc_Model hi_Model 7 (by decide) m_Model_13 (v := .ref (tk_ad (ks_G P) (14, 0, 0))) rfl d_Model_abort_63 ?_
    refine tk_bipush (v := 8) X d_Model_abort_66 (by decide) ?_
    refine tk_iload_n X d_Model_abort_68 rfl rfl ?_
    refine tk_imul X d_Model_abort_69 ?_
    refine tk_iload X d_Model_abort_70 rfl ?_
    refine tk_iadd X d_Model_abort_72 ?_
    refine tk_aload_n X d_Model_abort_73 rfl rfl ?_
    refine tk_get X (k := (12, 0, 0)) (dm := ks_dm P) (ks_d0 (by decide)) rfl hc_Model hi_Model 8 (by decide) m_Model_16 (v := .ref (tk_ad (ks_G P) (15, 0, 0))) rfl d_Model_abort_74 ?_
    refine tk_bipush (v := 8) X d_Model_abort_77 (by decide) ?_
    refine tk_iload_n X d_Model_abort_79 rfl rfl ?_
    refine tk_imul X d_Model_abort_80 ?_
    refine tk_iload X d_Model_abort_81 rfl ?_
    refine tk_iadd X d_Model_abort_83 ?_
    refine kr_iald X (f := 15) (i' := r) (by decide) (by decide) rfl (by decide) (q_mul 8 c r) (by omega) (v8k 10 hr2) (v8i hr2) d_Model_abort_84 ?_
    refine kr_iast X hP (f := 14) (i' := r) (by decide) (by decide) rfl (by decide) (q_mul 8 c r) (by omega) (v8k 9 hr2) (v8i hr2) d_Model_abort_85 ?_
    refine tk_iinc (v := nI (r + 1)) X d_Model_abort_86 rfl (q_inc r) (by decide) rfl ?_
    refine tk_goto (tgt := 55) X d_Model_abort_89 (by decide) ?_
    exact ih (r + 1) (by omega)
end LP

set_option maxRecDepth 100000 in
set_option maxHeartbeats 4000000 in
theorem c_Model_abort (l : Launch) (P : ks_P) (hP : ks_ok P) (c q : Nat) (hc : c < ks_n P) (hq : q < 6) (v : Int32) (a b : ks_M) (o : ks_O) (hjk : ∀ j, ks_T P ≤ j → b (7, c, j) 2 = 0) : kc l P y_Model_abort b_Model_abort 5 none 0 [.ref (tk_ad (ks_G P) (12, 0, 0)), .int (nI c), .int (nI q), .int v] a b o (none) a (k_abv (ks_T P) b c q v) o := by
  have hn64 := ks_n64 hP
  have hT64 := ks_T64 hP
  have hc3 : c < 3 := by have := hP.2.1; omega
  refine tk_of hP.2.2.2.2.2 (by decide) rfl (Nat.le_of_ble_eq_true rfl) ?_
  intro p e s m below meth c0 X hlk hr hnm
  refine tk_bipush (v := 12) X d_Model_abort_0 (by decide) ?_
  refine tk_iload_n X d_Model_abort_2 rfl rfl ?_
  refine tk_imul X d_Model_abort_3 ?_
  refine tk_istore X d_Model_abort_4 (by decide) rfl ?_
  rw [show (12 : Int32) * nI c = nI (12 * c + 0) from by rw [show (12 : Int32) = nI 12 from rfl, pk_mul]; rfl]
  refine lp_Model_abort1 X hP hc v a b o ?_ 12 0 (by decide)
  refine tk_iconst (v := 0) X d_Model_abort_52 (by decide) ?_
  refine tk_istore X d_Model_abort_53 (by decide) rfl ?_
  refine lp_Model_abort2 X hP hc v a (r_ab (ks_S P) (ks_W P) b c 12) o ?_ 8 0 (by decide)
  refine tk_aload_n X d_Model_abort_92 rfl rfl ?_
  refine tk_get X (k := (12, 0, 0)) (dm := ks_dm P) (ks_d0 (by decide)) rfl hc_Model hi_Model 7 (by decide) m_Model_13 (v := .ref (tk_ad (ks_G P) (14, 0, 0))) rfl d_Model_abort_93 ?_
  refine tk_bipush (v := 8) X d_Model_abort_96 (by decide) ?_
  refine tk_iload_n X d_Model_abort_98 rfl rfl ?_
  refine tk_imul X d_Model_abort_99 ?_
  refine tk_bipush (v := 7) X d_Model_abort_100 (by decide) ?_
  refine tk_iadd X d_Model_abort_102 ?_
  refine tk_iload_n X d_Model_abort_103 rfl rfl ?_
  refine kr_iast X hP (f := 14) (i' := 7) (by decide) (by decide) rfl (by decide) (q_mul 8 c 7) (by omega) (v8k 9 (by decide)) (v8i (by decide)) d_Model_abort_104 ?_
  refine tk_aload_n X d_Model_abort_105 rfl rfl ?_
  refine tk_get X (k := (12, 0, 0)) (dm := ks_dm P) (ks_d0 (by decide)) rfl hc_Model hi_Model 10 (by decide) m_Model_22 (v := .ref (tk_ad (ks_G P) (17, 0, 0))) rfl d_Model_abort_106 ?_
  refine tk_iload_n X d_Model_abort_109 rfl rfl ?_
  refine tk_aload_n X d_Model_abort_110 rfl rfl ?_
  refine tk_get X (k := (12, 0, 0)) (dm := ks_dm P) (ks_d0 (by decide)) rfl hc_Model hi_Model 12 (by decide) m_Model_28 (v := .ref (tk_ad (ks_G P) (19, 0, 0))) rfl d_Model_abort_111 ?_
  refine tk_iload_n X d_Model_abort_114 rfl rfl ?_
  refine kr_iald X (f := 19) (i' := 7) (k' := (4, c, 0)) (by decide) (by decide) rfl (by decide) rfl hc3 rfl rfl d_Model_abort_115 ?_
  refine kr_iast X hP (f := 17) (i' := 6) (k' := (4, c, 0)) (by decide) (by decide) rfl (by decide) rfl hc3 rfl rfl d_Model_abort_116 ?_
  refine tk_aload_n X d_Model_abort_117 rfl rfl ?_
  refine tk_get X (k := (12, 0, 0)) (dm := ks_dm P) (ks_d0 (by decide)) rfl hc_Model hi_Model 11 (by decide) m_Model_25 (v := .ref (tk_ad (ks_G P) (18, 0, 0))) rfl d_Model_abort_118 ?_
  refine tk_iload_n X d_Model_abort_121 rfl rfl ?_
  refine tk_iconst (v := 0) X d_Model_abort_122 (by decide) ?_
  refine kr_iast X hP (f := 18) (i' := 8) (k' := (4, c, 0)) (by decide) (by decide) rfl (by decide) rfl hc3 rfl rfl d_Model_abort_123 ?_
  refine tk_aload_n X d_Model_abort_124 rfl rfl ?_
  refine tk_get X (k := (12, 0, 0)) (dm := ks_dm P) (ks_d0 (by decide)) rfl hc_Model hi_Model 14 (by decide) m_Model_35 (v := .ref (tk_ad (ks_G P) (21, 0, 0))) rfl d_Model_abort_125 ?_
  refine tk_bipush (v := 6) X d_Model_abort_128 (by decide) ?_
  refine tk_iload_n X d_Model_abort_130 rfl rfl ?_
  refine tk_imul X d_Model_abort_131 ?_
  refine tk_iload_n X d_Model_abort_132 rfl rfl ?_
  refine tk_iadd X d_Model_abort_133 ?_
  refine tk_dup2 X rfl rfl d_Model_abort_134 ?_
  refine kr_iald X (f := 21) (i' := q) (by decide) (by decide) rfl (by decide) (q_mul 6 c q) (by omega) (v6k 11 hq) (v6i hq) d_Model_abort_135 ?_
  refine tk_iconst (v := 1) X d_Model_abort_136 (by decide) ?_
  refine tk_iadd X d_Model_abort_137 ?_
  refine kr_iast X hP (f := 21) (i' := q) (by decide) (by decide) rfl (by decide) (q_mul 6 c q) (by omega) (v6k 11 hq) (v6i hq) d_Model_abort_138 ?_
  exact tk_vret X hlk hr d_Model_abort_139 rfl (fun _ h => h) (Or.inr rfl) (kw_st rfl (by unfold k_abv k_ab2 k_ab1; rw [← r_ab_eq hP b c hjk, ← r_cp_at]) rfl)
