set_option maxRecDepth 100000 in
set_option maxHeartbeats 4000000 in
theorem x_TC_checkThere (l : Launch) (hst : l.stackTraces = false) (P : ks_P) (hP : ks_ok P) (x y : Int32) (hx : x < 0 ∨ y ≤ x) (a b : ks_M) (o : ks_O) : kx l P y_TC_checkThere b_TC_checkThere 2 none 6 [.int x, .int y] a b o xe_I := by
  have hn64 := ks_n64 hP
  have hT64 := ks_T64 hP
  refine xt_of hP.2.2.2.2.2 (by decide) rfl (Nat.le_of_ble_eq_true rfl) ?_
  intro p e s m below meth c0 X hZ h0 hex hlk
  refine tk_iload_n X d_TC_checkThere_0 rfl rfl ?_
  refine tk_if_lt (tgt := 9) X d_TC_checkThere_1 (by decide) (fun h1 => ?_) (fun h1 => ?_)
  · skip
    exact xt_throw X hZ h0 hst rfl (by decide +kernel) (by decide +kernel) xw_I xi_I hZ.2.2.2.2.1 xa_I xg_I d_TC_checkThere_9 d_TC_checkThere_12 d_TC_checkThere_13 d_TC_checkThere_15 d_TC_checkThere_18 hex (Nat.le_of_ble_eq_true rfl) (Nat.le_of_ble_eq_true rfl) (Nat.le_of_ble_eq_true rfl) (Nat.le_of_ble_eq_true rfl) hlk (Nat.le_of_ble_eq_true rfl) (Nat.le_of_ble_eq_true rfl)
  · skip
    refine tk_iload_n X d_TC_checkThere_4 rfl rfl ?_
    refine tk_iload_n X d_TC_checkThere_5 rfl rfl ?_
    refine tk_icmp_lt (tgt := 19) X d_TC_checkThere_6 (by decide) (fun h => absurd h (Int32.not_lt.mpr (hx.resolve_left h1))) (fun _ => ?_)
    exact xt_throw X hZ h0 hst rfl (by decide +kernel) (by decide +kernel) xw_I xi_I hZ.2.2.2.2.1 xa_I xg_I d_TC_checkThere_9 d_TC_checkThere_12 d_TC_checkThere_13 d_TC_checkThere_15 d_TC_checkThere_18 hex (Nat.le_of_ble_eq_true rfl) (Nat.le_of_ble_eq_true rfl) (Nat.le_of_ble_eq_true rfl) (Nat.le_of_ble_eq_true rfl) hlk (Nat.le_of_ble_eq_true rfl) (Nat.le_of_ble_eq_true rfl)

set_option maxRecDepth 100000 in
set_option maxHeartbeats 4000000 in
theorem x_TC_codeX (l : Launch) (hst : l.stackTraces = false) (P : ks_P) (hP : ks_ok P) (x : Int32) (hx : x < 0 ∨ nI (ks_n P) ≤ x) (y v : Int32) (a b : ks_M) (o : ks_O) : kx l P y_TC_code b_TC_code 4 none 7 [.ref (tk_ad (ks_G P) (0, 0, 0)), .int x, .int y, .int v] a b o xe_I := by
  have hn64 := ks_n64 hP
  have hT64 := ks_T64 hP
  refine xt_of hP.2.2.2.2.2 (by decide) rfl (Nat.le_of_ble_eq_true rfl) ?_
  intro p e s m below meth c0 X hZ h0 hex hlk
  refine tk_iload_n X d_TC_code_0 rfl rfl ?_
  refine tk_aload_n X d_TC_code_1 rfl rfl ?_
  refine tk_get X (k := (0, 0, 0)) (dm := ks_dm P) (ks_d0 (by decide)) rfl hc_TC hi_TC 1 (by decide) m_TC_22 (v := .ref (tk_ad (ks_G P) (3, 0, 0))) rfl d_TC_code_2 ?_
  refine tk_alen X (k := (3, 0, 0)) (dm := ks_dm P) (ks_d0 (by decide)) rfl rfl (v := nI _) rfl d_TC_code_5 ?_
  exact xt_passS X hZ (x_TC_checkThere l hst P hP x (nI (ks_n P)) hx a b o) (xs_site (n := 2) mc_TC_checkThere mi_TC (by decide +kernel) (by decide) (by decide)) m_TC_37 ms_TC_checkThere rfl (Nat.le_of_ble_eq_true rfl) ⟨Nat.le_of_ble_eq_true rfl, Nat.le_of_ble_eq_true rfl⟩ rfl d_TC_code_6 hex hlk (Nat.le_of_ble_eq_true rfl) (Nat.le_of_ble_eq_true rfl)

set_option maxRecDepth 100000 in
set_option maxHeartbeats 4000000 in
theorem x_TC_stepX (l : Launch) (hst : l.stackTraces = false) (P : ks_P) (hP : ks_ok P) (x : Int32) (hx : x < 0 ∨ nI (ks_n P) ≤ x) (a b : ks_M) (o : ks_O) : kx l P y_TC_step b_TC_step 2 (some .int) 7 [.ref (tk_ad (ks_G P) (0, 0, 0)), .int x] a b o xe_I := by
  have hn64 := ks_n64 hP
  have hT64 := ks_T64 hP
  refine xt_of hP.2.2.2.2.2 (by decide) rfl (Nat.le_of_ble_eq_true rfl) ?_
  intro p e s m below meth c0 X hZ h0 hex hlk
  refine tk_iload_n X d_TC_step_0 rfl rfl ?_
  refine tk_aload_n X d_TC_step_1 rfl rfl ?_
  refine tk_get X (k := (0, 0, 0)) (dm := ks_dm P) (ks_d0 (by decide)) rfl hc_TC hi_TC 1 (by decide) m_TC_22 (v := .ref (tk_ad (ks_G P) (3, 0, 0))) rfl d_TC_step_2 ?_
  refine tk_alen X (k := (3, 0, 0)) (dm := ks_dm P) (ks_d0 (by decide)) rfl rfl (v := nI _) rfl d_TC_step_5 ?_
  exact xt_passS X hZ (x_TC_checkThere l hst P hP x (nI (ks_n P)) hx a b o) (xs_site (n := 2) mc_TC_checkThere mi_TC (by decide +kernel) (by decide) (by decide)) m_TC_37 ms_TC_checkThere rfl (Nat.le_of_ble_eq_true rfl) ⟨Nat.le_of_ble_eq_true rfl, Nat.le_of_ble_eq_true rfl⟩ rfl d_TC_step_6 hex hlk (Nat.le_of_ble_eq_true rfl) (Nat.le_of_ble_eq_true rfl)

set_option maxRecDepth 100000 in
set_option maxHeartbeats 4000000 in
theorem x_TC_jumpX (l : Launch) (hst : l.stackTraces = false) (P : ks_P) (hP : ks_ok P) (x : Int32) (hx : x < 0 ∨ nI (ks_n P) ≤ x) (y : Int32) (a b : ks_M) (o : ks_O) : kx l P y_TC_jump b_TC_jump 3 none 7 [.ref (tk_ad (ks_G P) (0, 0, 0)), .int x, .int y] a b o xe_I := by
  have hn64 := ks_n64 hP
  have hT64 := ks_T64 hP
  refine xt_of hP.2.2.2.2.2 (by decide) rfl (Nat.le_of_ble_eq_true rfl) ?_
  intro p e s m below meth c0 X hZ h0 hex hlk
  refine tk_iload_n X d_TC_jump_0 rfl rfl ?_
  refine tk_aload_n X d_TC_jump_1 rfl rfl ?_
  refine tk_get X (k := (0, 0, 0)) (dm := ks_dm P) (ks_d0 (by decide)) rfl hc_TC hi_TC 1 (by decide) m_TC_22 (v := .ref (tk_ad (ks_G P) (3, 0, 0))) rfl d_TC_jump_2 ?_
  refine tk_alen X (k := (3, 0, 0)) (dm := ks_dm P) (ks_d0 (by decide)) rfl rfl (v := nI _) rfl d_TC_jump_5 ?_
  exact xt_passS X hZ (x_TC_checkThere l hst P hP x (nI (ks_n P)) hx a b o) (xs_site (n := 2) mc_TC_checkThere mi_TC (by decide +kernel) (by decide) (by decide)) m_TC_37 ms_TC_checkThere rfl (Nat.le_of_ble_eq_true rfl) ⟨Nat.le_of_ble_eq_true rfl, Nat.le_of_ble_eq_true rfl⟩ rfl d_TC_jump_6 hex hlk (Nat.le_of_ble_eq_true rfl) (Nat.le_of_ble_eq_true rfl)

set_option maxRecDepth 100000 in
set_option maxHeartbeats 4000000 in
theorem x_TC_registerX (l : Launch) (hst : l.stackTraces = false) (P : ks_P) (hP : ks_ok P) (x : Int32) (hx : x < 0 ∨ nI (ks_n P) ≤ x) (y : Int32) (a b : ks_M) (o : ks_O) : kx l P y_TC_register b_TC_register 4 (some .int) 7 [.ref (tk_ad (ks_G P) (0, 0, 0)), .int x, .int y] a b o xe_I := by
  have hn64 := ks_n64 hP
  have hT64 := ks_T64 hP
  refine xt_of hP.2.2.2.2.2 (by decide) rfl (Nat.le_of_ble_eq_true rfl) ?_
  intro p e s m below meth c0 X hZ h0 hex hlk
  refine tk_iload_n X d_TC_register_0 rfl rfl ?_
  refine tk_aload_n X d_TC_register_1 rfl rfl ?_
  refine tk_get X (k := (0, 0, 0)) (dm := ks_dm P) (ks_d0 (by decide)) rfl hc_TC hi_TC 1 (by decide) m_TC_22 (v := .ref (tk_ad (ks_G P) (3, 0, 0))) rfl d_TC_register_2 ?_
  refine tk_alen X (k := (3, 0, 0)) (dm := ks_dm P) (ks_d0 (by decide)) rfl rfl (v := nI _) rfl d_TC_register_5 ?_
  exact xt_passS X hZ (x_TC_checkThere l hst P hP x (nI (ks_n P)) hx a b o) (xs_site (n := 2) mc_TC_checkThere mi_TC (by decide +kernel) (by decide) (by decide)) m_TC_37 ms_TC_checkThere rfl (Nat.le_of_ble_eq_true rfl) ⟨Nat.le_of_ble_eq_true rfl, Nat.le_of_ble_eq_true rfl⟩ rfl d_TC_register_6 hex hlk (Nat.le_of_ble_eq_true rfl) (Nat.le_of_ble_eq_true rfl)

set_option maxRecDepth 100000 in
set_option maxHeartbeats 4000000 in
theorem x_TC_fateX (l : Launch) (hst : l.stackTraces = false) (P : ks_P) (hP : ks_ok P) (x : Int32) (hx : x < 0 ∨ nI (ks_n P) ≤ x) (y : Int32) (a b : ks_M) (o : ks_O) : kx l P y_TC_fate b_TC_fate 3 (some .int) 7 [.ref (tk_ad (ks_G P) (0, 0, 0)), .int x, .int y] a b o xe_I := by
  have hn64 := ks_n64 hP
  have hT64 := ks_T64 hP
  refine xt_of hP.2.2.2.2.2 (by decide) rfl (Nat.le_of_ble_eq_true rfl) ?_
  intro p e s m below meth c0 X hZ h0 hex hlk
  refine tk_iload_n X d_TC_fate_0 rfl rfl ?_
  refine tk_aload_n X d_TC_fate_1 rfl rfl ?_
  refine tk_get X (k := (0, 0, 0)) (dm := ks_dm P) (ks_d0 (by decide)) rfl hc_TC hi_TC 1 (by decide) m_TC_22 (v := .ref (tk_ad (ks_G P) (3, 0, 0))) rfl d_TC_fate_2 ?_
  refine tk_alen X (k := (3, 0, 0)) (dm := ks_dm P) (ks_d0 (by decide)) rfl rfl (v := nI _) rfl d_TC_fate_5 ?_
  exact xt_passS X hZ (x_TC_checkThere l hst P hP x (nI (ks_n P)) hx a b o) (xs_site (n := 2) mc_TC_checkThere mi_TC (by decide +kernel) (by decide) (by decide)) m_TC_37 ms_TC_checkThere rfl (Nat.le_of_ble_eq_true rfl) ⟨Nat.le_of_ble_eq_true rfl, Nat.le_of_ble_eq_true rfl⟩ rfl d_TC_fate_6 hex hlk (Nat.le_of_ble_eq_true rfl) (Nat.le_of_ble_eq_true rfl)

set_option maxRecDepth 100000 in
set_option maxHeartbeats 4000000 in
theorem x_TC_wayX (l : Launch) (hst : l.stackTraces = false) (P : ks_P) (hP : ks_ok P) (x : Int32) (hx : x < 0 ∨ nI (ks_n P) ≤ x) (t u v : Int32) (a b : ks_M) (o : ks_O) : kx l P y_TC_way b_TC_way 7 (some .int) 7 [.ref (tk_ad (ks_G P) (0, 0, 0)), .int x, .int t, .int u, .int v] a b o xe_I := by
  have hn64 := ks_n64 hP
  have hT64 := ks_T64 hP
  refine xt_of hP.2.2.2.2.2 (by decide) rfl (Nat.le_of_ble_eq_true rfl) ?_
  intro p e s m below meth c0 X hZ h0 hex hlk
  refine tk_iload_n X d_TC_way_0 rfl rfl ?_
  refine tk_aload_n X d_TC_way_1 rfl rfl ?_
  refine tk_get X (k := (0, 0, 0)) (dm := ks_dm P) (ks_d0 (by decide)) rfl hc_TC hi_TC 1 (by decide) m_TC_22 (v := .ref (tk_ad (ks_G P) (3, 0, 0))) rfl d_TC_way_2 ?_
  refine tk_alen X (k := (3, 0, 0)) (dm := ks_dm P) (ks_d0 (by decide)) rfl rfl (v := nI _) rfl d_TC_way_5 ?_
  exact xt_passS X hZ (x_TC_checkThere l hst P hP x (nI (ks_n P)) hx a b o) (xs_site (n := 2) mc_TC_checkThere mi_TC (by decide +kernel) (by decide) (by decide)) m_TC_37 ms_TC_checkThere rfl (Nat.le_of_ble_eq_true rfl) ⟨Nat.le_of_ble_eq_true rfl, Nat.le_of_ble_eq_true rfl⟩ rfl d_TC_way_6 hex hlk (Nat.le_of_ble_eq_true rfl) (Nat.le_of_ble_eq_true rfl)

set_option maxRecDepth 100000 in
set_option maxHeartbeats 4000000 in
theorem x_TC_codeY (l : Launch) (hst : l.stackTraces = false) (P : ks_P) (hP : ks_ok P) (c : Nat) (hc : c < ks_n P) (y : Int32) (hy : y < 0 ∨ 16 ≤ y) (v : Int32) (a b : ks_M) (o : ks_O) : kx l P y_TC_code b_TC_code 4 none 7 [.ref (tk_ad (ks_G P) (0, 0, 0)), .int (nI c), .int y, .int v] a b o xe_I := by
  have hn64 := ks_n64 hP
  have hT64 := ks_T64 hP
  refine xt_of hP.2.2.2.2.2 (by decide) rfl (Nat.le_of_ble_eq_true rfl) ?_
  intro p e s m below meth c0 X hZ h0 hex hlk
  refine tk_iload_n X d_TC_code_0 rfl rfl ?_
  refine tk_aload_n X d_TC_code_1 rfl rfl ?_
  refine tk_get X (k := (0, 0, 0)) (dm := ks_dm P) (ks_d0 (by decide)) rfl hc_TC hi_TC 1 (by decide) m_TC_22 (v := .ref (tk_ad (ks_G P) (3, 0, 0))) rfl d_TC_code_2 ?_
  refine tk_alen X (k := (3, 0, 0)) (dm := ks_dm P) (ks_d0 (by decide)) rfl rfl (v := nI _) rfl d_TC_code_5 ?_
  refine tk_callS X (c_TC_checkThere l P hP c (ks_n P) hc (by omega) a b o) (xk_site (n := 2) mc_TC_checkThere mi_TC (by decide +kernel) (by decide) (by decide)) m_TC_37 ms_TC_checkThere rfl (Nat.le_of_ble_eq_true rfl) ⟨Nat.le_of_ble_eq_true rfl, Nat.le_of_ble_eq_true rfl⟩ rfl d_TC_code_6 ?_
  refine tk_iload_n X d_TC_code_9 rfl rfl ?_
  refine tk_bipush (v := 16) X d_TC_code_10 (by decide) ?_
  exact xt_passS X hZ (x_TC_checkThere l hst P hP y 16 hy a b o) (xs_site (n := 2) mc_TC_checkThere mi_TC (by decide +kernel) (by decide) (by decide)) m_TC_37 ms_TC_checkThere rfl (Nat.le_of_ble_eq_true rfl) ⟨Nat.le_of_ble_eq_true rfl, Nat.le_of_ble_eq_true rfl⟩ rfl d_TC_code_12 hex hlk (Nat.le_of_ble_eq_true rfl) (Nat.le_of_ble_eq_true rfl)

set_option maxRecDepth 100000 in
set_option maxHeartbeats 4000000 in
theorem x_TC_registerY (l : Launch) (hst : l.stackTraces = false) (P : ks_P) (hP : ks_ok P) (c : Nat) (hc : c < ks_n P) (y : Int32) (hy : y < 0 ∨ 11 ≤ y) (a b : ks_M) (o : ks_O) : kx l P y_TC_register b_TC_register 4 (some .int) 7 [.ref (tk_ad (ks_G P) (0, 0, 0)), .int (nI c), .int y] a b o xe_I := by
  have hn64 := ks_n64 hP
  have hT64 := ks_T64 hP
  refine xt_of hP.2.2.2.2.2 (by decide) rfl (Nat.le_of_ble_eq_true rfl) ?_
  intro p e s m below meth c0 X hZ h0 hex hlk
  refine tk_iload_n X d_TC_register_0 rfl rfl ?_
  refine tk_aload_n X d_TC_register_1 rfl rfl ?_
  refine tk_get X (k := (0, 0, 0)) (dm := ks_dm P) (ks_d0 (by decide)) rfl hc_TC hi_TC 1 (by decide) m_TC_22 (v := .ref (tk_ad (ks_G P) (3, 0, 0))) rfl d_TC_register_2 ?_
  refine tk_alen X (k := (3, 0, 0)) (dm := ks_dm P) (ks_d0 (by decide)) rfl rfl (v := nI _) rfl d_TC_register_5 ?_
  refine tk_callS X (c_TC_checkThere l P hP c (ks_n P) hc (by omega) a b o) (xk_site (n := 2) mc_TC_checkThere mi_TC (by decide +kernel) (by decide) (by decide)) m_TC_37 ms_TC_checkThere rfl (Nat.le_of_ble_eq_true rfl) ⟨Nat.le_of_ble_eq_true rfl, Nat.le_of_ble_eq_true rfl⟩ rfl d_TC_register_6 ?_
  refine tk_iload_n X d_TC_register_9 rfl rfl ?_
  refine tk_bipush (v := 11) X d_TC_register_10 (by decide) ?_
  exact xt_passS X hZ (x_TC_checkThere l hst P hP y 11 hy a b o) (xs_site (n := 2) mc_TC_checkThere mi_TC (by decide +kernel) (by decide) (by decide)) m_TC_37 ms_TC_checkThere rfl (Nat.le_of_ble_eq_true rfl) ⟨Nat.le_of_ble_eq_true rfl, Nat.le_of_ble_eq_true rfl⟩ rfl d_TC_register_12 hex hlk (Nat.le_of_ble_eq_true rfl) (Nat.le_of_ble_eq_true rfl)

set_option maxRecDepth 100000 in
set_option maxHeartbeats 4000000 in
theorem x_TC_fateY (l : Launch) (hst : l.stackTraces = false) (P : ks_P) (hP : ks_ok P) (c : Nat) (hc : c < ks_n P) (y : Int32) (hy : y < 0 ∨ 6 ≤ y) (a b : ks_M) (o : ks_O) : kx l P y_TC_fate b_TC_fate 3 (some .int) 7 [.ref (tk_ad (ks_G P) (0, 0, 0)), .int (nI c), .int y] a b o xe_I := by
  have hn64 := ks_n64 hP
  have hT64 := ks_T64 hP
  refine xt_of hP.2.2.2.2.2 (by decide) rfl (Nat.le_of_ble_eq_true rfl) ?_
  intro p e s m below meth c0 X hZ h0 hex hlk
  refine tk_iload_n X d_TC_fate_0 rfl rfl ?_
  refine tk_aload_n X d_TC_fate_1 rfl rfl ?_
  refine tk_get X (k := (0, 0, 0)) (dm := ks_dm P) (ks_d0 (by decide)) rfl hc_TC hi_TC 1 (by decide) m_TC_22 (v := .ref (tk_ad (ks_G P) (3, 0, 0))) rfl d_TC_fate_2 ?_
  refine tk_alen X (k := (3, 0, 0)) (dm := ks_dm P) (ks_d0 (by decide)) rfl rfl (v := nI _) rfl d_TC_fate_5 ?_
  refine tk_callS X (c_TC_checkThere l P hP c (ks_n P) hc (by omega) a b o) (xk_site (n := 2) mc_TC_checkThere mi_TC (by decide +kernel) (by decide) (by decide)) m_TC_37 ms_TC_checkThere rfl (Nat.le_of_ble_eq_true rfl) ⟨Nat.le_of_ble_eq_true rfl, Nat.le_of_ble_eq_true rfl⟩ rfl d_TC_fate_6 ?_
  refine tk_iload_n X d_TC_fate_9 rfl rfl ?_
  refine tk_bipush (v := 6) X d_TC_fate_10 (by decide) ?_
  exact xt_passS X hZ (x_TC_checkThere l hst P hP y 6 hy a b o) (xs_site (n := 2) mc_TC_checkThere mi_TC (by decide +kernel) (by decide) (by decide)) m_TC_37 ms_TC_checkThere rfl (Nat.le_of_ble_eq_true rfl) ⟨Nat.le_of_ble_eq_true rfl, Nat.le_of_ble_eq_true rfl⟩ rfl d_TC_fate_12 hex hlk (Nat.le_of_ble_eq_true rfl) (Nat.le_of_ble_eq_true rfl)

set_option maxRecDepth 100000 in
set_option maxHeartbeats 4000000 in
theorem x_TC_wayT (l : Launch) (hst : l.stackTraces = false) (P : ks_P) (hP : ks_ok P) (c : Nat) (hc : c < ks_n P) (t : Int32) (ht : t < 0 ∨ nI (ks_S P) ≤ t) (u v : Int32) (a b : ks_M) (o : ks_O) : kx l P y_TC_way b_TC_way 7 (some .int) 7 [.ref (tk_ad (ks_G P) (0, 0, 0)), .int (nI c), .int t, .int u, .int v] a b o xe_I := by
  have hn64 := ks_n64 hP
  have hT64 := ks_T64 hP
  refine xt_of hP.2.2.2.2.2 (by decide) rfl (Nat.le_of_ble_eq_true rfl) ?_
  intro p e s m below meth c0 X hZ h0 hex hlk
  refine tk_iload_n X d_TC_way_0 rfl rfl ?_
  refine tk_aload_n X d_TC_way_1 rfl rfl ?_
  refine tk_get X (k := (0, 0, 0)) (dm := ks_dm P) (ks_d0 (by decide)) rfl hc_TC hi_TC 1 (by decide) m_TC_22 (v := .ref (tk_ad (ks_G P) (3, 0, 0))) rfl d_TC_way_2 ?_
  refine tk_alen X (k := (3, 0, 0)) (dm := ks_dm P) (ks_d0 (by decide)) rfl rfl (v := nI _) rfl d_TC_way_5 ?_
  refine tk_callS X (c_TC_checkThere l P hP c (ks_n P) hc (by omega) a b o) (xk_site (n := 2) mc_TC_checkThere mi_TC (by decide +kernel) (by decide) (by decide)) m_TC_37 ms_TC_checkThere rfl (Nat.le_of_ble_eq_true rfl) ⟨Nat.le_of_ble_eq_true rfl, Nat.le_of_ble_eq_true rfl⟩ rfl d_TC_way_6 ?_
  refine tk_aload_n X d_TC_way_9 rfl rfl ?_
  refine tk_get X (k := (0, 0, 0)) (dm := ks_dm P) (ks_d0 (by decide)) rfl hc_TC hi_TC 1 (by decide) m_TC_22 (v := .ref (tk_ad (ks_G P) (3, 0, 0))) rfl d_TC_way_10 ?_
  refine tk_iload_n X d_TC_way_13 rfl rfl ?_
  refine kw_core X (i := c) rfl hc hn64 d_TC_way_14 ?_
  refine tk_getN X (k := (4, c, 0)) (dm := ks_dm P) (ks_d4 hc) rfl hc_Core hi_Core 1 (by decide) n_TC_54 (v := .ref (tk_ad (ks_G P) (5, c, 0))) rfl d_TC_way_15 ?_
  refine tk_astore X d_TC_way_18 (by decide) rfl ?_
  refine tk_iload_n X d_TC_way_20 rfl rfl ?_
  refine tk_aload X d_TC_way_21 rfl ?_
  refine tk_getN X (k := (5, c, 0)) (dm := ks_dm P) (ks_d5 hc) rfl hc_Cache hi_Cache 0 (by decide) n_TC_110 (v := .int _) rfl d_TC_way_23 ?_
  exact xt_passS X hZ (x_TC_checkThere l hst P hP t (nI (ks_S P)) ht a b o) (xs_site (n := 2) mc_TC_checkThere mi_TC (by decide +kernel) (by decide) (by decide)) m_TC_37 ms_TC_checkThere rfl (Nat.le_of_ble_eq_true rfl) ⟨Nat.le_of_ble_eq_true rfl, Nat.le_of_ble_eq_true rfl⟩ rfl d_TC_way_26 hex hlk (Nat.le_of_ble_eq_true rfl) (Nat.le_of_ble_eq_true rfl)

set_option maxRecDepth 100000 in
set_option maxHeartbeats 4000000 in
theorem x_TC_wayU (l : Launch) (hst : l.stackTraces = false) (P : ks_P) (hP : ks_ok P) (c : Nat) (hc : c < ks_n P) (t : Nat) (ht : t < ks_S P) (u : Int32) (hu : u < 0 ∨ nI (ks_W P) ≤ u) (v : Int32) (a b : ks_M) (o : ks_O) : kx l P y_TC_way b_TC_way 7 (some .int) 7 [.ref (tk_ad (ks_G P) (0, 0, 0)), .int (nI c), .int (nI t), .int u, .int v] a b o xe_I := by
  have hn64 := ks_n64 hP
  have hT64 := ks_T64 hP
  refine xt_of hP.2.2.2.2.2 (by decide) rfl (Nat.le_of_ble_eq_true rfl) ?_
  intro p e s m below meth c0 X hZ h0 hex hlk
  refine tk_iload_n X d_TC_way_0 rfl rfl ?_
  refine tk_aload_n X d_TC_way_1 rfl rfl ?_
  refine tk_get X (k := (0, 0, 0)) (dm := ks_dm P) (ks_d0 (by decide)) rfl hc_TC hi_TC 1 (by decide) m_TC_22 (v := .ref (tk_ad (ks_G P) (3, 0, 0))) rfl d_TC_way_2 ?_
  refine tk_alen X (k := (3, 0, 0)) (dm := ks_dm P) (ks_d0 (by decide)) rfl rfl (v := nI _) rfl d_TC_way_5 ?_
  refine tk_callS X (c_TC_checkThere l P hP c (ks_n P) hc (by omega) a b o) (xk_site (n := 2) mc_TC_checkThere mi_TC (by decide +kernel) (by decide) (by decide)) m_TC_37 ms_TC_checkThere rfl (Nat.le_of_ble_eq_true rfl) ⟨Nat.le_of_ble_eq_true rfl, Nat.le_of_ble_eq_true rfl⟩ rfl d_TC_way_6 ?_
  refine tk_aload_n X d_TC_way_9 rfl rfl ?_
  refine tk_get X (k := (0, 0, 0)) (dm := ks_dm P) (ks_d0 (by decide)) rfl hc_TC hi_TC 1 (by decide) m_TC_22 (v := .ref (tk_ad (ks_G P) (3, 0, 0))) rfl d_TC_way_10 ?_
  refine tk_iload_n X d_TC_way_13 rfl rfl ?_
  refine kw_core X (i := c) rfl hc hn64 d_TC_way_14 ?_
  refine tk_getN X (k := (4, c, 0)) (dm := ks_dm P) (ks_d4 hc) rfl hc_Core hi_Core 1 (by decide) n_TC_54 (v := .ref (tk_ad (ks_G P) (5, c, 0))) rfl d_TC_way_15 ?_
  refine tk_astore X d_TC_way_18 (by decide) rfl ?_
  refine tk_iload_n X d_TC_way_20 rfl rfl ?_
  refine tk_aload X d_TC_way_21 rfl ?_
  refine tk_getN X (k := (5, c, 0)) (dm := ks_dm P) (ks_d5 hc) rfl hc_Cache hi_Cache 0 (by decide) n_TC_110 (v := .int _) rfl d_TC_way_23 ?_
  refine tk_callS X (c_TC_checkThere l P hP t (ks_S P) ht (by rcases hP.2.2.1 with h | h | h <;> omega) a b o) (xk_site (n := 2) mc_TC_checkThere mi_TC (by decide +kernel) (by decide) (by decide)) m_TC_37 ms_TC_checkThere rfl (Nat.le_of_ble_eq_true rfl) ⟨Nat.le_of_ble_eq_true rfl, Nat.le_of_ble_eq_true rfl⟩ rfl d_TC_way_26 ?_
  refine tk_iload_n X d_TC_way_29 rfl rfl ?_
  refine tk_aload X d_TC_way_30 rfl ?_
  refine tk_getN X (k := (5, c, 0)) (dm := ks_dm P) (ks_d5 hc) rfl hc_Cache hi_Cache 1 (by decide) n_TC_113 (v := .int _) rfl d_TC_way_32 ?_
  exact xt_passS X hZ (x_TC_checkThere l hst P hP u (nI (ks_W P)) hu a b o) (xs_site (n := 2) mc_TC_checkThere mi_TC (by decide +kernel) (by decide) (by decide)) m_TC_37 ms_TC_checkThere rfl (Nat.le_of_ble_eq_true rfl) ⟨Nat.le_of_ble_eq_true rfl, Nat.le_of_ble_eq_true rfl⟩ rfl d_TC_way_35 hex hlk (Nat.le_of_ble_eq_true rfl) (Nat.le_of_ble_eq_true rfl)

set_option maxRecDepth 100000 in
set_option maxHeartbeats 4000000 in
theorem x_TC_wayY (l : Launch) (hst : l.stackTraces = false) (P : ks_P) (hP : ks_ok P) (c : Nat) (hc : c < ks_n P) (t u : Nat) (ht : t < ks_S P) (hu : u < ks_W P) (v : Int32) (hv : v < 0 ∨ 5 ≤ v) (a b : ks_M) (o : ks_O) : kx l P y_TC_way b_TC_way 7 (some .int) 7 [.ref (tk_ad (ks_G P) (0, 0, 0)), .int (nI c), .int (nI t), .int (nI u), .int v] a b o xe_I := by
  have hn64 := ks_n64 hP
  have hT64 := ks_T64 hP
  refine xt_of hP.2.2.2.2.2 (by decide) rfl (Nat.le_of_ble_eq_true rfl) ?_
  intro p e s m below meth c0 X hZ h0 hex hlk
  refine tk_iload_n X d_TC_way_0 rfl rfl ?_
  refine tk_aload_n X d_TC_way_1 rfl rfl ?_
  refine tk_get X (k := (0, 0, 0)) (dm := ks_dm P) (ks_d0 (by decide)) rfl hc_TC hi_TC 1 (by decide) m_TC_22 (v := .ref (tk_ad (ks_G P) (3, 0, 0))) rfl d_TC_way_2 ?_
  refine tk_alen X (k := (3, 0, 0)) (dm := ks_dm P) (ks_d0 (by decide)) rfl rfl (v := nI _) rfl d_TC_way_5 ?_
  refine tk_callS X (c_TC_checkThere l P hP c (ks_n P) hc (by omega) a b o) (xk_site (n := 2) mc_TC_checkThere mi_TC (by decide +kernel) (by decide) (by decide)) m_TC_37 ms_TC_checkThere rfl (Nat.le_of_ble_eq_true rfl) ⟨Nat.le_of_ble_eq_true rfl, Nat.le_of_ble_eq_true rfl⟩ rfl d_TC_way_6 ?_
  refine tk_aload_n X d_TC_way_9 rfl rfl ?_
  refine tk_get X (k := (0, 0, 0)) (dm := ks_dm P) (ks_d0 (by decide)) rfl hc_TC hi_TC 1 (by decide) m_TC_22 (v := .ref (tk_ad (ks_G P) (3, 0, 0))) rfl d_TC_way_10 ?_
  refine tk_iload_n X d_TC_way_13 rfl rfl ?_
  refine kw_core X (i := c) rfl hc hn64 d_TC_way_14 ?_
  refine tk_getN X (k := (4, c, 0)) (dm := ks_dm P) (ks_d4 hc) rfl hc_Core hi_Core 1 (by decide) n_TC_54 (v := .ref (tk_ad (ks_G P) (5, c, 0))) rfl d_TC_way_15 ?_
  refine tk_astore X d_TC_way_18 (by decide) rfl ?_
  refine tk_iload_n X d_TC_way_20 rfl rfl ?_
  refine tk_aload X d_TC_way_21 rfl ?_
  refine tk_getN X (k := (5, c, 0)) (dm := ks_dm P) (ks_d5 hc) rfl hc_Cache hi_Cache 0 (by decide) n_TC_110 (v := .int _) rfl d_TC_way_23 ?_
  refine tk_callS X (c_TC_checkThere l P hP t (ks_S P) ht (by rcases hP.2.2.1 with h | h | h <;> omega) a b o) (xk_site (n := 2) mc_TC_checkThere mi_TC (by decide +kernel) (by decide) (by decide)) m_TC_37 ms_TC_checkThere rfl (Nat.le_of_ble_eq_true rfl) ⟨Nat.le_of_ble_eq_true rfl, Nat.le_of_ble_eq_true rfl⟩ rfl d_TC_way_26 ?_
  refine tk_iload_n X d_TC_way_29 rfl rfl ?_
  refine tk_aload X d_TC_way_30 rfl ?_
  refine tk_getN X (k := (5, c, 0)) (dm := ks_dm P) (ks_d5 hc) rfl hc_Cache hi_Cache 1 (by decide) n_TC_113 (v := .int _) rfl d_TC_way_32 ?_
  refine tk_callS X (c_TC_checkThere l P hP u (ks_W P) hu (by have := hP.2.2.2.2.1; omega) a b o) (xk_site (n := 2) mc_TC_checkThere mi_TC (by decide +kernel) (by decide) (by decide)) m_TC_37 ms_TC_checkThere rfl (Nat.le_of_ble_eq_true rfl) ⟨Nat.le_of_ble_eq_true rfl, Nat.le_of_ble_eq_true rfl⟩ rfl d_TC_way_35 ?_
  refine tk_iload X d_TC_way_38 rfl ?_
  refine tk_iconst (v := 5) X d_TC_way_40 (by decide) ?_
  exact xt_passS X hZ (x_TC_checkThere l hst P hP v 5 hv a b o) (xs_site (n := 2) mc_TC_checkThere mi_TC (by decide +kernel) (by decide) (by decide)) m_TC_37 ms_TC_checkThere rfl (Nat.le_of_ble_eq_true rfl) ⟨Nat.le_of_ble_eq_true rfl, Nat.le_of_ble_eq_true rfl⟩ rfl d_TC_way_41 hex hlk (Nat.le_of_ble_eq_true rfl) (Nat.le_of_ble_eq_true rfl)

set_option maxRecDepth 100000 in
set_option maxHeartbeats 4000000 in
theorem x_TC_jumpD (l : Launch) (hst : l.stackTraces = false) (P : ks_P) (hP : ks_ok P) (c : Nat) (hc : c < ks_n P) (y : Int32) (a b : ks_M) (o : ks_O) (hd : ¬ a (4, c, 0) 8 ≤ 0) : kx l P y_TC_jump b_TC_jump 3 none 7 [.ref (tk_ad (ks_G P) (0, 0, 0)), .int (nI c), .int y] a b o xe_S := by
  have hn64 := ks_n64 hP
  have hT64 := ks_T64 hP
  refine xt_of hP.2.2.2.2.2 (by decide) rfl (Nat.le_of_ble_eq_true rfl) ?_
  intro p e s m below meth c0 X hZ h0 hex hlk
  refine tk_iload_n X d_TC_jump_0 rfl rfl ?_
  refine tk_aload_n X d_TC_jump_1 rfl rfl ?_
  refine tk_get X (k := (0, 0, 0)) (dm := ks_dm P) (ks_d0 (by decide)) rfl hc_TC hi_TC 1 (by decide) m_TC_22 (v := .ref (tk_ad (ks_G P) (3, 0, 0))) rfl d_TC_jump_2 ?_
  refine tk_alen X (k := (3, 0, 0)) (dm := ks_dm P) (ks_d0 (by decide)) rfl rfl (v := nI _) rfl d_TC_jump_5 ?_
  refine tk_callS X (c_TC_checkThere l P hP c (ks_n P) hc (by omega) a b o) (xk_site (n := 2) mc_TC_checkThere mi_TC (by decide +kernel) (by decide) (by decide)) m_TC_37 ms_TC_checkThere rfl (Nat.le_of_ble_eq_true rfl) ⟨Nat.le_of_ble_eq_true rfl, Nat.le_of_ble_eq_true rfl⟩ rfl d_TC_jump_6 ?_
  refine tk_aload_n X d_TC_jump_9 rfl rfl ?_
  refine tk_get X (k := (0, 0, 0)) (dm := ks_dm P) (ks_d0 (by decide)) rfl hc_TC hi_TC 1 (by decide) m_TC_22 (v := .ref (tk_ad (ks_G P) (3, 0, 0))) rfl d_TC_jump_10 ?_
  refine tk_iload_n X d_TC_jump_13 rfl rfl ?_
  refine kw_core X (i := c) rfl hc hn64 d_TC_jump_14 ?_
  refine tk_getN X (k := (4, c, 0)) (dm := ks_dm P) (ks_d4 hc) rfl hc_Core hi_Core 8 (by decide) n_TC_86 (v := .int _) rfl d_TC_jump_15 ?_
  refine tk_if_le (tgt := 31) X d_TC_jump_18 (by decide) (fun h => absurd h hd) (fun _ => ?_)
  exact xt_throw X hZ h0 hst rfl (by decide +kernel) (by decide +kernel) xw_S xi_S hZ.2.2.2.2.2.2 xa_S xg_S d_TC_jump_21 d_TC_jump_24 d_TC_jump_25 d_TC_jump_27 d_TC_jump_30 hex (Nat.le_of_ble_eq_true rfl) (Nat.le_of_ble_eq_true rfl) (Nat.le_of_ble_eq_true rfl) (Nat.le_of_ble_eq_true rfl) hlk (Nat.le_of_ble_eq_true rfl) (Nat.le_of_ble_eq_true rfl)

set_option maxRecDepth 100000 in
set_option maxHeartbeats 4000000 in
theorem x_TC_runX (l : Launch) (hst : l.stackTraces = false) (P : ks_P) (hP : ks_ok P) (x y : Int32) (hy : y < 0 ∨ ¬ y ≤ 16) (a b : ks_M) (o : ks_O) : kx l P y_TC_run b_TC_run 6 (some .int) 7 [.ref (tk_ad (ks_G P) (0, 0, 0)), .int x, .int y] a b o xe_A := by
  have hn64 := ks_n64 hP
  have hT64 := ks_T64 hP
  refine xt_of hP.2.2.2.2.2 (by decide) rfl (Nat.le_of_ble_eq_true rfl) ?_
  intro p e s m below meth c0 X hZ h0 hex hlk
  refine tk_iload_n X d_TC_run_0 rfl rfl ?_
  refine tk_if_lt (tgt := 10) X d_TC_run_1 (by decide) (fun h1 => ?_) (fun h1 => ?_)
  · skip
    exact xt_throw X hZ h0 hst rfl (by decide +kernel) (by decide +kernel) xw_A xi_A hZ.2.2.2.2.2.1 xa_A xg_A d_TC_run_10 d_TC_run_13 d_TC_run_14 d_TC_run_16 d_TC_run_19 hex (Nat.le_of_ble_eq_true rfl) (Nat.le_of_ble_eq_true rfl) (Nat.le_of_ble_eq_true rfl) (Nat.le_of_ble_eq_true rfl) hlk (Nat.le_of_ble_eq_true rfl) (Nat.le_of_ble_eq_true rfl)
  · skip
    refine tk_iload_n X d_TC_run_4 rfl rfl ?_
    refine tk_bipush (v := 16) X d_TC_run_5 (by decide) ?_
    refine tk_icmp_le (tgt := 20) X d_TC_run_7 (by decide) (fun h => absurd h (hy.resolve_left h1)) (fun _ => ?_)
    exact xt_throw X hZ h0 hst rfl (by decide +kernel) (by decide +kernel) xw_A xi_A hZ.2.2.2.2.2.1 xa_A xg_A d_TC_run_10 d_TC_run_13 d_TC_run_14 d_TC_run_16 d_TC_run_19 hex (Nat.le_of_ble_eq_true rfl) (Nat.le_of_ble_eq_true rfl) (Nat.le_of_ble_eq_true rfl) (Nat.le_of_ble_eq_true rfl) hlk (Nat.le_of_ble_eq_true rfl) (Nat.le_of_ble_eq_true rfl)
