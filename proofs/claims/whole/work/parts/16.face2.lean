set_option maxRecDepth 100000 in
set_option maxHeartbeats 4000000 in
theorem c_Way_tell (l : Launch) (P : ks_P) (hP : ks_ok P) (c j : Nat) (hc : c < ks_n P) (hj : j < ks_T P) (x : Int32) (a b : ks_M) (o : ks_O) : kc l P y_Way_tell b_Way_tell 2 (some .int) 0 [.ref (tk_ad (ks_G P) (7, c, j)), .int x] a b o (some (.int (k_tell a c j x))) a b o := by
  have hn64 := ks_n64 hP
  have hT64 := ks_T64 hP
  refine tk_of hP.2.2.2.2.2 (by decide) rfl (Nat.le_of_ble_eq_true rfl) ?_
  intro p e s m below meth c0 X hlk hr hnm
  refine tk_iload_n X d_Way_tell_0 rfl rfl ?_
  by_cases h1 : x = 1
  · skip
    refine tk_tableAt (K := 1) (tgt := 28) X h1 d_Way_tell_1 (by decide) (by decide) rfl (by decide) ?_
    refine tk_aload_n X d_Way_tell_28 rfl rfl ?_
    refine tk_get X (k := (7, c, j)) (dm := ks_dm P) (ks_d7 hc hj) rfl hc_Way hi_Way 1 (by decide) m_Way_16 (v := .int _) rfl d_Way_tell_29 ?_
    have e1 : k_tell a c j x = _ := (if_pos h1)
    exact tk_iret X hlk hr d_Way_tell_32 (by rw [e1]) (fun _ h => h) (Or.inr rfl) (fun _ _ => rfl)
  by_cases h2 : x = 2
  · skip
    refine tk_tableAt (K := 2) (tgt := 33) X h2 d_Way_tell_1 (by decide) (by decide) rfl (by decide) ?_
    refine tk_aload_n X d_Way_tell_33 rfl rfl ?_
    refine tk_get X (k := (7, c, j)) (dm := ks_dm P) (ks_d7 hc hj) rfl hc_Way hi_Way 2 (by decide) m_Way_19 (v := .int _) rfl d_Way_tell_34 ?_
    have e1 : k_tell a c j x = _ := ((if_neg (fun z => absurd (h2.symm.trans z) (by decide))).trans (if_pos h2))
    exact tk_iret X hlk hr d_Way_tell_37 (by rw [e1]) (fun _ h => h) (Or.inr rfl) (fun _ _ => rfl)
  by_cases h3 : x = 3
  · skip
    refine tk_tableAt (K := 3) (tgt := 38) X h3 d_Way_tell_1 (by decide) (by decide) rfl (by decide) ?_
    refine tk_aload_n X d_Way_tell_38 rfl rfl ?_
    refine tk_get X (k := (7, c, j)) (dm := ks_dm P) (ks_d7 hc hj) rfl hc_Way hi_Way 3 (by decide) m_Way_7 (v := .int _) rfl d_Way_tell_39 ?_
    have e1 : k_tell a c j x = _ := (((if_neg (fun z => absurd (h3.symm.trans z) (by decide))).trans (if_neg (fun z => absurd (h3.symm.trans z) (by decide)))).trans (if_pos h3))
    exact tk_iret X hlk hr d_Way_tell_42 (by rw [e1]) (fun _ h => h) (Or.inr rfl) (fun _ _ => rfl)
  refine tk_tableOut (tgt := 43) X d_Way_tell_1 (by have := lv_neT (a := 1) h1 (by decide); have := lv_neT (a := 2) h2 (by decide); have := lv_neT (a := 3) h3 (by decide); omega) (by decide) ?_
  refine tk_aload_n X d_Way_tell_43 rfl rfl ?_
  refine tk_get X (k := (7, c, j)) (dm := ks_dm P) (ks_d7 hc hj) rfl hc_Way hi_Way 4 (by decide) m_Way_13 (v := .int _) rfl d_Way_tell_44 ?_
  have e1 : k_tell a c j x = _ := (((if_neg h1).trans (if_neg h2)).trans (if_neg h3))
  exact tk_iret X hlk hr d_Way_tell_47 (by rw [e1]) (fun _ h => h) (Or.inr rfl) (fun _ _ => rfl)

set_option maxRecDepth 100000 in
set_option maxHeartbeats 4000000 in
theorem c_TC_checkThere (l : Launch) (P : ks_P) (hP : ks_ok P) (i N : Nat) (hi : i < N) (hN : N < 2 ^ 31) (a b : ks_M) (o : ks_O) : kc l P y_TC_checkThere b_TC_checkThere 2 none 0 [.int (nI i), .int (nI N)] a b o (none) a b o := by
  have hn64 := ks_n64 hP
  have hT64 := ks_T64 hP
  refine tk_of hP.2.2.2.2.2 (by decide) rfl (Nat.le_of_ble_eq_true rfl) ?_
  intro p e s m below meth c0 X hlk hr hnm
  refine tk_iload_n X d_TC_checkThere_0 rfl rfl ?_
  refine tk_if_lt (tgt := 9) X d_TC_checkThere_1 (by decide) (fun h => absurd h (nI_pos (by omega))) (fun _ => ?_)
  refine tk_iload_n X d_TC_checkThere_4 rfl rfl ?_
  refine tk_iload_n X d_TC_checkThere_5 rfl rfl ?_
  refine tk_icmp_lt (tgt := 19) X d_TC_checkThere_6 (by decide) (fun _ => ?_) (fun h => absurd (nI_lt hi hN) h)
  exact tk_vret X hlk hr d_TC_checkThere_19 rfl (fun _ h => h) (Or.inr rfl) (fun _ _ => rfl)

set_option maxRecDepth 100000 in
set_option maxHeartbeats 4000000 in
theorem c_TC_code (l : Launch) (P : ks_P) (hP : ks_ok P) (c : Nat) (hc : c < ks_n P) (i : Nat) (hi : i < 16) (v : Int32) (a b : ks_M) (o : ks_O) : kc l P y_TC_code b_TC_code 4 none 7 [.ref (tk_ad (ks_G P) (0, 0, 0)), .int (nI c), .int (nI i), .int v] a b o (none) (ks_up a (8, c, 0) i v) b o := by
  have hn64 := ks_n64 hP
  have hT64 := ks_T64 hP
  refine tk_of hP.2.2.2.2.2 (by decide) rfl (Nat.le_of_ble_eq_true rfl) ?_
  intro p e s m below meth c0 X hlk hr hnm
  refine tk_iload_n X d_TC_code_0 rfl rfl ?_
  refine tk_aload_n X d_TC_code_1 rfl rfl ?_
  refine tk_get X (k := (0, 0, 0)) (dm := ks_dm P) (ks_d0 (by decide)) rfl hc_TC hi_TC 1 (by decide) m_TC_22 (v := .ref (tk_ad (ks_G P) (3, 0, 0))) rfl d_TC_code_2 ?_
  refine tk_alen X (k := (3, 0, 0)) (dm := ks_dm P) (ks_d0 (by decide)) rfl rfl (v := nI _) rfl d_TC_code_5 ?_
  refine tk_callS X (c_TC_checkThere l P hP c (ks_n P) hc (by omega) a b o) (ks_site (n := 2) mc_TC_checkThere mi_TC (by decide +kernel) (by decide) (by decide)) m_TC_37 ms_TC_checkThere rfl (Nat.le_of_ble_eq_true rfl) ⟨Nat.le_of_ble_eq_true rfl, Nat.le_of_ble_eq_true rfl⟩ rfl d_TC_code_6 ?_
  refine tk_iload_n X d_TC_code_9 rfl rfl ?_
  refine tk_bipush (v := 16) X d_TC_code_10 (by decide) ?_
  refine tk_callS X (c_TC_checkThere l P hP i 16 hi (by decide) a b o) (ks_site (n := 2) mc_TC_checkThere mi_TC (by decide +kernel) (by decide) (by decide)) m_TC_37 ms_TC_checkThere rfl (Nat.le_of_ble_eq_true rfl) ⟨Nat.le_of_ble_eq_true rfl, Nat.le_of_ble_eq_true rfl⟩ rfl d_TC_code_12 ?_
  refine tk_aload_n X d_TC_code_15 rfl rfl ?_
  refine tk_get X (k := (0, 0, 0)) (dm := ks_dm P) (ks_d0 (by decide)) rfl hc_TC hi_TC 1 (by decide) m_TC_22 (v := .ref (tk_ad (ks_G P) (3, 0, 0))) rfl d_TC_code_16 ?_
  refine tk_iload_n X d_TC_code_19 rfl rfl ?_
  refine kw_core X (i := c) rfl hc hn64 d_TC_code_20 ?_
  refine tk_getN X (k := (4, c, 0)) (dm := ks_dm P) (ks_d4 hc) rfl hc_Core hi_Core 2 (by decide) n_TC_40 (v := .ref (tk_ad (ks_G P) (8, c, 0))) rfl d_TC_code_21 ?_
  refine tk_iload_n X d_TC_code_24 rfl rfl ?_
  refine tk_iload_n X d_TC_code_25 rfl rfl ?_
  refine kw_iast X (k := (8, c, 0)) (ks_d8 hc) rfl (by decide) rfl hi rfl d_TC_code_26 ?_
  exact tk_vret X hlk hr d_TC_code_27 rfl (fun _ h => h) (Or.inr rfl) (fun _ _ => rfl)

set_option maxRecDepth 100000 in
set_option maxHeartbeats 4000000 in
theorem c_TC_step (l : Launch) (P : ks_P) (hP : ks_ok P) (c : Nat) (hc : c < ks_n P) (a b : ks_M) (o : ks_O) (hp : q_pc (a (4, c, 0) 6)) : kc l P y_TC_step b_TC_step 2 (some .int) 7 [.ref (tk_ad (ks_G P) (0, 0, 0)), .int (nI c)] a b o (some (.int (k_step (ks_n P) (ks_S P) (ks_W P) a c).1)) (k_step (ks_n P) (ks_S P) (ks_W P) a c).2 b o := by
  have hn64 := ks_n64 hP
  have hT64 := ks_T64 hP
  refine tk_of hP.2.2.2.2.2 (by decide) rfl (Nat.le_of_ble_eq_true rfl) ?_
  intro p e s m below meth c0 X hlk hr hnm
  refine tk_iload_n X d_TC_step_0 rfl rfl ?_
  refine tk_aload_n X d_TC_step_1 rfl rfl ?_
  refine tk_get X (k := (0, 0, 0)) (dm := ks_dm P) (ks_d0 (by decide)) rfl hc_TC hi_TC 1 (by decide) m_TC_22 (v := .ref (tk_ad (ks_G P) (3, 0, 0))) rfl d_TC_step_2 ?_
  refine tk_alen X (k := (3, 0, 0)) (dm := ks_dm P) (ks_d0 (by decide)) rfl rfl (v := nI _) rfl d_TC_step_5 ?_
  refine tk_callS X (c_TC_checkThere l P hP c (ks_n P) hc (by omega) a b o) (ks_site (n := 2) mc_TC_checkThere mi_TC (by decide +kernel) (by decide) (by decide)) m_TC_37 ms_TC_checkThere rfl (Nat.le_of_ble_eq_true rfl) ⟨Nat.le_of_ble_eq_true rfl, Nat.le_of_ble_eq_true rfl⟩ rfl d_TC_step_6 ?_
  refine tk_aload_n X d_TC_step_9 rfl rfl ?_
  refine tk_aload_n X d_TC_step_10 rfl rfl ?_
  refine tk_get X (k := (0, 0, 0)) (dm := ks_dm P) (ks_d0 (by decide)) rfl hc_TC hi_TC 1 (by decide) m_TC_22 (v := .ref (tk_ad (ks_G P) (3, 0, 0))) rfl d_TC_step_11 ?_
  refine tk_iload_n X d_TC_step_14 rfl rfl ?_
  refine kw_core X (i := c) rfl hc hn64 d_TC_step_15 ?_
  refine tk_callV X (kb := (0, 0, 0)) (ks_d0 (by decide)) rfl hc_TC (c_TC_takeStep l P hP c hc a b o hp) (ks_site (n := 1) mc_TC_takeStep mi_TC (by decide +kernel) (by decide) (by decide)) m_TC_75 ms_TC_takeStep mv_TC_takeStep rfl (Nat.le_of_ble_eq_true rfl) ⟨Nat.le_of_ble_eq_true rfl, Nat.le_of_ble_eq_true rfl⟩ rfl d_TC_step_16 ?_
  exact tk_iret X hlk hr d_TC_step_19 (rfl) (fun _ h => h) (Or.inr rfl) (fun _ _ => rfl)

set_option maxRecDepth 100000 in
set_option maxHeartbeats 4000000 in
theorem c_TC_jump (l : Launch) (P : ks_P) (hP : ks_ok P) (c : Nat) (hc : c < ks_n P) (x : Int32) (a b : ks_M) (o : ks_O) (hd : a (4, c, 0) 8 ≤ 0) : kc l P y_TC_jump b_TC_jump 3 none 7 [.ref (tk_ad (ks_G P) (0, 0, 0)), .int (nI c), .int x] a b o (none) (k_jumpto a c x) b o := by
  have hn64 := ks_n64 hP
  have hT64 := ks_T64 hP
  refine tk_of hP.2.2.2.2.2 (by decide) rfl (Nat.le_of_ble_eq_true rfl) ?_
  intro p e s m below meth c0 X hlk hr hnm
  refine tk_iload_n X d_TC_jump_0 rfl rfl ?_
  refine tk_aload_n X d_TC_jump_1 rfl rfl ?_
  refine tk_get X (k := (0, 0, 0)) (dm := ks_dm P) (ks_d0 (by decide)) rfl hc_TC hi_TC 1 (by decide) m_TC_22 (v := .ref (tk_ad (ks_G P) (3, 0, 0))) rfl d_TC_jump_2 ?_
  refine tk_alen X (k := (3, 0, 0)) (dm := ks_dm P) (ks_d0 (by decide)) rfl rfl (v := nI _) rfl d_TC_jump_5 ?_
  refine tk_callS X (c_TC_checkThere l P hP c (ks_n P) hc (by omega) a b o) (ks_site (n := 2) mc_TC_checkThere mi_TC (by decide +kernel) (by decide) (by decide)) m_TC_37 ms_TC_checkThere rfl (Nat.le_of_ble_eq_true rfl) ⟨Nat.le_of_ble_eq_true rfl, Nat.le_of_ble_eq_true rfl⟩ rfl d_TC_jump_6 ?_
  refine tk_aload_n X d_TC_jump_9 rfl rfl ?_
  refine tk_get X (k := (0, 0, 0)) (dm := ks_dm P) (ks_d0 (by decide)) rfl hc_TC hi_TC 1 (by decide) m_TC_22 (v := .ref (tk_ad (ks_G P) (3, 0, 0))) rfl d_TC_jump_10 ?_
  refine tk_iload_n X d_TC_jump_13 rfl rfl ?_
  refine kw_core X (i := c) rfl hc hn64 d_TC_jump_14 ?_
  refine tk_getN X (k := (4, c, 0)) (dm := ks_dm P) (ks_d4 hc) rfl hc_Core hi_Core 8 (by decide) n_TC_86 (v := .int _) rfl d_TC_jump_15 ?_
  refine tk_if_le (tgt := 31) X d_TC_jump_18 (by decide) (fun _ => ?_) (fun h => absurd hd h)
  refine tk_aload_n X d_TC_jump_31 rfl rfl ?_
  refine tk_get X (k := (0, 0, 0)) (dm := ks_dm P) (ks_d0 (by decide)) rfl hc_TC hi_TC 1 (by decide) m_TC_22 (v := .ref (tk_ad (ks_G P) (3, 0, 0))) rfl d_TC_jump_32 ?_
  refine tk_iload_n X d_TC_jump_35 rfl rfl ?_
  refine kw_core X (i := c) rfl hc hn64 d_TC_jump_36 ?_
  refine tk_iload_n X d_TC_jump_37 rfl rfl ?_
  refine tk_callS X (c_TC_place l P hP x a b o) (ks_site (n := 1) mc_TC_place mi_TC (by decide +kernel) (by decide) (by decide)) m_TC_94 ms_TC_place rfl (Nat.le_of_ble_eq_true rfl) ⟨Nat.le_of_ble_eq_true rfl, Nat.le_of_ble_eq_true rfl⟩ rfl d_TC_jump_38 ?_
  refine kw_putN X (k := (4, c, 0)) (ks_d4 hc) rfl hc_Core hi_Core t_Core t_Core_ok n_Core 6 (by decide) rfl n_TC_97 rfl rfl rfl d_TC_jump_41 ?_
  refine tk_aload_n X d_TC_jump_44 rfl rfl ?_
  refine tk_get X (k := (0, 0, 0)) (dm := ks_dm P) (ks_d0 (by decide)) rfl hc_TC hi_TC 1 (by decide) m_TC_22 (v := .ref (tk_ad (ks_G P) (3, 0, 0))) rfl d_TC_jump_45 ?_
  refine tk_iload_n X d_TC_jump_48 rfl rfl ?_
  refine kw_core X (i := c) rfl hc hn64 d_TC_jump_49 ?_
  refine tk_iconst (v := 0) X d_TC_jump_50 (by decide) ?_
  refine kw_putN X (k := (4, c, 0)) (ks_d4 hc) rfl hc_Core hi_Core t_Core t_Core_ok n_Core 9 (by decide) rfl n_TC_100 rfl (by decide) (by decide) d_TC_jump_51 ?_
  exact tk_vret X hlk hr d_TC_jump_54 rfl (fun _ h => h) (Or.inr rfl) (fun _ _ => rfl)

set_option maxRecDepth 100000 in
set_option maxHeartbeats 4000000 in
theorem c_TC_fate (l : Launch) (P : ks_P) (hP : ks_ok P) (c : Nat) (hc : c < ks_n P) (i : Nat) (hi : i < 6) (a b : ks_M) (o : ks_O) : kc l P y_TC_fate b_TC_fate 3 (some .int) 7 [.ref (tk_ad (ks_G P) (0, 0, 0)), .int (nI c), .int (nI i)] a b o (some (.int (a (11, c, 0) i))) a b o := by
  have hn64 := ks_n64 hP
  have hT64 := ks_T64 hP
  refine tk_of hP.2.2.2.2.2 (by decide) rfl (Nat.le_of_ble_eq_true rfl) ?_
  intro p e s m below meth c0 X hlk hr hnm
  refine tk_iload_n X d_TC_fate_0 rfl rfl ?_
  refine tk_aload_n X d_TC_fate_1 rfl rfl ?_
  refine tk_get X (k := (0, 0, 0)) (dm := ks_dm P) (ks_d0 (by decide)) rfl hc_TC hi_TC 1 (by decide) m_TC_22 (v := .ref (tk_ad (ks_G P) (3, 0, 0))) rfl d_TC_fate_2 ?_
  refine tk_alen X (k := (3, 0, 0)) (dm := ks_dm P) (ks_d0 (by decide)) rfl rfl (v := nI _) rfl d_TC_fate_5 ?_
  refine tk_callS X (c_TC_checkThere l P hP c (ks_n P) hc (by omega) a b o) (ks_site (n := 2) mc_TC_checkThere mi_TC (by decide +kernel) (by decide) (by decide)) m_TC_37 ms_TC_checkThere rfl (Nat.le_of_ble_eq_true rfl) ⟨Nat.le_of_ble_eq_true rfl, Nat.le_of_ble_eq_true rfl⟩ rfl d_TC_fate_6 ?_
  refine tk_iload_n X d_TC_fate_9 rfl rfl ?_
  refine tk_bipush (v := 6) X d_TC_fate_10 (by decide) ?_
  refine tk_callS X (c_TC_checkThere l P hP i 6 hi (by decide) a b o) (ks_site (n := 2) mc_TC_checkThere mi_TC (by decide +kernel) (by decide) (by decide)) m_TC_37 ms_TC_checkThere rfl (Nat.le_of_ble_eq_true rfl) ⟨Nat.le_of_ble_eq_true rfl, Nat.le_of_ble_eq_true rfl⟩ rfl d_TC_fate_12 ?_
  refine tk_aload_n X d_TC_fate_15 rfl rfl ?_
  refine tk_get X (k := (0, 0, 0)) (dm := ks_dm P) (ks_d0 (by decide)) rfl hc_TC hi_TC 1 (by decide) m_TC_22 (v := .ref (tk_ad (ks_G P) (3, 0, 0))) rfl d_TC_fate_16 ?_
  refine tk_iload_n X d_TC_fate_19 rfl rfl ?_
  refine kw_core X (i := c) rfl hc hn64 d_TC_fate_20 ?_
  refine tk_getN X (k := (4, c, 0)) (dm := ks_dm P) (ks_d4 hc) rfl hc_Core hi_Core 5 (by decide) n_TC_107 (v := .ref (tk_ad (ks_G P) (11, c, 0))) rfl d_TC_fate_21 ?_
  refine tk_iload_n X d_TC_fate_24 rfl rfl ?_
  refine kw_iald X (k := (11, c, 0)) (ks_d11 hc) rfl (by decide) rfl hi (v := _) rfl d_TC_fate_25 ?_
  exact tk_iret X hlk hr d_TC_fate_26 (rfl) (fun _ h => h) (Or.inr rfl) (fun _ _ => rfl)

set_option maxRecDepth 100000 in
set_option maxHeartbeats 4000000 in
theorem c_TC_register (l : Launch) (P : ks_P) (hP : ks_ok P) (c : Nat) (hc : c < ks_n P) (r : Nat) (hr0 : r < 11) (a b : ks_M) (o : ks_O) : kc l P y_TC_register b_TC_register 4 (some .int) 7 [.ref (tk_ad (ks_G P) (0, 0, 0)), .int (nI c), .int (nI r)] a b o (some (.int (k_regq a c r))) a b o := by
  have hn64 := ks_n64 hP
  have hT64 := ks_T64 hP
  refine tk_of hP.2.2.2.2.2 (by decide) rfl (Nat.le_of_ble_eq_true rfl) ?_
  intro p e s m below meth c0 X hlk hr hnm
  refine tk_iload_n X d_TC_register_0 rfl rfl ?_
  refine tk_aload_n X d_TC_register_1 rfl rfl ?_
  refine tk_get X (k := (0, 0, 0)) (dm := ks_dm P) (ks_d0 (by decide)) rfl hc_TC hi_TC 1 (by decide) m_TC_22 (v := .ref (tk_ad (ks_G P) (3, 0, 0))) rfl d_TC_register_2 ?_
  refine tk_alen X (k := (3, 0, 0)) (dm := ks_dm P) (ks_d0 (by decide)) rfl rfl (v := nI _) rfl d_TC_register_5 ?_
  refine tk_callS X (c_TC_checkThere l P hP c (ks_n P) hc (by omega) a b o) (ks_site (n := 2) mc_TC_checkThere mi_TC (by decide +kernel) (by decide) (by decide)) m_TC_37 ms_TC_checkThere rfl (Nat.le_of_ble_eq_true rfl) ⟨Nat.le_of_ble_eq_true rfl, Nat.le_of_ble_eq_true rfl⟩ rfl d_TC_register_6 ?_
  refine tk_iload_n X d_TC_register_9 rfl rfl ?_
  refine tk_bipush (v := 11) X d_TC_register_10 (by decide) ?_
  refine tk_callS X (c_TC_checkThere l P hP r 11 hr0 (by decide) a b o) (ks_site (n := 2) mc_TC_checkThere mi_TC (by decide +kernel) (by decide) (by decide)) m_TC_37 ms_TC_checkThere rfl (Nat.le_of_ble_eq_true rfl) ⟨Nat.le_of_ble_eq_true rfl, Nat.le_of_ble_eq_true rfl⟩ rfl d_TC_register_12 ?_
  refine tk_aload_n X d_TC_register_15 rfl rfl ?_
  refine tk_get X (k := (0, 0, 0)) (dm := ks_dm P) (ks_d0 (by decide)) rfl hc_TC hi_TC 1 (by decide) m_TC_22 (v := .ref (tk_ad (ks_G P) (3, 0, 0))) rfl d_TC_register_16 ?_
  refine tk_iload_n X d_TC_register_19 rfl rfl ?_
  refine kw_core X (i := c) rfl hc hn64 d_TC_register_20 ?_
  refine tk_astore_n X d_TC_register_21 rfl (by decide) rfl ?_
  refine tk_iload_n X d_TC_register_22 rfl rfl ?_
  by_cases h1 : nI r = 8
  · skip
    refine tk_tableAt (K := 8) (tgt := 48) X h1 d_TC_register_23 (by decide) (by decide) rfl (by decide) ?_
    refine tk_aload_n X d_TC_register_48 rfl rfl ?_
    refine tk_getN X (k := (4, c, 0)) (dm := ks_dm P) (ks_d4 hc) rfl hc_Core hi_Core 6 (by decide) n_TC_97 (v := .int _) rfl d_TC_register_49 ?_
    have e1 : k_regq a c r = _ := (if_pos h1)
    exact tk_iret X hlk hr d_TC_register_52 (by rw [e1]) (fun _ h => h) (Or.inr rfl) (fun _ _ => rfl)
  by_cases h2 : nI r = 9
  · skip
    refine tk_tableAt (K := 9) (tgt := 53) X h2 d_TC_register_23 (by decide) (by decide) rfl (by decide) ?_
    refine tk_aload_n X d_TC_register_53 rfl rfl ?_
    refine tk_getN X (k := (4, c, 0)) (dm := ks_dm P) (ks_d4 hc) rfl hc_Core hi_Core 8 (by decide) n_TC_86 (v := .int _) rfl d_TC_register_54 ?_
    have e1 : k_regq a c r = _ := ((if_neg (fun z => absurd (h2.symm.trans z) (by decide))).trans (if_pos h2))
    exact tk_iret X hlk hr d_TC_register_57 (by rw [e1]) (fun _ h => h) (Or.inr rfl) (fun _ _ => rfl)
  by_cases h3 : nI r = 10
  · skip
    refine tk_tableAt (K := 10) (tgt := 58) X h3 d_TC_register_23 (by decide) (by decide) rfl (by decide) ?_
    refine tk_aload_n X d_TC_register_58 rfl rfl ?_
    refine tk_getN X (k := (4, c, 0)) (dm := ks_dm P) (ks_d4 hc) rfl hc_Core hi_Core 9 (by decide) n_TC_100 (v := .int _) rfl d_TC_register_59 ?_
    refine tk_if_eq (tgt := 69) X d_TC_register_62 (by decide) (fun h4 => ?_) (fun h4 => ?_)
    · skip
      refine tk_iconst (v := 0) X d_TC_register_69 (by decide) ?_
      have e1 : k_regq a c r = _ := ((((if_neg (fun z => absurd (h3.symm.trans z) (by decide))).trans (if_neg (fun z => absurd (h3.symm.trans z) (by decide)))).trans (if_pos h3)).trans (if_pos h4))
      exact tk_iret X hlk hr d_TC_register_70 (by rw [e1]) (fun _ h => h) (Or.inr rfl) (fun _ _ => rfl)
    · skip
      refine tk_iconst (v := 1) X d_TC_register_65 (by decide) ?_
      refine tk_goto (tgt := 70) X d_TC_register_66 (by decide) ?_
      have e1 : k_regq a c r = _ := ((((if_neg (fun z => absurd (h3.symm.trans z) (by decide))).trans (if_neg (fun z => absurd (h3.symm.trans z) (by decide)))).trans (if_pos h3)).trans (if_neg h4))
      exact tk_iret X hlk hr d_TC_register_70 (by rw [e1]) (fun _ h => h) (Or.inr rfl) (fun _ _ => rfl)
  refine tk_tableOut (tgt := 71) X d_TC_register_23 (by have := lv_neT (a := 8) h1 (by decide); have := lv_neT (a := 9) h2 (by decide); have := lv_neT (a := 10) h3 (by decide); omega) (by decide) ?_
  refine tk_aload_n X d_TC_register_71 rfl rfl ?_
  refine tk_getN X (k := (4, c, 0)) (dm := ks_dm P) (ks_d4 hc) rfl hc_Core hi_Core 3 (by decide) n_TC_104 (v := .ref (tk_ad (ks_G P) (9, c, 0))) rfl d_TC_register_72 ?_
  refine tk_iload_n X d_TC_register_75 rfl rfl ?_
  refine kw_iald X (k := (9, c, 0)) (ks_d9 hc) rfl (by decide) rfl (by have q8 : r ≠ 8 := fun e => h1 (by rw [e]; rfl); have q9 : r ≠ 9 := fun e => h2 (by rw [e]; rfl); have q10 : r ≠ 10 := fun e => h3 (by rw [e]; rfl); omega) (v := _) rfl d_TC_register_76 ?_
  have e1 : k_regq a c r = _ := (((if_neg h1).trans (if_neg h2)).trans (if_neg h3))
  exact tk_iret X hlk hr d_TC_register_77 (by rw [e1]) (fun _ h => h) (Or.inr rfl) (fun _ _ => rfl)

set_option maxRecDepth 100000 in
set_option maxHeartbeats 4000000 in
theorem c_TC_way (l : Launch) (P : ks_P) (hP : ks_ok P) (c : Nat) (hc : c < ks_n P) (t u v : Nat) (ht : t < ks_S P) (hu : u < ks_W P) (hv : v < 5) (hj : t * ks_W P + u < ks_T P) (a b : ks_M) (o : ks_O) : kc l P y_TC_way b_TC_way 7 (some .int) 7 [.ref (tk_ad (ks_G P) (0, 0, 0)), .int (nI c), .int (nI t), .int (nI u), .int (nI v)] a b o (some (.int (k_wayq a c (t * ks_W P + u) (nI v)))) a b o := by
  have hn64 := ks_n64 hP
  have hT64 := ks_T64 hP
  refine tk_of hP.2.2.2.2.2 (by decide) rfl (Nat.le_of_ble_eq_true rfl) ?_
  intro p e s m below meth c0 X hlk hr hnm
  refine tk_iload_n X d_TC_way_0 rfl rfl ?_
  refine tk_aload_n X d_TC_way_1 rfl rfl ?_
  refine tk_get X (k := (0, 0, 0)) (dm := ks_dm P) (ks_d0 (by decide)) rfl hc_TC hi_TC 1 (by decide) m_TC_22 (v := .ref (tk_ad (ks_G P) (3, 0, 0))) rfl d_TC_way_2 ?_
  refine tk_alen X (k := (3, 0, 0)) (dm := ks_dm P) (ks_d0 (by decide)) rfl rfl (v := nI _) rfl d_TC_way_5 ?_
  refine tk_callS X (c_TC_checkThere l P hP c (ks_n P) hc (by omega) a b o) (ks_site (n := 2) mc_TC_checkThere mi_TC (by decide +kernel) (by decide) (by decide)) m_TC_37 ms_TC_checkThere rfl (Nat.le_of_ble_eq_true rfl) ⟨Nat.le_of_ble_eq_true rfl, Nat.le_of_ble_eq_true rfl⟩ rfl d_TC_way_6 ?_
  refine tk_aload_n X d_TC_way_9 rfl rfl ?_
  refine tk_get X (k := (0, 0, 0)) (dm := ks_dm P) (ks_d0 (by decide)) rfl hc_TC hi_TC 1 (by decide) m_TC_22 (v := .ref (tk_ad (ks_G P) (3, 0, 0))) rfl d_TC_way_10 ?_
  refine tk_iload_n X d_TC_way_13 rfl rfl ?_
  refine kw_core X (i := c) rfl hc hn64 d_TC_way_14 ?_
  refine tk_getN X (k := (4, c, 0)) (dm := ks_dm P) (ks_d4 hc) rfl hc_Core hi_Core 1 (by decide) n_TC_54 (v := .ref (tk_ad (ks_G P) (5, c, 0))) rfl d_TC_way_15 ?_
  refine tk_astore X d_TC_way_18 (by decide) rfl ?_
  refine tk_iload_n X d_TC_way_20 rfl rfl ?_
  refine tk_aload X d_TC_way_21 rfl ?_
  refine tk_getN X (k := (5, c, 0)) (dm := ks_dm P) (ks_d5 hc) rfl hc_Cache hi_Cache 0 (by decide) n_TC_110 (v := .int _) rfl d_TC_way_23 ?_
  refine tk_callS X (c_TC_checkThere l P hP t (ks_S P) ht (by rcases hP.2.2.1 with h | h | h <;> omega) a b o) (ks_site (n := 2) mc_TC_checkThere mi_TC (by decide +kernel) (by decide) (by decide)) m_TC_37 ms_TC_checkThere rfl (Nat.le_of_ble_eq_true rfl) ⟨Nat.le_of_ble_eq_true rfl, Nat.le_of_ble_eq_true rfl⟩ rfl d_TC_way_26 ?_
  refine tk_iload_n X d_TC_way_29 rfl rfl ?_
  refine tk_aload X d_TC_way_30 rfl ?_
  refine tk_getN X (k := (5, c, 0)) (dm := ks_dm P) (ks_d5 hc) rfl hc_Cache hi_Cache 1 (by decide) n_TC_113 (v := .int _) rfl d_TC_way_32 ?_
  refine tk_callS X (c_TC_checkThere l P hP u (ks_W P) hu (by have := hP.2.2.2.2.1; omega) a b o) (ks_site (n := 2) mc_TC_checkThere mi_TC (by decide +kernel) (by decide) (by decide)) m_TC_37 ms_TC_checkThere rfl (Nat.le_of_ble_eq_true rfl) ⟨Nat.le_of_ble_eq_true rfl, Nat.le_of_ble_eq_true rfl⟩ rfl d_TC_way_35 ?_
  refine tk_iload X d_TC_way_38 rfl ?_
  refine tk_iconst (v := 5) X d_TC_way_40 (by decide) ?_
  refine tk_callS X (c_TC_checkThere l P hP v 5 hv (by decide) a b o) (ks_site (n := 2) mc_TC_checkThere mi_TC (by decide +kernel) (by decide) (by decide)) m_TC_37 ms_TC_checkThere rfl (Nat.le_of_ble_eq_true rfl) ⟨Nat.le_of_ble_eq_true rfl, Nat.le_of_ble_eq_true rfl⟩ rfl d_TC_way_41 ?_
  refine tk_aload X d_TC_way_44 rfl ?_
  refine tk_getN X (k := (5, c, 0)) (dm := ks_dm P) (ks_d5 hc) rfl hc_Cache hi_Cache 2 (by decide) n_TC_116 (v := .ref (tk_ad (ks_G P) (6, c, 0))) rfl d_TC_way_46 ?_
  refine tk_iload_n X d_TC_way_49 rfl rfl ?_
  refine tk_aload X d_TC_way_50 rfl ?_
  refine tk_getN X (k := (5, c, 0)) (dm := ks_dm P) (ks_d5 hc) rfl hc_Cache hi_Cache 1 (by decide) n_TC_113 (v := .int _) rfl d_TC_way_52 ?_
  refine tk_imul X d_TC_way_55 ?_
  refine tk_iload_n X d_TC_way_56 rfl rfl ?_
  refine tk_iadd X d_TC_way_57 ?_
  refine kw_way X hc (i := (t * ks_W P + u)) (by rw [pk_mul, nI_add]) hj hT64 d_TC_way_58 ?_
  refine tk_astore X d_TC_way_59 (by decide) rfl ?_
  refine tk_iload X d_TC_way_61 rfl ?_
  refine tk_if_ne (tgt := 72) X d_TC_way_63 (by decide) (fun h1 => ?_) (fun h1 => ?_)
  · skip
    refine tk_aload X d_TC_way_72 rfl ?_
    refine tk_getN X (k := (7, c, (t * ks_W P + u))) (dm := ks_dm P) (ks_d7 hc hj) rfl hc_Way hi_Way 0 (by decide) n_TC_62 (v := .int _) rfl d_TC_way_74 ?_
    refine tk_if_ne (tgt := 84) X d_TC_way_77 (by decide) (fun h2 => ?_) (fun h2 => ?_)
    · skip
      refine tk_aload X d_TC_way_84 rfl ?_
      refine tk_iload X d_TC_way_86 rfl ?_
      refine tk_callV X (kb := (7, c, (t * ks_W P + u))) (ks_d7 hc hj) rfl hc_Way (c_Way_tell l P hP c (t * ks_W P + u) hc hj (nI v) a b o) (ks_site (n := 1) mc_Way_tell mi_Way (by decide +kernel) (by decide) (by decide)) m_TC_120 ms_Way_tell mv_Way_tell rfl (Nat.le_of_ble_eq_true rfl) ⟨Nat.le_of_ble_eq_true rfl, Nat.le_of_ble_eq_true rfl⟩ rfl d_TC_way_88 ?_
      have e1 : k_wayq a c (t * ks_W P + u) (nI v) = _ := ((if_neg h1).trans (if_neg h2))
      exact tk_iret X hlk hr d_TC_way_91 (by rw [e1]) (fun _ h => h) (Or.inr rfl) (fun _ _ => rfl)
    · skip
      refine tk_iconst (v := -1) X d_TC_way_80 (by decide) ?_
      refine tk_goto (tgt := 91) X d_TC_way_81 (by decide) ?_
      have e1 : k_wayq a c (t * ks_W P + u) (nI v) = _ := ((if_neg h1).trans (if_pos h2))
      exact tk_iret X hlk hr d_TC_way_91 (by rw [e1]) (fun _ h => h) (Or.inr rfl) (fun _ _ => rfl)
  · skip
    refine tk_aload X d_TC_way_66 rfl ?_
    refine tk_getN X (k := (7, c, (t * ks_W P + u))) (dm := ks_dm P) (ks_d7 hc hj) rfl hc_Way hi_Way 0 (by decide) n_TC_62 (v := .int _) rfl d_TC_way_68 ?_
    have e1 : k_wayq a c (t * ks_W P + u) (nI v) = _ := (if_pos h1)
    exact tk_iret X hlk hr d_TC_way_71 (by rw [e1]) (fun _ h => h) (Or.inr rfl) (fun _ _ => rfl)

section LP
variable {p : Program} {l : Launch} {e : Env} {R : Room} {s : State} {m : MethodId} {args : Array Value} {below : List Frame} {meth : Method} {c0 : Code} {P : ks_P} {cells slots : Nat} {Q : State → Prop}
set_option maxRecDepth 100000 in
set_option maxHeartbeats 4000000 in
theorem lp_TC_peek (X : tk_X p m c0 s args (ks_G P) R_TC b_TC_peek 5 WS) (hP : ks_ok P) {y : Nat} (hy : y < 32) (x : Int32) (a b : ks_M) (o : ks_O) (k1 : ∀ (i j : Nat) (hi : i < ks_n P) (hj : j < ks_T P), k_pk (ks_S P) (ks_W P) a y x (ks_n P) 0 = k_wget a i j x → tk_go p l e (ks_rm 2) s m args below meth c0 (ks_G P) (ks_dm P) 5 0 0 Q (ks_sl P a b o) 55 [some (.ref (tk_ad (ks_G P) (0, 0, 0))), some (.int x), some (.int (nI y)), some (.int (nI i)), some (.ref (tk_ad (ks_G P) (7, i, j)))] []) (k0 : ∀ t4, k_pk (ks_S P) (ks_W P) a y x (ks_n P) 0 = k_get a x → tk_go p l e (ks_rm 2) s m args below meth c0 (ks_G P) (ks_dm P) 5 0 0 Q (ks_sl P a b o) 68 [some (.ref (tk_ad (ks_G P) (0, 0, 0))), some (.int x), some (.int (nI y)), some (.int (nI (ks_n P))), t4] []) : ∀ (k i : Nat) (t4 : Option Value), i + k = ks_n P → k_pk (ks_S P) (ks_W P) a y x (ks_n P) 0 = k_pk (ks_S P) (ks_W P) a y x k i → tk_go p l e (ks_rm 2) s m args below meth c0 (ks_G P) (ks_dm P) 5 0 0 Q (ks_sl P a b o) 7 [some (.ref (tk_ad (ks_G P) (0, 0, 0))), some (.int x), some (.int (nI y)), some (.int (nI i)), t4] [] := by
  have hn64 := ks_n64 hP
  have hT64 := ks_T64 hP
  intro k
  induction k with
  | zero =>
    intro i t4 hi hk
    have hiT : i = ks_n P := by omega
    subst hiT
    refine tk_iload_n X d_TC_peek_7 rfl rfl ?_
    refine tk_aload_n X d_TC_peek_8 rfl rfl ?_
    refine tk_get X (k := (0, 0, 0)) (dm := ks_dm P) (ks_d0 (by decide)) rfl hc_TC hi_TC 1 (by decide) m_TC_22 (v := .ref (tk_ad (ks_G P) (3, 0, 0))) rfl d_TC_peek_9 ?_
    refine tk_alen X (k := (3, 0, 0)) (dm := ks_dm P) (ks_d0 (by decide)) rfl rfl (v := nI _) rfl d_TC_peek_12 ?_
    refine tk_icmp_ge (tgt := 68) X d_TC_peek_13 (by decide) (fun _ => ?_) (fun h => absurd (nI_le (Nat.le_refl _) (by omega)) h)
    exact k0 t4 hk
  | succ k ih =>
    intro i t4 hi hk
    have hi2 : i < ks_n P := by omega
    refine tk_iload_n X d_TC_peek_7 rfl rfl ?_
    refine tk_aload_n X d_TC_peek_8 rfl rfl ?_
    refine tk_get X (k := (0, 0, 0)) (dm := ks_dm P) (ks_d0 (by decide)) rfl hc_TC hi_TC 1 (by decide) m_TC_22 (v := .ref (tk_ad (ks_G P) (3, 0, 0))) rfl d_TC_peek_9 ?_
    refine tk_alen X (k := (3, 0, 0)) (dm := ks_dm P) (ks_d0 (by decide)) rfl rfl (v := nI _) rfl d_TC_peek_12 ?_
    refine tk_icmp_ge (tgt := 68) X d_TC_peek_13 (by decide) (fun h => absurd h (nI_ge hi2 (by omega))) (fun _ => ?_)
    refine tk_aload_n X d_TC_peek_16 rfl rfl ?_
    refine tk_get X (k := (0, 0, 0)) (dm := ks_dm P) (ks_d0 (by decide)) rfl hc_TC hi_TC 1 (by decide) m_TC_22 (v := .ref (tk_ad (ks_G P) (3, 0, 0))) rfl d_TC_peek_17 ?_
    refine tk_iload_n X d_TC_peek_20 rfl rfl ?_
    refine kw_core X (i := i) rfl hi2 hn64 d_TC_peek_21 ?_
    refine tk_getN X (k := (4, i, 0)) (dm := ks_dm P) (ks_d4 hi2) rfl hc_Core hi_Core 1 (by decide) n_TC_54 (v := .ref (tk_ad (ks_G P) (5, i, 0))) rfl d_TC_peek_22 ?_
    refine tk_iload_n X d_TC_peek_25 rfl rfl ?_
    refine tk_callV X (kb := (5, i, 0)) (ks_d5 hi2) rfl hc_Cache (c_Cache_find l P hP i y hi2 hy a b o) (ks_site (n := 1) mc_Cache_find mi_Cache (by decide +kernel) (by decide) (by decide)) m_TC_58 ms_Cache_find mv_Cache_find rfl (Nat.le_of_ble_eq_true rfl) ⟨Nat.le_of_ble_eq_true rfl, Nat.le_of_ble_eq_true rfl⟩ rfl d_TC_peek_26 ?_
    cases hf : k_find a i y (ks_W P) (k_first (ks_S P) (ks_W P) y) with
    | none =>
      refine tk_astoreN X d_TC_peek_29 (by decide) rfl ?_
      refine tk_aloadN X d_TC_peek_31 rfl ?_
      refine tk_ifnullN (tgt := 62) X d_TC_peek_33 (by decide) ?_
      refine tk_iinc (v := nI (i + 1)) X d_TC_peek_62 rfl (q_inc i) (by decide) rfl ?_
      refine tk_goto (tgt := 7) X d_TC_peek_65 (by decide) ?_
      exact ih (i + 1) _ (by omega) (hk.trans (by rw [k_pk, hf]))
    | some j =>
      have hj : j < ks_T P := k_find_T hP hf
      refine tk_astore X d_TC_peek_29 (by decide) rfl ?_
      refine tk_aload X d_TC_peek_31 rfl ?_
      refine tk_ifnull X d_TC_peek_33 ?_
      refine tk_aload X d_TC_peek_36 rfl ?_
      refine tk_getN X (k := (7, i, j)) (dm := ks_dm P) (ks_d7 hi2 hj) rfl hc_Way hi_Way 0 (by decide) n_TC_62 (v := .int _) rfl d_TC_peek_38 ?_
      refine tk_iconst (v := 2) X d_TC_peek_41 (by decide) ?_
      refine tk_icmp_ne (tgt := 62) X d_TC_peek_42 (by decide) (fun h1 => ?_) (fun h1 => ?_)
      · skip
        refine tk_iinc (v := nI (i + 1)) X d_TC_peek_62 rfl (q_inc i) (by decide) rfl ?_
        refine tk_goto (tgt := 7) X d_TC_peek_65 (by decide) ?_
        exact ih (i + 1) _ (by omega) (hk.trans (by rw [k_pk, hf]; exact if_neg h1))
      · skip
        refine tk_aload X d_TC_peek_45 rfl ?_
        refine tk_getN X (k := (7, i, j)) (dm := ks_dm P) (ks_d7 hi2 hj) rfl hc_Way hi_Way 2 (by decide) n_TC_68 (v := .int _) rfl d_TC_peek_47 ?_
        refine tk_iconst (v := 2) X d_TC_peek_50 (by decide) ?_
        refine tk_iand X d_TC_peek_51 ?_
        refine tk_if_ne (tgt := 62) X d_TC_peek_52 (by decide) (fun h2 => ?_) (fun h2 => ?_)
        · skip
          refine tk_iinc (v := nI (i + 1)) X d_TC_peek_62 rfl (q_inc i) (by decide) rfl ?_
          refine tk_goto (tgt := 7) X d_TC_peek_65 (by decide) ?_
          exact ih (i + 1) _ (by omega) (hk.trans (by rw [k_pk, hf]; exact (if_pos h1).trans (if_neg h2)))
        · skip
          exact k1 i j hi2 hj (hk.trans (by rw [k_pk, hf]; exact (if_pos h1).trans (if_pos h2)))
end LP

set_option maxRecDepth 100000 in
set_option maxHeartbeats 4000000 in
theorem c_TC_peek (l : Launch) (P : ks_P) (hP : ks_ok P) (x : Int32) (a b : ks_M) (o : ks_O) : kc l P y_TC_peek b_TC_peek 5 (some .int) 2 [.ref (tk_ad (ks_G P) (0, 0, 0)), .int x] a b o (some (.int (k_pk (ks_S P) (ks_W P) a (q_ln x) x (ks_n P) 0))) a b o := by
  have hn64 := ks_n64 hP
  have hT64 := ks_T64 hP
  refine tk_of hP.2.2.2.2.2 (by decide) rfl (Nat.le_of_ble_eq_true rfl) ?_
  intro p e s m below meth c0 X hlk hr hnm
  refine tk_iload_n X d_TC_peek_0 rfl rfl ?_
  refine tk_callS X (c_TC_lineOf2 l P hP x a b o) (ks_site (n := 1) mc_TC_lineOf mi_TC (by decide +kernel) (by decide) (by decide)) m_TC_44 ms_TC_lineOf rfl (Nat.le_of_ble_eq_true rfl) ⟨Nat.le_of_ble_eq_true rfl, Nat.le_of_ble_eq_true rfl⟩ rfl d_TC_peek_1 ?_
  refine tk_istore_n X d_TC_peek_4 rfl (by decide) rfl ?_
  refine tk_iconst (v := 0) X d_TC_peek_5 (by decide) ?_
  refine tk_istore_n X d_TC_peek_6 rfl (by decide) rfl ?_
  refine lp_TC_peek X hP (q_ln_lt x) x a b o (fun i j hi hj h => ?_) (fun t4 h => ?_) (ks_n P) 0 _ (by omega) rfl
  · skip
    refine tk_aload X d_TC_peek_55 rfl ?_
    refine tk_iload_n X d_TC_peek_57 rfl rfl ?_
    refine tk_callV X (kb := (7, i, j)) (ks_d7 hi hj) rfl hc_Way (c_Way_get l P hP i j hi hj x a b o) (ks_site (n := 1) mc_Way_get mi_Way (by decide +kernel) (by decide) (by decide)) m_TC_71 ms_Way_get mv_Way_get rfl (Nat.le_of_ble_eq_true rfl) ⟨Nat.le_of_ble_eq_true rfl, Nat.le_of_ble_eq_true rfl⟩ rfl d_TC_peek_58 ?_
    exact tk_iret X hlk hr d_TC_peek_61 (by rw [h]) (fun _ h => h) (Or.inr rfl) (fun _ _ => rfl)
  · skip
    refine tk_aload_n X d_TC_peek_68 rfl rfl ?_
    refine tk_get X (k := (0, 0, 0)) (dm := ks_dm P) (ks_d0 (by decide)) rfl hc_TC hi_TC 0 (by decide) m_TC_16 (v := .ref (tk_ad (ks_G P) (1, 0, 0))) rfl d_TC_peek_69 ?_
    refine tk_iload_n X d_TC_peek_72 rfl rfl ?_
    refine tk_callV X (kb := (1, 0, 0)) (ks_d0 (by decide)) rfl hc_Store (c_Store_get l P hP x a b o) (ks_site (n := 1) mc_Store_get mi_Store (by decide +kernel) (by decide) (by decide)) m_TC_74 ms_Store_get mv_Store_get rfl (Nat.le_of_ble_eq_true rfl) ⟨Nat.le_of_ble_eq_true rfl, Nat.le_of_ble_eq_true rfl⟩ rfl d_TC_peek_73 ?_
    exact tk_iret X hlk hr d_TC_peek_76 (by rw [h]) (fun _ h => h) (Or.inr rfl) (fun _ _ => rfl)

section LP
variable {p : Program} {l : Launch} {e : Env} {R : Room} {s : State} {m : MethodId} {args : Array Value} {below : List Frame} {meth : Method} {c0 : Code} {P : ks_P} {cells slots : Nat} {Q : State → Prop}
set_option maxRecDepth 100000 in
set_option maxHeartbeats 4000000 in
theorem lp_TC_run (X : tk_X p m c0 s args (ks_G P) R_TC b_TC_run 6 WS) (hP : ks_ok P) {N : Nat} (hN : N ≤ 16) (x : Int32) (J : ks_M → Prop) (hJ1 : ∀ a, J a → k_I (ks_n P) a) (hJ2 : ∀ (a : ks_M) (c : Nat), c < ks_n P → J a → J (k_step (ks_n P) (ks_S P) (ks_W P) a c).2) (b : ks_M) (o : ks_O) {r : Int32 × ks_M} (kend : ∀ t5, tk_go p l e (ks_rm 7) s m args below meth c0 (ks_G P) (ks_dm P) 6 0 0 Q (ks_sl P r.2 b o) 71 [some (.ref (tk_ad (ks_G P) (0, 0, 0))), some (.int x), some (.int (nI N)), some (.int r.1), some (.int (nI N)), t5] []) : ∀ (k i : Nat) (v : Int32) (a : ks_M) (t5 : Option Value), i + k = N → J a → k_run (ks_n P) (ks_S P) (ks_W P) x k i v a = r → tk_go p l e (ks_rm 7) s m args below meth c0 (ks_G P) (ks_dm P) 6 0 0 Q (ks_sl P a b o) 25 [some (.ref (tk_ad (ks_G P) (0, 0, 0))), some (.int x), some (.int (nI N)), some (.int v), some (.int (nI i)), t5] [] := by
  have hn64 := ks_n64 hP
  have hT64 := ks_T64 hP
  intro k
  induction k with
  | zero =>
    intro i v a t5 hi hJ hk
    have hiT : i = N := by omega
    subst hiT
    have hk2 : (v, a) = r := hk
    subst hk2
    refine tk_iload X d_TC_run_25 rfl ?_
    refine tk_iload_n X d_TC_run_27 rfl rfl ?_
    refine tk_icmp_ge (tgt := 71) X d_TC_run_28 (by decide) (fun _ => ?_) (fun h => absurd (nI_le (Nat.le_refl _) (by omega)) h)
    exact kend t5
  | succ k ih =>
    intro i v a t5 hi hJ hk
    have hi2 : i < N := by omega
    have hq := q_core_lt (n := ks_n P) hP.1 x i
    refine tk_iload X d_TC_run_25 rfl ?_
    refine tk_iload_n X d_TC_run_27 rfl rfl ?_
    refine tk_icmp_ge (tgt := 71) X d_TC_run_28 (by decide) (fun h => absurd h (nI_ge hi2 (by omega))) (fun _ => ?_)
    refine tk_iload_n X d_TC_run_31 rfl rfl ?_
    refine tk_iconst (v := 2) X d_TC_run_32 (by decide) ?_
    refine tk_iload X d_TC_run_33 rfl ?_
    refine tk_imul X d_TC_run_35 ?_
    refine tk_iushr X d_TC_run_36 rfl ?_
    refine tk_iconst (v := 3) X d_TC_run_37 (by decide) ?_
    refine tk_iand X d_TC_run_38 ?_
    refine tk_aload_n X d_TC_run_39 rfl rfl ?_
    refine tk_get X (k := (0, 0, 0)) (dm := ks_dm P) (ks_d0 (by decide)) rfl hc_TC hi_TC 1 (by decide) m_TC_22 (v := .ref (tk_ad (ks_G P) (3, 0, 0))) rfl d_TC_run_40 ?_
    refine tk_alen X (k := (3, 0, 0)) (dm := ks_dm P) (ks_d0 (by decide)) rfl rfl (v := nI _) rfl d_TC_run_43 ?_
    refine tk_irem X d_TC_run_44 (nI_ne0 hP.1 (by omega)) ?_
    refine tk_istore X d_TC_run_45 (by decide) rfl ?_
    refine tk_aload_n X d_TC_run_47 rfl rfl ?_
    refine tk_aload_n X d_TC_run_48 rfl rfl ?_
    refine tk_get X (k := (0, 0, 0)) (dm := ks_dm P) (ks_d0 (by decide)) rfl hc_TC hi_TC 1 (by decide) m_TC_22 (v := .ref (tk_ad (ks_G P) (3, 0, 0))) rfl d_TC_run_49 ?_
    refine tk_iload X d_TC_run_52 rfl ?_
    refine kw_core X (i := (q_core (ks_n P) x i)) (q_core_eq hP.1 (by omega) x i) hq hn64 d_TC_run_54 ?_
    refine tk_callV X (kb := (0, 0, 0)) (ks_d0 (by decide)) rfl hc_TC (c_TC_takeStep l P hP (q_core (ks_n P) x i) hq a b o (hJ1 a hJ _ hq).1) (ks_site (n := 1) mc_TC_takeStep mi_TC (by decide +kernel) (by decide) (by decide)) m_TC_75 ms_TC_takeStep mv_TC_takeStep rfl (Nat.le_of_ble_eq_true rfl) ⟨Nat.le_of_ble_eq_true rfl, Nat.le_of_ble_eq_true rfl⟩ rfl d_TC_run_55 ?_
    refine tk_iconst (v := 3) X d_TC_run_58 (by decide) ?_
    refine tk_icmp_ne (tgt := 65) X d_TC_run_59 (by decide) (fun h1 => ?_) (fun h1 => ?_)
    · skip
      refine tk_iinc (v := nI (i + 1)) X d_TC_run_65 rfl (q_inc i) (by decide) rfl ?_
      refine tk_goto (tgt := 25) X d_TC_run_68 (by decide) ?_
      exact ih (i + 1) _ _ _ (by omega) (hJ2 a _ hq hJ) (by rw [k_run, if_neg h1] at hk; exact hk)
    · skip
      refine tk_iinc X d_TC_run_62 rfl rfl (by decide) rfl ?_
      refine tk_iinc (v := nI (i + 1)) X d_TC_run_65 rfl (q_inc i) (by decide) rfl ?_
      refine tk_goto (tgt := 25) X d_TC_run_68 (by decide) ?_
      exact ih (i + 1) _ _ _ (by omega) (hJ2 a _ hq hJ) (by rw [k_run, if_pos h1] at hk; exact hk)
end LP

set_option maxRecDepth 100000 in
set_option maxHeartbeats 4000000 in
theorem c_TC_run_open (l : Launch) (P : ks_P) (hP : ks_ok P) (N : Nat) (hN : N ≤ 16) (x : Int32) (J : ks_M → Prop) (hJ1 : ∀ a, J a → k_I (ks_n P) a) (hJ2 : ∀ (a : ks_M) (c : Nat), c < ks_n P → J a → J (k_step (ks_n P) (ks_S P) (ks_W P) a c).2) (a b : ks_M) (o : ks_O) (hJ : J a) : kc l P y_TC_run b_TC_run 6 (some .int) 7 [.ref (tk_ad (ks_G P) (0, 0, 0)), .int x, .int (nI N)] a b o (some (.int (k_run (ks_n P) (ks_S P) (ks_W P) x N 0 0 a).1)) (k_run (ks_n P) (ks_S P) (ks_W P) x N 0 0 a).2 b o := by
  have hn64 := ks_n64 hP
  have hT64 := ks_T64 hP
  refine tk_of hP.2.2.2.2.2 (by decide) rfl (Nat.le_of_ble_eq_true rfl) ?_
  intro p e s m below meth c0 X hlk hr hnm
  refine tk_iload_n X d_TC_run_0 rfl rfl ?_
  refine tk_if_lt (tgt := 10) X d_TC_run_1 (by decide) (fun h => absurd h (nI_pos (by omega))) (fun _ => ?_)
  refine tk_iload_n X d_TC_run_4 rfl rfl ?_
  refine tk_bipush (v := 16) X d_TC_run_5 (by decide) ?_
  refine tk_icmp_le (tgt := 20) X d_TC_run_7 (by decide) (fun _ => ?_) (fun h => absurd (nI_le hN (by decide)) h)
  refine tk_iconst (v := 0) X d_TC_run_20 (by decide) ?_
  refine tk_istore_n X d_TC_run_21 rfl (by decide) rfl ?_
  refine tk_iconst (v := 0) X d_TC_run_22 (by decide) ?_
  refine tk_istore X d_TC_run_23 (by decide) rfl ?_
  refine lp_TC_run X hP hN x J hJ1 hJ2 b o (r := k_run (ks_n P) (ks_S P) (ks_W P) x N 0 0 a) (fun t5 => ?_) N 0 0 a _ (by omega) hJ rfl
  refine tk_iload_n X d_TC_run_71 rfl rfl ?_
  exact tk_iret X hlk hr d_TC_run_72 rfl (fun _ h => h) (Or.inr rfl) (fun _ _ => rfl)
