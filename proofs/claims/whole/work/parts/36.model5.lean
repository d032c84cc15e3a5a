set_option maxRecDepth 100000 in
set_option maxHeartbeats 4000000 in
theorem c_Model_code (l : Launch) (P : ks_P) (hP : ks_ok P) (c : Nat) (hc : c < ks_n P) (i : Nat) (hi : i < 16) (v : Int32) (a b : ks_M) (o : ks_O)  : kc l P y_Model_code b_Model_code 4 none 1 [.ref (tk_ad (ks_G P) (12, 0, 0)), .int (nI c), .int (nI i), .int v] a b o (none) a (ks_up b (8, c, 0) i v) (o.1, 0) := by
  have hn64 := ks_n64 hP
  have hT64 := ks_T64 hP
  have hc3 : c < 3 := by have := hP.2.1; omega
  refine tk_of hP.2.2.2.2.2 (by decide) rfl (Nat.le_of_ble_eq_true rfl) ?_
  intro p e s m below meth c0 X hlk hr hnm
  refine tk_aload_n X d_Model_code_0 rfl rfl ?_
  refine tk_aload_n X d_Model_code_1 rfl rfl ?_
  refine tk_iload_n X d_Model_code_2 rfl rfl ?_
  refine tk_callV X (kb := (12, 0, 0)) (ks_d0 (by decide)) rfl hc_Model (c_Model_isCore l P hP c hc a b _) (ks_site (n := 1) mc_Model_isCore mi_Model (by decide +kernel) (by decide) (by decide)) m_Model_98 ms_Model_isCore mv_Model_isCore rfl (Nat.le_of_ble_eq_true rfl) ⟨Nat.le_of_ble_eq_true rfl, Nat.le_of_ble_eq_true rfl⟩ rfl d_Model_code_3 ?_
  refine tk_if_eq (tgt := 19) X d_Model_code_6 (by decide) (fun h => absurd h (by decide)) (fun _ => ?_)
  refine tk_iload_n X d_Model_code_9 rfl rfl ?_
  refine tk_if_lt (tgt := 19) X d_Model_code_10 (by decide) (fun h => absurd h (nI_pos (by omega))) (fun _ => ?_)
  refine tk_iload_n X d_Model_code_13 rfl rfl ?_
  refine tk_bipush (v := 15) X d_Model_code_14 (by decide) ?_
  refine tk_icmp_le (tgt := 23) X d_Model_code_16 (by decide) (fun _ => ?_) (fun h => absurd (nI_le (b := 15) (by omega) (by decide)) h)
  refine tk_iconst (v := 0) X d_Model_code_23 (by decide) ?_
  refine kr_code X hc_Model hi_Model t_Model t_Model_ok n_Model (by decide) m_Model_66 rfl rfl rfl d_Model_code_24 ?_
  refine tk_aload_n X d_Model_code_27 rfl rfl ?_
  refine tk_get X (k := (12, 0, 0)) (dm := ks_dm P) (ks_d0 (by decide)) rfl hc_Model hi_Model 3 (by decide) m_Model_66 (v := .int _) rfl d_Model_code_28 ?_
  refine tk_if_ne (tgt := 46) X d_Model_code_31 (by decide) (fun h => absurd (rfl : (0 : Int32) = 0) h) (fun _ => ?_)
  refine tk_aload_n X d_Model_code_34 rfl rfl ?_
  refine tk_get X (k := (12, 0, 0)) (dm := ks_dm P) (ks_d0 (by decide)) rfl hc_Model hi_Model 9 (by decide) m_Model_19 (v := .ref (tk_ad (ks_G P) (16, 0, 0))) rfl d_Model_code_35 ?_
  refine tk_bipush (v := 16) X d_Model_code_38 (by decide) ?_
  refine tk_iload_n X d_Model_code_40 rfl rfl ?_
  refine tk_imul X d_Model_code_41 ?_
  refine tk_iload_n X d_Model_code_42 rfl rfl ?_
  refine tk_iadd X d_Model_code_43 ?_
  refine tk_iload_n X d_Model_code_44 rfl rfl ?_
  refine kr_iast X hP (f := 16) (i' := i) (by decide) (by decide) rfl (by decide) (q_mul 16 c i) (by omega) (v16k 8 hi) (v16i hi) d_Model_code_45 ?_
  exact tk_vret X hlk hr d_Model_code_46 rfl (fun _ h => h) (Or.inr rfl) (kw_st rfl rfl rfl)

set_option maxRecDepth 100000 in
set_option maxHeartbeats 4000000 in
theorem c_Model_codeX (l : Launch) (P : ks_P) (hP : ks_ok P) (x : Int32) (hx : x < 0 ∨ nI (ks_n P) ≤ x) (y v : Int32) (a b : ks_M) (o : ks_O)  : kc l P y_Model_code b_Model_code 4 none 1 [.ref (tk_ad (ks_G P) (12, 0, 0)), .int x, .int y, .int v] a b o (none) a b (o.1, 1) := by
  have hn64 := ks_n64 hP
  have hT64 := ks_T64 hP
  refine tk_of hP.2.2.2.2.2 (by decide) rfl (Nat.le_of_ble_eq_true rfl) ?_
  intro p e s m below meth c0 X hlk hr hnm
  refine tk_aload_n X d_Model_code_0 rfl rfl ?_
  refine tk_aload_n X d_Model_code_1 rfl rfl ?_
  refine tk_iload_n X d_Model_code_2 rfl rfl ?_
  refine tk_callV X (kb := (12, 0, 0)) (ks_d0 (by decide)) rfl hc_Model (c_Model_isCore0 l P hP x hx a b _) (ks_site (n := 1) mc_Model_isCore mi_Model (by decide +kernel) (by decide) (by decide)) m_Model_98 ms_Model_isCore mv_Model_isCore rfl (Nat.le_of_ble_eq_true rfl) ⟨Nat.le_of_ble_eq_true rfl, Nat.le_of_ble_eq_true rfl⟩ rfl d_Model_code_3 ?_
  refine tk_if_eq (tgt := 19) X d_Model_code_6 (by decide) (fun _ => ?_) (fun h => absurd (by decide) h)
  refine tk_iconst (v := 1) X d_Model_code_19 (by decide) ?_
  refine tk_goto (tgt := 24) X d_Model_code_20 (by decide) ?_
  refine kr_code X hc_Model hi_Model t_Model t_Model_ok n_Model (by decide) m_Model_66 rfl rfl rfl d_Model_code_24 ?_
  refine tk_aload_n X d_Model_code_27 rfl rfl ?_
  refine tk_get X (k := (12, 0, 0)) (dm := ks_dm P) (ks_d0 (by decide)) rfl hc_Model hi_Model 3 (by decide) m_Model_66 (v := .int _) rfl d_Model_code_28 ?_
  refine tk_if_ne (tgt := 46) X d_Model_code_31 (by decide) (fun _ => ?_) (fun h => absurd h (show ¬ ((1 : Int32) = 0) from by decide))
  exact tk_vret X hlk hr d_Model_code_46 rfl (fun _ h => h) (Or.inr rfl) (kw_st rfl rfl rfl)

set_option maxRecDepth 100000 in
set_option maxHeartbeats 4000000 in
theorem c_Model_codeY (l : Launch) (P : ks_P) (hP : ks_ok P) (c : Nat) (hc : c < ks_n P) (y v : Int32) (hy : y < 0 ∨ ¬ y ≤ 15) (a b : ks_M) (o : ks_O)  : kc l P y_Model_code b_Model_code 4 none 1 [.ref (tk_ad (ks_G P) (12, 0, 0)), .int (nI c), .int y, .int v] a b o (none) a b (o.1, 1) := by
  have hn64 := ks_n64 hP
  have hT64 := ks_T64 hP
  have hc3 : c < 3 := by have := hP.2.1; omega
  refine tk_of hP.2.2.2.2.2 (by decide) rfl (Nat.le_of_ble_eq_true rfl) ?_
  intro p e s m below meth c0 X hlk hr hnm
  refine tk_aload_n X d_Model_code_0 rfl rfl ?_
  refine tk_aload_n X d_Model_code_1 rfl rfl ?_
  refine tk_iload_n X d_Model_code_2 rfl rfl ?_
  refine tk_callV X (kb := (12, 0, 0)) (ks_d0 (by decide)) rfl hc_Model (c_Model_isCore l P hP c hc a b _) (ks_site (n := 1) mc_Model_isCore mi_Model (by decide +kernel) (by decide) (by decide)) m_Model_98 ms_Model_isCore mv_Model_isCore rfl (Nat.le_of_ble_eq_true rfl) ⟨Nat.le_of_ble_eq_true rfl, Nat.le_of_ble_eq_true rfl⟩ rfl d_Model_code_3 ?_
  refine tk_if_eq (tgt := 19) X d_Model_code_6 (by decide) (fun h => absurd h (by decide)) (fun _ => ?_)
  refine tk_iload_n X d_Model_code_9 rfl rfl ?_
  refine tk_if_lt (tgt := 19) X d_Model_code_10 (by decide) (fun h1 => ?_) (fun h1 => ?_)
  · skip
    refine tk_iconst (v := 1) X d_Model_code_19 (by decide) ?_
    refine tk_goto (tgt := 24) X d_Model_code_20 (by decide) ?_
    refine kr_code X hc_Model hi_Model t_Model t_Model_ok n_Model (by decide) m_Model_66 rfl rfl rfl d_Model_code_24 ?_
    refine tk_aload_n X d_Model_code_27 rfl rfl ?_
    refine tk_get X (k := (12, 0, 0)) (dm := ks_dm P) (ks_d0 (by decide)) rfl hc_Model hi_Model 3 (by decide) m_Model_66 (v := .int _) rfl d_Model_code_28 ?_
    refine tk_if_ne (tgt := 46) X d_Model_code_31 (by decide) (fun _ => ?_) (fun h => absurd h (show ¬ ((1 : Int32) = 0) from by decide))
    exact tk_vret X hlk hr d_Model_code_46 rfl (fun _ h => h) (Or.inr rfl) (kw_st rfl rfl rfl)
  · skip
    refine tk_iload_n X d_Model_code_13 rfl rfl ?_
    refine tk_bipush (v := 15) X d_Model_code_14 (by decide) ?_
    refine tk_icmp_le (tgt := 23) X d_Model_code_16 (by decide) (fun h => absurd h (hy.resolve_left h1)) (fun _ => ?_)
    refine tk_iconst (v := 1) X d_Model_code_19 (by decide) ?_
    refine tk_goto (tgt := 24) X d_Model_code_20 (by decide) ?_
    refine kr_code X hc_Model hi_Model t_Model t_Model_ok n_Model (by decide) m_Model_66 rfl rfl rfl d_Model_code_24 ?_
    refine tk_aload_n X d_Model_code_27 rfl rfl ?_
    refine tk_get X (k := (12, 0, 0)) (dm := ks_dm P) (ks_d0 (by decide)) rfl hc_Model hi_Model 3 (by decide) m_Model_66 (v := .int _) rfl d_Model_code_28 ?_
    refine tk_if_ne (tgt := 46) X d_Model_code_31 (by decide) (fun _ => ?_) (fun h => absurd h (show ¬ ((1 : Int32) = 0) from by decide))
    exact tk_vret X hlk hr d_Model_code_46 rfl (fun _ h => h) (Or.inr rfl) (kw_st rfl rfl rfl)

set_option maxRecDepth 100000 in
set_option maxHeartbeats 4000000 in
theorem c_Model_step (l : Launch) (P : ks_P) (hP : ks_ok P) (c : Nat) (hc : c < ks_n P) (a b : ks_M) (o : ks_O) (hV : r_V (ks_n P) (ks_T P) b) (hp : q_pc (b (4, c, 0) 6)) : kc l P y_Model_step b_Model_step 2 (some .int) 6 [.ref (tk_ad (ks_G P) (12, 0, 0)), .int (nI c)] a b o (some (.int (k_step (ks_n P) (ks_S P) (ks_W P) b c).1)) a (k_step (ks_n P) (ks_S P) (ks_W P) b c).2 (o.1, 0) := by
  have hn64 := ks_n64 hP
  have hT64 := ks_T64 hP
  have hc3 : c < 3 := by have := hP.2.1; omega
  refine tk_of hP.2.2.2.2.2 (by decide) rfl (Nat.le_of_ble_eq_true rfl) ?_
  intro p e s m below meth c0 X hlk hr hnm
  refine tk_aload_n X d_Model_step_0 rfl rfl ?_
  refine tk_aload_n X d_Model_step_1 rfl rfl ?_
  refine tk_iload_n X d_Model_step_2 rfl rfl ?_
  refine tk_callV X (kb := (12, 0, 0)) (ks_d0 (by decide)) rfl hc_Model (c_Model_isCore l P hP c hc a b _) (ks_site (n := 1) mc_Model_isCore mi_Model (by decide +kernel) (by decide) (by decide)) m_Model_98 ms_Model_isCore mv_Model_isCore rfl (Nat.le_of_ble_eq_true rfl) ⟨Nat.le_of_ble_eq_true rfl, Nat.le_of_ble_eq_true rfl⟩ rfl d_Model_step_3 ?_
  refine tk_if_eq (tgt := 13) X d_Model_step_6 (by decide) (fun h => absurd h (by decide)) (fun _ => ?_)
  refine tk_iconst (v := 0) X d_Model_step_9 (by decide) ?_
  refine tk_goto (tgt := 14) X d_Model_step_10 (by decide) ?_
  refine kr_code X hc_Model hi_Model t_Model t_Model_ok n_Model (by decide) m_Model_66 rfl rfl rfl d_Model_step_14 ?_
  refine tk_aload_n X d_Model_step_17 rfl rfl ?_
  refine tk_get X (k := (12, 0, 0)) (dm := ks_dm P) (ks_d0 (by decide)) rfl hc_Model hi_Model 3 (by decide) m_Model_66 (v := .int _) rfl d_Model_step_18 ?_
  refine tk_if_ne (tgt := 32) X d_Model_step_21 (by decide) (fun h => absurd (rfl : (0 : Int32) = 0) h) (fun _ => ?_)
  refine tk_aload_n X d_Model_step_24 rfl rfl ?_
  refine tk_iload_n X d_Model_step_25 rfl rfl ?_
  refine tk_callV X (kb := (12, 0, 0)) (ks_d0 (by decide)) rfl hc_Model (c_Model_stepped l P hP c hc a b (o.1, 0) hV hp) (ks_site (n := 1) mc_Model_stepped mi_Model (by decide +kernel) (by decide) (by decide)) m_Model_117 ms_Model_stepped mv_Model_stepped rfl (Nat.le_of_ble_eq_true rfl) ⟨Nat.le_of_ble_eq_true rfl, Nat.le_of_ble_eq_true rfl⟩ rfl d_Model_step_26 ?_
  refine tk_goto (tgt := 33) X d_Model_step_29 (by decide) ?_
  exact tk_iret X hlk hr d_Model_step_33 (rfl) (fun _ h => h) (Or.inr rfl) (kw_st rfl rfl rfl)

set_option maxRecDepth 100000 in
set_option maxHeartbeats 4000000 in
theorem c_Model_stepX (l : Launch) (P : ks_P) (hP : ks_ok P) (x : Int32) (hx : x < 0 ∨ nI (ks_n P) ≤ x) (a b : ks_M) (o : ks_O)  : kc l P y_Model_step b_Model_step 2 (some .int) 6 [.ref (tk_ad (ks_G P) (12, 0, 0)), .int x] a b o (some (.int 0)) a b (o.1, 1) := by
  have hn64 := ks_n64 hP
  have hT64 := ks_T64 hP
  refine tk_of hP.2.2.2.2.2 (by decide) rfl (Nat.le_of_ble_eq_true rfl) ?_
  intro p e s m below meth c0 X hlk hr hnm
  refine tk_aload_n X d_Model_step_0 rfl rfl ?_
  refine tk_aload_n X d_Model_step_1 rfl rfl ?_
  refine tk_iload_n X d_Model_step_2 rfl rfl ?_
  refine tk_callV X (kb := (12, 0, 0)) (ks_d0 (by decide)) rfl hc_Model (c_Model_isCore0 l P hP x hx a b _) (ks_site (n := 1) mc_Model_isCore mi_Model (by decide +kernel) (by decide) (by decide)) m_Model_98 ms_Model_isCore mv_Model_isCore rfl (Nat.le_of_ble_eq_true rfl) ⟨Nat.le_of_ble_eq_true rfl, Nat.le_of_ble_eq_true rfl⟩ rfl d_Model_step_3 ?_
  refine tk_if_eq (tgt := 13) X d_Model_step_6 (by decide) (fun _ => ?_) (fun h => absurd (by decide) h)
  refine tk_iconst (v := 1) X d_Model_step_13 (by decide) ?_
  refine kr_code X hc_Model hi_Model t_Model t_Model_ok n_Model (by decide) m_Model_66 rfl rfl rfl d_Model_step_14 ?_
  refine tk_aload_n X d_Model_step_17 rfl rfl ?_
  refine tk_get X (k := (12, 0, 0)) (dm := ks_dm P) (ks_d0 (by decide)) rfl hc_Model hi_Model 3 (by decide) m_Model_66 (v := .int _) rfl d_Model_step_18 ?_
  refine tk_if_ne (tgt := 32) X d_Model_step_21 (by decide) (fun _ => ?_) (fun h => absurd h (show ¬ ((1 : Int32) = 0) from by decide))
  refine tk_iconst (v := 0) X d_Model_step_32 (by decide) ?_
  exact tk_iret X hlk hr d_Model_step_33 (rfl) (fun _ h => h) (Or.inr rfl) (kw_st rfl rfl rfl)

set_option maxRecDepth 100000 in
set_option maxHeartbeats 4000000 in
theorem c_Model_jump (l : Launch) (P : ks_P) (hP : ks_ok P) (c : Nat) (hc : c < ks_n P) (y : Int32) (a b : ks_M) (o : ks_O) (hd : b (4, c, 0) 8 ≤ 0) : kc l P y_Model_jump b_Model_jump 3 none 1 [.ref (tk_ad (ks_G P) (12, 0, 0)), .int (nI c), .int y] a b o (none) a (k_jumpto b c y) (o.1, 0) := by
  have hn64 := ks_n64 hP
  have hT64 := ks_T64 hP
  have hc3 : c < 3 := by have := hP.2.1; omega
  refine tk_of hP.2.2.2.2.2 (by decide) rfl (Nat.le_of_ble_eq_true rfl) ?_
  intro p e s m below meth c0 X hlk hr hnm
  refine tk_aload_n X d_Model_jump_0 rfl rfl ?_
  refine tk_aload_n X d_Model_jump_1 rfl rfl ?_
  refine tk_iload_n X d_Model_jump_2 rfl rfl ?_
  refine tk_callV X (kb := (12, 0, 0)) (ks_d0 (by decide)) rfl hc_Model (c_Model_isCore l P hP c hc a b _) (ks_site (n := 1) mc_Model_isCore mi_Model (by decide +kernel) (by decide) (by decide)) m_Model_98 ms_Model_isCore mv_Model_isCore rfl (Nat.le_of_ble_eq_true rfl) ⟨Nat.le_of_ble_eq_true rfl, Nat.le_of_ble_eq_true rfl⟩ rfl d_Model_jump_3 ?_
  refine tk_if_ne (tgt := 13) X d_Model_jump_6 (by decide) (fun _ => ?_) (fun h => absurd h (by decide))
  refine tk_aload_n X d_Model_jump_13 rfl rfl ?_
  refine tk_get X (k := (12, 0, 0)) (dm := ks_dm P) (ks_d0 (by decide)) rfl hc_Model hi_Model 11 (by decide) m_Model_25 (v := .ref (tk_ad (ks_G P) (18, 0, 0))) rfl d_Model_jump_14 ?_
  refine tk_iload_n X d_Model_jump_17 rfl rfl ?_
  refine kr_iald X (f := 18) (i' := 8) (k' := (4, c, 0)) (by decide) (by decide) rfl (by decide) rfl hc3 rfl rfl d_Model_jump_18 ?_
  refine tk_if_le (tgt := 26) X d_Model_jump_19 (by decide) (fun _ => ?_) (fun h => absurd hd h)
  refine tk_iconst (v := 0) X d_Model_jump_26 (by decide) ?_
  refine kr_code X hc_Model hi_Model t_Model t_Model_ok n_Model (by decide) m_Model_66 rfl rfl rfl d_Model_jump_27 ?_
  refine tk_aload_n X d_Model_jump_30 rfl rfl ?_
  refine tk_get X (k := (12, 0, 0)) (dm := ks_dm P) (ks_d0 (by decide)) rfl hc_Model hi_Model 3 (by decide) m_Model_66 (v := .int _) rfl d_Model_jump_31 ?_
  refine tk_if_le (tgt := 38) X d_Model_jump_34 (by decide) (fun _ => ?_) (fun h => absurd (show (0 : Int32) ≤ 0 from by decide) h)
  refine tk_aload_n X d_Model_jump_38 rfl rfl ?_
  refine tk_get X (k := (12, 0, 0)) (dm := ks_dm P) (ks_d0 (by decide)) rfl hc_Model hi_Model 10 (by decide) m_Model_22 (v := .ref (tk_ad (ks_G P) (17, 0, 0))) rfl d_Model_jump_39 ?_
  refine tk_iload_n X d_Model_jump_42 rfl rfl ?_
  refine tk_iload_n X d_Model_jump_43 rfl rfl ?_
  refine tk_bipush (v := 15) X d_Model_jump_44 (by decide) ?_
  refine tk_iand X d_Model_jump_46 ?_
  refine kr_iast X hP (f := 17) (i' := 6) (k' := (4, c, 0)) (by decide) (by decide) rfl (by decide) rfl hc3 rfl rfl d_Model_jump_47 ?_
  refine tk_aload_n X d_Model_jump_48 rfl rfl ?_
  refine tk_get X (k := (12, 0, 0)) (dm := ks_dm P) (ks_d0 (by decide)) rfl hc_Model hi_Model 13 (by decide) m_Model_31 (v := .ref (tk_ad (ks_G P) (20, 0, 0))) rfl d_Model_jump_49 ?_
  refine tk_iload_n X d_Model_jump_52 rfl rfl ?_
  refine tk_iconst (v := 0) X d_Model_jump_53 (by decide) ?_
  refine kr_zast X hP (w := 0) rfl hc3 (by decide) d_Model_jump_54 ?_
  exact tk_vret X hlk hr d_Model_jump_55 rfl (fun _ h => h) (Or.inr rfl) (kw_st rfl rfl rfl)

set_option maxRecDepth 100000 in
set_option maxHeartbeats 4000000 in
theorem c_Model_jumpX (l : Launch) (P : ks_P) (hP : ks_ok P) (x : Int32) (hx : x < 0 ∨ nI (ks_n P) ≤ x) (y : Int32) (a b : ks_M) (o : ks_O)  : kc l P y_Model_jump b_Model_jump 3 none 1 [.ref (tk_ad (ks_G P) (12, 0, 0)), .int x, .int y] a b o (none) a b (o.1, 1) := by
  have hn64 := ks_n64 hP
  have hT64 := ks_T64 hP
  refine tk_of hP.2.2.2.2.2 (by decide) rfl (Nat.le_of_ble_eq_true rfl) ?_
  intro p e s m below meth c0 X hlk hr hnm
  refine tk_aload_n X d_Model_jump_0 rfl rfl ?_
  refine tk_aload_n X d_Model_jump_1 rfl rfl ?_
  refine tk_iload_n X d_Model_jump_2 rfl rfl ?_
  refine tk_callV X (kb := (12, 0, 0)) (ks_d0 (by decide)) rfl hc_Model (c_Model_isCore0 l P hP x hx a b _) (ks_site (n := 1) mc_Model_isCore mi_Model (by decide +kernel) (by decide) (by decide)) m_Model_98 ms_Model_isCore mv_Model_isCore rfl (Nat.le_of_ble_eq_true rfl) ⟨Nat.le_of_ble_eq_true rfl, Nat.le_of_ble_eq_true rfl⟩ rfl d_Model_jump_3 ?_
  refine tk_if_ne (tgt := 13) X d_Model_jump_6 (by decide) (fun h => absurd (by decide) h) (fun _ => ?_)
  refine tk_iconst (v := 1) X d_Model_jump_9 (by decide) ?_
  refine tk_goto (tgt := 27) X d_Model_jump_10 (by decide) ?_
  refine kr_code X hc_Model hi_Model t_Model t_Model_ok n_Model (by decide) m_Model_66 rfl rfl rfl d_Model_jump_27 ?_
  refine tk_aload_n X d_Model_jump_30 rfl rfl ?_
  refine tk_get X (k := (12, 0, 0)) (dm := ks_dm P) (ks_d0 (by decide)) rfl hc_Model hi_Model 3 (by decide) m_Model_66 (v := .int _) rfl d_Model_jump_31 ?_
  refine tk_if_le (tgt := 38) X d_Model_jump_34 (by decide) (fun h => absurd h (show ¬ ((1 : Int32) ≤ 0) from by decide)) (fun _ => ?_)
  exact tk_vret X hlk hr d_Model_jump_37 rfl (fun _ h => h) (Or.inr rfl) (kw_st rfl rfl rfl)

set_option maxRecDepth 100000 in
set_option maxHeartbeats 4000000 in
theorem c_Model_jumpD (l : Launch) (P : ks_P) (hP : ks_ok P) (c : Nat) (hc : c < ks_n P) (y : Int32) (a b : ks_M) (o : ks_O) (hd : ¬ b (4, c, 0) 8 ≤ 0) : kc l P y_Model_jump b_Model_jump 3 none 1 [.ref (tk_ad (ks_G P) (12, 0, 0)), .int (nI c), .int y] a b o (none) a b (o.1, 2) := by
  have hn64 := ks_n64 hP
  have hT64 := ks_T64 hP
  have hc3 : c < 3 := by have := hP.2.1; omega
  refine tk_of hP.2.2.2.2.2 (by decide) rfl (Nat.le_of_ble_eq_true rfl) ?_
  intro p e s m below meth c0 X hlk hr hnm
  refine tk_aload_n X d_Model_jump_0 rfl rfl ?_
  refine tk_aload_n X d_Model_jump_1 rfl rfl ?_
  refine tk_iload_n X d_Model_jump_2 rfl rfl ?_
  refine tk_callV X (kb := (12, 0, 0)) (ks_d0 (by decide)) rfl hc_Model (c_Model_isCore l P hP c hc a b _) (ks_site (n := 1) mc_Model_isCore mi_Model (by decide +kernel) (by decide) (by decide)) m_Model_98 ms_Model_isCore mv_Model_isCore rfl (Nat.le_of_ble_eq_true rfl) ⟨Nat.le_of_ble_eq_true rfl, Nat.le_of_ble_eq_true rfl⟩ rfl d_Model_jump_3 ?_
  refine tk_if_ne (tgt := 13) X d_Model_jump_6 (by decide) (fun _ => ?_) (fun h => absurd h (by decide))
  refine tk_aload_n X d_Model_jump_13 rfl rfl ?_
  refine tk_get X (k := (12, 0, 0)) (dm := ks_dm P) (ks_d0 (by decide)) rfl hc_Model hi_Model 11 (by decide) m_Model_25 (v := .ref (tk_ad (ks_G P) (18, 0, 0))) rfl d_Model_jump_14 ?_
  refine tk_iload_n X d_Model_jump_17 rfl rfl ?_
  refine kr_iald X (f := 18) (i' := 8) (k' := (4, c, 0)) (by decide) (by decide) rfl (by decide) rfl hc3 rfl rfl d_Model_jump_18 ?_
  refine tk_if_le (tgt := 26) X d_Model_jump_19 (by decide) (fun h => absurd h hd) (fun _ => ?_)
  refine tk_iconst (v := 2) X d_Model_jump_22 (by decide) ?_
  refine tk_goto (tgt := 27) X d_Model_jump_23 (by decide) ?_
  refine kr_code X hc_Model hi_Model t_Model t_Model_ok n_Model (by decide) m_Model_66 rfl rfl rfl d_Model_jump_27 ?_
  refine tk_aload_n X d_Model_jump_30 rfl rfl ?_
  refine tk_get X (k := (12, 0, 0)) (dm := ks_dm P) (ks_d0 (by decide)) rfl hc_Model hi_Model 3 (by decide) m_Model_66 (v := .int _) rfl d_Model_jump_31 ?_
  refine tk_if_le (tgt := 38) X d_Model_jump_34 (by decide) (fun h => absurd h (show ¬ ((2 : Int32) ≤ 0) from by decide)) (fun _ => ?_)
  exact tk_vret X hlk hr d_Model_jump_37 rfl (fun _ h => h) (Or.inr rfl) (kw_st rfl rfl rfl)

set_option maxRecDepth 100000 in
set_option maxHeartbeats 4000000 in
theorem c_Model_register (l : Launch) (P : ks_P) (hP : ks_ok P) (c : Nat) (hc : c < ks_n P) (r : Nat) (hr0 : r < 11) (a b : ks_M) (o : ks_O)  : kc l P y_Model_register b_Model_register 3 (some .int) 1 [.ref (tk_ad (ks_G P) (12, 0, 0)), .int (nI c), .int (nI r)] a b o (some (.int (k_regq b c r))) a b (o.1, 0) := by
  have hn64 := ks_n64 hP
  have hT64 := ks_T64 hP
  have hc3 : c < 3 := by have := hP.2.1; omega
  refine tk_of hP.2.2.2.2.2 (by decide) rfl (Nat.le_of_ble_eq_true rfl) ?_
  intro p e s m below meth c0 X hlk hr hnm
  refine tk_aload_n X d_Model_register_0 rfl rfl ?_
  refine tk_iconst (v := 0) X d_Model_register_1 (by decide) ?_
  refine kr_code X hc_Model hi_Model t_Model t_Model_ok n_Model (by decide) m_Model_66 rfl rfl rfl d_Model_register_2 ?_
  refine tk_aload_n X d_Model_register_5 rfl rfl ?_
  refine tk_iload_n X d_Model_register_6 rfl rfl ?_
  refine tk_callV X (kb := (12, 0, 0)) (ks_d0 (by decide)) rfl hc_Model (c_Model_isCore l P hP c hc a b _) (ks_site (n := 1) mc_Model_isCore mi_Model (by decide +kernel) (by decide) (by decide)) m_Model_98 ms_Model_isCore mv_Model_isCore rfl (Nat.le_of_ble_eq_true rfl) ⟨Nat.le_of_ble_eq_true rfl, Nat.le_of_ble_eq_true rfl⟩ rfl d_Model_register_7 ?_
  refine tk_if_eq (tgt := 23) X d_Model_register_10 (by decide) (fun h => absurd h (by decide)) (fun _ => ?_)
  refine tk_iload_n X d_Model_register_13 rfl rfl ?_
  refine tk_if_lt (tgt := 23) X d_Model_register_14 (by decide) (fun h => absurd h (nI_pos (by omega))) (fun _ => ?_)
  refine tk_iload_n X d_Model_register_17 rfl rfl ?_
  refine tk_bipush (v := 10) X d_Model_register_18 (by decide) ?_
  refine tk_icmp_le (tgt := 29) X d_Model_register_20 (by decide) (fun _ => ?_) (fun h => absurd (nI_le (b := 10) (by omega) (by decide)) h)
  refine tk_iload_n X d_Model_register_29 rfl rfl ?_
  refine tk_bipush (v := 8) X d_Model_register_30 (by decide) ?_
  refine tk_icmp_ge (tgt := 47) X d_Model_register_32 (by decide) (fun h1 => ?_) (fun h1 => ?_)
  · skip
    refine tk_iload_n X d_Model_register_47 rfl rfl ?_
    refine tk_bipush (v := 8) X d_Model_register_48 (by decide) ?_
    refine tk_icmp_ne (tgt := 62) X d_Model_register_50 (by decide) (fun h2 => ?_) (fun h2 => ?_)
    · skip
      refine tk_iload_n X d_Model_register_62 rfl rfl ?_
      refine tk_bipush (v := 9) X d_Model_register_63 (by decide) ?_
      refine tk_icmp_ne (tgt := 77) X d_Model_register_65 (by decide) (fun h3 => ?_) (fun h3 => ?_)
      · skip
        refine tk_aload_n X d_Model_register_77 rfl rfl ?_
        refine tk_get X (k := (12, 0, 0)) (dm := ks_dm P) (ks_d0 (by decide)) rfl hc_Model hi_Model 13 (by decide) m_Model_31 (v := .ref (tk_ad (ks_G P) (20, 0, 0))) rfl d_Model_register_78 ?_
        refine tk_iload_n X d_Model_register_81 rfl rfl ?_
        refine kw_zald X (k := (20, 0, 0)) (ks_d0 (by decide)) rfl (by decide) rfl hc3 (v := b (4, c, 0) 9) rfl d_Model_register_82 ?_
        refine tk_if_eq (tgt := 90) X d_Model_register_83 (by decide) (fun h4 => ?_) (fun h4 => ?_)
        · skip
          refine tk_iconst (v := 0) X d_Model_register_90 (by decide) ?_
          have h10 : nI r = 10 := by
            have q8 : ¬ r < 8 := fun q => absurd h1 (nI_ge q (by decide))
            have q1 : r ≠ 8 := fun q => h2 (by rw [q]; rfl)
            have q2 : r ≠ 9 := fun q => h3 (by rw [q]; rfl)
            rw [show r = 10 by omega]
            rfl
          have e1 : k_regq b c r = _ := ((((if_neg h2).trans (if_neg h3)).trans (if_pos h10)).trans (if_pos h4))
          exact tk_iret X hlk hr d_Model_register_91 (by rw [e1]) (fun _ h => h) (Or.inr rfl) (kw_st rfl rfl rfl)
        · skip
          refine tk_iconst (v := 1) X d_Model_register_86 (by decide) ?_
          refine tk_goto (tgt := 91) X d_Model_register_87 (by decide) ?_
          have h10 : nI r = 10 := by
            have q8 : ¬ r < 8 := fun q => absurd h1 (nI_ge q (by decide))
            have q1 : r ≠ 8 := fun q => h2 (by rw [q]; rfl)
            have q2 : r ≠ 9 := fun q => h3 (by rw [q]; rfl)
            rw [show r = 10 by omega]
            rfl
          have e1 : k_regq b c r = _ := ((((if_neg h2).trans (if_neg h3)).trans (if_pos h10)).trans (if_neg h4))
          exact tk_iret X hlk hr d_Model_register_91 (by rw [e1]) (fun _ h => h) (Or.inr rfl) (kw_st rfl rfl rfl)
      · skip
        refine tk_aload_n X d_Model_register_68 rfl rfl ?_
        refine tk_get X (k := (12, 0, 0)) (dm := ks_dm P) (ks_d0 (by decide)) rfl hc_Model hi_Model 11 (by decide) m_Model_25 (v := .ref (tk_ad (ks_G P) (18, 0, 0))) rfl d_Model_register_69 ?_
        refine tk_iload_n X d_Model_register_72 rfl rfl ?_
        refine kr_iald X (f := 18) (i' := 8) (k' := (4, c, 0)) (by decide) (by decide) rfl (by decide) rfl hc3 rfl rfl d_Model_register_73 ?_
        refine tk_goto (tgt := 91) X d_Model_register_74 (by decide) ?_
        have e1 : k_regq b c r = _ := ((if_neg h2).trans (if_pos h3))
        exact tk_iret X hlk hr d_Model_register_91 (by rw [e1]) (fun _ h => h) (Or.inr rfl) (kw_st rfl rfl rfl)
    · skip
      refine tk_aload_n X d_Model_register_53 rfl rfl ?_
      refine tk_get X (k := (12, 0, 0)) (dm := ks_dm P) (ks_d0 (by decide)) rfl hc_Model hi_Model 10 (by decide) m_Model_22 (v := .ref (tk_ad (ks_G P) (17, 0, 0))) rfl d_Model_register_54 ?_
      refine tk_iload_n X d_Model_register_57 rfl rfl ?_
      refine kr_iald X (f := 17) (i' := 6) (k' := (4, c, 0)) (by decide) (by decide) rfl (by decide) rfl hc3 rfl rfl d_Model_register_58 ?_
      refine tk_goto (tgt := 91) X d_Model_register_59 (by decide) ?_
      have e1 : k_regq b c r = _ := (if_pos h2)
      exact tk_iret X hlk hr d_Model_register_91 (by rw [e1]) (fun _ h => h) (Or.inr rfl) (kw_st rfl rfl rfl)
  · skip
    refine tk_aload_n X d_Model_register_35 rfl rfl ?_
    refine tk_get X (k := (12, 0, 0)) (dm := ks_dm P) (ks_d0 (by decide)) rfl hc_Model hi_Model 7 (by decide) m_Model_13 (v := .ref (tk_ad (ks_G P) (14, 0, 0))) rfl d_Model_register_36 ?_
    refine tk_bipush (v := 8) X d_Model_register_39 (by decide) ?_
    refine tk_iload_n X d_Model_register_41 rfl rfl ?_
    refine tk_imul X d_Model_register_42 ?_
    refine tk_iload_n X d_Model_register_43 rfl rfl ?_
    refine tk_iadd X d_Model_register_44 ?_
    refine kr_iald X (f := 14) (i' := r) (by decide) (by decide) rfl (by decide) (q_mul 8 c r) (by have h8 : r < 8 := Nat.not_le.mp (fun q => h1 (nI_le q (by omega))); omega) (v8k 9 (Nat.not_le.mp (fun q => h1 (nI_le q (by omega))))) (v8i (Nat.not_le.mp (fun q => h1 (nI_le q (by omega))))) d_Model_register_45 ?_
    have h8 : r < 8 := Nat.not_le.mp (fun q => h1 (nI_le q (by omega)))
    have e1 : k_regq b c r = _ := ((if_neg (fun z => absurd ((nI_eq (by omega) (by decide)).mp (show nI r = nI 8 from z)) (by omega))).trans (if_neg (fun z => absurd ((nI_eq (by omega) (by decide)).mp (show nI r = nI 9 from z)) (by omega)))).trans (if_neg (fun z => absurd ((nI_eq (by omega) (by decide)).mp (show nI r = nI 10 from z)) (by omega)))
    exact tk_iret X hlk hr d_Model_register_46 (by rw [e1]) (fun _ h => h) (Or.inr rfl) (kw_st rfl rfl rfl)

set_option maxRecDepth 100000 in
set_option maxHeartbeats 4000000 in
theorem c_Model_registerX (l : Launch) (P : ks_P) (hP : ks_ok P) (x : Int32) (hx : x < 0 ∨ nI (ks_n P) ≤ x) (y : Int32) (a b : ks_M) (o : ks_O)  : kc l P y_Model_register b_Model_register 3 (some .int) 1 [.ref (tk_ad (ks_G P) (12, 0, 0)), .int x, .int y] a b o (some (.int 0)) a b (o.1, 1) := by
  have hn64 := ks_n64 hP
  have hT64 := ks_T64 hP
  refine tk_of hP.2.2.2.2.2 (by decide) rfl (Nat.le_of_ble_eq_true rfl) ?_
  intro p e s m below meth c0 X hlk hr hnm
  refine tk_aload_n X d_Model_register_0 rfl rfl ?_
  refine tk_iconst (v := 0) X d_Model_register_1 (by decide) ?_
  refine kr_code X hc_Model hi_Model t_Model t_Model_ok n_Model (by decide) m_Model_66 rfl rfl rfl d_Model_register_2 ?_
  refine tk_aload_n X d_Model_register_5 rfl rfl ?_
  refine tk_iload_n X d_Model_register_6 rfl rfl ?_
  refine tk_callV X (kb := (12, 0, 0)) (ks_d0 (by decide)) rfl hc_Model (c_Model_isCore0 l P hP x hx a b _) (ks_site (n := 1) mc_Model_isCore mi_Model (by decide +kernel) (by decide) (by decide)) m_Model_98 ms_Model_isCore mv_Model_isCore rfl (Nat.le_of_ble_eq_true rfl) ⟨Nat.le_of_ble_eq_true rfl, Nat.le_of_ble_eq_true rfl⟩ rfl d_Model_register_7 ?_
  refine tk_if_eq (tgt := 23) X d_Model_register_10 (by decide) (fun _ => ?_) (fun h => absurd (by decide) h)
  refine tk_aload_n X d_Model_register_23 rfl rfl ?_
  refine tk_iconst (v := 1) X d_Model_register_24 (by decide) ?_
  refine tk_callV X (kb := (12, 0, 0)) (ks_d0 (by decide)) rfl hc_Model (c_Model_fail l P hP 1 a b (o.1, 0)) (ks_site (n := 1) mc_Model_fail mi_Model (by decide +kernel) (by decide) (by decide)) m_Model_120 ms_Model_fail mv_Model_fail rfl (Nat.le_of_ble_eq_true rfl) ⟨Nat.le_of_ble_eq_true rfl, Nat.le_of_ble_eq_true rfl⟩ rfl d_Model_register_25 ?_
  exact tk_iret X hlk hr d_Model_register_28 (rfl) (fun _ h => h) (Or.inr rfl) (kw_st rfl rfl rfl)

set_option maxRecDepth 100000 in
set_option maxHeartbeats 4000000 in
theorem c_Model_registerY (l : Launch) (P : ks_P) (hP : ks_ok P) (c : Nat) (hc : c < ks_n P) (y : Int32) (hy : y < 0 ∨ ¬ y ≤ 10) (a b : ks_M) (o : ks_O)  : kc l P y_Model_register b_Model_register 3 (some .int) 1 [.ref (tk_ad (ks_G P) (12, 0, 0)), .int (nI c), .int y] a b o (some (.int 0)) a b (o.1, 1) := by
  have hn64 := ks_n64 hP
  have hT64 := ks_T64 hP
  have hc3 : c < 3 := by have := hP.2.1; omega
  refine tk_of hP.2.2.2.2.2 (by decide) rfl (Nat.le_of_ble_eq_true rfl) ?_
  intro p e s m below meth c0 X hlk hr hnm
  refine tk_aload_n X d_Model_register_0 rfl rfl ?_
  refine tk_iconst (v := 0) X d_Model_register_1 (by decide) ?_
  refine kr_code X hc_Model hi_Model t_Model t_Model_ok n_Model (by decide) m_Model_66 rfl rfl rfl d_Model_register_2 ?_
  refine tk_aload_n X d_Model_register_5 rfl rfl ?_
  refine tk_iload_n X d_Model_register_6 rfl rfl ?_
  refine tk_callV X (kb := (12, 0, 0)) (ks_d0 (by decide)) rfl hc_Model (c_Model_isCore l P hP c hc a b _) (ks_site (n := 1) mc_Model_isCore mi_Model (by decide +kernel) (by decide) (by decide)) m_Model_98 ms_Model_isCore mv_Model_isCore rfl (Nat.le_of_ble_eq_true rfl) ⟨Nat.le_of_ble_eq_true rfl, Nat.le_of_ble_eq_true rfl⟩ rfl d_Model_register_7 ?_
  refine tk_if_eq (tgt := 23) X d_Model_register_10 (by decide) (fun h => absurd h (by decide)) (fun _ => ?_)
  refine tk_iload_n X d_Model_register_13 rfl rfl ?_
  refine tk_if_lt (tgt := 23) X d_Model_register_14 (by decide) (fun h1 => ?_) (fun h1 => ?_)
  · skip
    refine tk_aload_n X d_Model_register_23 rfl rfl ?_
    refine tk_iconst (v := 1) X d_Model_register_24 (by decide) ?_
    refine tk_callV X (kb := (12, 0, 0)) (ks_d0 (by decide)) rfl hc_Model (c_Model_fail l P hP 1 a b (o.1, 0)) (ks_site (n := 1) mc_Model_fail mi_Model (by decide +kernel) (by decide) (by decide)) m_Model_120 ms_Model_fail mv_Model_fail rfl (Nat.le_of_ble_eq_true rfl) ⟨Nat.le_of_ble_eq_true rfl, Nat.le_of_ble_eq_true rfl⟩ rfl d_Model_register_25 ?_
    exact tk_iret X hlk hr d_Model_register_28 (rfl) (fun _ h => h) (Or.inr rfl) (kw_st rfl rfl rfl)
  · skip
    refine tk_iload_n X d_Model_register_17 rfl rfl ?_
    refine tk_bipush (v := 10) X d_Model_register_18 (by decide) ?_
    refine tk_icmp_le (tgt := 29) X d_Model_register_20 (by decide) (fun h => absurd h (hy.resolve_left h1)) (fun _ => ?_)
    refine tk_aload_n X d_Model_register_23 rfl rfl ?_
    refine tk_iconst (v := 1) X d_Model_register_24 (by decide) ?_
    refine tk_callV X (kb := (12, 0, 0)) (ks_d0 (by decide)) rfl hc_Model (c_Model_fail l P hP 1 a b (o.1, 0)) (ks_site (n := 1) mc_Model_fail mi_Model (by decide +kernel) (by decide) (by decide)) m_Model_120 ms_Model_fail mv_Model_fail rfl (Nat.le_of_ble_eq_true rfl) ⟨Nat.le_of_ble_eq_true rfl, Nat.le_of_ble_eq_true rfl⟩ rfl d_Model_register_25 ?_
    exact tk_iret X hlk hr d_Model_register_28 (rfl) (fun _ h => h) (Or.inr rfl) (kw_st rfl rfl rfl)

set_option maxRecDepth 100000 in
set_option maxHeartbeats 4000000 in
theorem c_Model_fate (l : Launch) (P : ks_P) (hP : ks_ok P) (c : Nat) (hc : c < ks_n P) (i : Nat) (hi : i < 6) (a b : ks_M) (o : ks_O)  : kc l P y_Model_fate b_Model_fate 3 (some .int) 1 [.ref (tk_ad (ks_G P) (12, 0, 0)), .int (nI c), .int (nI i)] a b o (some (.int (b (11, c, 0) i))) a b (o.1, 0) := by
  have hn64 := ks_n64 hP
  have hT64 := ks_T64 hP
  have hc3 : c < 3 := by have := hP.2.1; omega
  refine tk_of hP.2.2.2.2.2 (by decide) rfl (Nat.le_of_ble_eq_true rfl) ?_
  intro p e s m below meth c0 X hlk hr hnm
  refine tk_aload_n X d_Model_fate_0 rfl rfl ?_
  refine tk_iconst (v := 0) X d_Model_fate_1 (by decide) ?_
  refine kr_code X hc_Model hi_Model t_Model t_Model_ok n_Model (by decide) m_Model_66 rfl rfl rfl d_Model_fate_2 ?_
  refine tk_aload_n X d_Model_fate_5 rfl rfl ?_
  refine tk_iload_n X d_Model_fate_6 rfl rfl ?_
  refine tk_callV X (kb := (12, 0, 0)) (ks_d0 (by decide)) rfl hc_Model (c_Model_isCore l P hP c hc a b _) (ks_site (n := 1) mc_Model_isCore mi_Model (by decide +kernel) (by decide) (by decide)) m_Model_98 ms_Model_isCore mv_Model_isCore rfl (Nat.le_of_ble_eq_true rfl) ⟨Nat.le_of_ble_eq_true rfl, Nat.le_of_ble_eq_true rfl⟩ rfl d_Model_fate_7 ?_
  refine tk_if_eq (tgt := 36) X d_Model_fate_10 (by decide) (fun h => absurd h (by decide)) (fun _ => ?_)
  refine tk_iload_n X d_Model_fate_13 rfl rfl ?_
  refine tk_if_lt (tgt := 36) X d_Model_fate_14 (by decide) (fun h => absurd h (nI_pos (by omega))) (fun _ => ?_)
  refine tk_iload_n X d_Model_fate_17 rfl rfl ?_
  refine tk_iconst (v := 5) X d_Model_fate_18 (by decide) ?_
  refine tk_icmp_gt (tgt := 36) X d_Model_fate_19 (by decide) (fun h => absurd h (Int32.not_lt.mpr (nI_le (b := 5) (by omega) (by decide)))) (fun _ => ?_)
  refine tk_aload_n X d_Model_fate_22 rfl rfl ?_
  refine tk_get X (k := (12, 0, 0)) (dm := ks_dm P) (ks_d0 (by decide)) rfl hc_Model hi_Model 14 (by decide) m_Model_35 (v := .ref (tk_ad (ks_G P) (21, 0, 0))) rfl d_Model_fate_23 ?_
  refine tk_bipush (v := 6) X d_Model_fate_26 (by decide) ?_
  refine tk_iload_n X d_Model_fate_28 rfl rfl ?_
  refine tk_imul X d_Model_fate_29 ?_
  refine tk_iload_n X d_Model_fate_30 rfl rfl ?_
  refine tk_iadd X d_Model_fate_31 ?_
  refine kr_iald X (f := 21) (i' := i) (by decide) (by decide) rfl (by decide) (q_mul 6 c i) (by omega) (v6k 11 hi) (v6i hi) d_Model_fate_32 ?_
  refine tk_goto (tgt := 41) X d_Model_fate_33 (by decide) ?_
  exact tk_iret X hlk hr d_Model_fate_41 (rfl) (fun _ h => h) (Or.inr rfl) (kw_st rfl rfl rfl)

set_option maxRecDepth 100000 in
set_option maxHeartbeats 4000000 in
theorem c_Model_fateX (l : Launch) (P : ks_P) (hP : ks_ok P) (x : Int32) (hx : x < 0 ∨ nI (ks_n P) ≤ x) (y : Int32) (a b : ks_M) (o : ks_O)  : kc l P y_Model_fate b_Model_fate 3 (some .int) 1 [.ref (tk_ad (ks_G P) (12, 0, 0)), .int x, .int y] a b o (some (.int 0)) a b (o.1, 1) := by
  have hn64 := ks_n64 hP
  have hT64 := ks_T64 hP
  refine tk_of hP.2.2.2.2.2 (by decide) rfl (Nat.le_of_ble_eq_true rfl) ?_
  intro p e s m below meth c0 X hlk hr hnm
  refine tk_aload_n X d_Model_fate_0 rfl rfl ?_
  refine tk_iconst (v := 0) X d_Model_fate_1 (by decide) ?_
  refine kr_code X hc_Model hi_Model t_Model t_Model_ok n_Model (by decide) m_Model_66 rfl rfl rfl d_Model_fate_2 ?_
  refine tk_aload_n X d_Model_fate_5 rfl rfl ?_
  refine tk_iload_n X d_Model_fate_6 rfl rfl ?_
  refine tk_callV X (kb := (12, 0, 0)) (ks_d0 (by decide)) rfl hc_Model (c_Model_isCore0 l P hP x hx a b _) (ks_site (n := 1) mc_Model_isCore mi_Model (by decide +kernel) (by decide) (by decide)) m_Model_98 ms_Model_isCore mv_Model_isCore rfl (Nat.le_of_ble_eq_true rfl) ⟨Nat.le_of_ble_eq_true rfl, Nat.le_of_ble_eq_true rfl⟩ rfl d_Model_fate_7 ?_
  refine tk_if_eq (tgt := 36) X d_Model_fate_10 (by decide) (fun _ => ?_) (fun h => absurd (by decide) h)
  refine tk_aload_n X d_Model_fate_36 rfl rfl ?_
  refine tk_iconst (v := 1) X d_Model_fate_37 (by decide) ?_
  refine tk_callV X (kb := (12, 0, 0)) (ks_d0 (by decide)) rfl hc_Model (c_Model_fail l P hP 1 a b (o.1, 0)) (ks_site (n := 1) mc_Model_fail mi_Model (by decide +kernel) (by decide) (by decide)) m_Model_120 ms_Model_fail mv_Model_fail rfl (Nat.le_of_ble_eq_true rfl) ⟨Nat.le_of_ble_eq_true rfl, Nat.le_of_ble_eq_true rfl⟩ rfl d_Model_fate_38 ?_
  exact tk_iret X hlk hr d_Model_fate_41 (rfl) (fun _ h => h) (Or.inr rfl) (kw_st rfl rfl rfl)

set_option maxRecDepth 100000 in
set_option maxHeartbeats 4000000 in
theorem c_Model_fateY (l : Launch) (P : ks_P) (hP : ks_ok P) (c : Nat) (hc : c < ks_n P) (y : Int32) (hy : y < 0 ∨ (5 : Int32) < y) (a b : ks_M) (o : ks_O)  : kc l P y_Model_fate b_Model_fate 3 (some .int) 1 [.ref (tk_ad (ks_G P) (12, 0, 0)), .int (nI c), .int y] a b o (some (.int 0)) a b (o.1, 1) := by
  have hn64 := ks_n64 hP
  have hT64 := ks_T64 hP
  have hc3 : c < 3 := by have := hP.2.1; omega
  refine tk_of hP.2.2.2.2.2 (by decide) rfl (Nat.le_of_ble_eq_true rfl) ?_
  intro p e s m below meth c0 X hlk hr hnm
  refine tk_aload_n X d_Model_fate_0 rfl rfl ?_
  refine tk_iconst (v := 0) X d_Model_fate_1 (by decide) ?_
  refine kr_code X hc_Model hi_Model t_Model t_Model_ok n_Model (by decide) m_Model_66 rfl rfl rfl d_Model_fate_2 ?_
  refine tk_aload_n X d_Model_fate_5 rfl rfl ?_
  refine tk_iload_n X d_Model_fate_6 rfl rfl ?_
  refine tk_callV X (kb := (12, 0, 0)) (ks_d0 (by decide)) rfl hc_Model (c_Model_isCore l P hP c hc a b _) (ks_site (n := 1) mc_Model_isCore mi_Model (by decide +kernel) (by decide) (by decide)) m_Model_98 ms_Model_isCore mv_Model_isCore rfl (Nat.le_of_ble_eq_true rfl) ⟨Nat.le_of_ble_eq_true rfl, Nat.le_of_ble_eq_true rfl⟩ rfl d_Model_fate_7 ?_
  refine tk_if_eq (tgt := 36) X d_Model_fate_10 (by decide) (fun h => absurd h (by decide)) (fun _ => ?_)
  refine tk_iload_n X d_Model_fate_13 rfl rfl ?_
  refine tk_if_lt (tgt := 36) X d_Model_fate_14 (by decide) (fun h1 => ?_) (fun h1 => ?_)
  · skip
    refine tk_aload_n X d_Model_fate_36 rfl rfl ?_
    refine tk_iconst (v := 1) X d_Model_fate_37 (by decide) ?_
    refine tk_callV X (kb := (12, 0, 0)) (ks_d0 (by decide)) rfl hc_Model (c_Model_fail l P hP 1 a b (o.1, 0)) (ks_site (n := 1) mc_Model_fail mi_Model (by decide +kernel) (by decide) (by decide)) m_Model_120 ms_Model_fail mv_Model_fail rfl (Nat.le_of_ble_eq_true rfl) ⟨Nat.le_of_ble_eq_true rfl, Nat.le_of_ble_eq_true rfl⟩ rfl d_Model_fate_38 ?_
    exact tk_iret X hlk hr d_Model_fate_41 (rfl) (fun _ h => h) (Or.inr rfl) (kw_st rfl rfl rfl)
  · skip
    refine tk_iload_n X d_Model_fate_17 rfl rfl ?_
    refine tk_iconst (v := 5) X d_Model_fate_18 (by decide) ?_
    refine tk_icmp_gt (tgt := 36) X d_Model_fate_19 (by decide) (fun _ => ?_) (fun h => absurd (hy.resolve_left h1) h)
    refine tk_aload_n X d_Model_fate_36 rfl rfl ?_
    refine tk_iconst (v := 1) X d_Model_fate_37 (by decide) ?_
    refine tk_callV X (kb := (12, 0, 0)) (ks_d0 (by decide)) rfl hc_Model (c_Model_fail l P hP 1 a b (o.1, 0)) (ks_site (n := 1) mc_Model_fail mi_Model (by decide +kernel) (by decide) (by decide)) m_Model_120 ms_Model_fail mv_Model_fail rfl (Nat.le_of_ble_eq_true rfl) ⟨Nat.le_of_ble_eq_true rfl, Nat.le_of_ble_eq_true rfl⟩ rfl d_Model_fate_38 ?_
    exact tk_iret X hlk hr d_Model_fate_41 (rfl) (fun _ h => h) (Or.inr rfl) (kw_st rfl rfl rfl)

set_option maxRecDepth 100000 in
set_option maxHeartbeats 4000000 in
theorem c_Model_memory (l : Launch) (P : ks_P) (hP : ks_ok P) (x : Int32) (a b : ks_M) (o : ks_O)  : kc l P y_Model_memory b_Model_memory 2 (some .int) 0 [.ref (tk_ad (ks_G P) (12, 0, 0)), .int x] a b o (some (.int (k_get b x))) a b (o.1, 0) := by
  have hn64 := ks_n64 hP
  have hT64 := ks_T64 hP
  refine tk_of hP.2.2.2.2.2 (by decide) rfl (Nat.le_of_ble_eq_true rfl) ?_
  intro p e s m below meth c0 X hlk hr hnm
  refine tk_aload_n X d_Model_memory_0 rfl rfl ?_
  refine tk_iconst (v := 0) X d_Model_memory_1 (by decide) ?_
  refine kr_code X hc_Model hi_Model t_Model t_Model_ok n_Model (by decide) m_Model_66 rfl rfl rfl d_Model_memory_2 ?_
  refine tk_aload_n X d_Model_memory_5 rfl rfl ?_
  refine tk_get X (k := (12, 0, 0)) (dm := ks_dm P) (ks_d0 (by decide)) rfl hc_Model hi_Model 6 (by decide) m_Model_7 (v := .ref (tk_ad (ks_G P) (13, 0, 0))) rfl d_Model_memory_6 ?_
  refine tk_iload_n X d_Model_memory_9 rfl rfl ?_
  refine tk_bipush (v := 63) X d_Model_memory_10 (by decide) ?_
  refine tk_iand X d_Model_memory_12 ?_
  refine kr_iald X (f := 13) (i' := (q_ix (x &&& 63))) (k' := (2, 0, 0)) (by decide) (by decide) rfl (by decide) (q_m63 x) (q_l63 x) rfl rfl d_Model_memory_13 ?_
  exact tk_iret X hlk hr d_Model_memory_14 (rfl) (fun _ h => h) (Or.inr rfl) (kw_st rfl rfl rfl)

set_option maxRecDepth 100000 in
set_option maxHeartbeats 4000000 in
theorem c_Model_requests (l : Launch) (P : ks_P) (hP : ks_ok P)  (a b : ks_M) (o : ks_O)  : kc l P y_Model_requests b_Model_requests 1 (some .int) 0 [.ref (tk_ad (ks_G P) (12, 0, 0))] a b o (some (.int (b (0, 0, 0) 2))) a b (o.1, 0) := by
  have hn64 := ks_n64 hP
  have hT64 := ks_T64 hP
  refine tk_of hP.2.2.2.2.2 (by decide) rfl (Nat.le_of_ble_eq_true rfl) ?_
  intro p e s m below meth c0 X hlk hr hnm
  refine tk_aload_n X d_Model_requests_0 rfl rfl ?_
  refine tk_iconst (v := 0) X d_Model_requests_1 (by decide) ?_
  refine kr_code X hc_Model hi_Model t_Model t_Model_ok n_Model (by decide) m_Model_66 rfl rfl rfl d_Model_requests_2 ?_
  refine tk_aload_n X d_Model_requests_5 rfl rfl ?_
  refine tk_get X (k := (12, 0, 0)) (dm := ks_dm P) (ks_d0 (by decide)) rfl hc_Model hi_Model 5 (by decide) m_Model_88 (v := .int _) rfl d_Model_requests_6 ?_
  exact tk_iret X hlk hr d_Model_requests_9 (rfl) (fun _ h => h) (Or.inr rfl) (kw_st rfl rfl rfl)

section LP
variable {p : Program} {l : Launch} {e : Env} {R : Room} {s : State} {m : MethodId} {args : Array Value} {below : List Frame} {meth : Method} {c0 : Code} {P : ks_P} {cells slots : Nat} {Q : State → Prop}
set_option maxRecDepth 100000 in
set_option maxHeartbeats 4000000 in
theorem lp_Model_poke (X : tk_X p m c0 s args (ks_G P) R_Model b_Model_poke 4 WS) (hP : ks_ok P) (x v : Int32) (a : ks_M) (o : ks_O) {b2 : ks_M} (kend : tk_go p l e (ks_rm 3) s m args below meth c0 (ks_G P) (ks_dm P) 4 0 0 Q (ks_sl P a b2 o) 33 [some (.ref (tk_ad (ks_G P) (12, 0, 0))), some (.int x), some (.int v), some (.int (nI (ks_n P)))] []) : ∀ (k i : Nat) (b : ks_M), i + k = ks_n P → r_V (ks_n P) (ks_T P) b → k_send (ks_S P) (ks_W P) (-1) (q_ln x) true k i b = b2 → tk_go p l e (ks_rm 3) s m args below meth c0 (ks_G P) (ks_dm P) 4 0 0 Q (ks_sl P a b o) 7 [some (.ref (tk_ad (ks_G P) (12, 0, 0))), some (.int x), some (.int v), some (.int (nI i))] [] := by
  have hn64 := ks_n64 hP
  have hT64 := ks_T64 hP
  intro k
  induction k with
  | zero =>
    intro i b hi hV hk
    have hiT : i = ks_n P := by omega
    subst hiT
    have hk2 : b = b2 := hk
    subst hk2
    refine tk_iload_n X d_Model_poke_7 rfl rfl ?_
    refine tk_aload_n X d_Model_poke_8 rfl rfl ?_
    refine tk_get X (k := (12, 0, 0)) (dm := ks_dm P) (ks_d0 (by decide)) rfl hc_Model hi_Model 0 (by decide) m_Model_56 (v := .int _) rfl d_Model_poke_9 ?_
    refine tk_icmp_ge (tgt := 33) X d_Model_poke_12 (by decide) (fun _ => ?_) (fun h => absurd (nI_le (Nat.le_refl _) (by omega)) h)
    exact kend
  | succ k ih =>
    intro i b hi hV hk
    have hi2 : i < ks_n P := by omega
    refine tk_iload_n X d_Model_poke_7 rfl rfl ?_
    refine tk_aload_n X d_Model_poke_8 rfl rfl ?_
    refine tk_get X (k := (12, 0, 0)) (dm := ks_dm P) (ks_d0 (by decide)) rfl hc_Model hi_Model 0 (by decide) m_Model_56 (v := .int _) rfl d_Model_poke_9 ?_
    refine tk_icmp_ge (tgt := 33) X d_Model_poke_12 (by decide) (fun h => absurd h (nI_ge hi2 (by omega))) (fun _ => ?_)
    refine tk_aload_n X d_Model_poke_15 rfl rfl ?_
    refine tk_iload_n X d_Model_poke_16 rfl rfl ?_
    refine tk_iload_n X d_Model_poke_17 rfl rfl ?_
    refine tk_bipush (v := 63) X d_Model_poke_18 (by decide) ?_
    refine tk_iand X d_Model_poke_20 ?_
    refine tk_iconst (v := 2) X d_Model_poke_21 (by decide) ?_
    refine tk_idiv X d_Model_poke_22 (by decide) ?_
    rw [q_dv x]
    refine tk_iconst (v := 1) X d_Model_poke_23 (by decide) ?_
    refine tk_callV X (kb := (12, 0, 0)) (ks_d0 (by decide)) rfl hc_Model (c_Model_meet l P hP i (q_ln x) hi2 (q_ln_lt x) true a b o (hV i hi2)) (ks_site (n := 3) mc_Model_meet mi_Model (by decide +kernel) (by decide) (by decide)) m_Model_91 ms_Model_meet mv_Model_meet rfl (Nat.le_of_ble_eq_true rfl) ⟨Nat.le_of_ble_eq_true rfl, Nat.le_of_ble_eq_true rfl⟩ rfl d_Model_poke_24 ?_
    refine tk_iinc (v := nI (i + 1)) X d_Model_poke_27 rfl (q_inc i) (by decide) rfl ?_
    refine tk_goto (tgt := 7) X d_Model_poke_30 (by decide) ?_
    have e1 : k_ask1 (ks_S P) (ks_W P) (-1) (q_ln x) true i b = k_met (ks_S P) (ks_W P) b i (q_ln x) true := if_neg (nI_nm1 (by omega))
    exact ih (i + 1) _ (by omega) (r_V_met hV (k_first_le hP _) true) (by rw [← e1]; exact hk)
end LP

set_option maxRecDepth 100000 in
set_option maxHeartbeats 4000000 in
theorem c_Model_poke (l : Launch) (P : ks_P) (hP : ks_ok P) (x v : Int32) (a b : ks_M) (o : ks_O) (hV : r_V (ks_n P) (ks_T P) b) : kc l P y_Model_poke b_Model_poke 4 none 3 [.ref (tk_ad (ks_G P) (12, 0, 0)), .int x, .int v] a b o (none) a (k_poke (ks_n P) (ks_S P) (ks_W P) b x v) (o.1, 0) := by
  have hn64 := ks_n64 hP
  have hT64 := ks_T64 hP
  refine tk_of hP.2.2.2.2.2 (by decide) rfl (Nat.le_of_ble_eq_true rfl) ?_
  intro p e s m below meth c0 X hlk hr hnm
  refine tk_aload_n X d_Model_poke_0 rfl rfl ?_
  refine tk_iconst (v := 0) X d_Model_poke_1 (by decide) ?_
  refine kr_code X hc_Model hi_Model t_Model t_Model_ok n_Model (by decide) m_Model_66 rfl rfl rfl d_Model_poke_2 ?_
  refine tk_iconst (v := 0) X d_Model_poke_5 (by decide) ?_
  refine tk_istore_n X d_Model_poke_6 rfl (by decide) rfl ?_
  refine lp_Model_poke X hP x v a (o.1, 0) (b2 := k_send (ks_S P) (ks_W P) (-1) (q_ln x) true (ks_n P) 0 b) ?_ (ks_n P) 0 b (by omega) hV rfl
  refine tk_aload_n X d_Model_poke_33 rfl rfl ?_
  refine tk_get X (k := (12, 0, 0)) (dm := ks_dm P) (ks_d0 (by decide)) rfl hc_Model hi_Model 6 (by decide) m_Model_7 (v := .ref (tk_ad (ks_G P) (13, 0, 0))) rfl d_Model_poke_34 ?_
  refine tk_iload_n X d_Model_poke_37 rfl rfl ?_
  refine tk_bipush (v := 63) X d_Model_poke_38 (by decide) ?_
  refine tk_iand X d_Model_poke_40 ?_
  refine tk_iload_n X d_Model_poke_41 rfl rfl ?_
  refine kr_iast X hP (f := 13) (i' := (q_ix (x &&& 63))) (k' := (2, 0, 0)) (by decide) (by decide) rfl (by decide) (q_m63 x) (q_l63 x) rfl rfl d_Model_poke_42 ?_
  exact tk_vret X hlk hr d_Model_poke_43 rfl (fun _ h => h) (Or.inr rfl) (kw_st rfl rfl rfl)
