set_option maxRecDepth 100000 in
set_option maxHeartbeats 4000000 in
theorem c_TC_place (l : Launch) (P : ks_P) (hP : ks_ok P) (x : Int32) (a b : ks_M) (o : ks_O) : kc l P y_TC_place b_TC_place 1 (some .int) 0 [.int x] a b o (some (.int (x &&& 15))) a b o := by
  have hn64 := ks_n64 hP
  have hT64 := ks_T64 hP
  refine tk_of hP.2.2.2.2.2 (by decide) rfl (Nat.le_of_ble_eq_true rfl) ?_
  intro p e s m below meth c0 X hlk hr hnm
  refine tk_iload_n X d_TC_place_0 rfl rfl ?_
  refine tk_bipush (v := 15) X d_TC_place_1 (by decide) ?_
  refine tk_iand X d_TC_place_3 ?_
  exact tk_iret X hlk hr d_TC_place_4 (rfl) (fun _ h => h) (Or.inr rfl) (fun _ _ => rfl)

set_option maxRecDepth 100000 in
set_option maxHeartbeats 4000000 in
theorem c_TC_kindOf (l : Launch) (P : ks_P) (hP : ks_ok P) (x : Int32) (a b : ks_M) (o : ks_O) : kc l P y_TC_kindOf b_TC_kindOf 1 (some .int) 0 [.int x] a b o (some (.int (x &&& 15))) a b o := by
  have hn64 := ks_n64 hP
  have hT64 := ks_T64 hP
  refine tk_of hP.2.2.2.2.2 (by decide) rfl (Nat.le_of_ble_eq_true rfl) ?_
  intro p e s m below meth c0 X hlk hr hnm
  refine tk_iload_n X d_TC_kindOf_0 rfl rfl ?_
  refine tk_bipush (v := 15) X d_TC_kindOf_1 (by decide) ?_
  refine tk_iand X d_TC_kindOf_3 ?_
  exact tk_iret X hlk hr d_TC_kindOf_4 (rfl) (fun _ h => h) (Or.inr rfl) (fun _ _ => rfl)

set_option maxRecDepth 100000 in
set_option maxHeartbeats 4000000 in
theorem c_TC_lineOf (l : Launch) (P : ks_P) (hP : ks_ok P) (x : Int32) (a b : ks_M) (o : ks_O) : kc l P y_TC_lineOf b_TC_lineOf 1 (some .int) 0 [.int x] a b o (some (.int (q_line x))) a b o := by
  have hn64 := ks_n64 hP
  have hT64 := ks_T64 hP
  refine tk_of hP.2.2.2.2.2 (by decide) rfl (Nat.le_of_ble_eq_true rfl) ?_
  intro p e s m below meth c0 X hlk hr hnm
  refine tk_iload_n X d_TC_lineOf_0 rfl rfl ?_
  refine tk_bipush (v := 63) X d_TC_lineOf_1 (by decide) ?_
  refine tk_iand X d_TC_lineOf_3 ?_
  refine tk_iconst (v := 1) X d_TC_lineOf_4 (by decide) ?_
  refine tk_ishr X d_TC_lineOf_5 ?_
  exact tk_iret X hlk hr d_TC_lineOf_6 (rfl) (fun _ h => h) (Or.inr rfl) (fun _ _ => rfl)

set_option maxRecDepth 100000 in
set_option maxHeartbeats 4000000 in
theorem c_TC_registerA (l : Launch) (P : ks_P) (hP : ks_ok P) (x : Int32) (a b : ks_M) (o : ks_O) : kc l P y_TC_registerA b_TC_registerA 1 (some .int) 0 [.int x] a b o (some (.int (q_A x))) a b o := by
  have hn64 := ks_n64 hP
  have hT64 := ks_T64 hP
  refine tk_of hP.2.2.2.2.2 (by decide) rfl (Nat.le_of_ble_eq_true rfl) ?_
  intro p e s m below meth c0 X hlk hr hnm
  refine tk_iload_n X d_TC_registerA_0 rfl rfl ?_
  refine tk_iconst (v := 4) X d_TC_registerA_1 (by decide) ?_
  refine tk_ishr X d_TC_registerA_2 ?_
  refine tk_bipush (v := 7) X d_TC_registerA_3 (by decide) ?_
  refine tk_iand X d_TC_registerA_5 ?_
  exact tk_iret X hlk hr d_TC_registerA_6 (rfl) (fun _ h => h) (Or.inr rfl) (fun _ _ => rfl)

set_option maxRecDepth 100000 in
set_option maxHeartbeats 4000000 in
theorem c_TC_registerB (l : Launch) (P : ks_P) (hP : ks_ok P) (x : Int32) (a b : ks_M) (o : ks_O) : kc l P y_TC_registerB b_TC_registerB 1 (some .int) 0 [.int x] a b o (some (.int (q_B x))) a b o := by
  have hn64 := ks_n64 hP
  have hT64 := ks_T64 hP
  refine tk_of hP.2.2.2.2.2 (by decide) rfl (Nat.le_of_ble_eq_true rfl) ?_
  intro p e s m below meth c0 X hlk hr hnm
  refine tk_iload_n X d_TC_registerB_0 rfl rfl ?_
  refine tk_bipush (v := 7) X d_TC_registerB_1 (by decide) ?_
  refine tk_ishr X d_TC_registerB_3 ?_
  refine tk_bipush (v := 7) X d_TC_registerB_4 (by decide) ?_
  refine tk_iand X d_TC_registerB_6 ?_
  exact tk_iret X hlk hr d_TC_registerB_7 (rfl) (fun _ h => h) (Or.inr rfl) (fun _ _ => rfl)

set_option maxRecDepth 100000 in
set_option maxHeartbeats 4000000 in
theorem c_TC_immediateOf (l : Launch) (P : ks_P) (hP : ks_ok P) (x : Int32) (a b : ks_M) (o : ks_O) : kc l P y_TC_immediateOf b_TC_immediateOf 1 (some .int) 0 [.int x] a b o (some (.int (q_imm x))) a b o := by
  have hn64 := ks_n64 hP
  have hT64 := ks_T64 hP
  refine tk_of hP.2.2.2.2.2 (by decide) rfl (Nat.le_of_ble_eq_true rfl) ?_
  intro p e s m below meth c0 X hlk hr hnm
  refine tk_iload_n X d_TC_immediateOf_0 rfl rfl ?_
  refine tk_bipush (v := 11) X d_TC_immediateOf_1 (by decide) ?_
  refine tk_ishr X d_TC_immediateOf_3 ?_
  exact tk_iret X hlk hr d_TC_immediateOf_4 (rfl) (fun _ h => h) (Or.inr rfl) (fun _ _ => rfl)

set_option maxRecDepth 100000 in
set_option maxHeartbeats 4000000 in
theorem c_TC_registerC (l : Launch) (P : ks_P) (hP : ks_ok P) (x : Int32) (a b : ks_M) (o : ks_O) : kc l P y_TC_registerC b_TC_registerC 1 (some .int) 1 [.int x] a b o (some (.int (q_C x))) a b o := by
  have hn64 := ks_n64 hP
  have hT64 := ks_T64 hP
  refine tk_of hP.2.2.2.2.2 (by decide) rfl (Nat.le_of_ble_eq_true rfl) ?_
  intro p e s m below meth c0 X hlk hr hnm
  refine tk_iload_n X d_TC_registerC_0 rfl rfl ?_
  refine tk_callS X (c_TC_immediateOf l P hP x a b o) (ks_site (n := 1) mc_TC_immediateOf mi_TC (by decide +kernel) (by decide) (by decide)) m_TC_140 ms_TC_immediateOf rfl (Nat.le_of_ble_eq_true rfl) ⟨Nat.le_of_ble_eq_true rfl, Nat.le_of_ble_eq_true rfl⟩ rfl d_TC_registerC_1 ?_
  refine tk_bipush (v := 7) X d_TC_registerC_4 (by decide) ?_
  refine tk_iand X d_TC_registerC_6 ?_
  exact tk_iret X hlk hr d_TC_registerC_7 (rfl) (fun _ h => h) (Or.inr rfl) (fun _ _ => rfl)

set_option maxRecDepth 100000 in
set_option maxHeartbeats 4000000 in
theorem c_Way_get (l : Launch) (P : ks_P) (hP : ks_ok P) (c j : Nat) (hc : c < ks_n P) (hj : j < ks_T P) (x : Int32) (a b : ks_M) (o : ks_O) : kc l P y_Way_get b_Way_get 2 (some .int) 0 [.ref (tk_ad (ks_G P) (7, c, j)), .int x] a b o (some (.int (k_wget a c j x))) a b o := by
  have hn64 := ks_n64 hP
  have hT64 := ks_T64 hP
  refine tk_of hP.2.2.2.2.2 (by decide) rfl (Nat.le_of_ble_eq_true rfl) ?_
  intro p e s m below meth c0 X hlk hr hnm
  refine tk_iload_n X d_Way_get_0 rfl rfl ?_
  refine tk_iconst (v := 1) X d_Way_get_1 (by decide) ?_
  refine tk_iand X d_Way_get_2 ?_
  refine tk_if_ne (tgt := 13) X d_Way_get_3 (by decide) (fun h1 => ?_) (fun h1 => ?_)
  · skip
    refine tk_aload_n X d_Way_get_13 rfl rfl ?_
    refine tk_get X (k := (7, c, j)) (dm := ks_dm P) (ks_d7 hc hj) rfl hc_Way hi_Way 4 (by decide) m_Way_13 (v := .int _) rfl d_Way_get_14 ?_
    exact tk_iret X hlk hr d_Way_get_17 (by rw [k_wget, if_neg h1]) (fun _ h => h) (Or.inr rfl) (fun _ _ => rfl)
  · skip
    refine tk_aload_n X d_Way_get_6 rfl rfl ?_
    refine tk_get X (k := (7, c, j)) (dm := ks_dm P) (ks_d7 hc hj) rfl hc_Way hi_Way 3 (by decide) m_Way_7 (v := .int _) rfl d_Way_get_7 ?_
    refine tk_goto (tgt := 17) X d_Way_get_10 (by decide) ?_
    exact tk_iret X hlk hr d_Way_get_17 (by rw [k_wget, if_pos h1]) (fun _ h => h) (Or.inr rfl) (fun _ _ => rfl)

set_option maxRecDepth 100000 in
set_option maxHeartbeats 4000000 in
theorem c_Way_put (l : Launch) (P : ks_P) (hP : ks_ok P) (c j : Nat) (hc : c < ks_n P) (hj : j < ks_T P) (x v : Int32) (a b : ks_M) (o : ks_O) : kc l P y_Way_put b_Way_put 3 none 0 [.ref (tk_ad (ks_G P) (7, c, j)), .int x, .int v] a b o (none) (k_wput a c j x v) b o := by
  have hn64 := ks_n64 hP
  have hT64 := ks_T64 hP
  refine tk_of hP.2.2.2.2.2 (by decide) rfl (Nat.le_of_ble_eq_true rfl) ?_
  intro p e s m below meth c0 X hlk hr hnm
  refine tk_iload_n X d_Way_put_0 rfl rfl ?_
  refine tk_iconst (v := 1) X d_Way_put_1 (by decide) ?_
  refine tk_iand X d_Way_put_2 ?_
  refine tk_if_ne (tgt := 14) X d_Way_put_3 (by decide) (fun h1 => ?_) (fun h1 => ?_)
  · skip
    refine tk_aload_n X d_Way_put_14 rfl rfl ?_
    refine tk_iload_n X d_Way_put_15 rfl rfl ?_
    refine kw_put X (k := (7, c, j)) (ks_d7 hc hj) rfl hc_Way hi_Way t_Way t_Way_ok n_Way 4 (by decide) rfl m_Way_13 rfl rfl rfl d_Way_put_16 ?_
    exact tk_vret X hlk hr d_Way_put_19 rfl (fun _ h => h) (Or.inr rfl) (kw_st (by rw [k_wput, if_neg h1]) rfl rfl)
  · skip
    refine tk_aload_n X d_Way_put_6 rfl rfl ?_
    refine tk_iload_n X d_Way_put_7 rfl rfl ?_
    refine kw_put X (k := (7, c, j)) (ks_d7 hc hj) rfl hc_Way hi_Way t_Way t_Way_ok n_Way 3 (by decide) rfl m_Way_7 rfl rfl rfl d_Way_put_8 ?_
    refine tk_goto (tgt := 19) X d_Way_put_11 (by decide) ?_
    exact tk_vret X hlk hr d_Way_put_19 rfl (fun _ h => h) (Or.inr rfl) (kw_st (by rw [k_wput, if_pos h1]) rfl rfl)

set_option maxRecDepth 100000 in
set_option maxHeartbeats 4000000 in
theorem c_Store_get (l : Launch) (P : ks_P) (hP : ks_ok P) (x : Int32) (a b : ks_M) (o : ks_O) : kc l P y_Store_get b_Store_get 2 (some .int) 0 [.ref (tk_ad (ks_G P) (1, 0, 0)), .int x] a b o (some (.int (k_get a x))) a b o := by
  have hn64 := ks_n64 hP
  have hT64 := ks_T64 hP
  refine tk_of hP.2.2.2.2.2 (by decide) rfl (Nat.le_of_ble_eq_true rfl) ?_
  intro p e s m below meth c0 X hlk hr hnm
  refine tk_aload_n X d_Store_get_0 rfl rfl ?_
  refine tk_get X (k := (1, 0, 0)) (dm := ks_dm P) (ks_d0 (by decide)) rfl hc_Store hi_Store 0 (by decide) m_Store_9 (v := .ref (tk_ad (ks_G P) (2, 0, 0))) rfl d_Store_get_1 ?_
  refine tk_iload_n X d_Store_get_4 rfl rfl ?_
  refine tk_bipush (v := 63) X d_Store_get_5 (by decide) ?_
  refine tk_iand X d_Store_get_7 ?_
  refine kw_iald X (k := (2, 0, 0)) (ks_d0 (by decide)) rfl (by decide) (q_m63 x) (q_l63 x) (v := _) rfl d_Store_get_8 ?_
  exact tk_iret X hlk hr d_Store_get_9 (rfl) (fun _ h => h) (Or.inr rfl) (fun _ _ => rfl)

set_option maxRecDepth 100000 in
set_option maxHeartbeats 4000000 in
theorem c_Store_put (l : Launch) (P : ks_P) (hP : ks_ok P) (x v : Int32) (a b : ks_M) (o : ks_O) : kc l P y_Store_put b_Store_put 3 none 0 [.ref (tk_ad (ks_G P) (1, 0, 0)), .int x, .int v] a b o (none) (k_put a x v) b o := by
  have hn64 := ks_n64 hP
  have hT64 := ks_T64 hP
  refine tk_of hP.2.2.2.2.2 (by decide) rfl (Nat.le_of_ble_eq_true rfl) ?_
  intro p e s m below meth c0 X hlk hr hnm
  refine tk_aload_n X d_Store_put_0 rfl rfl ?_
  refine tk_get X (k := (1, 0, 0)) (dm := ks_dm P) (ks_d0 (by decide)) rfl hc_Store hi_Store 0 (by decide) m_Store_9 (v := .ref (tk_ad (ks_G P) (2, 0, 0))) rfl d_Store_put_1 ?_
  refine tk_iload_n X d_Store_put_4 rfl rfl ?_
  refine tk_bipush (v := 63) X d_Store_put_5 (by decide) ?_
  refine tk_iand X d_Store_put_7 ?_
  refine tk_iload_n X d_Store_put_8 rfl rfl ?_
  refine kw_iast X (k := (2, 0, 0)) (ks_d0 (by decide)) rfl (by decide) (q_m63 x) (q_l63 x) rfl d_Store_put_9 ?_
  exact tk_vret X hlk hr d_Store_put_10 rfl (fun _ h => h) (Or.inr rfl) (fun _ _ => rfl)

set_option maxRecDepth 100000 in
set_option maxHeartbeats 4000000 in
theorem c_Store_keep (l : Launch) (P : ks_P) (hP : ks_ok P) (c j : Nat) (hc : c < ks_n P) (hj : j < ks_T P) (a b : ks_M) (o : ks_O) : kc l P y_Store_keep b_Store_keep 2 none 1 [.ref (tk_ad (ks_G P) (1, 0, 0)), .ref (tk_ad (ks_G P) (7, c, j))] a b o (none) (k_keep a c j) b o := by
  have hn64 := ks_n64 hP
  have hT64 := ks_T64 hP
  refine tk_of hP.2.2.2.2.2 (by decide) rfl (Nat.le_of_ble_eq_true rfl) ?_
  intro p e s m below meth c0 X hlk hr hnm
  refine tk_aload_n X d_Store_keep_0 rfl rfl ?_
  refine tk_iconst (v := 2) X d_Store_keep_1 (by decide) ?_
  refine tk_aload_n X d_Store_keep_2 rfl rfl ?_
  refine tk_getN X (k := (7, c, j)) (dm := ks_dm P) (ks_d7 hc hj) rfl hc_Way hi_Way 1 (by decide) n_Store_15 (v := .int _) rfl d_Store_keep_3 ?_
  refine tk_imul X d_Store_keep_6 ?_
  refine tk_aload_n X d_Store_keep_7 rfl rfl ?_
  refine tk_getN X (k := (7, c, j)) (dm := ks_dm P) (ks_d7 hc hj) rfl hc_Way hi_Way 3 (by decide) n_Store_21 (v := .int _) rfl d_Store_keep_8 ?_
  refine tk_callV X (kb := (1, 0, 0)) (ks_d0 (by decide)) rfl hc_Store (c_Store_put l P hP _ _ a b o) (ks_site (n := 2) mc_Store_put mi_Store (by decide +kernel) (by decide) (by decide)) m_Store_24 ms_Store_put mv_Store_put rfl (Nat.le_of_ble_eq_true rfl) ⟨Nat.le_of_ble_eq_true rfl, Nat.le_of_ble_eq_true rfl⟩ rfl d_Store_keep_11 ?_
  refine tk_aload_n X d_Store_keep_14 rfl rfl ?_
  refine tk_iconst (v := 2) X d_Store_keep_15 (by decide) ?_
  refine tk_aload_n X d_Store_keep_16 rfl rfl ?_
  refine tk_getN X (k := (7, c, j)) (dm := ks_dm P) (ks_d7 hc hj) rfl hc_Way hi_Way 1 (by decide) n_Store_15 (v := .int _) rfl d_Store_keep_17 ?_
  refine tk_imul X d_Store_keep_20 ?_
  refine tk_iconst (v := 1) X d_Store_keep_21 (by decide) ?_
  refine tk_iadd X d_Store_keep_22 ?_
  refine tk_aload_n X d_Store_keep_23 rfl rfl ?_
  refine tk_getN X (k := (7, c, j)) (dm := ks_dm P) (ks_d7 hc hj) rfl hc_Way hi_Way 4 (by decide) n_Store_28 (v := .int _) rfl d_Store_keep_24 ?_
  refine tk_callV X (kb := (1, 0, 0)) (ks_d0 (by decide)) rfl hc_Store (c_Store_put l P hP _ _ (k_keep1 a c j) b o) (ks_site (n := 2) mc_Store_put mi_Store (by decide +kernel) (by decide) (by decide)) m_Store_24 ms_Store_put mv_Store_put rfl (Nat.le_of_ble_eq_true rfl) ⟨Nat.le_of_ble_eq_true rfl, Nat.le_of_ble_eq_true rfl⟩ rfl d_Store_keep_27 ?_
  exact tk_vret X hlk hr d_Store_keep_30 rfl (fun _ h => h) (Or.inr rfl) (fun _ _ => rfl)

set_option maxRecDepth 100000 in
set_option maxHeartbeats 4000000 in
theorem c_Store_fill (l : Launch) (P : ks_P) (hP : ks_ok P) (c j : Nat) (hc : c < ks_n P) (hj : j < ks_T P) (x : Int32) (a b : ks_M) (o : ks_O) : kc l P y_Store_fill b_Store_fill 3 none 1 [.ref (tk_ad (ks_G P) (1, 0, 0)), .ref (tk_ad (ks_G P) (7, c, j)), .int x] a b o (none) (k_fill a c j x) b o := by
  have hn64 := ks_n64 hP
  have hT64 := ks_T64 hP
  refine tk_of hP.2.2.2.2.2 (by decide) rfl (Nat.le_of_ble_eq_true rfl) ?_
  intro p e s m below meth c0 X hlk hr hnm
  refine tk_aload_n X d_Store_fill_0 rfl rfl ?_
  refine tk_iload_n X d_Store_fill_1 rfl rfl ?_
  refine kw_putN X (k := (7, c, j)) (ks_d7 hc hj) rfl hc_Way hi_Way t_Way t_Way_ok n_Way 1 (by decide) rfl n_Store_15 rfl rfl rfl d_Store_fill_2 ?_
  refine tk_aload_n X d_Store_fill_5 rfl rfl ?_
  refine tk_aload_n X d_Store_fill_6 rfl rfl ?_
  refine tk_iconst (v := 2) X d_Store_fill_7 (by decide) ?_
  refine tk_iload_n X d_Store_fill_8 rfl rfl ?_
  refine tk_imul X d_Store_fill_9 ?_
  refine tk_callV X (kb := (1, 0, 0)) (ks_d0 (by decide)) rfl hc_Store (c_Store_get l P hP _ (k_fill1 a c j x) b o) (ks_site (n := 1) mc_Store_get mi_Store (by decide +kernel) (by decide) (by decide)) m_Store_31 ms_Store_get mv_Store_get rfl (Nat.le_of_ble_eq_true rfl) ⟨Nat.le_of_ble_eq_true rfl, Nat.le_of_ble_eq_true rfl⟩ rfl d_Store_fill_10 ?_
  refine kw_putN X (k := (7, c, j)) (ks_d7 hc hj) rfl hc_Way hi_Way t_Way t_Way_ok n_Way 3 (by decide) rfl n_Store_21 rfl rfl rfl d_Store_fill_13 ?_
  refine tk_aload_n X d_Store_fill_16 rfl rfl ?_
  refine tk_aload_n X d_Store_fill_17 rfl rfl ?_
  refine tk_iconst (v := 2) X d_Store_fill_18 (by decide) ?_
  refine tk_iload_n X d_Store_fill_19 rfl rfl ?_
  refine tk_imul X d_Store_fill_20 ?_
  refine tk_iconst (v := 1) X d_Store_fill_21 (by decide) ?_
  refine tk_iadd X d_Store_fill_22 ?_
  refine tk_callV X (kb := (1, 0, 0)) (ks_d0 (by decide)) rfl hc_Store (c_Store_get l P hP _ (k_fill2 a c j x) b o) (ks_site (n := 1) mc_Store_get mi_Store (by decide +kernel) (by decide) (by decide)) m_Store_31 ms_Store_get mv_Store_get rfl (Nat.le_of_ble_eq_true rfl) ⟨Nat.le_of_ble_eq_true rfl, Nat.le_of_ble_eq_true rfl⟩ rfl d_Store_fill_23 ?_
  refine kw_putN X (k := (7, c, j)) (ks_d7 hc hj) rfl hc_Way hi_Way t_Way t_Way_ok n_Way 4 (by decide) rfl n_Store_28 rfl rfl rfl d_Store_fill_26 ?_
  exact tk_vret X hlk hr d_Store_fill_29 rfl (fun _ h => h) (Or.inr rfl) (fun _ _ => rfl)
