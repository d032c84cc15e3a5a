set_option maxRecDepth 100000 in
set_option maxHeartbeats 4000000 in
theorem c_Core_abort (l : Launch) (P : ks_P) (hP : ks_ok P) (c : Nat) (hc : c < ks_n P) (q : Nat) (hq : q < 6) (v : Int32) (a b : ks_M) (o : ks_O) : kc l P y_Core_abort b_Core_abort 3 (some .int) 1 [.ref (tk_ad (ks_G P) (4, c, 0)), .int (nI q), .int v] a b o (some (.int 2)) (k_abort (ks_T P) a c q v) b o := by
  have hn64 := ks_n64 hP
  have hT64 := ks_T64 hP
  refine tk_of hP.2.2.2.2.2 (by decide) rfl (Nat.le_of_ble_eq_true rfl) ?_
  intro p e s m below meth c0 X hlk hr hnm
  refine tk_aload_n X d_Core_abort_0 rfl rfl ?_
  refine tk_get X (k := (4, c, 0)) (dm := ks_dm P) (ks_d4 hc) rfl hc_Core hi_Core 1 (by decide) m_Core_28 (v := .ref (tk_ad (ks_G P) (5, c, 0))) rfl d_Core_abort_1 ?_
  refine tk_callV X (kb := (5, c, 0)) (ks_d5 hc) rfl hc_Cache (c_Cache_dropWritten l P hP c hc a b o) (ks_site (n := 0) mc_Cache_dropWritten mi_Cache (by decide +kernel) (by decide) (by decide)) m_Core_79 ms_Cache_dropWritten mv_Cache_dropWritten rfl (Nat.le_of_ble_eq_true rfl) ⟨Nat.le_of_ble_eq_true rfl, Nat.le_of_ble_eq_true rfl⟩ rfl d_Core_abort_4 ?_
  refine tk_aload_n X d_Core_abort_7 rfl rfl ?_
  refine tk_get X (k := (4, c, 0)) (dm := ks_dm P) (ks_d4 hc) rfl hc_Core hi_Core 1 (by decide) m_Core_28 (v := .ref (tk_ad (ks_G P) (5, c, 0))) rfl d_Core_abort_8 ?_
  refine tk_callV X (kb := (5, c, 0)) (ks_d5 hc) rfl hc_Cache (c_Cache_dropMarks l P hP c hc (k_dw a c (ks_T P)) b o) (ks_site (n := 0) mc_Cache_dropMarks mi_Cache (by decide +kernel) (by decide) (by decide)) m_Core_70 ms_Cache_dropMarks mv_Cache_dropMarks rfl (Nat.le_of_ble_eq_true rfl) ⟨Nat.le_of_ble_eq_true rfl, Nat.le_of_ble_eq_true rfl⟩ rfl d_Core_abort_11 ?_
  refine tk_aload_n X d_Core_abort_14 rfl rfl ?_
  refine tk_get X (k := (4, c, 0)) (dm := ks_dm P) (ks_d4 hc) rfl hc_Core hi_Core 4 (by decide) m_Core_18 (v := .ref (tk_ad (ks_G P) (10, c, 0))) rfl d_Core_abort_15 ?_
  refine tk_iconst (v := 0) X d_Core_abort_18 (by decide) ?_
  refine tk_aload_n X d_Core_abort_19 rfl rfl ?_
  refine tk_get X (k := (4, c, 0)) (dm := ks_dm P) (ks_d4 hc) rfl hc_Core hi_Core 3 (by decide) m_Core_15 (v := .ref (tk_ad (ks_G P) (9, c, 0))) rfl d_Core_abort_20 ?_
  refine tk_iconst (v := 0) X d_Core_abort_23 (by decide) ?_
  refine tk_bipush (v := 8) X d_Core_abort_24 (by decide) ?_
  refine kw_copy X m_Core_61 (k0 := (10, c, 0)) (k1 := (9, c, 0)) (ks_d10 hc) (ks_d9 hc) rfl rfl (fun _ => rfl) (fun _ => rfl) (Nat.le_of_ble_eq_true rfl) (Nat.le_of_ble_eq_true rfl) d_Core_abort_26 ?_
  refine tk_aload_n X d_Core_abort_29 rfl rfl ?_
  refine tk_get X (k := (4, c, 0)) (dm := ks_dm P) (ks_d4 hc) rfl hc_Core hi_Core 3 (by decide) m_Core_15 (v := .ref (tk_ad (ks_G P) (9, c, 0))) rfl d_Core_abort_30 ?_
  refine tk_bipush (v := 7) X d_Core_abort_33 (by decide) ?_
  refine tk_iload_n X d_Core_abort_35 rfl rfl ?_
  refine tk_iload_n X d_Core_abort_36 rfl rfl ?_
  refine tk_iadd X d_Core_abort_37 ?_
  refine kw_iast X (k := (9, c, 0)) (ks_d9 hc) rfl (by decide) rfl (by decide) rfl d_Core_abort_38 ?_
  refine tk_aload_n X d_Core_abort_39 rfl rfl ?_
  refine tk_aload_n X d_Core_abort_40 rfl rfl ?_
  refine tk_get X (k := (4, c, 0)) (dm := ks_dm P) (ks_d4 hc) rfl hc_Core hi_Core 7 (by decide) m_Core_67 (v := .int _) rfl d_Core_abort_41 ?_
  refine kw_put X (k := (4, c, 0)) (ks_d4 hc) rfl hc_Core hi_Core t_Core t_Core_ok n_Core 6 (by decide) rfl m_Core_51 rfl rfl rfl d_Core_abort_44 ?_
  refine tk_aload_n X d_Core_abort_47 rfl rfl ?_
  refine tk_iconst (v := 0) X d_Core_abort_48 (by decide) ?_
  refine kw_put X (k := (4, c, 0)) (ks_d4 hc) rfl hc_Core hi_Core t_Core t_Core_ok n_Core 8 (by decide) rfl m_Core_48 rfl rfl rfl d_Core_abort_49 ?_
  refine tk_aload_n X d_Core_abort_52 rfl rfl ?_
  refine tk_get X (k := (4, c, 0)) (dm := ks_dm P) (ks_d4 hc) rfl hc_Core hi_Core 5 (by decide) m_Core_21 (v := .ref (tk_ad (ks_G P) (11, c, 0))) rfl d_Core_abort_53 ?_
  refine tk_iload_n X d_Core_abort_56 rfl rfl ?_
  refine tk_dup2 X rfl rfl d_Core_abort_57 ?_
  refine kw_iald X (k := (11, c, 0)) (ks_d11 hc) rfl (by decide) rfl hq (v := _) rfl d_Core_abort_58 ?_
  refine tk_iconst (v := 1) X d_Core_abort_59 (by decide) ?_
  refine tk_iadd X d_Core_abort_60 ?_
  refine kw_iast X (k := (11, c, 0)) (ks_d11 hc) rfl (by decide) rfl hq rfl d_Core_abort_61 ?_
  refine tk_iconst (v := 2) X d_Core_abort_62 (by decide) ?_
  exact tk_iret X hlk hr d_Core_abort_63 (rfl) (fun _ h => h) (Or.inr rfl) (fun _ _ => rfl)

set_option maxRecDepth 100000 in
set_option maxHeartbeats 4000000 in
theorem c_Core_addressOf (l : Launch) (P : ks_P) (hP : ks_ok P) (c : Nat) (hc : c < ks_n P) (x : Int32) (a b : ks_M) (o : ks_O) : kc l P y_Core_addressOf b_Core_addressOf 2 (some .int) 2 [.ref (tk_ad (ks_G P) (4, c, 0)), .int x] a b o (some (.int (k_addr a c x))) a b o := by
  have hn64 := ks_n64 hP
  have hT64 := ks_T64 hP
  refine tk_of hP.2.2.2.2.2 (by decide) rfl (Nat.le_of_ble_eq_true rfl) ?_
  intro p e s m below meth c0 X hlk hr hnm
  refine tk_aload_n X d_Core_addressOf_0 rfl rfl ?_
  refine tk_get X (k := (4, c, 0)) (dm := ks_dm P) (ks_d4 hc) rfl hc_Core hi_Core 3 (by decide) m_Core_15 (v := .ref (tk_ad (ks_G P) (9, c, 0))) rfl d_Core_addressOf_1 ?_
  refine tk_iload_n X d_Core_addressOf_4 rfl rfl ?_
  refine tk_callSN X (c_TC_registerB l P hP x a b o) (ks_site (n := 1) mc_TC_registerB mi_TC (by decide +kernel) (by decide) (by decide)) n_Core_32 ms_TC_registerB rfl (Nat.le_of_ble_eq_true rfl) ⟨Nat.le_of_ble_eq_true rfl, Nat.le_of_ble_eq_true rfl⟩ rfl d_Core_addressOf_5 ?_
  refine kw_iald X (k := (9, c, 0)) (ks_d9 hc) rfl (by decide) (q_mB x) (q_lB x) (v := _) rfl d_Core_addressOf_8 ?_
  refine tk_iload_n X d_Core_addressOf_9 rfl rfl ?_
  refine tk_callSN X (c_TC_immediateOf l P hP x a b o) (ks_site (n := 1) mc_TC_immediateOf mi_TC (by decide +kernel) (by decide) (by decide)) n_Core_45 ms_TC_immediateOf rfl (Nat.le_of_ble_eq_true rfl) ⟨Nat.le_of_ble_eq_true rfl, Nat.le_of_ble_eq_true rfl⟩ rfl d_Core_addressOf_10 ?_
  refine tk_iadd X d_Core_addressOf_13 ?_
  exact tk_iret X hlk hr d_Core_addressOf_14 (rfl) (fun _ h => h) (Or.inr rfl) (fun _ _ => rfl)

set_option maxRecDepth 100000 in
set_option maxHeartbeats 4000000 in
theorem c_Core_reckon (l : Launch) (P : ks_P) (hP : ks_ok P) (c : Nat) (hc : c < ks_n P) (x : Int32) (a b : ks_M) (o : ks_O) : kc l P y_Core_reckon b_Core_reckon 5 none 2 [.ref (tk_ad (ks_G P) (4, c, 0)), .int x] a b o (none) (k_reckon a c x) b o := by
  have hn64 := ks_n64 hP
  have hT64 := ks_T64 hP
  refine tk_of hP.2.2.2.2.2 (by decide) rfl (Nat.le_of_ble_eq_true rfl) ?_
  intro p e s m below meth c0 X hlk hr hnm
  refine tk_aload_n X d_Core_reckon_0 rfl rfl ?_
  refine tk_get X (k := (4, c, 0)) (dm := ks_dm P) (ks_d4 hc) rfl hc_Core hi_Core 3 (by decide) m_Core_15 (v := .ref (tk_ad (ks_G P) (9, c, 0))) rfl d_Core_reckon_1 ?_
  refine tk_iload_n X d_Core_reckon_4 rfl rfl ?_
  refine tk_callSN X (c_TC_registerB l P hP x a b o) (ks_site (n := 1) mc_TC_registerB mi_TC (by decide +kernel) (by decide) (by decide)) n_Core_32 ms_TC_registerB rfl (Nat.le_of_ble_eq_true rfl) ⟨Nat.le_of_ble_eq_true rfl, Nat.le_of_ble_eq_true rfl⟩ rfl d_Core_reckon_5 ?_
  refine kw_iald X (k := (9, c, 0)) (ks_d9 hc) rfl (by decide) (q_mB x) (q_lB x) (v := _) rfl d_Core_reckon_8 ?_
  refine tk_istore_n X d_Core_reckon_9 rfl (by decide) rfl ?_
  refine tk_aload_n X d_Core_reckon_10 rfl rfl ?_
  refine tk_get X (k := (4, c, 0)) (dm := ks_dm P) (ks_d4 hc) rfl hc_Core hi_Core 3 (by decide) m_Core_15 (v := .ref (tk_ad (ks_G P) (9, c, 0))) rfl d_Core_reckon_11 ?_
  refine tk_iload_n X d_Core_reckon_14 rfl rfl ?_
  refine tk_callSN X (c_TC_registerC l P hP x a b o) (ks_site (n := 1) mc_TC_registerC mi_TC (by decide +kernel) (by decide) (by decide)) n_Core_36 ms_TC_registerC rfl (Nat.le_of_ble_eq_true rfl) ⟨Nat.le_of_ble_eq_true rfl, Nat.le_of_ble_eq_true rfl⟩ rfl d_Core_reckon_15 ?_
  refine kw_iald X (k := (9, c, 0)) (ks_d9 hc) rfl (by decide) (q_mC x) (q_lC x) (v := _) rfl d_Core_reckon_18 ?_
  refine tk_istore_n X d_Core_reckon_19 rfl (by decide) rfl ?_
  refine tk_iload_n X d_Core_reckon_20 rfl rfl ?_
  refine tk_callSN X (c_TC_registerA l P hP x a b o) (ks_site (n := 1) mc_TC_registerA mi_TC (by decide +kernel) (by decide) (by decide)) n_Core_39 ms_TC_registerA rfl (Nat.le_of_ble_eq_true rfl) ⟨Nat.le_of_ble_eq_true rfl, Nat.le_of_ble_eq_true rfl⟩ rfl d_Core_reckon_21 ?_
  refine tk_istore X d_Core_reckon_24 (by decide) rfl ?_
  refine tk_iload_n X d_Core_reckon_26 rfl rfl ?_
  refine tk_callSN X (c_TC_kindOf l P hP x a b o) (ks_site (n := 1) mc_TC_kindOf mi_TC (by decide +kernel) (by decide) (by decide)) n_Core_42 ms_TC_kindOf rfl (Nat.le_of_ble_eq_true rfl) ⟨Nat.le_of_ble_eq_true rfl, Nat.le_of_ble_eq_true rfl⟩ rfl d_Core_reckon_27 ?_
  by_cases h1 : x &&& 15 = 1
  · skip
    refine tk_tableAt (K := 1) (tgt := 92) X h1 d_Core_reckon_30 (by decide) (by decide) rfl (by decide) ?_
    refine tk_aload_n X d_Core_reckon_92 rfl rfl ?_
    refine tk_get X (k := (4, c, 0)) (dm := ks_dm P) (ks_d4 hc) rfl hc_Core hi_Core 3 (by decide) m_Core_15 (v := .ref (tk_ad (ks_G P) (9, c, 0))) rfl d_Core_reckon_93 ?_
    refine tk_iload X d_Core_reckon_96 rfl ?_
    refine tk_iload_n X d_Core_reckon_98 rfl rfl ?_
    refine tk_callSN X (c_TC_immediateOf l P hP x a b o) (ks_site (n := 1) mc_TC_immediateOf mi_TC (by decide +kernel) (by decide) (by decide)) n_Core_45 ms_TC_immediateOf rfl (Nat.le_of_ble_eq_true rfl) ⟨Nat.le_of_ble_eq_true rfl, Nat.le_of_ble_eq_true rfl⟩ rfl d_Core_reckon_99 ?_
    refine kw_iast X (k := (9, c, 0)) (ks_d9 hc) rfl (by decide) (q_mA x) (q_lA x) rfl d_Core_reckon_102 ?_
    refine tk_goto (tgt := 170) X d_Core_reckon_103 (by decide) ?_
    exact tk_vret X hlk hr d_Core_reckon_170 rfl (fun _ h => h) (Or.inr rfl) (kw_st (by rw [k_reckon, if_pos h1] <;> rfl) rfl rfl)
  by_cases h2 : x &&& 15 = 2
  · skip
    refine tk_tableAt (K := 2) (tgt := 106) X h2 d_Core_reckon_30 (by decide) (by decide) rfl (by decide) ?_
    refine tk_aload_n X d_Core_reckon_106 rfl rfl ?_
    refine tk_get X (k := (4, c, 0)) (dm := ks_dm P) (ks_d4 hc) rfl hc_Core hi_Core 3 (by decide) m_Core_15 (v := .ref (tk_ad (ks_G P) (9, c, 0))) rfl d_Core_reckon_107 ?_
    refine tk_iload X d_Core_reckon_110 rfl ?_
    refine tk_iload_n X d_Core_reckon_112 rfl rfl ?_
    refine tk_iload_n X d_Core_reckon_113 rfl rfl ?_
    refine tk_iadd X d_Core_reckon_114 ?_
    refine kw_iast X (k := (9, c, 0)) (ks_d9 hc) rfl (by decide) (q_mA x) (q_lA x) rfl d_Core_reckon_115 ?_
    refine tk_goto (tgt := 170) X d_Core_reckon_116 (by decide) ?_
    exact tk_vret X hlk hr d_Core_reckon_170 rfl (fun _ h => h) (Or.inr rfl) (kw_st (by rw [k_reckon, if_neg (by rw [h2]; decide), if_pos h2] <;> rfl) rfl rfl)
  by_cases h3 : x &&& 15 = 3
  · skip
    refine tk_tableAt (K := 3) (tgt := 119) X h3 d_Core_reckon_30 (by decide) (by decide) rfl (by decide) ?_
    refine tk_aload_n X d_Core_reckon_119 rfl rfl ?_
    refine tk_get X (k := (4, c, 0)) (dm := ks_dm P) (ks_d4 hc) rfl hc_Core hi_Core 3 (by decide) m_Core_15 (v := .ref (tk_ad (ks_G P) (9, c, 0))) rfl d_Core_reckon_120 ?_
    refine tk_iload X d_Core_reckon_123 rfl ?_
    refine tk_iload_n X d_Core_reckon_125 rfl rfl ?_
    refine tk_iload_n X d_Core_reckon_126 rfl rfl ?_
    refine tk_isub X d_Core_reckon_127 ?_
    refine kw_iast X (k := (9, c, 0)) (ks_d9 hc) rfl (by decide) (q_mA x) (q_lA x) rfl d_Core_reckon_128 ?_
    refine tk_goto (tgt := 170) X d_Core_reckon_129 (by decide) ?_
    exact tk_vret X hlk hr d_Core_reckon_170 rfl (fun _ h => h) (Or.inr rfl) (kw_st (by rw [k_reckon, if_neg (by rw [h3]; decide), if_neg (by rw [h3]; decide), if_pos h3] <;> rfl) rfl rfl)
  by_cases h4 : x &&& 15 = 4
  · skip
    refine tk_tableAt (K := 4) (tgt := 132) X h4 d_Core_reckon_30 (by decide) (by decide) rfl (by decide) ?_
    refine tk_aload_n X d_Core_reckon_132 rfl rfl ?_
    refine tk_get X (k := (4, c, 0)) (dm := ks_dm P) (ks_d4 hc) rfl hc_Core hi_Core 3 (by decide) m_Core_15 (v := .ref (tk_ad (ks_G P) (9, c, 0))) rfl d_Core_reckon_133 ?_
    refine tk_iload X d_Core_reckon_136 rfl ?_
    refine tk_iload_n X d_Core_reckon_138 rfl rfl ?_
    refine tk_iload_n X d_Core_reckon_139 rfl rfl ?_
    refine tk_iand X d_Core_reckon_140 ?_
    refine kw_iast X (k := (9, c, 0)) (ks_d9 hc) rfl (by decide) (q_mA x) (q_lA x) rfl d_Core_reckon_141 ?_
    refine tk_goto (tgt := 170) X d_Core_reckon_142 (by decide) ?_
    exact tk_vret X hlk hr d_Core_reckon_170 rfl (fun _ h => h) (Or.inr rfl) (kw_st (by rw [k_reckon, if_neg (by rw [h4]; decide), if_neg (by rw [h4]; decide), if_neg (by rw [h4]; decide), if_pos h4] <;> rfl) rfl rfl)
  by_cases h5 : x &&& 15 = 5
  · skip
    refine tk_tableAt (K := 5) (tgt := 159) X h5 d_Core_reckon_30 (by decide) (by decide) rfl (by decide) ?_
    refine tk_aload_n X d_Core_reckon_159 rfl rfl ?_
    refine tk_get X (k := (4, c, 0)) (dm := ks_dm P) (ks_d4 hc) rfl hc_Core hi_Core 3 (by decide) m_Core_15 (v := .ref (tk_ad (ks_G P) (9, c, 0))) rfl d_Core_reckon_160 ?_
    refine tk_iload X d_Core_reckon_163 rfl ?_
    refine tk_aload_n X d_Core_reckon_165 rfl rfl ?_
    refine tk_get X (k := (4, c, 0)) (dm := ks_dm P) (ks_d4 hc) rfl hc_Core hi_Core 0 (by decide) m_Core_24 (v := .int _) rfl d_Core_reckon_166 ?_
    refine kw_iast X (k := (9, c, 0)) (ks_d9 hc) rfl (by decide) (q_mA x) (q_lA x) rfl d_Core_reckon_169 ?_
    exact tk_vret X hlk hr d_Core_reckon_170 rfl (fun _ h => h) (Or.inr rfl) (kw_st (by rw [k_reckon, if_neg (by rw [h5]; decide), if_neg (by rw [h5]; decide), if_neg (by rw [h5]; decide), if_neg (by rw [h5]; decide), if_neg (by rw [h5]; decide)] <;> rfl) rfl rfl)
  by_cases h6 : x &&& 15 = 6
  · skip
    refine tk_tableAt (K := 6) (tgt := 159) X h6 d_Core_reckon_30 (by decide) (by decide) rfl (by decide) ?_
    refine tk_aload_n X d_Core_reckon_159 rfl rfl ?_
    refine tk_get X (k := (4, c, 0)) (dm := ks_dm P) (ks_d4 hc) rfl hc_Core hi_Core 3 (by decide) m_Core_15 (v := .ref (tk_ad (ks_G P) (9, c, 0))) rfl d_Core_reckon_160 ?_
    refine tk_iload X d_Core_reckon_163 rfl ?_
    refine tk_aload_n X d_Core_reckon_165 rfl rfl ?_
    refine tk_get X (k := (4, c, 0)) (dm := ks_dm P) (ks_d4 hc) rfl hc_Core hi_Core 0 (by decide) m_Core_24 (v := .int _) rfl d_Core_reckon_166 ?_
    refine kw_iast X (k := (9, c, 0)) (ks_d9 hc) rfl (by decide) (q_mA x) (q_lA x) rfl d_Core_reckon_169 ?_
    exact tk_vret X hlk hr d_Core_reckon_170 rfl (fun _ h => h) (Or.inr rfl) (kw_st (by rw [k_reckon, if_neg (by rw [h6]; decide), if_neg (by rw [h6]; decide), if_neg (by rw [h6]; decide), if_neg (by rw [h6]; decide), if_neg (by rw [h6]; decide)] <;> rfl) rfl rfl)
  by_cases h7 : x &&& 15 = 7
  · skip
    refine tk_tableAt (K := 7) (tgt := 159) X h7 d_Core_reckon_30 (by decide) (by decide) rfl (by decide) ?_
    refine tk_aload_n X d_Core_reckon_159 rfl rfl ?_
    refine tk_get X (k := (4, c, 0)) (dm := ks_dm P) (ks_d4 hc) rfl hc_Core hi_Core 3 (by decide) m_Core_15 (v := .ref (tk_ad (ks_G P) (9, c, 0))) rfl d_Core_reckon_160 ?_
    refine tk_iload X d_Core_reckon_163 rfl ?_
    refine tk_aload_n X d_Core_reckon_165 rfl rfl ?_
    refine tk_get X (k := (4, c, 0)) (dm := ks_dm P) (ks_d4 hc) rfl hc_Core hi_Core 0 (by decide) m_Core_24 (v := .int _) rfl d_Core_reckon_166 ?_
    refine kw_iast X (k := (9, c, 0)) (ks_d9 hc) rfl (by decide) (q_mA x) (q_lA x) rfl d_Core_reckon_169 ?_
    exact tk_vret X hlk hr d_Core_reckon_170 rfl (fun _ h => h) (Or.inr rfl) (kw_st (by rw [k_reckon, if_neg (by rw [h7]; decide), if_neg (by rw [h7]; decide), if_neg (by rw [h7]; decide), if_neg (by rw [h7]; decide), if_neg (by rw [h7]; decide)] <;> rfl) rfl rfl)
  by_cases h8 : x &&& 15 = 8
  · skip
    refine tk_tableAt (K := 8) (tgt := 159) X h8 d_Core_reckon_30 (by decide) (by decide) rfl (by decide) ?_
    refine tk_aload_n X d_Core_reckon_159 rfl rfl ?_
    refine tk_get X (k := (4, c, 0)) (dm := ks_dm P) (ks_d4 hc) rfl hc_Core hi_Core 3 (by decide) m_Core_15 (v := .ref (tk_ad (ks_G P) (9, c, 0))) rfl d_Core_reckon_160 ?_
    refine tk_iload X d_Core_reckon_163 rfl ?_
    refine tk_aload_n X d_Core_reckon_165 rfl rfl ?_
    refine tk_get X (k := (4, c, 0)) (dm := ks_dm P) (ks_d4 hc) rfl hc_Core hi_Core 0 (by decide) m_Core_24 (v := .int _) rfl d_Core_reckon_166 ?_
    refine kw_iast X (k := (9, c, 0)) (ks_d9 hc) rfl (by decide) (q_mA x) (q_lA x) rfl d_Core_reckon_169 ?_
    exact tk_vret X hlk hr d_Core_reckon_170 rfl (fun _ h => h) (Or.inr rfl) (kw_st (by rw [k_reckon, if_neg (by rw [h8]; decide), if_neg (by rw [h8]; decide), if_neg (by rw [h8]; decide), if_neg (by rw [h8]; decide), if_neg (by rw [h8]; decide)] <;> rfl) rfl rfl)
  by_cases h9 : x &&& 15 = 9
  · skip
    refine tk_tableAt (K := 9) (tgt := 159) X h9 d_Core_reckon_30 (by decide) (by decide) rfl (by decide) ?_
    refine tk_aload_n X d_Core_reckon_159 rfl rfl ?_
    refine tk_get X (k := (4, c, 0)) (dm := ks_dm P) (ks_d4 hc) rfl hc_Core hi_Core 3 (by decide) m_Core_15 (v := .ref (tk_ad (ks_G P) (9, c, 0))) rfl d_Core_reckon_160 ?_
    refine tk_iload X d_Core_reckon_163 rfl ?_
    refine tk_aload_n X d_Core_reckon_165 rfl rfl ?_
    refine tk_get X (k := (4, c, 0)) (dm := ks_dm P) (ks_d4 hc) rfl hc_Core hi_Core 0 (by decide) m_Core_24 (v := .int _) rfl d_Core_reckon_166 ?_
    refine kw_iast X (k := (9, c, 0)) (ks_d9 hc) rfl (by decide) (q_mA x) (q_lA x) rfl d_Core_reckon_169 ?_
    exact tk_vret X hlk hr d_Core_reckon_170 rfl (fun _ h => h) (Or.inr rfl) (kw_st (by rw [k_reckon, if_neg (by rw [h9]; decide), if_neg (by rw [h9]; decide), if_neg (by rw [h9]; decide), if_neg (by rw [h9]; decide), if_neg (by rw [h9]; decide)] <;> rfl) rfl rfl)
  by_cases h10 : x &&& 15 = 10
  · skip
    refine tk_tableAt (K := 10) (tgt := 159) X h10 d_Core_reckon_30 (by decide) (by decide) rfl (by decide) ?_
    refine tk_aload_n X d_Core_reckon_159 rfl rfl ?_
    refine tk_get X (k := (4, c, 0)) (dm := ks_dm P) (ks_d4 hc) rfl hc_Core hi_Core 3 (by decide) m_Core_15 (v := .ref (tk_ad (ks_G P) (9, c, 0))) rfl d_Core_reckon_160 ?_
    refine tk_iload X d_Core_reckon_163 rfl ?_
    refine tk_aload_n X d_Core_reckon_165 rfl rfl ?_
    refine tk_get X (k := (4, c, 0)) (dm := ks_dm P) (ks_d4 hc) rfl hc_Core hi_Core 0 (by decide) m_Core_24 (v := .int _) rfl d_Core_reckon_166 ?_
    refine kw_iast X (k := (9, c, 0)) (ks_d9 hc) rfl (by decide) (q_mA x) (q_lA x) rfl d_Core_reckon_169 ?_
    exact tk_vret X hlk hr d_Core_reckon_170 rfl (fun _ h => h) (Or.inr rfl) (kw_st (by rw [k_reckon, if_neg (by rw [h10]; decide), if_neg (by rw [h10]; decide), if_neg (by rw [h10]; decide), if_neg (by rw [h10]; decide), if_neg (by rw [h10]; decide)] <;> rfl) rfl rfl)
  by_cases h11 : x &&& 15 = 11
  · skip
    refine tk_tableAt (K := 11) (tgt := 159) X h11 d_Core_reckon_30 (by decide) (by decide) rfl (by decide) ?_
    refine tk_aload_n X d_Core_reckon_159 rfl rfl ?_
    refine tk_get X (k := (4, c, 0)) (dm := ks_dm P) (ks_d4 hc) rfl hc_Core hi_Core 3 (by decide) m_Core_15 (v := .ref (tk_ad (ks_G P) (9, c, 0))) rfl d_Core_reckon_160 ?_
    refine tk_iload X d_Core_reckon_163 rfl ?_
    refine tk_aload_n X d_Core_reckon_165 rfl rfl ?_
    refine tk_get X (k := (4, c, 0)) (dm := ks_dm P) (ks_d4 hc) rfl hc_Core hi_Core 0 (by decide) m_Core_24 (v := .int _) rfl d_Core_reckon_166 ?_
    refine kw_iast X (k := (9, c, 0)) (ks_d9 hc) rfl (by decide) (q_mA x) (q_lA x) rfl d_Core_reckon_169 ?_
    exact tk_vret X hlk hr d_Core_reckon_170 rfl (fun _ h => h) (Or.inr rfl) (kw_st (by rw [k_reckon, if_neg (by rw [h11]; decide), if_neg (by rw [h11]; decide), if_neg (by rw [h11]; decide), if_neg (by rw [h11]; decide), if_neg (by rw [h11]; decide)] <;> rfl) rfl rfl)
  by_cases h12 : x &&& 15 = 12
  · skip
    refine tk_tableAt (K := 12) (tgt := 145) X h12 d_Core_reckon_30 (by decide) (by decide) rfl (by decide) ?_
    refine tk_aload_n X d_Core_reckon_145 rfl rfl ?_
    refine tk_get X (k := (4, c, 0)) (dm := ks_dm P) (ks_d4 hc) rfl hc_Core hi_Core 3 (by decide) m_Core_15 (v := .ref (tk_ad (ks_G P) (9, c, 0))) rfl d_Core_reckon_146 ?_
    refine tk_iload X d_Core_reckon_149 rfl ?_
    refine tk_aload_n X d_Core_reckon_151 rfl rfl ?_
    refine tk_get X (k := (4, c, 0)) (dm := ks_dm P) (ks_d4 hc) rfl hc_Core hi_Core 8 (by decide) m_Core_48 (v := .int _) rfl d_Core_reckon_152 ?_
    refine kw_iast X (k := (9, c, 0)) (ks_d9 hc) rfl (by decide) (q_mA x) (q_lA x) rfl d_Core_reckon_155 ?_
    refine tk_goto (tgt := 170) X d_Core_reckon_156 (by decide) ?_
    exact tk_vret X hlk hr d_Core_reckon_170 rfl (fun _ h => h) (Or.inr rfl) (kw_st (by rw [k_reckon, if_neg (by rw [h12]; decide), if_neg (by rw [h12]; decide), if_neg (by rw [h12]; decide), if_neg (by rw [h12]; decide), if_pos h12] <;> rfl) rfl rfl)
  refine tk_tableOut (tgt := 159) X d_Core_reckon_30 (by have := lv_neT (a := 1) h1 (by decide); have := lv_neT (a := 2) h2 (by decide); have := lv_neT (a := 3) h3 (by decide); have := lv_neT (a := 4) h4 (by decide); have := lv_neT (a := 5) h5 (by decide); have := lv_neT (a := 6) h6 (by decide); have := lv_neT (a := 7) h7 (by decide); have := lv_neT (a := 8) h8 (by decide); have := lv_neT (a := 9) h9 (by decide); have := lv_neT (a := 10) h10 (by decide); have := lv_neT (a := 11) h11 (by decide); have := lv_neT (a := 12) h12 (by decide); omega) (by decide) ?_
  refine tk_aload_n X d_Core_reckon_159 rfl rfl ?_
  refine tk_get X (k := (4, c, 0)) (dm := ks_dm P) (ks_d4 hc) rfl hc_Core hi_Core 3 (by decide) m_Core_15 (v := .ref (tk_ad (ks_G P) (9, c, 0))) rfl d_Core_reckon_160 ?_
  refine tk_iload X d_Core_reckon_163 rfl ?_
  refine tk_aload_n X d_Core_reckon_165 rfl rfl ?_
  refine tk_get X (k := (4, c, 0)) (dm := ks_dm P) (ks_d4 hc) rfl hc_Core hi_Core 0 (by decide) m_Core_24 (v := .int _) rfl d_Core_reckon_166 ?_
  refine kw_iast X (k := (9, c, 0)) (ks_d9 hc) rfl (by decide) (q_mA x) (q_lA x) rfl d_Core_reckon_169 ?_
  exact tk_vret X hlk hr d_Core_reckon_170 rfl (fun _ h => h) (Or.inr rfl) (kw_st (by rw [k_reckon, if_neg h1, if_neg h2, if_neg h3, if_neg h4, if_neg h12] <;> rfl) rfl rfl)

set_option maxRecDepth 100000 in
set_option maxHeartbeats 4000000 in
theorem c_Core_branch (l : Launch) (P : ks_P) (hP : ks_ok P) (c : Nat) (hc : c < ks_n P) (x : Int32) (a b : ks_M) (o : ks_O) : kc l P y_Core_branch b_Core_branch 4 none 2 [.ref (tk_ad (ks_G P) (4, c, 0)), .int x] a b o (none) (k_branch a c x) b o := by
  have hn64 := ks_n64 hP
  have hT64 := ks_T64 hP
  refine tk_of hP.2.2.2.2.2 (by decide) rfl (Nat.le_of_ble_eq_true rfl) ?_
  intro p e s m below meth c0 X hlk hr hnm
  refine tk_aload_n X d_Core_branch_0 rfl rfl ?_
  refine tk_get X (k := (4, c, 0)) (dm := ks_dm P) (ks_d4 hc) rfl hc_Core hi_Core 3 (by decide) m_Core_15 (v := .ref (tk_ad (ks_G P) (9, c, 0))) rfl d_Core_branch_1 ?_
  refine tk_iload_n X d_Core_branch_4 rfl rfl ?_
  refine tk_callSN X (c_TC_registerA l P hP x a b o) (ks_site (n := 1) mc_TC_registerA mi_TC (by decide +kernel) (by decide) (by decide)) n_Core_39 ms_TC_registerA rfl (Nat.le_of_ble_eq_true rfl) ⟨Nat.le_of_ble_eq_true rfl, Nat.le_of_ble_eq_true rfl⟩ rfl d_Core_branch_5 ?_
  refine kw_iald X (k := (9, c, 0)) (ks_d9 hc) rfl (by decide) (q_mA x) (q_lA x) (v := _) rfl d_Core_branch_8 ?_
  refine tk_istore_n X d_Core_branch_9 rfl (by decide) rfl ?_
  refine tk_iload_n X d_Core_branch_10 rfl rfl ?_
  refine tk_callSN X (c_TC_kindOf l P hP x a b o) (ks_site (n := 1) mc_TC_kindOf mi_TC (by decide +kernel) (by decide) (by decide)) n_Core_42 ms_TC_kindOf rfl (Nat.le_of_ble_eq_true rfl) ⟨Nat.le_of_ble_eq_true rfl, Nat.le_of_ble_eq_true rfl⟩ rfl d_Core_branch_11 ?_
  refine tk_bipush (v := 7) X d_Core_branch_14 (by decide) ?_
  refine tk_icmp_ne (tgt := 31) X d_Core_branch_16 (by decide) (fun h1 => ?_) (fun h1 => ?_)
  · skip
    refine tk_iload_n X d_Core_branch_31 rfl rfl ?_
    refine tk_aload_n X d_Core_branch_32 rfl rfl ?_
    refine tk_get X (k := (4, c, 0)) (dm := ks_dm P) (ks_d4 hc) rfl hc_Core hi_Core 3 (by decide) m_Core_15 (v := .ref (tk_ad (ks_G P) (9, c, 0))) rfl d_Core_branch_33 ?_
    refine tk_iload_n X d_Core_branch_36 rfl rfl ?_
    refine tk_callSN X (c_TC_registerB l P hP x a b o) (ks_site (n := 1) mc_TC_registerB mi_TC (by decide +kernel) (by decide) (by decide)) n_Core_32 ms_TC_registerB rfl (Nat.le_of_ble_eq_true rfl) ⟨Nat.le_of_ble_eq_true rfl, Nat.le_of_ble_eq_true rfl⟩ rfl d_Core_branch_37 ?_
    refine kw_iald X (k := (9, c, 0)) (ks_d9 hc) rfl (by decide) (q_mB x) (q_lB x) (v := _) rfl d_Core_branch_40 ?_
    refine tk_icmp_ge (tgt := 48) X d_Core_branch_41 (by decide) (fun h2 => ?_) (fun h2 => ?_)
    · skip
      refine tk_iconst (v := 0) X d_Core_branch_48 (by decide) ?_
      refine tk_istore_n X d_Core_branch_49 rfl (by decide) rfl ?_
      refine tk_iload_n X d_Core_branch_50 rfl rfl ?_
      refine tk_if_eq (tgt := 70) X d_Core_branch_51 (by decide) (fun _ => ?_) (fun h => absurd (by decide) h)
      exact tk_vret X hlk hr d_Core_branch_70 rfl (fun _ h => h) (Or.inr rfl) (kw_st ((if_neg h1).trans (if_pos h2)).symm rfl rfl)
    · skip
      refine tk_iconst (v := 1) X d_Core_branch_44 (by decide) ?_
      refine tk_goto (tgt := 49) X d_Core_branch_45 (by decide) ?_
      refine tk_istore_n X d_Core_branch_49 rfl (by decide) rfl ?_
      refine tk_iload_n X d_Core_branch_50 rfl rfl ?_
      refine tk_if_eq (tgt := 70) X d_Core_branch_51 (by decide) (fun h => absurd h (by decide)) (fun _ => ?_)
      refine tk_aload_n X d_Core_branch_54 rfl rfl ?_
      refine tk_aload_n X d_Core_branch_55 rfl rfl ?_
      refine tk_get X (k := (4, c, 0)) (dm := ks_dm P) (ks_d4 hc) rfl hc_Core hi_Core 6 (by decide) m_Core_51 (v := .int _) rfl d_Core_branch_56 ?_
      refine tk_iload_n X d_Core_branch_59 rfl rfl ?_
      refine tk_callSN X (c_TC_immediateOf l P hP x a b o) (ks_site (n := 1) mc_TC_immediateOf mi_TC (by decide +kernel) (by decide) (by decide)) n_Core_45 ms_TC_immediateOf rfl (Nat.le_of_ble_eq_true rfl) ⟨Nat.le_of_ble_eq_true rfl, Nat.le_of_ble_eq_true rfl⟩ rfl d_Core_branch_60 ?_
      refine tk_iadd X d_Core_branch_63 ?_
      refine tk_callSN X (c_TC_place l P hP _ a b o) (ks_site (n := 1) mc_TC_place mi_TC (by decide +kernel) (by decide) (by decide)) n_Core_54 ms_TC_place rfl (Nat.le_of_ble_eq_true rfl) ⟨Nat.le_of_ble_eq_true rfl, Nat.le_of_ble_eq_true rfl⟩ rfl d_Core_branch_64 ?_
      refine kw_put X (k := (4, c, 0)) (ks_d4 hc) rfl hc_Core hi_Core t_Core t_Core_ok n_Core 6 (by decide) rfl m_Core_51 rfl rfl rfl d_Core_branch_67 ?_
      exact tk_vret X hlk hr d_Core_branch_70 rfl (fun _ h => h) (Or.inr rfl) (kw_st ((if_neg h1).trans (if_neg h2)).symm rfl rfl)
  · skip
    refine tk_iload_n X d_Core_branch_19 rfl rfl ?_
    refine tk_if_ne (tgt := 27) X d_Core_branch_20 (by decide) (fun h3 => ?_) (fun h3 => ?_)
    · skip
      refine tk_iconst (v := 0) X d_Core_branch_27 (by decide) ?_
      refine tk_goto (tgt := 49) X d_Core_branch_28 (by decide) ?_
      refine tk_istore_n X d_Core_branch_49 rfl (by decide) rfl ?_
      refine tk_iload_n X d_Core_branch_50 rfl rfl ?_
      refine tk_if_eq (tgt := 70) X d_Core_branch_51 (by decide) (fun _ => ?_) (fun h => absurd (by decide) h)
      exact tk_vret X hlk hr d_Core_branch_70 rfl (fun _ h => h) (Or.inr rfl) (kw_st ((if_pos h1).trans (if_neg h3)).symm rfl rfl)
    · skip
      refine tk_iconst (v := 1) X d_Core_branch_23 (by decide) ?_
      refine tk_goto (tgt := 49) X d_Core_branch_24 (by decide) ?_
      refine tk_istore_n X d_Core_branch_49 rfl (by decide) rfl ?_
      refine tk_iload_n X d_Core_branch_50 rfl rfl ?_
      refine tk_if_eq (tgt := 70) X d_Core_branch_51 (by decide) (fun h => absurd h (by decide)) (fun _ => ?_)
      refine tk_aload_n X d_Core_branch_54 rfl rfl ?_
      refine tk_aload_n X d_Core_branch_55 rfl rfl ?_
      refine tk_get X (k := (4, c, 0)) (dm := ks_dm P) (ks_d4 hc) rfl hc_Core hi_Core 6 (by decide) m_Core_51 (v := .int _) rfl d_Core_branch_56 ?_
      refine tk_iload_n X d_Core_branch_59 rfl rfl ?_
      refine tk_callSN X (c_TC_immediateOf l P hP x a b o) (ks_site (n := 1) mc_TC_immediateOf mi_TC (by decide +kernel) (by decide) (by decide)) n_Core_45 ms_TC_immediateOf rfl (Nat.le_of_ble_eq_true rfl) ⟨Nat.le_of_ble_eq_true rfl, Nat.le_of_ble_eq_true rfl⟩ rfl d_Core_branch_60 ?_
      refine tk_iadd X d_Core_branch_63 ?_
      refine tk_callSN X (c_TC_place l P hP _ a b o) (ks_site (n := 1) mc_TC_place mi_TC (by decide +kernel) (by decide) (by decide)) n_Core_54 ms_TC_place rfl (Nat.le_of_ble_eq_true rfl) ⟨Nat.le_of_ble_eq_true rfl, Nat.le_of_ble_eq_true rfl⟩ rfl d_Core_branch_64 ?_
      refine kw_put X (k := (4, c, 0)) (ks_d4 hc) rfl hc_Core hi_Core t_Core t_Core_ok n_Core 6 (by decide) rfl m_Core_51 rfl rfl rfl d_Core_branch_67 ?_
      exact tk_vret X hlk hr d_Core_branch_70 rfl (fun _ h => h) (Or.inr rfl) (kw_st ((if_pos h1).trans (if_pos h3)).symm rfl rfl)

set_option maxRecDepth 100000 in
set_option maxHeartbeats 4000000 in
theorem c_Core_begin (l : Launch) (P : ks_P) (hP : ks_ok P) (c : Nat) (hc : c < ks_n P) (x : Int32) (a b : ks_M) (o : ks_O) : kc l P y_Core_begin b_Core_begin 2 (some .int) 2 [.ref (tk_ad (ks_G P) (4, c, 0)), .int x] a b o (some (.int (k_begin (ks_T P) a c x).1)) (k_begin (ks_T P) a c x).2 b o := by
  have hn64 := ks_n64 hP
  have hT64 := ks_T64 hP
  refine tk_of hP.2.2.2.2.2 (by decide) rfl (Nat.le_of_ble_eq_true rfl) ?_
  intro p e s m below meth c0 X hlk hr hnm
  refine tk_aload_n X d_Core_begin_0 rfl rfl ?_
  refine tk_get X (k := (4, c, 0)) (dm := ks_dm P) (ks_d4 hc) rfl hc_Core hi_Core 8 (by decide) m_Core_48 (v := .int _) rfl d_Core_begin_1 ?_
  refine tk_iconst (v := 3) X d_Core_begin_4 (by decide) ?_
  refine tk_icmp_ne (tgt := 15) X d_Core_begin_5 (by decide) (fun h1 => ?_) (fun h1 => ?_)
  · skip
    refine tk_aload_n X d_Core_begin_15 rfl rfl ?_
    refine tk_get X (k := (4, c, 0)) (dm := ks_dm P) (ks_d4 hc) rfl hc_Core hi_Core 8 (by decide) m_Core_48 (v := .int _) rfl d_Core_begin_16 ?_
    refine tk_if_ne (tgt := 50) X d_Core_begin_19 (by decide) (fun h2 => ?_) (fun h2 => ?_)
    · skip
      refine tk_aload_n X d_Core_begin_50 rfl rfl ?_
      refine tk_dup X rfl d_Core_begin_51 ?_
      refine tk_get X (k := (4, c, 0)) (dm := ks_dm P) (ks_d4 hc) rfl hc_Core hi_Core 8 (by decide) m_Core_48 (v := .int _) rfl d_Core_begin_52 ?_
      refine tk_iconst (v := 1) X d_Core_begin_55 (by decide) ?_
      refine tk_iadd X d_Core_begin_56 ?_
      refine kw_put X (k := (4, c, 0)) (ks_d4 hc) rfl hc_Core hi_Core t_Core t_Core_ok n_Core 8 (by decide) rfl m_Core_48 rfl rfl rfl d_Core_begin_57 ?_
      refine tk_iconst (v := 4) X d_Core_begin_60 (by decide) ?_
      have er : k_begin (ks_T P) a c x = _ := ((if_neg h1).trans (if_neg h2))
      exact tk_iret X hlk hr d_Core_begin_61 (by rw [er]) (fun _ h => h) (Or.inr rfl) (kw_st (by rw [er]; try rfl) rfl rfl)
    · skip
      refine tk_aload_n X d_Core_begin_22 rfl rfl ?_
      refine tk_get X (k := (4, c, 0)) (dm := ks_dm P) (ks_d4 hc) rfl hc_Core hi_Core 3 (by decide) m_Core_15 (v := .ref (tk_ad (ks_G P) (9, c, 0))) rfl d_Core_begin_23 ?_
      refine tk_iconst (v := 0) X d_Core_begin_26 (by decide) ?_
      refine tk_aload_n X d_Core_begin_27 rfl rfl ?_
      refine tk_get X (k := (4, c, 0)) (dm := ks_dm P) (ks_d4 hc) rfl hc_Core hi_Core 4 (by decide) m_Core_18 (v := .ref (tk_ad (ks_G P) (10, c, 0))) rfl d_Core_begin_28 ?_
      refine tk_iconst (v := 0) X d_Core_begin_31 (by decide) ?_
      refine tk_bipush (v := 8) X d_Core_begin_32 (by decide) ?_
      refine kw_copy X m_Core_61 (k0 := (9, c, 0)) (k1 := (10, c, 0)) (ks_d9 hc) (ks_d10 hc) rfl rfl (fun _ => rfl) (fun _ => rfl) (Nat.le_of_ble_eq_true rfl) (Nat.le_of_ble_eq_true rfl) d_Core_begin_34 ?_
      refine tk_aload_n X d_Core_begin_37 rfl rfl ?_
      refine tk_aload_n X d_Core_begin_38 rfl rfl ?_
      refine tk_get X (k := (4, c, 0)) (dm := ks_dm P) (ks_d4 hc) rfl hc_Core hi_Core 6 (by decide) m_Core_51 (v := .int _) rfl d_Core_begin_39 ?_
      refine tk_iload_n X d_Core_begin_42 rfl rfl ?_
      refine tk_iadd X d_Core_begin_43 ?_
      refine tk_callSN X (c_TC_place l P hP _ (k_cp a (9, c, 0) (10, c, 0) 8) b o) (ks_site (n := 1) mc_TC_place mi_TC (by decide +kernel) (by decide) (by decide)) n_Core_54 ms_TC_place rfl (Nat.le_of_ble_eq_true rfl) ⟨Nat.le_of_ble_eq_true rfl, Nat.le_of_ble_eq_true rfl⟩ rfl d_Core_begin_44 ?_
      refine kw_put X (k := (4, c, 0)) (ks_d4 hc) rfl hc_Core hi_Core t_Core t_Core_ok n_Core 7 (by decide) rfl m_Core_67 rfl rfl rfl d_Core_begin_47 ?_
      refine tk_aload_n X d_Core_begin_50 rfl rfl ?_
      refine tk_dup X rfl d_Core_begin_51 ?_
      refine tk_get X (k := (4, c, 0)) (dm := ks_dm P) (ks_d4 hc) rfl hc_Core hi_Core 8 (by decide) m_Core_48 (v := .int _) rfl d_Core_begin_52 ?_
      refine tk_iconst (v := 1) X d_Core_begin_55 (by decide) ?_
      refine tk_iadd X d_Core_begin_56 ?_
      refine kw_put X (k := (4, c, 0)) (ks_d4 hc) rfl hc_Core hi_Core t_Core t_Core_ok n_Core 8 (by decide) rfl m_Core_48 rfl rfl rfl d_Core_begin_57 ?_
      refine tk_iconst (v := 4) X d_Core_begin_60 (by decide) ?_
      have er : k_begin (ks_T P) a c x = _ := ((if_neg h1).trans (if_pos h2))
      exact tk_iret X hlk hr d_Core_begin_61 (by rw [er]) (fun _ h => h) (Or.inr rfl) (kw_st (by rw [er]; try rfl) rfl rfl)
  · skip
    refine tk_aload_n X d_Core_begin_8 rfl rfl ?_
    refine tk_iconst (v := 3) X d_Core_begin_9 (by decide) ?_
    refine tk_iconst (v := 0) X d_Core_begin_10 (by decide) ?_
    refine tk_callV X (kb := (4, c, 0)) (ks_d4 hc) rfl hc_Core (c_Core_abort l P hP c hc 3 (by decide) 0 a b o) (ks_site (n := 2) mc_Core_abort mi_Core (by decide +kernel) (by decide) (by decide)) m_Core_57 ms_Core_abort mv_Core_abort rfl (Nat.le_of_ble_eq_true rfl) ⟨Nat.le_of_ble_eq_true rfl, Nat.le_of_ble_eq_true rfl⟩ rfl d_Core_begin_11 ?_
    have er : k_begin (ks_T P) a c x = _ := (if_pos h1)
    exact tk_iret X hlk hr d_Core_begin_14 (by rw [er]) (fun _ h => h) (Or.inr rfl) (kw_st (by rw [er]; try rfl) rfl rfl)

set_option maxRecDepth 100000 in
set_option maxHeartbeats 4000000 in
theorem c_Core_end (l : Launch) (P : ks_P) (hP : ks_ok P) (c : Nat) (hc : c < ks_n P) (a b : ks_M) (o : ks_O) : kc l P y_Core_end b_Core_end 1 (some .int) 1 [.ref (tk_ad (ks_G P) (4, c, 0))] a b o (some (.int (k_end (ks_T P) a c).1)) (k_end (ks_T P) a c).2 b o := by
  have hn64 := ks_n64 hP
  have hT64 := ks_T64 hP
  refine tk_of hP.2.2.2.2.2 (by decide) rfl (Nat.le_of_ble_eq_true rfl) ?_
  intro p e s m below meth c0 X hlk hr hnm
  refine tk_aload_n X d_Core_end_0 rfl rfl ?_
  refine tk_dup X rfl d_Core_end_1 ?_
  refine tk_get X (k := (4, c, 0)) (dm := ks_dm P) (ks_d4 hc) rfl hc_Core hi_Core 8 (by decide) m_Core_48 (v := .int _) rfl d_Core_end_2 ?_
  refine tk_iconst (v := 1) X d_Core_end_5 (by decide) ?_
  refine tk_isub X d_Core_end_6 ?_
  refine kw_put X (k := (4, c, 0)) (ks_d4 hc) rfl hc_Core hi_Core t_Core t_Core_ok n_Core 8 (by decide) rfl m_Core_48 rfl rfl rfl d_Core_end_7 ?_
  refine tk_aload_n X d_Core_end_10 rfl rfl ?_
  refine tk_get X (k := (4, c, 0)) (dm := ks_dm P) (ks_d4 hc) rfl hc_Core hi_Core 8 (by decide) m_Core_48 (v := .int _) rfl d_Core_end_11 ?_
  refine tk_if_le (tgt := 19) X d_Core_end_14 (by decide) (fun h1 => ?_) (fun h1 => ?_)
  · skip
    refine tk_aload_n X d_Core_end_19 rfl rfl ?_
    refine tk_get X (k := (4, c, 0)) (dm := ks_dm P) (ks_d4 hc) rfl hc_Core hi_Core 1 (by decide) m_Core_28 (v := .ref (tk_ad (ks_G P) (5, c, 0))) rfl d_Core_end_20 ?_
    refine tk_callV X (kb := (5, c, 0)) (ks_d5 hc) rfl hc_Cache (c_Cache_dropMarks l P hP c hc (k_end1 a c) b o) (ks_site (n := 0) mc_Cache_dropMarks mi_Cache (by decide +kernel) (by decide) (by decide)) m_Core_70 ms_Cache_dropMarks mv_Cache_dropMarks rfl (Nat.le_of_ble_eq_true rfl) ⟨Nat.le_of_ble_eq_true rfl, Nat.le_of_ble_eq_true rfl⟩ rfl d_Core_end_23 ?_
    refine tk_aload_n X d_Core_end_26 rfl rfl ?_
    refine tk_get X (k := (4, c, 0)) (dm := ks_dm P) (ks_d4 hc) rfl hc_Core hi_Core 5 (by decide) m_Core_21 (v := .ref (tk_ad (ks_G P) (11, c, 0))) rfl d_Core_end_27 ?_
    refine tk_iconst (v := 0) X d_Core_end_30 (by decide) ?_
    refine tk_dup2 X rfl rfl d_Core_end_31 ?_
    refine kw_iald X (k := (11, c, 0)) (ks_d11 hc) rfl (by decide) rfl (by decide) (v := _) rfl d_Core_end_32 ?_
    refine tk_iconst (v := 1) X d_Core_end_33 (by decide) ?_
    refine tk_iadd X d_Core_end_34 ?_
    refine kw_iast X (k := (11, c, 0)) (ks_d11 hc) rfl (by decide) rfl (by decide) rfl d_Core_end_35 ?_
    refine tk_iconst (v := 3) X d_Core_end_36 (by decide) ?_
    have er : k_end (ks_T P) a c = _ := (if_pos h1)
    exact tk_iret X hlk hr d_Core_end_37 (by rw [er]) (fun _ h => h) (Or.inr rfl) (kw_st (by rw [er]; try rfl) rfl rfl)
  · skip
    refine tk_iconst (v := 4) X d_Core_end_17 (by decide) ?_
    have er : k_end (ks_T P) a c = _ := (if_neg h1)
    exact tk_iret X hlk hr d_Core_end_18 (by rw [er]) (fun _ h => h) (Or.inr rfl) (kw_st (by rw [er]; try rfl) rfl rfl)

set_option maxRecDepth 100000 in
set_option maxHeartbeats 4000000 in
theorem c_Core_giveUp (l : Launch) (P : ks_P) (hP : ks_ok P) (c : Nat) (hc : c < ks_n P) (x : Int32) (a b : ks_M) (o : ks_O) : kc l P y_Core_giveUp b_Core_giveUp 2 (some .int) 2 [.ref (tk_ad (ks_G P) (4, c, 0)), .int x] a b o (some (.int (k_give (ks_T P) a c x).1)) (k_give (ks_T P) a c x).2 b o := by
  have hn64 := ks_n64 hP
  have hT64 := ks_T64 hP
  refine tk_of hP.2.2.2.2.2 (by decide) rfl (Nat.le_of_ble_eq_true rfl) ?_
  intro p e s m below meth c0 X hlk hr hnm
  refine tk_aload_n X d_Core_giveUp_0 rfl rfl ?_
  refine tk_get X (k := (4, c, 0)) (dm := ks_dm P) (ks_d4 hc) rfl hc_Core hi_Core 8 (by decide) m_Core_48 (v := .int _) rfl d_Core_giveUp_1 ?_
  refine tk_if_ne (tgt := 9) X d_Core_giveUp_4 (by decide) (fun h1 => ?_) (fun h1 => ?_)
  · skip
    refine tk_aload_n X d_Core_giveUp_9 rfl rfl ?_
    refine tk_iconst (v := 4) X d_Core_giveUp_10 (by decide) ?_
    refine tk_bipush (v := 8) X d_Core_giveUp_11 (by decide) ?_
    refine tk_iload_n X d_Core_giveUp_13 rfl rfl ?_
    refine tk_sipush (v := 255) X d_Core_giveUp_14 (by decide) ?_
    refine tk_iand X d_Core_giveUp_17 ?_
    refine tk_imul X d_Core_giveUp_18 ?_
    refine tk_callV X (kb := (4, c, 0)) (ks_d4 hc) rfl hc_Core (c_Core_abort l P hP c hc 4 (by decide) _ a b o) (ks_site (n := 2) mc_Core_abort mi_Core (by decide +kernel) (by decide) (by decide)) m_Core_57 ms_Core_abort mv_Core_abort rfl (Nat.le_of_ble_eq_true rfl) ⟨Nat.le_of_ble_eq_true rfl, Nat.le_of_ble_eq_true rfl⟩ rfl d_Core_giveUp_19 ?_
    have er : k_give (ks_T P) a c x = _ := (if_neg h1)
    exact tk_iret X hlk hr d_Core_giveUp_22 (by rw [er]) (fun _ h => h) (Or.inr rfl) (kw_st (by rw [er]; try rfl) rfl rfl)
  · skip
    refine tk_iconst (v := 4) X d_Core_giveUp_7 (by decide) ?_
    have er : k_give (ks_T P) a c x = _ := (if_pos h1)
    exact tk_iret X hlk hr d_Core_giveUp_8 (by rw [er]) (fun _ h => h) (Or.inr rfl) (kw_st (by rw [er]; try rfl) rfl rfl)

set_option maxRecDepth 100000 in
set_option maxHeartbeats 4000000 in
theorem c_Core_fault (l : Launch) (P : ks_P) (hP : ks_ok P) (c : Nat) (hc : c < ks_n P) (x : Int32) (a b : ks_M) (o : ks_O) : kc l P y_Core_fault b_Core_fault 2 (some .int) 2 [.ref (tk_ad (ks_G P) (4, c, 0)), .int x] a b o (some (.int (k_fault (ks_T P) a c x).1)) (k_fault (ks_T P) a c x).2 b o := by
  have hn64 := ks_n64 hP
  have hT64 := ks_T64 hP
  refine tk_of hP.2.2.2.2.2 (by decide) rfl (Nat.le_of_ble_eq_true rfl) ?_
  intro p e s m below meth c0 X hlk hr hnm
  refine tk_aload_n X d_Core_fault_0 rfl rfl ?_
  refine tk_get X (k := (4, c, 0)) (dm := ks_dm P) (ks_d4 hc) rfl hc_Core hi_Core 8 (by decide) m_Core_48 (v := .int _) rfl d_Core_fault_1 ?_
  refine tk_if_le (tgt := 14) X d_Core_fault_4 (by decide) (fun h1 => ?_) (fun h1 => ?_)
  · skip
    refine tk_aload_n X d_Core_fault_14 rfl rfl ?_
    refine tk_iconst (v := 1) X d_Core_fault_15 (by decide) ?_
    refine kw_put X (k := (4, c, 0)) (ks_d4 hc) rfl hc_Core hi_Core t_Core t_Core_ok n_Core 9 (by decide) rfl m_Core_75 rfl (by decide) (by decide) d_Core_fault_16 ?_
    refine tk_aload_n X d_Core_fault_19 rfl rfl ?_
    refine tk_iload_n X d_Core_fault_20 rfl rfl ?_
    refine kw_put X (k := (4, c, 0)) (ks_d4 hc) rfl hc_Core hi_Core t_Core t_Core_ok n_Core 6 (by decide) rfl m_Core_51 rfl rfl rfl d_Core_fault_21 ?_
    refine tk_iconst (v := 0) X d_Core_fault_24 (by decide) ?_
    have er : k_fault (ks_T P) a c x = _ := (if_pos h1)
    exact tk_iret X hlk hr d_Core_fault_25 (by rw [er]) (fun _ h => h) (Or.inr rfl) (kw_st (by rw [er]; try rfl) rfl rfl)
  · skip
    refine tk_aload_n X d_Core_fault_7 rfl rfl ?_
    refine tk_iconst (v := 5) X d_Core_fault_8 (by decide) ?_
    refine tk_iconst (v := 0) X d_Core_fault_9 (by decide) ?_
    refine tk_callV X (kb := (4, c, 0)) (ks_d4 hc) rfl hc_Core (c_Core_abort l P hP c hc 5 (by decide) 0 a b o) (ks_site (n := 2) mc_Core_abort mi_Core (by decide +kernel) (by decide) (by decide)) m_Core_57 ms_Core_abort mv_Core_abort rfl (Nat.le_of_ble_eq_true rfl) ⟨Nat.le_of_ble_eq_true rfl, Nat.le_of_ble_eq_true rfl⟩ rfl d_Core_fault_10 ?_
    have er : k_fault (ks_T P) a c x = _ := (if_neg h1)
    exact tk_iret X hlk hr d_Core_fault_13 (by rw [er]) (fun _ h => h) (Or.inr rfl) (kw_st (by rw [er]; try rfl) rfl rfl)
