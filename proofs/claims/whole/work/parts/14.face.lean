set_option maxRecDepth 100000 in
set_option maxHeartbeats 4000000 in
theorem c_TC_load (l : Launch) (P : ks_P) (hP : ks_ok P) (c : Nat) (hc : c < ks_n P) (x : Int32) (a b : ks_M) (o : ks_O) : kc l P y_TC_load b_TC_load 5 (some .int) 5 [.ref (tk_ad (ks_G P) (0, 0, 0)), .ref (tk_ad (ks_G P) (4, c, 0)), .int x] a b o (some (.int (k_load (ks_n P) (ks_S P) (ks_W P) a c x).1)) (k_load (ks_n P) (ks_S P) (ks_W P) a c x).2 b o := by
  have hn64 := ks_n64 hP
  have hT64 := ks_T64 hP
  refine tk_of hP.2.2.2.2.2 (by decide) rfl (Nat.le_of_ble_eq_true rfl) ?_
  intro p e s m below meth c0 X hlk hr hnm
  refine tk_aload_n X d_TC_load_0 rfl rfl ?_
  refine tk_iload_n X d_TC_load_1 rfl rfl ?_
  refine tk_callV X (kb := (4, c, 0)) (ks_d4 hc) rfl hc_Core (c_Core_addressOf l P hP c hc x a b o) (ks_site (n := 1) mc_Core_addressOf mi_Core (by decide +kernel) (by decide) (by decide)) m_TC_173 ms_Core_addressOf mv_Core_addressOf rfl (Nat.le_of_ble_eq_true rfl) ⟨Nat.le_of_ble_eq_true rfl, Nat.le_of_ble_eq_true rfl⟩ rfl d_TC_load_2 ?_
  refine tk_istore_n X d_TC_load_5 rfl (by decide) rfl ?_
  refine tk_aload_n X d_TC_load_6 rfl rfl ?_
  refine tk_aload_n X d_TC_load_7 rfl rfl ?_
  refine tk_iload_n X d_TC_load_8 rfl rfl ?_
  refine tk_callS X (c_TC_lineOf2 l P hP (k_addr a c x) a b o) (ks_site (n := 1) mc_TC_lineOf mi_TC (by decide +kernel) (by decide) (by decide)) m_TC_44 ms_TC_lineOf rfl (Nat.le_of_ble_eq_true rfl) ⟨Nat.le_of_ble_eq_true rfl, Nat.le_of_ble_eq_true rfl⟩ rfl d_TC_load_9 ?_
  refine tk_iconst (v := 0) X d_TC_load_12 (by decide) ?_
  refine tk_callV X (kb := (0, 0, 0)) (ks_d0 (by decide)) rfl hc_TC (c_TC_access l P hP c (q_ln (k_addr a c x)) hc (q_ln_lt _) false a b o) (ks_site (n := 3) mc_TC_access mi_TC (by decide +kernel) (by decide) (by decide)) m_TC_176 ms_TC_access mv_TC_access rfl (Nat.le_of_ble_eq_true rfl) ⟨Nat.le_of_ble_eq_true rfl, Nat.le_of_ble_eq_true rfl⟩ rfl d_TC_load_13 ?_
  cases hf : (k_acc (ks_n P) (ks_S P) (ks_W P) a c (q_ln (k_addr a c x)) false).1 with
  | none =>
    refine tk_astoreN X d_TC_load_16 (by decide) rfl ?_
    refine tk_aloadN X d_TC_load_18 rfl ?_
    refine tk_ifnonnullN X d_TC_load_20 ?_
    refine tk_iconst (v := 2) X d_TC_load_23 (by decide) ?_
    have e1 : k_load (ks_n P) (ks_S P) (ks_W P) a c x = (2, (k_acc (ks_n P) (ks_S P) (ks_W P) a c (q_ln (k_addr a c x)) false).2) := by unfold k_load; rw [hf]
    exact tk_iret X hlk hr d_TC_load_24 (by rw [e1]) (fun _ h => h) (Or.inr rfl) (kw_st (by rw [e1]) rfl rfl)
  | some j =>
    have hj : j < ks_T P := k_acc_lt hP hf
    refine tk_astore X d_TC_load_16 (by decide) rfl ?_
    refine tk_aload X d_TC_load_18 rfl ?_
    refine tk_ifnonnull (tgt := 25) X d_TC_load_20 (by decide) ?_
    refine tk_aload_n X d_TC_load_25 rfl rfl ?_
    refine tk_getN X (k := (4, c, 0)) (dm := ks_dm P) (ks_d4 hc) rfl hc_Core hi_Core 3 (by decide) n_TC_104 (v := .ref (tk_ad (ks_G P) (9, c, 0))) rfl d_TC_load_26 ?_
    refine tk_iload_n X d_TC_load_29 rfl rfl ?_
    refine tk_callS X (c_TC_registerA l P hP x (k_acc (ks_n P) (ks_S P) (ks_W P) a c (q_ln (k_addr a c x)) false).2 b o) (ks_site (n := 1) mc_TC_registerA mi_TC (by decide +kernel) (by decide) (by decide)) m_TC_180 ms_TC_registerA rfl (Nat.le_of_ble_eq_true rfl) ⟨Nat.le_of_ble_eq_true rfl, Nat.le_of_ble_eq_true rfl⟩ rfl d_TC_load_30 ?_
    refine tk_aload X d_TC_load_33 rfl ?_
    refine tk_iload_n X d_TC_load_35 rfl rfl ?_
    refine tk_callV X (kb := (7, c, j)) (ks_d7 hc hj) rfl hc_Way (c_Way_get l P hP c j hc hj (k_addr a c x) (k_acc (ks_n P) (ks_S P) (ks_W P) a c (q_ln (k_addr a c x)) false).2 b o) (ks_site (n := 1) mc_Way_get mi_Way (by decide +kernel) (by decide) (by decide)) m_TC_71 ms_Way_get mv_Way_get rfl (Nat.le_of_ble_eq_true rfl) ⟨Nat.le_of_ble_eq_true rfl, Nat.le_of_ble_eq_true rfl⟩ rfl d_TC_load_36 ?_
    refine kw_iast X (k := (9, c, 0)) (ks_d9 hc) rfl (by decide) (q_mA x) (q_lA x) rfl d_TC_load_39 ?_
    refine tk_iconst (v := 4) X d_TC_load_40 (by decide) ?_
    have e1 : k_load (ks_n P) (ks_S P) (ks_W P) a c x = (4, ks_up (k_acc (ks_n P) (ks_S P) (ks_W P) a c (q_ln (k_addr a c x)) false).2 (9, c, 0) (q_ix (q_A x)) (k_wget (k_acc (ks_n P) (ks_S P) (ks_W P) a c (q_ln (k_addr a c x)) false).2 c j (k_addr a c x))) := by unfold k_load; rw [hf]
    exact tk_iret X hlk hr d_TC_load_41 (by rw [e1]) (fun _ h => h) (Or.inr rfl) (kw_st (by rw [e1]; try rfl) rfl rfl)

set_option maxRecDepth 100000 in
set_option maxHeartbeats 4000000 in
theorem c_TC_save (l : Launch) (P : ks_P) (hP : ks_ok P) (c : Nat) (hc : c < ks_n P) (x : Int32) (a b : ks_M) (o : ks_O) : kc l P y_TC_save b_TC_save 5 (some .int) 5 [.ref (tk_ad (ks_G P) (0, 0, 0)), .ref (tk_ad (ks_G P) (4, c, 0)), .int x] a b o (some (.int (k_save (ks_n P) (ks_S P) (ks_W P) a c x).1)) (k_save (ks_n P) (ks_S P) (ks_W P) a c x).2 b o := by
  have hn64 := ks_n64 hP
  have hT64 := ks_T64 hP
  refine tk_of hP.2.2.2.2.2 (by decide) rfl (Nat.le_of_ble_eq_true rfl) ?_
  intro p e s m below meth c0 X hlk hr hnm
  refine tk_aload_n X d_TC_save_0 rfl rfl ?_
  refine tk_iload_n X d_TC_save_1 rfl rfl ?_
  refine tk_callV X (kb := (4, c, 0)) (ks_d4 hc) rfl hc_Core (c_Core_addressOf l P hP c hc x a b o) (ks_site (n := 1) mc_Core_addressOf mi_Core (by decide +kernel) (by decide) (by decide)) m_TC_173 ms_Core_addressOf mv_Core_addressOf rfl (Nat.le_of_ble_eq_true rfl) ⟨Nat.le_of_ble_eq_true rfl, Nat.le_of_ble_eq_true rfl⟩ rfl d_TC_save_2 ?_
  refine tk_istore_n X d_TC_save_5 rfl (by decide) rfl ?_
  refine tk_aload_n X d_TC_save_6 rfl rfl ?_
  refine tk_aload_n X d_TC_save_7 rfl rfl ?_
  refine tk_iload_n X d_TC_save_8 rfl rfl ?_
  refine tk_callS X (c_TC_lineOf2 l P hP (k_addr a c x) a b o) (ks_site (n := 1) mc_TC_lineOf mi_TC (by decide +kernel) (by decide) (by decide)) m_TC_44 ms_TC_lineOf rfl (Nat.le_of_ble_eq_true rfl) ⟨Nat.le_of_ble_eq_true rfl, Nat.le_of_ble_eq_true rfl⟩ rfl d_TC_save_9 ?_
  refine tk_iconst (v := 1) X d_TC_save_12 (by decide) ?_
  refine tk_callV X (kb := (0, 0, 0)) (ks_d0 (by decide)) rfl hc_TC (c_TC_access l P hP c (q_ln (k_addr a c x)) hc (q_ln_lt _) true a b o) (ks_site (n := 3) mc_TC_access mi_TC (by decide +kernel) (by decide) (by decide)) m_TC_176 ms_TC_access mv_TC_access rfl (Nat.le_of_ble_eq_true rfl) ⟨Nat.le_of_ble_eq_true rfl, Nat.le_of_ble_eq_true rfl⟩ rfl d_TC_save_13 ?_
  cases hf : (k_acc (ks_n P) (ks_S P) (ks_W P) a c (q_ln (k_addr a c x)) true).1 with
  | none =>
    refine tk_astoreN X d_TC_save_16 (by decide) rfl ?_
    refine tk_aloadN X d_TC_save_18 rfl ?_
    refine tk_ifnonnullN X d_TC_save_20 ?_
    refine tk_iconst (v := 2) X d_TC_save_23 (by decide) ?_
    have e1 : k_save (ks_n P) (ks_S P) (ks_W P) a c x = (2, (k_acc (ks_n P) (ks_S P) (ks_W P) a c (q_ln (k_addr a c x)) true).2) := by unfold k_save; rw [hf]
    exact tk_iret X hlk hr d_TC_save_24 (by rw [e1]) (fun _ h => h) (Or.inr rfl) (kw_st (by rw [e1]) rfl rfl)
  | some j =>
    have hj : j < ks_T P := k_acc_lt hP hf
    refine tk_astore X d_TC_save_16 (by decide) rfl ?_
    refine tk_aload X d_TC_save_18 rfl ?_
    refine tk_ifnonnull (tgt := 25) X d_TC_save_20 (by decide) ?_
    refine tk_aload X d_TC_save_25 rfl ?_
    refine tk_iload_n X d_TC_save_27 rfl rfl ?_
    refine tk_aload_n X d_TC_save_28 rfl rfl ?_
    refine tk_getN X (k := (4, c, 0)) (dm := ks_dm P) (ks_d4 hc) rfl hc_Core hi_Core 3 (by decide) n_TC_104 (v := .ref (tk_ad (ks_G P) (9, c, 0))) rfl d_TC_save_29 ?_
    refine tk_iload_n X d_TC_save_32 rfl rfl ?_
    refine tk_callS X (c_TC_registerA l P hP x (k_acc (ks_n P) (ks_S P) (ks_W P) a c (q_ln (k_addr a c x)) true).2 b o) (ks_site (n := 1) mc_TC_registerA mi_TC (by decide +kernel) (by decide) (by decide)) m_TC_180 ms_TC_registerA rfl (Nat.le_of_ble_eq_true rfl) ⟨Nat.le_of_ble_eq_true rfl, Nat.le_of_ble_eq_true rfl⟩ rfl d_TC_save_33 ?_
    refine kw_iald X (k := (9, c, 0)) (ks_d9 hc) rfl (by decide) (q_mA x) (q_lA x) (v := _) rfl d_TC_save_36 ?_
    refine tk_callV X (kb := (7, c, j)) (ks_d7 hc hj) rfl hc_Way (c_Way_put l P hP c j hc hj (k_addr a c x) _ (k_acc (ks_n P) (ks_S P) (ks_W P) a c (q_ln (k_addr a c x)) true).2 b o) (ks_site (n := 2) mc_Way_put mi_Way (by decide +kernel) (by decide) (by decide)) m_TC_183 ms_Way_put mv_Way_put rfl (Nat.le_of_ble_eq_true rfl) ⟨Nat.le_of_ble_eq_true rfl, Nat.le_of_ble_eq_true rfl⟩ rfl d_TC_save_37 ?_
    refine tk_iconst (v := 4) X d_TC_save_40 (by decide) ?_
    have e1 : k_save (ks_n P) (ks_S P) (ks_W P) a c x = (4, k_wput (k_acc (ks_n P) (ks_S P) (ks_W P) a c (q_ln (k_addr a c x)) true).2 c j (k_addr a c x) (k_reg (k_acc (ks_n P) (ks_S P) (ks_W P) a c (q_ln (k_addr a c x)) true).2 c (q_A x))) := by unfold k_save; rw [hf]
    exact tk_iret X hlk hr d_TC_save_41 (by rw [e1]) (fun _ h => h) (Or.inr rfl) (kw_st (by rw [e1]; try rfl) rfl rfl)

set_option maxRecDepth 100000 in
set_option maxHeartbeats 4000000 in
theorem c_TC_takeStep (l : Launch) (P : ks_P) (hP : ks_ok P) (c : Nat) (hc : c < ks_n P) (a b : ks_M) (o : ks_O) (hp : q_pc (a (4, c, 0) 6)) : kc l P y_TC_takeStep b_TC_takeStep 4 (some .int) 6 [.ref (tk_ad (ks_G P) (0, 0, 0)), .ref (tk_ad (ks_G P) (4, c, 0))] a b o (some (.int (k_step (ks_n P) (ks_S P) (ks_W P) a c).1)) (k_step (ks_n P) (ks_S P) (ks_W P) a c).2 b o := by
  have hn64 := ks_n64 hP
  have hT64 := ks_T64 hP
  refine tk_of hP.2.2.2.2.2 (by decide) rfl (Nat.le_of_ble_eq_true rfl) ?_
  intro p e s m below meth c0 X hlk hr hnm
  refine tk_aload_n X d_TC_takeStep_0 rfl rfl ?_
  refine tk_getN X (k := (4, c, 0)) (dm := ks_dm P) (ks_d4 hc) rfl hc_Core hi_Core 9 (by decide) n_TC_100 (v := .int _) rfl d_TC_takeStep_1 ?_
  refine tk_if_eq (tgt := 9) X d_TC_takeStep_4 (by decide) (fun h1 => ?_) (fun h1 => ?_)
  · skip
    refine tk_aload_n X d_TC_takeStep_9 rfl rfl ?_
    refine tk_getN X (k := (4, c, 0)) (dm := ks_dm P) (ks_d4 hc) rfl hc_Core hi_Core 6 (by decide) n_TC_97 (v := .int _) rfl d_TC_takeStep_10 ?_
    refine tk_istore_n X d_TC_takeStep_13 rfl (by decide) rfl ?_
    refine tk_aload_n X d_TC_takeStep_14 rfl rfl ?_
    refine tk_getN X (k := (4, c, 0)) (dm := ks_dm P) (ks_d4 hc) rfl hc_Core hi_Core 2 (by decide) n_TC_40 (v := .ref (tk_ad (ks_G P) (8, c, 0))) rfl d_TC_takeStep_15 ?_
    refine tk_iload_n X d_TC_takeStep_18 rfl rfl ?_
    refine kw_iald X (k := (8, c, 0)) (ks_d8 hc) rfl (by decide) hp.1 hp.2 (v := _) rfl d_TC_takeStep_19 ?_
    refine tk_istore_n X d_TC_takeStep_20 rfl (by decide) rfl ?_
    refine tk_aload_n X d_TC_takeStep_21 rfl rfl ?_
    refine tk_iload_n X d_TC_takeStep_22 rfl rfl ?_
    refine tk_iconst (v := 1) X d_TC_takeStep_23 (by decide) ?_
    refine tk_iadd X d_TC_takeStep_24 ?_
    refine tk_callS X (c_TC_place l P hP _ a b o) (ks_site (n := 1) mc_TC_place mi_TC (by decide +kernel) (by decide) (by decide)) m_TC_94 ms_TC_place rfl (Nat.le_of_ble_eq_true rfl) ⟨Nat.le_of_ble_eq_true rfl, Nat.le_of_ble_eq_true rfl⟩ rfl d_TC_takeStep_25 ?_
    refine kw_putN X (k := (4, c, 0)) (ks_d4 hc) rfl hc_Core hi_Core t_Core t_Core_ok n_Core 6 (by decide) rfl n_TC_97 rfl rfl rfl d_TC_takeStep_28 ?_
    refine tk_iload_n X d_TC_takeStep_31 rfl rfl ?_
    refine tk_callS X (c_TC_kindOf l P hP (k_word a c) (k_next a c) b o) (ks_site (n := 1) mc_TC_kindOf mi_TC (by decide +kernel) (by decide) (by decide)) m_TC_143 ms_TC_kindOf rfl (Nat.le_of_ble_eq_true rfl) ⟨Nat.le_of_ble_eq_true rfl, Nat.le_of_ble_eq_true rfl⟩ rfl d_TC_takeStep_32 ?_
    by_cases h2 : (k_word a c) &&& 15 = 0
    · skip
      refine tk_tableAt (K := 0) (tgt := 104) X h2 d_TC_takeStep_35 (by decide) (by decide) rfl (by decide) ?_
      refine tk_aload_n X d_TC_takeStep_104 rfl rfl ?_
      refine tk_iload_n X d_TC_takeStep_105 rfl rfl ?_
      refine kw_putN X (k := (4, c, 0)) (ks_d4 hc) rfl hc_Core hi_Core t_Core t_Core_ok n_Core 6 (by decide) rfl n_TC_97 rfl rfl rfl d_TC_takeStep_106 ?_
      refine tk_iconst (v := 1) X d_TC_takeStep_109 (by decide) ?_
      have e0 : k_step (ks_n P) (ks_S P) (ks_W P) a c = k_do (ks_n P) (ks_S P) (ks_W P) (k_next a c) c (k_word a c) (a (4, c, 0) 6) := if_pos h1
      have e1 : k_do (ks_n P) (ks_S P) (ks_W P) (k_next a c) c (k_word a c) (a (4, c, 0) 6) = _ := (if_pos h2)
      exact tk_iret X hlk hr d_TC_takeStep_110 (by rw [e0, e1]) (fun _ h => h) (Or.inr rfl) (kw_st (by rw [e0, e1]; try rfl) rfl rfl)
    by_cases h3 : (k_word a c) &&& 15 = 1
    · skip
      refine tk_tableAt (K := 1) (tgt := 111) X h3 d_TC_takeStep_35 (by decide) (by decide) rfl (by decide) ?_
      refine tk_aload_n X d_TC_takeStep_111 rfl rfl ?_
      refine tk_iload_n X d_TC_takeStep_112 rfl rfl ?_
      refine tk_callV X (kb := (4, c, 0)) (ks_d4 hc) rfl hc_Core (c_Core_reckon l P hP c hc (k_word a c) (k_next a c) b o) (ks_site (n := 1) mc_Core_reckon mi_Core (by decide +kernel) (by decide) (by decide)) m_TC_146 ms_Core_reckon mv_Core_reckon rfl (Nat.le_of_ble_eq_true rfl) ⟨Nat.le_of_ble_eq_true rfl, Nat.le_of_ble_eq_true rfl⟩ rfl d_TC_takeStep_113 ?_
      refine tk_iconst (v := 4) X d_TC_takeStep_116 (by decide) ?_
      have e0 : k_step (ks_n P) (ks_S P) (ks_W P) a c = k_do (ks_n P) (ks_S P) (ks_W P) (k_next a c) c (k_word a c) (a (4, c, 0) 6) := if_pos h1
      have e1 : k_do (ks_n P) (ks_S P) (ks_W P) (k_next a c) c (k_word a c) (a (4, c, 0) 6) = _ := (((((((((if_neg (fun z => absurd (h3.symm.trans z) (by decide))).trans (if_neg (fun z => absurd (h3.symm.trans z) (by decide)))).trans (if_neg (fun z => absurd (h3.symm.trans z) (by decide)))).trans (if_neg (fun z => absurd (h3.symm.trans z) (by decide)))).trans (if_neg (fun z => absurd (h3.symm.trans z) (by decide)))).trans (if_neg (fun z => absurd (h3.symm.trans z) (by decide)))).trans (if_neg (fun z => absurd (h3.symm.trans z) (by decide)))).trans (if_neg (fun z => absurd (h3.symm.trans z) (by decide)))).trans (if_pos h3))
      exact tk_iret X hlk hr d_TC_takeStep_117 (by rw [e0, e1]) (fun _ h => h) (Or.inr rfl) (kw_st (by rw [e0, e1]; try rfl) rfl rfl)
    by_cases h4 : (k_word a c) &&& 15 = 2
    · skip
      refine tk_tableAt (K := 2) (tgt := 111) X h4 d_TC_takeStep_35 (by decide) (by decide) rfl (by decide) ?_
      refine tk_aload_n X d_TC_takeStep_111 rfl rfl ?_
      refine tk_iload_n X d_TC_takeStep_112 rfl rfl ?_
      refine tk_callV X (kb := (4, c, 0)) (ks_d4 hc) rfl hc_Core (c_Core_reckon l P hP c hc (k_word a c) (k_next a c) b o) (ks_site (n := 1) mc_Core_reckon mi_Core (by decide +kernel) (by decide) (by decide)) m_TC_146 ms_Core_reckon mv_Core_reckon rfl (Nat.le_of_ble_eq_true rfl) ⟨Nat.le_of_ble_eq_true rfl, Nat.le_of_ble_eq_true rfl⟩ rfl d_TC_takeStep_113 ?_
      refine tk_iconst (v := 4) X d_TC_takeStep_116 (by decide) ?_
      have e0 : k_step (ks_n P) (ks_S P) (ks_W P) a c = k_do (ks_n P) (ks_S P) (ks_W P) (k_next a c) c (k_word a c) (a (4, c, 0) 6) := if_pos h1
      have e1 : k_do (ks_n P) (ks_S P) (ks_W P) (k_next a c) c (k_word a c) (a (4, c, 0) 6) = _ := ((((((((((if_neg (fun z => absurd (h4.symm.trans z) (by decide))).trans (if_neg (fun z => absurd (h4.symm.trans z) (by decide)))).trans (if_neg (fun z => absurd (h4.symm.trans z) (by decide)))).trans (if_neg (fun z => absurd (h4.symm.trans z) (by decide)))).trans (if_neg (fun z => absurd (h4.symm.trans z) (by decide)))).trans (if_neg (fun z => absurd (h4.symm.trans z) (by decide)))).trans (if_neg (fun z => absurd (h4.symm.trans z) (by decide)))).trans (if_neg (fun z => absurd (h4.symm.trans z) (by decide)))).trans (if_neg (fun z => absurd (h4.symm.trans z) (by decide)))).trans (if_pos h4))
      exact tk_iret X hlk hr d_TC_takeStep_117 (by rw [e0, e1]) (fun _ h => h) (Or.inr rfl) (kw_st (by rw [e0, e1]; try rfl) rfl rfl)
    by_cases h5 : (k_word a c) &&& 15 = 3
    · skip
      refine tk_tableAt (K := 3) (tgt := 111) X h5 d_TC_takeStep_35 (by decide) (by decide) rfl (by decide) ?_
      refine tk_aload_n X d_TC_takeStep_111 rfl rfl ?_
      refine tk_iload_n X d_TC_takeStep_112 rfl rfl ?_
      refine tk_callV X (kb := (4, c, 0)) (ks_d4 hc) rfl hc_Core (c_Core_reckon l P hP c hc (k_word a c) (k_next a c) b o) (ks_site (n := 1) mc_Core_reckon mi_Core (by decide +kernel) (by decide) (by decide)) m_TC_146 ms_Core_reckon mv_Core_reckon rfl (Nat.le_of_ble_eq_true rfl) ⟨Nat.le_of_ble_eq_true rfl, Nat.le_of_ble_eq_true rfl⟩ rfl d_TC_takeStep_113 ?_
      refine tk_iconst (v := 4) X d_TC_takeStep_116 (by decide) ?_
      have e0 : k_step (ks_n P) (ks_S P) (ks_W P) a c = k_do (ks_n P) (ks_S P) (ks_W P) (k_next a c) c (k_word a c) (a (4, c, 0) 6) := if_pos h1
      have e1 : k_do (ks_n P) (ks_S P) (ks_W P) (k_next a c) c (k_word a c) (a (4, c, 0) 6) = _ := (((((((((((if_neg (fun z => absurd (h5.symm.trans z) (by decide))).trans (if_neg (fun z => absurd (h5.symm.trans z) (by decide)))).trans (if_neg (fun z => absurd (h5.symm.trans z) (by decide)))).trans (if_neg (fun z => absurd (h5.symm.trans z) (by decide)))).trans (if_neg (fun z => absurd (h5.symm.trans z) (by decide)))).trans (if_neg (fun z => absurd (h5.symm.trans z) (by decide)))).trans (if_neg (fun z => absurd (h5.symm.trans z) (by decide)))).trans (if_neg (fun z => absurd (h5.symm.trans z) (by decide)))).trans (if_neg (fun z => absurd (h5.symm.trans z) (by decide)))).trans (if_neg (fun z => absurd (h5.symm.trans z) (by decide)))).trans (if_pos h5))
      exact tk_iret X hlk hr d_TC_takeStep_117 (by rw [e0, e1]) (fun _ h => h) (Or.inr rfl) (kw_st (by rw [e0, e1]; try rfl) rfl rfl)
    by_cases h6 : (k_word a c) &&& 15 = 4
    · skip
      refine tk_tableAt (K := 4) (tgt := 111) X h6 d_TC_takeStep_35 (by decide) (by decide) rfl (by decide) ?_
      refine tk_aload_n X d_TC_takeStep_111 rfl rfl ?_
      refine tk_iload_n X d_TC_takeStep_112 rfl rfl ?_
      refine tk_callV X (kb := (4, c, 0)) (ks_d4 hc) rfl hc_Core (c_Core_reckon l P hP c hc (k_word a c) (k_next a c) b o) (ks_site (n := 1) mc_Core_reckon mi_Core (by decide +kernel) (by decide) (by decide)) m_TC_146 ms_Core_reckon mv_Core_reckon rfl (Nat.le_of_ble_eq_true rfl) ⟨Nat.le_of_ble_eq_true rfl, Nat.le_of_ble_eq_true rfl⟩ rfl d_TC_takeStep_113 ?_
      refine tk_iconst (v := 4) X d_TC_takeStep_116 (by decide) ?_
      have e0 : k_step (ks_n P) (ks_S P) (ks_W P) a c = k_do (ks_n P) (ks_S P) (ks_W P) (k_next a c) c (k_word a c) (a (4, c, 0) 6) := if_pos h1
      have e1 : k_do (ks_n P) (ks_S P) (ks_W P) (k_next a c) c (k_word a c) (a (4, c, 0) 6) = _ := ((((((((((((if_neg (fun z => absurd (h6.symm.trans z) (by decide))).trans (if_neg (fun z => absurd (h6.symm.trans z) (by decide)))).trans (if_neg (fun z => absurd (h6.symm.trans z) (by decide)))).trans (if_neg (fun z => absurd (h6.symm.trans z) (by decide)))).trans (if_neg (fun z => absurd (h6.symm.trans z) (by decide)))).trans (if_neg (fun z => absurd (h6.symm.trans z) (by decide)))).trans (if_neg (fun z => absurd (h6.symm.trans z) (by decide)))).trans (if_neg (fun z => absurd (h6.symm.trans z) (by decide)))).trans (if_neg (fun z => absurd (h6.symm.trans z) (by decide)))).trans (if_neg (fun z => absurd (h6.symm.trans z) (by decide)))).trans (if_neg (fun z => absurd (h6.symm.trans z) (by decide)))).trans (if_pos h6))
      exact tk_iret X hlk hr d_TC_takeStep_117 (by rw [e0, e1]) (fun _ h => h) (Or.inr rfl) (kw_st (by rw [e0, e1]; try rfl) rfl rfl)
    by_cases h7 : (k_word a c) &&& 15 = 5
    · skip
      refine tk_tableAt (K := 5) (tgt := 118) X h7 d_TC_takeStep_35 (by decide) (by decide) rfl (by decide) ?_
      refine tk_aload_n X d_TC_takeStep_118 rfl rfl ?_
      refine tk_aload_n X d_TC_takeStep_119 rfl rfl ?_
      refine tk_iload_n X d_TC_takeStep_120 rfl rfl ?_
      refine tk_callV X (kb := (0, 0, 0)) (ks_d0 (by decide)) rfl hc_TC (c_TC_load l P hP c hc (k_word a c) (k_next a c) b o) (ks_site (n := 2) mc_TC_load mi_TC (by decide +kernel) (by decide) (by decide)) m_TC_150 ms_TC_load mv_TC_load rfl (Nat.le_of_ble_eq_true rfl) ⟨Nat.le_of_ble_eq_true rfl, Nat.le_of_ble_eq_true rfl⟩ rfl d_TC_takeStep_121 ?_
      have e0 : k_step (ks_n P) (ks_S P) (ks_W P) a c = k_do (ks_n P) (ks_S P) (ks_W P) (k_next a c) c (k_word a c) (a (4, c, 0) 6) := if_pos h1
      have e1 : k_do (ks_n P) (ks_S P) (ks_W P) (k_next a c) c (k_word a c) (a (4, c, 0) 6) = _ := ((if_neg (fun z => absurd (h7.symm.trans z) (by decide))).trans (if_pos h7))
      exact tk_iret X hlk hr d_TC_takeStep_124 (by rw [e0, e1]) (fun _ h => h) (Or.inr rfl) (kw_st (by rw [e0, e1]; try rfl) rfl rfl)
    by_cases h8 : (k_word a c) &&& 15 = 6
    · skip
      refine tk_tableAt (K := 6) (tgt := 125) X h8 d_TC_takeStep_35 (by decide) (by decide) rfl (by decide) ?_
      refine tk_aload_n X d_TC_takeStep_125 rfl rfl ?_
      refine tk_aload_n X d_TC_takeStep_126 rfl rfl ?_
      refine tk_iload_n X d_TC_takeStep_127 rfl rfl ?_
      refine tk_callV X (kb := (0, 0, 0)) (ks_d0 (by decide)) rfl hc_TC (c_TC_save l P hP c hc (k_word a c) (k_next a c) b o) (ks_site (n := 2) mc_TC_save mi_TC (by decide +kernel) (by decide) (by decide)) m_TC_154 ms_TC_save mv_TC_save rfl (Nat.le_of_ble_eq_true rfl) ⟨Nat.le_of_ble_eq_true rfl, Nat.le_of_ble_eq_true rfl⟩ rfl d_TC_takeStep_128 ?_
      have e0 : k_step (ks_n P) (ks_S P) (ks_W P) a c = k_do (ks_n P) (ks_S P) (ks_W P) (k_next a c) c (k_word a c) (a (4, c, 0) 6) := if_pos h1
      have e1 : k_do (ks_n P) (ks_S P) (ks_W P) (k_next a c) c (k_word a c) (a (4, c, 0) 6) = _ := (((if_neg (fun z => absurd (h8.symm.trans z) (by decide))).trans (if_neg (fun z => absurd (h8.symm.trans z) (by decide)))).trans (if_pos h8))
      exact tk_iret X hlk hr d_TC_takeStep_131 (by rw [e0, e1]) (fun _ h => h) (Or.inr rfl) (kw_st (by rw [e0, e1]; try rfl) rfl rfl)
    by_cases h9 : (k_word a c) &&& 15 = 7
    · skip
      refine tk_tableAt (K := 7) (tgt := 132) X h9 d_TC_takeStep_35 (by decide) (by decide) rfl (by decide) ?_
      refine tk_aload_n X d_TC_takeStep_132 rfl rfl ?_
      refine tk_iload_n X d_TC_takeStep_133 rfl rfl ?_
      refine tk_callV X (kb := (4, c, 0)) (ks_d4 hc) rfl hc_Core (c_Core_branch l P hP c hc (k_word a c) (k_next a c) b o) (ks_site (n := 1) mc_Core_branch mi_Core (by decide +kernel) (by decide) (by decide)) m_TC_157 ms_Core_branch mv_Core_branch rfl (Nat.le_of_ble_eq_true rfl) ⟨Nat.le_of_ble_eq_true rfl, Nat.le_of_ble_eq_true rfl⟩ rfl d_TC_takeStep_134 ?_
      refine tk_iconst (v := 4) X d_TC_takeStep_137 (by decide) ?_
      have e0 : k_step (ks_n P) (ks_S P) (ks_W P) a c = k_do (ks_n P) (ks_S P) (ks_W P) (k_next a c) c (k_word a c) (a (4, c, 0) 6) := if_pos h1
      have e1 : k_do (ks_n P) (ks_S P) (ks_W P) (k_next a c) c (k_word a c) (a (4, c, 0) 6) = _ := ((((if_neg (fun z => absurd (h9.symm.trans z) (by decide))).trans (if_neg (fun z => absurd (h9.symm.trans z) (by decide)))).trans (if_neg (fun z => absurd (h9.symm.trans z) (by decide)))).trans (if_pos h9))
      exact tk_iret X hlk hr d_TC_takeStep_138 (by rw [e0, e1]) (fun _ h => h) (Or.inr rfl) (kw_st (by rw [e0, e1]; try rfl) rfl rfl)
    by_cases h10 : (k_word a c) &&& 15 = 8
    · skip
      refine tk_tableAt (K := 8) (tgt := 132) X h10 d_TC_takeStep_35 (by decide) (by decide) rfl (by decide) ?_
      refine tk_aload_n X d_TC_takeStep_132 rfl rfl ?_
      refine tk_iload_n X d_TC_takeStep_133 rfl rfl ?_
      refine tk_callV X (kb := (4, c, 0)) (ks_d4 hc) rfl hc_Core (c_Core_branch l P hP c hc (k_word a c) (k_next a c) b o) (ks_site (n := 1) mc_Core_branch mi_Core (by decide +kernel) (by decide) (by decide)) m_TC_157 ms_Core_branch mv_Core_branch rfl (Nat.le_of_ble_eq_true rfl) ⟨Nat.le_of_ble_eq_true rfl, Nat.le_of_ble_eq_true rfl⟩ rfl d_TC_takeStep_134 ?_
      refine tk_iconst (v := 4) X d_TC_takeStep_137 (by decide) ?_
      have e0 : k_step (ks_n P) (ks_S P) (ks_W P) a c = k_do (ks_n P) (ks_S P) (ks_W P) (k_next a c) c (k_word a c) (a (4, c, 0) 6) := if_pos h1
      have e1 : k_do (ks_n P) (ks_S P) (ks_W P) (k_next a c) c (k_word a c) (a (4, c, 0) 6) = _ := (((((if_neg (fun z => absurd (h10.symm.trans z) (by decide))).trans (if_neg (fun z => absurd (h10.symm.trans z) (by decide)))).trans (if_neg (fun z => absurd (h10.symm.trans z) (by decide)))).trans (if_neg (fun z => absurd (h10.symm.trans z) (by decide)))).trans (if_pos h10))
      exact tk_iret X hlk hr d_TC_takeStep_138 (by rw [e0, e1]) (fun _ h => h) (Or.inr rfl) (kw_st (by rw [e0, e1]; try rfl) rfl rfl)
    by_cases h11 : (k_word a c) &&& 15 = 9
    · skip
      refine tk_tableAt (K := 9) (tgt := 139) X h11 d_TC_takeStep_35 (by decide) (by decide) rfl (by decide) ?_
      refine tk_aload_n X d_TC_takeStep_139 rfl rfl ?_
      refine tk_iload_n X d_TC_takeStep_140 rfl rfl ?_
      refine tk_callS X (c_TC_immediateOf l P hP (k_word a c) (k_next a c) b o) (ks_site (n := 1) mc_TC_immediateOf mi_TC (by decide +kernel) (by decide) (by decide)) m_TC_140 ms_TC_immediateOf rfl (Nat.le_of_ble_eq_true rfl) ⟨Nat.le_of_ble_eq_true rfl, Nat.le_of_ble_eq_true rfl⟩ rfl d_TC_takeStep_141 ?_
      refine tk_callV X (kb := (4, c, 0)) (ks_d4 hc) rfl hc_Core (c_Core_begin l P hP c hc (q_imm (k_word a c)) (k_next a c) b o) (ks_site (n := 1) mc_Core_begin mi_Core (by decide +kernel) (by decide) (by decide)) m_TC_160 ms_Core_begin mv_Core_begin rfl (Nat.le_of_ble_eq_true rfl) ⟨Nat.le_of_ble_eq_true rfl, Nat.le_of_ble_eq_true rfl⟩ rfl d_TC_takeStep_144 ?_
      have e0 : k_step (ks_n P) (ks_S P) (ks_W P) a c = k_do (ks_n P) (ks_S P) (ks_W P) (k_next a c) c (k_word a c) (a (4, c, 0) 6) := if_pos h1
      have e1 : k_do (ks_n P) (ks_S P) (ks_W P) (k_next a c) c (k_word a c) (a (4, c, 0) 6) = _ := ((((((if_neg (fun z => absurd (h11.symm.trans z) (by decide))).trans (if_neg (fun z => absurd (h11.symm.trans z) (by decide)))).trans (if_neg (fun z => absurd (h11.symm.trans z) (by decide)))).trans (if_neg (fun z => absurd (h11.symm.trans z) (by decide)))).trans (if_neg (fun z => absurd (h11.symm.trans z) (by decide)))).trans (if_pos h11))
      exact tk_iret X hlk hr d_TC_takeStep_147 (by rw [e0, e1]) (fun _ h => h) (Or.inr rfl) (kw_st (by rw [e0, e1]; try rfl) rfl rfl)
    by_cases h12 : (k_word a c) &&& 15 = 10
    · skip
      refine tk_tableAt (K := 10) (tgt := 148) X h12 d_TC_takeStep_35 (by decide) (by decide) rfl (by decide) ?_
      refine tk_aload_n X d_TC_takeStep_148 rfl rfl ?_
      refine tk_getN X (k := (4, c, 0)) (dm := ks_dm P) (ks_d4 hc) rfl hc_Core hi_Core 8 (by decide) n_TC_86 (v := .int _) rfl d_TC_takeStep_149 ?_
      refine tk_if_ne (tgt := 163) X d_TC_takeStep_152 (by decide) (fun h13 => ?_) (fun h13 => ?_)
      · skip
        refine tk_aload_n X d_TC_takeStep_163 rfl rfl ?_
        refine tk_callV X (kb := (4, c, 0)) (ks_d4 hc) rfl hc_Core (c_Core_end l P hP c hc (k_next a c) b o) (ks_site (n := 0) mc_Core_end mi_Core (by decide +kernel) (by decide) (by decide)) m_TC_166 ms_Core_end mv_Core_end rfl (Nat.le_of_ble_eq_true rfl) ⟨Nat.le_of_ble_eq_true rfl, Nat.le_of_ble_eq_true rfl⟩ rfl d_TC_takeStep_164 ?_
        have e0 : k_step (ks_n P) (ks_S P) (ks_W P) a c = k_do (ks_n P) (ks_S P) (ks_W P) (k_next a c) c (k_word a c) (a (4, c, 0) 6) := if_pos h1
        have e1 : k_do (ks_n P) (ks_S P) (ks_W P) (k_next a c) c (k_word a c) (a (4, c, 0) 6) = _ := ((((((((if_neg (fun z => absurd (h12.symm.trans z) (by decide))).trans (if_neg (fun z => absurd (h12.symm.trans z) (by decide)))).trans (if_neg (fun z => absurd (h12.symm.trans z) (by decide)))).trans (if_neg (fun z => absurd (h12.symm.trans z) (by decide)))).trans (if_neg (fun z => absurd (h12.symm.trans z) (by decide)))).trans (if_neg (fun z => absurd (h12.symm.trans z) (by decide)))).trans (if_pos h12)).trans (if_neg h13))
        exact tk_iret X hlk hr d_TC_takeStep_167 (by rw [e0, e1]) (fun _ h => h) (Or.inr rfl) (kw_st (by rw [e0, e1]; try rfl) rfl rfl)
      · skip
        refine tk_aload_n X d_TC_takeStep_155 rfl rfl ?_
        refine tk_iload_n X d_TC_takeStep_156 rfl rfl ?_
        refine tk_callV X (kb := (4, c, 0)) (ks_d4 hc) rfl hc_Core (c_Core_fault l P hP c hc (a (4, c, 0) 6) (k_next a c) b o) (ks_site (n := 1) mc_Core_fault mi_Core (by decide +kernel) (by decide) (by decide)) m_TC_163 ms_Core_fault mv_Core_fault rfl (Nat.le_of_ble_eq_true rfl) ⟨Nat.le_of_ble_eq_true rfl, Nat.le_of_ble_eq_true rfl⟩ rfl d_TC_takeStep_157 ?_
        refine tk_goto (tgt := 167) X d_TC_takeStep_160 (by decide) ?_
        have e0 : k_step (ks_n P) (ks_S P) (ks_W P) a c = k_do (ks_n P) (ks_S P) (ks_W P) (k_next a c) c (k_word a c) (a (4, c, 0) 6) := if_pos h1
        have e1 : k_do (ks_n P) (ks_S P) (ks_W P) (k_next a c) c (k_word a c) (a (4, c, 0) 6) = _ := ((((((((if_neg (fun z => absurd (h12.symm.trans z) (by decide))).trans (if_neg (fun z => absurd (h12.symm.trans z) (by decide)))).trans (if_neg (fun z => absurd (h12.symm.trans z) (by decide)))).trans (if_neg (fun z => absurd (h12.symm.trans z) (by decide)))).trans (if_neg (fun z => absurd (h12.symm.trans z) (by decide)))).trans (if_neg (fun z => absurd (h12.symm.trans z) (by decide)))).trans (if_pos h12)).trans (if_pos h13))
        exact tk_iret X hlk hr d_TC_takeStep_167 (by rw [e0, e1]) (fun _ h => h) (Or.inr rfl) (kw_st (by rw [e0, e1]; try rfl) rfl rfl)
    by_cases h14 : (k_word a c) &&& 15 = 11
    · skip
      refine tk_tableAt (K := 11) (tgt := 168) X h14 d_TC_takeStep_35 (by decide) (by decide) rfl (by decide) ?_
      refine tk_aload_n X d_TC_takeStep_168 rfl rfl ?_
      refine tk_iload_n X d_TC_takeStep_169 rfl rfl ?_
      refine tk_callS X (c_TC_immediateOf l P hP (k_word a c) (k_next a c) b o) (ks_site (n := 1) mc_TC_immediateOf mi_TC (by decide +kernel) (by decide) (by decide)) m_TC_140 ms_TC_immediateOf rfl (Nat.le_of_ble_eq_true rfl) ⟨Nat.le_of_ble_eq_true rfl, Nat.le_of_ble_eq_true rfl⟩ rfl d_TC_takeStep_170 ?_
      refine tk_callV X (kb := (4, c, 0)) (ks_d4 hc) rfl hc_Core (c_Core_giveUp l P hP c hc (q_imm (k_word a c)) (k_next a c) b o) (ks_site (n := 1) mc_Core_giveUp mi_Core (by decide +kernel) (by decide) (by decide)) m_TC_170 ms_Core_giveUp mv_Core_giveUp rfl (Nat.le_of_ble_eq_true rfl) ⟨Nat.le_of_ble_eq_true rfl, Nat.le_of_ble_eq_true rfl⟩ rfl d_TC_takeStep_173 ?_
      have e0 : k_step (ks_n P) (ks_S P) (ks_W P) a c = k_do (ks_n P) (ks_S P) (ks_W P) (k_next a c) c (k_word a c) (a (4, c, 0) 6) := if_pos h1
      have e1 : k_do (ks_n P) (ks_S P) (ks_W P) (k_next a c) c (k_word a c) (a (4, c, 0) 6) = _ := ((((((((if_neg (fun z => absurd (h14.symm.trans z) (by decide))).trans (if_neg (fun z => absurd (h14.symm.trans z) (by decide)))).trans (if_neg (fun z => absurd (h14.symm.trans z) (by decide)))).trans (if_neg (fun z => absurd (h14.symm.trans z) (by decide)))).trans (if_neg (fun z => absurd (h14.symm.trans z) (by decide)))).trans (if_neg (fun z => absurd (h14.symm.trans z) (by decide)))).trans (if_neg (fun z => absurd (h14.symm.trans z) (by decide)))).trans (if_pos h14))
      exact tk_iret X hlk hr d_TC_takeStep_176 (by rw [e0, e1]) (fun _ h => h) (Or.inr rfl) (kw_st (by rw [e0, e1]; try rfl) rfl rfl)
    by_cases h15 : (k_word a c) &&& 15 = 12
    · skip
      refine tk_tableAt (K := 12) (tgt := 111) X h15 d_TC_takeStep_35 (by decide) (by decide) rfl (by decide) ?_
      refine tk_aload_n X d_TC_takeStep_111 rfl rfl ?_
      refine tk_iload_n X d_TC_takeStep_112 rfl rfl ?_
      refine tk_callV X (kb := (4, c, 0)) (ks_d4 hc) rfl hc_Core (c_Core_reckon l P hP c hc (k_word a c) (k_next a c) b o) (ks_site (n := 1) mc_Core_reckon mi_Core (by decide +kernel) (by decide) (by decide)) m_TC_146 ms_Core_reckon mv_Core_reckon rfl (Nat.le_of_ble_eq_true rfl) ⟨Nat.le_of_ble_eq_true rfl, Nat.le_of_ble_eq_true rfl⟩ rfl d_TC_takeStep_113 ?_
      refine tk_iconst (v := 4) X d_TC_takeStep_116 (by decide) ?_
      have e0 : k_step (ks_n P) (ks_S P) (ks_W P) a c = k_do (ks_n P) (ks_S P) (ks_W P) (k_next a c) c (k_word a c) (a (4, c, 0) 6) := if_pos h1
      have e1 : k_do (ks_n P) (ks_S P) (ks_W P) (k_next a c) c (k_word a c) (a (4, c, 0) 6) = _ := (((((((((((((if_neg (fun z => absurd (h15.symm.trans z) (by decide))).trans (if_neg (fun z => absurd (h15.symm.trans z) (by decide)))).trans (if_neg (fun z => absurd (h15.symm.trans z) (by decide)))).trans (if_neg (fun z => absurd (h15.symm.trans z) (by decide)))).trans (if_neg (fun z => absurd (h15.symm.trans z) (by decide)))).trans (if_neg (fun z => absurd (h15.symm.trans z) (by decide)))).trans (if_neg (fun z => absurd (h15.symm.trans z) (by decide)))).trans (if_neg (fun z => absurd (h15.symm.trans z) (by decide)))).trans (if_neg (fun z => absurd (h15.symm.trans z) (by decide)))).trans (if_neg (fun z => absurd (h15.symm.trans z) (by decide)))).trans (if_neg (fun z => absurd (h15.symm.trans z) (by decide)))).trans (if_neg (fun z => absurd (h15.symm.trans z) (by decide)))).trans (if_pos h15))
      exact tk_iret X hlk hr d_TC_takeStep_117 (by rw [e0, e1]) (fun _ h => h) (Or.inr rfl) (kw_st (by rw [e0, e1]; try rfl) rfl rfl)
    by_cases h16 : (k_word a c) &&& 15 = 13
    · skip
      refine tk_tableAt (K := 13) (tgt := 111) X h16 d_TC_takeStep_35 (by decide) (by decide) rfl (by decide) ?_
      refine tk_aload_n X d_TC_takeStep_111 rfl rfl ?_
      refine tk_iload_n X d_TC_takeStep_112 rfl rfl ?_
      refine tk_callV X (kb := (4, c, 0)) (ks_d4 hc) rfl hc_Core (c_Core_reckon l P hP c hc (k_word a c) (k_next a c) b o) (ks_site (n := 1) mc_Core_reckon mi_Core (by decide +kernel) (by decide) (by decide)) m_TC_146 ms_Core_reckon mv_Core_reckon rfl (Nat.le_of_ble_eq_true rfl) ⟨Nat.le_of_ble_eq_true rfl, Nat.le_of_ble_eq_true rfl⟩ rfl d_TC_takeStep_113 ?_
      refine tk_iconst (v := 4) X d_TC_takeStep_116 (by decide) ?_
      have e0 : k_step (ks_n P) (ks_S P) (ks_W P) a c = k_do (ks_n P) (ks_S P) (ks_W P) (k_next a c) c (k_word a c) (a (4, c, 0) 6) := if_pos h1
      have e1 : k_do (ks_n P) (ks_S P) (ks_W P) (k_next a c) c (k_word a c) (a (4, c, 0) 6) = _ := ((((((((((((((if_neg (fun z => absurd (h16.symm.trans z) (by decide))).trans (if_neg (fun z => absurd (h16.symm.trans z) (by decide)))).trans (if_neg (fun z => absurd (h16.symm.trans z) (by decide)))).trans (if_neg (fun z => absurd (h16.symm.trans z) (by decide)))).trans (if_neg (fun z => absurd (h16.symm.trans z) (by decide)))).trans (if_neg (fun z => absurd (h16.symm.trans z) (by decide)))).trans (if_neg (fun z => absurd (h16.symm.trans z) (by decide)))).trans (if_neg (fun z => absurd (h16.symm.trans z) (by decide)))).trans (if_neg (fun z => absurd (h16.symm.trans z) (by decide)))).trans (if_neg (fun z => absurd (h16.symm.trans z) (by decide)))).trans (if_neg (fun z => absurd (h16.symm.trans z) (by decide)))).trans (if_neg (fun z => absurd (h16.symm.trans z) (by decide)))).trans (if_neg (fun z => absurd (h16.symm.trans z) (by decide)))).trans (if_pos h16))
      exact tk_iret X hlk hr d_TC_takeStep_117 (by rw [e0, e1]) (fun _ h => h) (Or.inr rfl) (kw_st (by rw [e0, e1]; try rfl) rfl rfl)
    refine tk_tableOut (tgt := 177) X d_TC_takeStep_35 (by have := lv_neT (a := 0) h2 (by decide); have := lv_neT (a := 1) h3 (by decide); have := lv_neT (a := 2) h4 (by decide); have := lv_neT (a := 3) h5 (by decide); have := lv_neT (a := 4) h6 (by decide); have := lv_neT (a := 5) h7 (by decide); have := lv_neT (a := 6) h8 (by decide); have := lv_neT (a := 7) h9 (by decide); have := lv_neT (a := 8) h10 (by decide); have := lv_neT (a := 9) h11 (by decide); have := lv_neT (a := 10) h12 (by decide); have := lv_neT (a := 11) h14 (by decide); have := lv_neT (a := 12) h15 (by decide); have := lv_neT (a := 13) h16 (by decide); omega) (by decide) ?_
    refine tk_aload_n X d_TC_takeStep_177 rfl rfl ?_
    refine tk_iload_n X d_TC_takeStep_178 rfl rfl ?_
    refine tk_callV X (kb := (4, c, 0)) (ks_d4 hc) rfl hc_Core (c_Core_fault l P hP c hc (a (4, c, 0) 6) (k_next a c) b o) (ks_site (n := 1) mc_Core_fault mi_Core (by decide +kernel) (by decide) (by decide)) m_TC_163 ms_Core_fault mv_Core_fault rfl (Nat.le_of_ble_eq_true rfl) ⟨Nat.le_of_ble_eq_true rfl, Nat.le_of_ble_eq_true rfl⟩ rfl d_TC_takeStep_179 ?_
    have e0 : k_step (ks_n P) (ks_S P) (ks_W P) a c = k_do (ks_n P) (ks_S P) (ks_W P) (k_next a c) c (k_word a c) (a (4, c, 0) 6) := if_pos h1
    have e1 : k_do (ks_n P) (ks_S P) (ks_W P) (k_next a c) c (k_word a c) (a (4, c, 0) 6) = _ := ((((((((((((((if_neg h2).trans (if_neg h7)).trans (if_neg h8)).trans (if_neg h9)).trans (if_neg h10)).trans (if_neg h11)).trans (if_neg h12)).trans (if_neg h14)).trans (if_neg h3)).trans (if_neg h4)).trans (if_neg h5)).trans (if_neg h6)).trans (if_neg h15)).trans (if_neg h16))
    exact tk_iret X hlk hr d_TC_takeStep_182 (by rw [e0, e1]) (fun _ h => h) (Or.inr rfl) (kw_st (by rw [e0, e1]; try rfl) rfl rfl)
  · skip
    refine tk_iconst (v := 0) X d_TC_takeStep_7 (by decide) ?_
    have e1 : k_step (ks_n P) (ks_S P) (ks_W P) a c = _ := if_neg h1
    exact tk_iret X hlk hr d_TC_takeStep_8 (by rw [e1]) (fun _ h => h) (Or.inr rfl) (kw_st (by rw [e1]) rfl rfl)

set_option maxRecDepth 100000 in
set_option maxHeartbeats 4000000 in
theorem c_TC_memory (l : Launch) (P : ks_P) (hP : ks_ok P) (x : Int32) (a b : ks_M) (o : ks_O) : kc l P y_TC_memory b_TC_memory 2 (some .int) 1 [.ref (tk_ad (ks_G P) (0, 0, 0)), .int x] a b o (some (.int (k_get a x))) a b o := by
  have hn64 := ks_n64 hP
  have hT64 := ks_T64 hP
  refine tk_of hP.2.2.2.2.2 (by decide) rfl (Nat.le_of_ble_eq_true rfl) ?_
  intro p e s m below meth c0 X hlk hr hnm
  refine tk_aload_n X d_TC_memory_0 rfl rfl ?_
  refine tk_get X (k := (0, 0, 0)) (dm := ks_dm P) (ks_d0 (by decide)) rfl hc_TC hi_TC 0 (by decide) m_TC_16 (v := .ref (tk_ad (ks_G P) (1, 0, 0))) rfl d_TC_memory_1 ?_
  refine tk_iload_n X d_TC_memory_4 rfl rfl ?_
  refine tk_callV X (kb := (1, 0, 0)) (ks_d0 (by decide)) rfl hc_Store (c_Store_get l P hP x a b o) (ks_site (n := 1) mc_Store_get mi_Store (by decide +kernel) (by decide) (by decide)) m_TC_74 ms_Store_get mv_Store_get rfl (Nat.le_of_ble_eq_true rfl) ⟨Nat.le_of_ble_eq_true rfl, Nat.le_of_ble_eq_true rfl⟩ rfl d_TC_memory_5 ?_
  exact tk_iret X hlk hr d_TC_memory_8 (rfl) (fun _ h => h) (Or.inr rfl) (fun _ _ => rfl)

set_option maxRecDepth 100000 in
set_option maxHeartbeats 4000000 in
theorem c_TC_requests (l : Launch) (P : ks_P) (hP : ks_ok P)  (a b : ks_M) (o : ks_O) : kc l P y_TC_requests b_TC_requests 1 (some .int) 0 [.ref (tk_ad (ks_G P) (0, 0, 0))] a b o (some (.int (a (0, 0, 0) 2))) a b o := by
  have hn64 := ks_n64 hP
  have hT64 := ks_T64 hP
  refine tk_of hP.2.2.2.2.2 (by decide) rfl (Nat.le_of_ble_eq_true rfl) ?_
  intro p e s m below meth c0 X hlk hr hnm
  refine tk_aload_n X d_TC_requests_0 rfl rfl ?_
  refine tk_get X (k := (0, 0, 0)) (dm := ks_dm P) (ks_d0 (by decide)) rfl hc_TC hi_TC 2 (by decide) m_TC_123 (v := .int _) rfl d_TC_requests_1 ?_
  exact tk_iret X hlk hr d_TC_requests_4 (rfl) (fun _ h => h) (Or.inr rfl) (fun _ _ => rfl)

set_option maxRecDepth 100000 in
set_option maxHeartbeats 4000000 in
theorem c_TC_poke (l : Launch) (P : ks_P) (hP : ks_ok P) (x v : Int32) (a b : ks_M) (o : ks_O) : kc l P y_TC_poke b_TC_poke 3 none 4 [.ref (tk_ad (ks_G P) (0, 0, 0)), .int x, .int v] a b o (none) (k_poke (ks_n P) (ks_S P) (ks_W P) a x v) b o := by
  have hn64 := ks_n64 hP
  have hT64 := ks_T64 hP
  refine tk_of hP.2.2.2.2.2 (by decide) rfl (Nat.le_of_ble_eq_true rfl) ?_
  intro p e s m below meth c0 X hlk hr hnm
  refine tk_aload_n X d_TC_poke_0 rfl rfl ?_
  refine tk_iconst (v := -1) X d_TC_poke_1 (by decide) ?_
  refine tk_iload_n X d_TC_poke_2 rfl rfl ?_
  refine tk_callS X (c_TC_lineOf2 l P hP x a b o) (ks_site (n := 1) mc_TC_lineOf mi_TC (by decide +kernel) (by decide) (by decide)) m_TC_44 ms_TC_lineOf rfl (Nat.le_of_ble_eq_true rfl) ⟨Nat.le_of_ble_eq_true rfl, Nat.le_of_ble_eq_true rfl⟩ rfl d_TC_poke_3 ?_
  refine tk_iconst (v := 1) X d_TC_poke_6 (by decide) ?_
  refine tk_callV X (kb := (0, 0, 0)) (ks_d0 (by decide)) rfl hc_TC (c_TC_sendRequest l P hP (q_ln x) (q_ln_lt x) (-1) true a b o) (ks_site (n := 3) mc_TC_sendRequest mi_TC (by decide +kernel) (by decide) (by decide)) m_TC_47 ms_TC_sendRequest mv_TC_sendRequest rfl (Nat.le_of_ble_eq_true rfl) ⟨Nat.le_of_ble_eq_true rfl, Nat.le_of_ble_eq_true rfl⟩ rfl d_TC_poke_7 ?_
  refine tk_aload_n X d_TC_poke_10 rfl rfl ?_
  refine tk_get X (k := (0, 0, 0)) (dm := ks_dm P) (ks_d0 (by decide)) rfl hc_TC hi_TC 0 (by decide) m_TC_16 (v := .ref (tk_ad (ks_G P) (1, 0, 0))) rfl d_TC_poke_11 ?_
  refine tk_iload_n X d_TC_poke_14 rfl rfl ?_
  refine tk_iload_n X d_TC_poke_15 rfl rfl ?_
  refine tk_callV X (kb := (1, 0, 0)) (ks_d0 (by decide)) rfl hc_Store (c_Store_put l P hP x v _ b o) (ks_site (n := 2) mc_Store_put mi_Store (by decide +kernel) (by decide) (by decide)) m_TC_51 ms_Store_put mv_Store_put rfl (Nat.le_of_ble_eq_true rfl) ⟨Nat.le_of_ble_eq_true rfl, Nat.le_of_ble_eq_true rfl⟩ rfl d_TC_poke_16 ?_
  exact tk_vret X hlk hr d_TC_poke_19 rfl (fun _ h => h) (Or.inr rfl) (fun _ _ => rfl)
