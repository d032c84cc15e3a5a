theorem c_TC_lineOf2 (l : Launch) (P : ks_P) (hP : ks_ok P) (x : Int32) (a b : ks_M) (o : ks_O) : kc l P y_TC_lineOf b_TC_lineOf 1 (some .int) 0 [.int x] a b o (some (.int (nI (q_ln x)))) a b o := by
  rw [← q_ln_eq]
  exact c_TC_lineOf l P hP x a b o

set_option maxRecDepth 100000 in
set_option maxHeartbeats 4000000 in
theorem c_TC_refill (l : Launch) (P : ks_P) (hP : ks_ok P) (c j : Nat) (hc : c < ks_n P) (hj : j < ks_T P) (x : Int32) (a b : ks_M) (o : ks_O) : kc l P y_TC_refill b_TC_refill 3 none 2 [.ref (tk_ad (ks_G P) (0, 0, 0)), .ref (tk_ad (ks_G P) (7, c, j)), .int x] a b o (none) (k_refill a c j x) b o := by
  have hn64 := ks_n64 hP
  have hT64 := ks_T64 hP
  refine tk_of hP.2.2.2.2.2 (by decide) rfl (Nat.le_of_ble_eq_true rfl) ?_
  intro p e s m below meth c0 X hlk hr hnm
  refine tk_aload_n X d_TC_refill_0 rfl rfl ?_
  refine tk_getN X (k := (7, c, j)) (dm := ks_dm P) (ks_d7 hc hj) rfl hc_Way hi_Way 0 (by decide) n_TC_62 (v := .int _) rfl d_TC_refill_1 ?_
  refine tk_iconst (v := 2) X d_TC_refill_4 (by decide) ?_
  refine tk_icmp_ne (tgt := 16) X d_TC_refill_5 (by decide) (fun h1 => ?_) (fun h1 => ?_)
  · skip
    refine tk_aload_n X d_TC_refill_16 rfl rfl ?_
    refine tk_get X (k := (0, 0, 0)) (dm := ks_dm P) (ks_d0 (by decide)) rfl hc_TC hi_TC 0 (by decide) m_TC_16 (v := .ref (tk_ad (ks_G P) (1, 0, 0))) rfl d_TC_refill_17 ?_
    refine tk_aload_n X d_TC_refill_20 rfl rfl ?_
    refine tk_iload_n X d_TC_refill_21 rfl rfl ?_
    refine tk_callV X (kb := (1, 0, 0)) (ks_d0 (by decide)) rfl hc_Store (c_Store_fill l P hP c j hc hj x _ b o) (ks_site (n := 2) mc_Store_fill mi_Store (by decide +kernel) (by decide) (by decide)) m_TC_211 ms_Store_fill mv_Store_fill rfl (Nat.le_of_ble_eq_true rfl) ⟨Nat.le_of_ble_eq_true rfl, Nat.le_of_ble_eq_true rfl⟩ rfl d_TC_refill_22 ?_
    refine tk_aload_n X d_TC_refill_25 rfl rfl ?_
    refine tk_iconst (v := 1) X d_TC_refill_26 (by decide) ?_
    refine kw_putN X (k := (7, c, j)) (ks_d7 hc hj) rfl hc_Way hi_Way t_Way t_Way_ok n_Way 0 (by decide) rfl n_TC_62 rfl rfl rfl d_TC_refill_27 ?_
    have e1 : k_kp a c j = _ := if_neg h1
    exact tk_vret X hlk hr d_TC_refill_30 rfl (fun _ h => h) (Or.inr rfl) (kw_st (by rw [k_refill, e1]) rfl rfl)
  · skip
    refine tk_aload_n X d_TC_refill_8 rfl rfl ?_
    refine tk_get X (k := (0, 0, 0)) (dm := ks_dm P) (ks_d0 (by decide)) rfl hc_TC hi_TC 0 (by decide) m_TC_16 (v := .ref (tk_ad (ks_G P) (1, 0, 0))) rfl d_TC_refill_9 ?_
    refine tk_aload_n X d_TC_refill_12 rfl rfl ?_
    refine tk_callV X (kb := (1, 0, 0)) (ks_d0 (by decide)) rfl hc_Store (c_Store_keep l P hP c j hc hj a b o) (ks_site (n := 1) mc_Store_keep mi_Store (by decide +kernel) (by decide) (by decide)) m_TC_207 ms_Store_keep mv_Store_keep rfl (Nat.le_of_ble_eq_true rfl) ⟨Nat.le_of_ble_eq_true rfl, Nat.le_of_ble_eq_true rfl⟩ rfl d_TC_refill_13 ?_
    refine tk_aload_n X d_TC_refill_16 rfl rfl ?_
    refine tk_get X (k := (0, 0, 0)) (dm := ks_dm P) (ks_d0 (by decide)) rfl hc_TC hi_TC 0 (by decide) m_TC_16 (v := .ref (tk_ad (ks_G P) (1, 0, 0))) rfl d_TC_refill_17 ?_
    refine tk_aload_n X d_TC_refill_20 rfl rfl ?_
    refine tk_iload_n X d_TC_refill_21 rfl rfl ?_
    refine tk_callV X (kb := (1, 0, 0)) (ks_d0 (by decide)) rfl hc_Store (c_Store_fill l P hP c j hc hj x _ b o) (ks_site (n := 2) mc_Store_fill mi_Store (by decide +kernel) (by decide) (by decide)) m_TC_211 ms_Store_fill mv_Store_fill rfl (Nat.le_of_ble_eq_true rfl) ⟨Nat.le_of_ble_eq_true rfl, Nat.le_of_ble_eq_true rfl⟩ rfl d_TC_refill_22 ?_
    refine tk_aload_n X d_TC_refill_25 rfl rfl ?_
    refine tk_iconst (v := 1) X d_TC_refill_26 (by decide) ?_
    refine kw_putN X (k := (7, c, j)) (ks_d7 hc hj) rfl hc_Way hi_Way t_Way t_Way_ok n_Way 0 (by decide) rfl n_TC_62 rfl rfl rfl d_TC_refill_27 ?_
    have e1 : k_kp a c j = _ := if_pos h1
    exact tk_vret X hlk hr d_TC_refill_30 rfl (fun _ h => h) (Or.inr rfl) (kw_st (by rw [k_refill, e1]) rfl rfl)

set_option maxRecDepth 100000 in
set_option maxHeartbeats 4000000 in
theorem c_TC_makeModified (l : Launch) (P : ks_P) (hP : ks_ok P) (c j : Nat) (hc : c < ks_n P) (hj : j < ks_T P) (w : Bool) (a b : ks_M) (o : ks_O) : kc l P y_TC_makeModified b_TC_makeModified 3 none 2 [.ref (tk_ad (ks_G P) (0, 0, 0)), .ref (tk_ad (ks_G P) (7, c, j)), .int (q_b w)] a b o (none) (k_modify a c j w) b o := by
  have hn64 := ks_n64 hP
  have hT64 := ks_T64 hP
  cases w with
  | false =>
    refine tk_of hP.2.2.2.2.2 (by decide) rfl (Nat.le_of_ble_eq_true rfl) ?_
    intro p e s m below meth c0 X hlk hr hnm
    refine tk_iload_n X d_TC_makeModified_0 rfl rfl ?_
    refine tk_if_eq (tgt := 29) X d_TC_makeModified_1 (by decide) (fun _ => ?_) (fun h => absurd (by decide) h)
    refine tk_aload_n X d_TC_makeModified_29 rfl rfl ?_
    refine tk_iconst (v := 2) X d_TC_makeModified_30 (by decide) ?_
    refine kw_putN X (k := (7, c, j)) (ks_d7 hc hj) rfl hc_Way hi_Way t_Way t_Way_ok n_Way 0 (by decide) rfl n_TC_62 rfl rfl rfl d_TC_makeModified_31 ?_
    have e1 : k_kp2 a c j false = _ := (if_neg (by decide))
    exact tk_vret X hlk hr d_TC_makeModified_34 rfl (fun _ h => h) (Or.inr rfl) (kw_st (by rw [k_modify, e1]) rfl rfl)
  | true =>
    refine tk_of hP.2.2.2.2.2 (by decide) rfl (Nat.le_of_ble_eq_true rfl) ?_
    intro p e s m below meth c0 X hlk hr hnm
    refine tk_iload_n X d_TC_makeModified_0 rfl rfl ?_
    refine tk_if_eq (tgt := 29) X d_TC_makeModified_1 (by decide) (fun h => absurd h (by decide)) (fun _ => ?_)
    refine tk_aload_n X d_TC_makeModified_4 rfl rfl ?_
    refine tk_getN X (k := (7, c, j)) (dm := ks_dm P) (ks_d7 hc hj) rfl hc_Way hi_Way 0 (by decide) n_TC_62 (v := .int _) rfl d_TC_makeModified_5 ?_
    refine tk_iconst (v := 2) X d_TC_makeModified_8 (by decide) ?_
    refine tk_icmp_ne (tgt := 29) X d_TC_makeModified_9 (by decide) (fun h1 => ?_) (fun h1 => ?_)
    · skip
      refine tk_aload_n X d_TC_makeModified_29 rfl rfl ?_
      refine tk_iconst (v := 2) X d_TC_makeModified_30 (by decide) ?_
      refine kw_putN X (k := (7, c, j)) (ks_d7 hc hj) rfl hc_Way hi_Way t_Way t_Way_ok n_Way 0 (by decide) rfl n_TC_62 rfl rfl rfl d_TC_makeModified_31 ?_
      have e1 : k_kp2 a c j true = _ := ((if_pos rfl).trans (if_neg h1))
      exact tk_vret X hlk hr d_TC_makeModified_34 rfl (fun _ h => h) (Or.inr rfl) (kw_st (by rw [k_modify, e1]) rfl rfl)
    · skip
      refine tk_aload_n X d_TC_makeModified_12 rfl rfl ?_
      refine tk_getN X (k := (7, c, j)) (dm := ks_dm P) (ks_d7 hc hj) rfl hc_Way hi_Way 2 (by decide) n_TC_68 (v := .int _) rfl d_TC_makeModified_13 ?_
      refine tk_iconst (v := 2) X d_TC_makeModified_16 (by decide) ?_
      refine tk_iand X d_TC_makeModified_17 ?_
      refine tk_if_ne (tgt := 29) X d_TC_makeModified_18 (by decide) (fun h2 => ?_) (fun h2 => ?_)
      · skip
        refine tk_aload_n X d_TC_makeModified_29 rfl rfl ?_
        refine tk_iconst (v := 2) X d_TC_makeModified_30 (by decide) ?_
        refine kw_putN X (k := (7, c, j)) (ks_d7 hc hj) rfl hc_Way hi_Way t_Way t_Way_ok n_Way 0 (by decide) rfl n_TC_62 rfl rfl rfl d_TC_makeModified_31 ?_
        have e1 : k_kp2 a c j true = _ := (((if_pos rfl).trans (if_pos h1)).trans (if_neg h2))
        exact tk_vret X hlk hr d_TC_makeModified_34 rfl (fun _ h => h) (Or.inr rfl) (kw_st (by rw [k_modify, e1]) rfl rfl)
      · skip
        refine tk_aload_n X d_TC_makeModified_21 rfl rfl ?_
        refine tk_get X (k := (0, 0, 0)) (dm := ks_dm P) (ks_d0 (by decide)) rfl hc_TC hi_TC 0 (by decide) m_TC_16 (v := .ref (tk_ad (ks_G P) (1, 0, 0))) rfl d_TC_makeModified_22 ?_
        refine tk_aload_n X d_TC_makeModified_25 rfl rfl ?_
        refine tk_callV X (kb := (1, 0, 0)) (ks_d0 (by decide)) rfl hc_Store (c_Store_keep l P hP c j hc hj a b o) (ks_site (n := 1) mc_Store_keep mi_Store (by decide +kernel) (by decide) (by decide)) m_TC_207 ms_Store_keep mv_Store_keep rfl (Nat.le_of_ble_eq_true rfl) ⟨Nat.le_of_ble_eq_true rfl, Nat.le_of_ble_eq_true rfl⟩ rfl d_TC_makeModified_26 ?_
        refine tk_aload_n X d_TC_makeModified_29 rfl rfl ?_
        refine tk_iconst (v := 2) X d_TC_makeModified_30 (by decide) ?_
        refine kw_putN X (k := (7, c, j)) (ks_d7 hc hj) rfl hc_Way hi_Way t_Way t_Way_ok n_Way 0 (by decide) rfl n_TC_62 rfl rfl rfl d_TC_makeModified_31 ?_
        have e1 : k_kp2 a c j true = _ := (((if_pos rfl).trans (if_pos h1)).trans (if_pos h2))
        exact tk_vret X hlk hr d_TC_makeModified_34 rfl (fun _ h => h) (Or.inr rfl) (kw_st (by rw [k_modify, e1]) rfl rfl)

set_option maxRecDepth 100000 in
set_option maxHeartbeats 4000000 in
theorem c_TC_meetRequest (l : Launch) (P : ks_P) (hP : ks_ok P) (c j : Nat) (hc : c < ks_n P) (hj : j < ks_T P) (w : Bool) (a b : ks_M) (o : ks_O) : kc l P y_TC_meetRequest b_TC_meetRequest 4 none 2 [.ref (tk_ad (ks_G P) (0, 0, 0)), .ref (tk_ad (ks_G P) (4, c, 0)), .ref (tk_ad (ks_G P) (7, c, j)), .int (q_b w)] a b o (none) (k_meet (ks_T P) a c j w) b o := by
  have hn64 := ks_n64 hP
  have hT64 := ks_T64 hP
  cases w with
  | false =>
    refine tk_of hP.2.2.2.2.2 (by decide) rfl (Nat.le_of_ble_eq_true rfl) ?_
    intro p e s m below meth c0 X hlk hr hnm
    refine tk_aload_n X d_TC_meetRequest_0 rfl rfl ?_
    refine tk_getN X (k := (7, c, j)) (dm := ks_dm P) (ks_d7 hc hj) rfl hc_Way hi_Way 2 (by decide) n_TC_68 (v := .int _) rfl d_TC_meetRequest_1 ?_
    refine tk_iconst (v := 2) X d_TC_meetRequest_4 (by decide) ?_
    refine tk_iand X d_TC_meetRequest_5 ?_
    refine tk_if_ne (tgt := 20) X d_TC_meetRequest_6 (by decide) (fun h1 => ?_) (fun h1 => ?_)
    · skip
      refine tk_aload_n X d_TC_meetRequest_20 rfl rfl ?_
      refine tk_iconst (v := 1) X d_TC_meetRequest_21 (by decide) ?_
      refine tk_iconst (v := 0) X d_TC_meetRequest_22 (by decide) ?_
      refine tk_callV X (kb := (4, c, 0)) (ks_d4 hc) rfl hc_Core (c_Core_abort l P hP c hc 1 (by decide) 0 a b o) (ks_site (n := 2) mc_Core_abort mi_Core (by decide +kernel) (by decide) (by decide)) m_TC_187 ms_Core_abort mv_Core_abort rfl (Nat.le_of_ble_eq_true rfl) ⟨Nat.le_of_ble_eq_true rfl, Nat.le_of_ble_eq_true rfl⟩ rfl d_TC_meetRequest_23 ?_
      refine tk_pop X rfl d_TC_meetRequest_26 ?_
      refine tk_aload_n X d_TC_meetRequest_27 rfl rfl ?_
      refine tk_getN X (k := (7, c, j)) (dm := ks_dm P) (ks_d7 hc hj) rfl hc_Way hi_Way 0 (by decide) n_TC_62 (v := .int _) rfl d_TC_meetRequest_28 ?_
      refine tk_if_ne (tgt := 35) X d_TC_meetRequest_31 (by decide) (fun h2 => ?_) (fun h2 => ?_)
      · skip
        refine tk_aload_n X d_TC_meetRequest_35 rfl rfl ?_
        refine tk_getN X (k := (7, c, j)) (dm := ks_dm P) (ks_d7 hc hj) rfl hc_Way hi_Way 0 (by decide) n_TC_62 (v := .int _) rfl d_TC_meetRequest_36 ?_
        refine tk_iconst (v := 2) X d_TC_meetRequest_39 (by decide) ?_
        refine tk_icmp_ne (tgt := 51) X d_TC_meetRequest_40 (by decide) (fun h3 => ?_) (fun h3 => ?_)
        · skip
          refine tk_aload_n X d_TC_meetRequest_51 rfl rfl ?_
          refine tk_iload_n X d_TC_meetRequest_52 rfl rfl ?_
          refine tk_if_eq (tgt := 60) X d_TC_meetRequest_53 (by decide) (fun _ => ?_) (fun h => absurd (by decide) h)
          refine tk_iconst (v := 1) X d_TC_meetRequest_60 (by decide) ?_
          refine kw_putN X (k := (7, c, j)) (ks_d7 hc hj) rfl hc_Way hi_Way t_Way t_Way_ok n_Way 0 (by decide) rfl n_TC_62 rfl rfl rfl d_TC_meetRequest_61 ?_
          have e1 : k_meet1 (ks_T P) a c j false = (k_abort (ks_T P) a c 1 0) := (if_neg h1)
          have e2 : k_kp (k_abort (ks_T P) a c 1 0) c j = _ := if_neg h3
          exact tk_vret X hlk hr d_TC_meetRequest_64 rfl (fun _ h => h) (Or.inr rfl) (kw_st (by rw [k_meet, e1]; refine Eq.trans ?_ (if_neg h2).symm; rw [e2]; rfl) rfl rfl)
        · skip
          refine tk_aload_n X d_TC_meetRequest_43 rfl rfl ?_
          refine tk_get X (k := (0, 0, 0)) (dm := ks_dm P) (ks_d0 (by decide)) rfl hc_TC hi_TC 0 (by decide) m_TC_16 (v := .ref (tk_ad (ks_G P) (1, 0, 0))) rfl d_TC_meetRequest_44 ?_
          refine tk_aload_n X d_TC_meetRequest_47 rfl rfl ?_
          refine tk_callV X (kb := (1, 0, 0)) (ks_d0 (by decide)) rfl hc_Store (c_Store_keep l P hP c j hc hj _ b o) (ks_site (n := 1) mc_Store_keep mi_Store (by decide +kernel) (by decide) (by decide)) m_TC_207 ms_Store_keep mv_Store_keep rfl (Nat.le_of_ble_eq_true rfl) ⟨Nat.le_of_ble_eq_true rfl, Nat.le_of_ble_eq_true rfl⟩ rfl d_TC_meetRequest_48 ?_
          refine tk_aload_n X d_TC_meetRequest_51 rfl rfl ?_
          refine tk_iload_n X d_TC_meetRequest_52 rfl rfl ?_
          refine tk_if_eq (tgt := 60) X d_TC_meetRequest_53 (by decide) (fun _ => ?_) (fun h => absurd (by decide) h)
          refine tk_iconst (v := 1) X d_TC_meetRequest_60 (by decide) ?_
          refine kw_putN X (k := (7, c, j)) (ks_d7 hc hj) rfl hc_Way hi_Way t_Way t_Way_ok n_Way 0 (by decide) rfl n_TC_62 rfl rfl rfl d_TC_meetRequest_61 ?_
          have e1 : k_meet1 (ks_T P) a c j false = (k_abort (ks_T P) a c 1 0) := (if_neg h1)
          have e2 : k_kp (k_abort (ks_T P) a c 1 0) c j = _ := if_pos h3
          exact tk_vret X hlk hr d_TC_meetRequest_64 rfl (fun _ h => h) (Or.inr rfl) (kw_st (by rw [k_meet, e1]; refine Eq.trans ?_ (if_neg h2).symm; rw [e2]; rfl) rfl rfl)
      · skip
        have e1 : k_meet1 (ks_T P) a c j false = (k_abort (ks_T P) a c 1 0) := (if_neg h1)
        exact tk_vret X hlk hr d_TC_meetRequest_34 rfl (fun _ h => h) (Or.inr rfl) (kw_st (by rw [k_meet, e1]; exact (if_pos h2).symm) rfl rfl)
    · skip
      refine tk_iload_n X d_TC_meetRequest_9 rfl rfl ?_
      refine tk_if_eq (tgt := 27) X d_TC_meetRequest_10 (by decide) (fun _ => ?_) (fun h => absurd (by decide) h)
      refine tk_aload_n X d_TC_meetRequest_27 rfl rfl ?_
      refine tk_getN X (k := (7, c, j)) (dm := ks_dm P) (ks_d7 hc hj) rfl hc_Way hi_Way 0 (by decide) n_TC_62 (v := .int _) rfl d_TC_meetRequest_28 ?_
      refine tk_if_ne (tgt := 35) X d_TC_meetRequest_31 (by decide) (fun h4 => ?_) (fun h4 => ?_)
      · skip
        refine tk_aload_n X d_TC_meetRequest_35 rfl rfl ?_
        refine tk_getN X (k := (7, c, j)) (dm := ks_dm P) (ks_d7 hc hj) rfl hc_Way hi_Way 0 (by decide) n_TC_62 (v := .int _) rfl d_TC_meetRequest_36 ?_
        refine tk_iconst (v := 2) X d_TC_meetRequest_39 (by decide) ?_
        refine tk_icmp_ne (tgt := 51) X d_TC_meetRequest_40 (by decide) (fun h5 => ?_) (fun h5 => ?_)
        · skip
          refine tk_aload_n X d_TC_meetRequest_51 rfl rfl ?_
          refine tk_iload_n X d_TC_meetRequest_52 rfl rfl ?_
          refine tk_if_eq (tgt := 60) X d_TC_meetRequest_53 (by decide) (fun _ => ?_) (fun h => absurd (by decide) h)
          refine tk_iconst (v := 1) X d_TC_meetRequest_60 (by decide) ?_
          refine kw_putN X (k := (7, c, j)) (ks_d7 hc hj) rfl hc_Way hi_Way t_Way t_Way_ok n_Way 0 (by decide) rfl n_TC_62 rfl rfl rfl d_TC_meetRequest_61 ?_
          have e1 : k_meet1 (ks_T P) a c j false = a := ((if_pos h1).trans (if_neg (by decide)))
          have e2 : k_kp a c j = _ := if_neg h5
          exact tk_vret X hlk hr d_TC_meetRequest_64 rfl (fun _ h => h) (Or.inr rfl) (kw_st (by rw [k_meet, e1]; refine Eq.trans ?_ (if_neg h4).symm; rw [e2]; rfl) rfl rfl)
        · skip
          refine tk_aload_n X d_TC_meetRequest_43 rfl rfl ?_
          refine tk_get X (k := (0, 0, 0)) (dm := ks_dm P) (ks_d0 (by decide)) rfl hc_TC hi_TC 0 (by decide) m_TC_16 (v := .ref (tk_ad (ks_G P) (1, 0, 0))) rfl d_TC_meetRequest_44 ?_
          refine tk_aload_n X d_TC_meetRequest_47 rfl rfl ?_
          refine tk_callV X (kb := (1, 0, 0)) (ks_d0 (by decide)) rfl hc_Store (c_Store_keep l P hP c j hc hj _ b o) (ks_site (n := 1) mc_Store_keep mi_Store (by decide +kernel) (by decide) (by decide)) m_TC_207 ms_Store_keep mv_Store_keep rfl (Nat.le_of_ble_eq_true rfl) ⟨Nat.le_of_ble_eq_true rfl, Nat.le_of_ble_eq_true rfl⟩ rfl d_TC_meetRequest_48 ?_
          refine tk_aload_n X d_TC_meetRequest_51 rfl rfl ?_
          refine tk_iload_n X d_TC_meetRequest_52 rfl rfl ?_
          refine tk_if_eq (tgt := 60) X d_TC_meetRequest_53 (by decide) (fun _ => ?_) (fun h => absurd (by decide) h)
          refine tk_iconst (v := 1) X d_TC_meetRequest_60 (by decide) ?_
          refine kw_putN X (k := (7, c, j)) (ks_d7 hc hj) rfl hc_Way hi_Way t_Way t_Way_ok n_Way 0 (by decide) rfl n_TC_62 rfl rfl rfl d_TC_meetRequest_61 ?_
          have e1 : k_meet1 (ks_T P) a c j false = a := ((if_pos h1).trans (if_neg (by decide)))
          have e2 : k_kp a c j = _ := if_pos h5
          exact tk_vret X hlk hr d_TC_meetRequest_64 rfl (fun _ h => h) (Or.inr rfl) (kw_st (by rw [k_meet, e1]; refine Eq.trans ?_ (if_neg h4).symm; rw [e2]; rfl) rfl rfl)
      · skip
        have e1 : k_meet1 (ks_T P) a c j false = a := ((if_pos h1).trans (if_neg (by decide)))
        exact tk_vret X hlk hr d_TC_meetRequest_34 rfl (fun _ h => h) (Or.inr rfl) (kw_st (by rw [k_meet, e1]; exact (if_pos h4).symm) rfl rfl)
  | true =>
    refine tk_of hP.2.2.2.2.2 (by decide) rfl (Nat.le_of_ble_eq_true rfl) ?_
    intro p e s m below meth c0 X hlk hr hnm
    refine tk_aload_n X d_TC_meetRequest_0 rfl rfl ?_
    refine tk_getN X (k := (7, c, j)) (dm := ks_dm P) (ks_d7 hc hj) rfl hc_Way hi_Way 2 (by decide) n_TC_68 (v := .int _) rfl d_TC_meetRequest_1 ?_
    refine tk_iconst (v := 2) X d_TC_meetRequest_4 (by decide) ?_
    refine tk_iand X d_TC_meetRequest_5 ?_
    refine tk_if_ne (tgt := 20) X d_TC_meetRequest_6 (by decide) (fun h1 => ?_) (fun h1 => ?_)
    · skip
      refine tk_aload_n X d_TC_meetRequest_20 rfl rfl ?_
      refine tk_iconst (v := 1) X d_TC_meetRequest_21 (by decide) ?_
      refine tk_iconst (v := 0) X d_TC_meetRequest_22 (by decide) ?_
      refine tk_callV X (kb := (4, c, 0)) (ks_d4 hc) rfl hc_Core (c_Core_abort l P hP c hc 1 (by decide) 0 a b o) (ks_site (n := 2) mc_Core_abort mi_Core (by decide +kernel) (by decide) (by decide)) m_TC_187 ms_Core_abort mv_Core_abort rfl (Nat.le_of_ble_eq_true rfl) ⟨Nat.le_of_ble_eq_true rfl, Nat.le_of_ble_eq_true rfl⟩ rfl d_TC_meetRequest_23 ?_
      refine tk_pop X rfl d_TC_meetRequest_26 ?_
      refine tk_aload_n X d_TC_meetRequest_27 rfl rfl ?_
      refine tk_getN X (k := (7, c, j)) (dm := ks_dm P) (ks_d7 hc hj) rfl hc_Way hi_Way 0 (by decide) n_TC_62 (v := .int _) rfl d_TC_meetRequest_28 ?_
      refine tk_if_ne (tgt := 35) X d_TC_meetRequest_31 (by decide) (fun h2 => ?_) (fun h2 => ?_)
      · skip
        refine tk_aload_n X d_TC_meetRequest_35 rfl rfl ?_
        refine tk_getN X (k := (7, c, j)) (dm := ks_dm P) (ks_d7 hc hj) rfl hc_Way hi_Way 0 (by decide) n_TC_62 (v := .int _) rfl d_TC_meetRequest_36 ?_
        refine tk_iconst (v := 2) X d_TC_meetRequest_39 (by decide) ?_
        refine tk_icmp_ne (tgt := 51) X d_TC_meetRequest_40 (by decide) (fun h3 => ?_) (fun h3 => ?_)
        · skip
          refine tk_aload_n X d_TC_meetRequest_51 rfl rfl ?_
          refine tk_iload_n X d_TC_meetRequest_52 rfl rfl ?_
          refine tk_if_eq (tgt := 60) X d_TC_meetRequest_53 (by decide) (fun h => absurd h (by decide)) (fun _ => ?_)
          refine tk_iconst (v := 0) X d_TC_meetRequest_56 (by decide) ?_
          refine tk_goto (tgt := 61) X d_TC_meetRequest_57 (by decide) ?_
          refine kw_putN X (k := (7, c, j)) (ks_d7 hc hj) rfl hc_Way hi_Way t_Way t_Way_ok n_Way 0 (by decide) rfl n_TC_62 rfl rfl rfl d_TC_meetRequest_61 ?_
          have e1 : k_meet1 (ks_T P) a c j true = (k_abort (ks_T P) a c 1 0) := (if_neg h1)
          have e2 : k_kp (k_abort (ks_T P) a c 1 0) c j = _ := if_neg h3
          exact tk_vret X hlk hr d_TC_meetRequest_64 rfl (fun _ h => h) (Or.inr rfl) (kw_st (by rw [k_meet, e1]; refine Eq.trans ?_ (if_neg h2).symm; rw [e2]; rfl) rfl rfl)
        · skip
          refine tk_aload_n X d_TC_meetRequest_43 rfl rfl ?_
          refine tk_get X (k := (0, 0, 0)) (dm := ks_dm P) (ks_d0 (by decide)) rfl hc_TC hi_TC 0 (by decide) m_TC_16 (v := .ref (tk_ad (ks_G P) (1, 0, 0))) rfl d_TC_meetRequest_44 ?_
          refine tk_aload_n X d_TC_meetRequest_47 rfl rfl ?_
          refine tk_callV X (kb := (1, 0, 0)) (ks_d0 (by decide)) rfl hc_Store (c_Store_keep l P hP c j hc hj _ b o) (ks_site (n := 1) mc_Store_keep mi_Store (by decide +kernel) (by decide) (by decide)) m_TC_207 ms_Store_keep mv_Store_keep rfl (Nat.le_of_ble_eq_true rfl) ⟨Nat.le_of_ble_eq_true rfl, Nat.le_of_ble_eq_true rfl⟩ rfl d_TC_meetRequest_48 ?_
          refine tk_aload_n X d_TC_meetRequest_51 rfl rfl ?_
          refine tk_iload_n X d_TC_meetRequest_52 rfl rfl ?_
          refine tk_if_eq (tgt := 60) X d_TC_meetRequest_53 (by decide) (fun h => absurd h (by decide)) (fun _ => ?_)
          refine tk_iconst (v := 0) X d_TC_meetRequest_56 (by decide) ?_
          refine tk_goto (tgt := 61) X d_TC_meetRequest_57 (by decide) ?_
          refine kw_putN X (k := (7, c, j)) (ks_d7 hc hj) rfl hc_Way hi_Way t_Way t_Way_ok n_Way 0 (by decide) rfl n_TC_62 rfl rfl rfl d_TC_meetRequest_61 ?_
          have e1 : k_meet1 (ks_T P) a c j true = (k_abort (ks_T P) a c 1 0) := (if_neg h1)
          have e2 : k_kp (k_abort (ks_T P) a c 1 0) c j = _ := if_pos h3
          exact tk_vret X hlk hr d_TC_meetRequest_64 rfl (fun _ h => h) (Or.inr rfl) (kw_st (by rw [k_meet, e1]; refine Eq.trans ?_ (if_neg h2).symm; rw [e2]; rfl) rfl rfl)
      · skip
        have e1 : k_meet1 (ks_T P) a c j true = (k_abort (ks_T P) a c 1 0) := (if_neg h1)
        exact tk_vret X hlk hr d_TC_meetRequest_34 rfl (fun _ h => h) (Or.inr rfl) (kw_st (by rw [k_meet, e1]; exact (if_pos h2).symm) rfl rfl)
    · skip
      refine tk_iload_n X d_TC_meetRequest_9 rfl rfl ?_
      refine tk_if_eq (tgt := 27) X d_TC_meetRequest_10 (by decide) (fun h => absurd h (by decide)) (fun _ => ?_)
      refine tk_aload_n X d_TC_meetRequest_13 rfl rfl ?_
      refine tk_getN X (k := (7, c, j)) (dm := ks_dm P) (ks_d7 hc hj) rfl hc_Way hi_Way 2 (by decide) n_TC_68 (v := .int _) rfl d_TC_meetRequest_14 ?_
      refine tk_if_eq (tgt := 27) X d_TC_meetRequest_17 (by decide) (fun h4 => ?_) (fun h4 => ?_)
      · skip
        refine tk_aload_n X d_TC_meetRequest_27 rfl rfl ?_
        refine tk_getN X (k := (7, c, j)) (dm := ks_dm P) (ks_d7 hc hj) rfl hc_Way hi_Way 0 (by decide) n_TC_62 (v := .int _) rfl d_TC_meetRequest_28 ?_
        refine tk_if_ne (tgt := 35) X d_TC_meetRequest_31 (by decide) (fun h5 => ?_) (fun h5 => ?_)
        · skip
          refine tk_aload_n X d_TC_meetRequest_35 rfl rfl ?_
          refine tk_getN X (k := (7, c, j)) (dm := ks_dm P) (ks_d7 hc hj) rfl hc_Way hi_Way 0 (by decide) n_TC_62 (v := .int _) rfl d_TC_meetRequest_36 ?_
          refine tk_iconst (v := 2) X d_TC_meetRequest_39 (by decide) ?_
          refine tk_icmp_ne (tgt := 51) X d_TC_meetRequest_40 (by decide) (fun h6 => ?_) (fun h6 => ?_)
          · skip
            refine tk_aload_n X d_TC_meetRequest_51 rfl rfl ?_
            refine tk_iload_n X d_TC_meetRequest_52 rfl rfl ?_
            refine tk_if_eq (tgt := 60) X d_TC_meetRequest_53 (by decide) (fun h => absurd h (by decide)) (fun _ => ?_)
            refine tk_iconst (v := 0) X d_TC_meetRequest_56 (by decide) ?_
            refine tk_goto (tgt := 61) X d_TC_meetRequest_57 (by decide) ?_
            refine kw_putN X (k := (7, c, j)) (ks_d7 hc hj) rfl hc_Way hi_Way t_Way t_Way_ok n_Way 0 (by decide) rfl n_TC_62 rfl rfl rfl d_TC_meetRequest_61 ?_
            have e1 : k_meet1 (ks_T P) a c j true = a := (((if_pos h1).trans (if_pos rfl)).trans (if_pos h4))
            have e2 : k_kp a c j = _ := if_neg h6
            exact tk_vret X hlk hr d_TC_meetRequest_64 rfl (fun _ h => h) (Or.inr rfl) (kw_st (by rw [k_meet, e1]; refine Eq.trans ?_ (if_neg h5).symm; rw [e2]; rfl) rfl rfl)
          · skip
            refine tk_aload_n X d_TC_meetRequest_43 rfl rfl ?_
            refine tk_get X (k := (0, 0, 0)) (dm := ks_dm P) (ks_d0 (by decide)) rfl hc_TC hi_TC 0 (by decide) m_TC_16 (v := .ref (tk_ad (ks_G P) (1, 0, 0))) rfl d_TC_meetRequest_44 ?_
            refine tk_aload_n X d_TC_meetRequest_47 rfl rfl ?_
            refine tk_callV X (kb := (1, 0, 0)) (ks_d0 (by decide)) rfl hc_Store (c_Store_keep l P hP c j hc hj _ b o) (ks_site (n := 1) mc_Store_keep mi_Store (by decide +kernel) (by decide) (by decide)) m_TC_207 ms_Store_keep mv_Store_keep rfl (Nat.le_of_ble_eq_true rfl) ⟨Nat.le_of_ble_eq_true rfl, Nat.le_of_ble_eq_true rfl⟩ rfl d_TC_meetRequest_48 ?_
            refine tk_aload_n X d_TC_meetRequest_51 rfl rfl ?_
            refine tk_iload_n X d_TC_meetRequest_52 rfl rfl ?_
            refine tk_if_eq (tgt := 60) X d_TC_meetRequest_53 (by decide) (fun h => absurd h (by decide)) (fun _ => ?_)
            refine tk_iconst (v := 0) X d_TC_meetRequest_56 (by decide) ?_
            refine tk_goto (tgt := 61) X d_TC_meetRequest_57 (by decide) ?_
            refine kw_putN X (k := (7, c, j)) (ks_d7 hc hj) rfl hc_Way hi_Way t_Way t_Way_ok n_Way 0 (by decide) rfl n_TC_62 rfl rfl rfl d_TC_meetRequest_61 ?_
            have e1 : k_meet1 (ks_T P) a c j true = a := (((if_pos h1).trans (if_pos rfl)).trans (if_pos h4))
            have e2 : k_kp a c j = _ := if_pos h6
            exact tk_vret X hlk hr d_TC_meetRequest_64 rfl (fun _ h => h) (Or.inr rfl) (kw_st (by rw [k_meet, e1]; refine Eq.trans ?_ (if_neg h5).symm; rw [e2]; rfl) rfl rfl)
        · skip
          have e1 : k_meet1 (ks_T P) a c j true = a := (((if_pos h1).trans (if_pos rfl)).trans (if_pos h4))
          exact tk_vret X hlk hr d_TC_meetRequest_34 rfl (fun _ h => h) (Or.inr rfl) (kw_st (by rw [k_meet, e1]; exact (if_pos h5).symm) rfl rfl)
      · skip
        refine tk_aload_n X d_TC_meetRequest_20 rfl rfl ?_
        refine tk_iconst (v := 1) X d_TC_meetRequest_21 (by decide) ?_
        refine tk_iconst (v := 0) X d_TC_meetRequest_22 (by decide) ?_
        refine tk_callV X (kb := (4, c, 0)) (ks_d4 hc) rfl hc_Core (c_Core_abort l P hP c hc 1 (by decide) 0 a b o) (ks_site (n := 2) mc_Core_abort mi_Core (by decide +kernel) (by decide) (by decide)) m_TC_187 ms_Core_abort mv_Core_abort rfl (Nat.le_of_ble_eq_true rfl) ⟨Nat.le_of_ble_eq_true rfl, Nat.le_of_ble_eq_true rfl⟩ rfl d_TC_meetRequest_23 ?_
        refine tk_pop X rfl d_TC_meetRequest_26 ?_
        refine tk_aload_n X d_TC_meetRequest_27 rfl rfl ?_
        refine tk_getN X (k := (7, c, j)) (dm := ks_dm P) (ks_d7 hc hj) rfl hc_Way hi_Way 0 (by decide) n_TC_62 (v := .int _) rfl d_TC_meetRequest_28 ?_
        refine tk_if_ne (tgt := 35) X d_TC_meetRequest_31 (by decide) (fun h7 => ?_) (fun h7 => ?_)
        · skip
          refine tk_aload_n X d_TC_meetRequest_35 rfl rfl ?_
          refine tk_getN X (k := (7, c, j)) (dm := ks_dm P) (ks_d7 hc hj) rfl hc_Way hi_Way 0 (by decide) n_TC_62 (v := .int _) rfl d_TC_meetRequest_36 ?_
          refine tk_iconst (v := 2) X d_TC_meetRequest_39 (by decide) ?_
          refine tk_icmp_ne (tgt := 51) X d_TC_meetRequest_40 (by decide) (fun h8 => ?_) (fun h8 => ?_)
          · skip
            refine tk_aload_n X d_TC_meetRequest_51 rfl rfl ?_
            refine tk_iload_n X d_TC_meetRequest_52 rfl rfl ?_
            refine tk_if_eq (tgt := 60) X d_TC_meetRequest_53 (by decide) (fun h => absurd h (by decide)) (fun _ => ?_)
            refine tk_iconst (v := 0) X d_TC_meetRequest_56 (by decide) ?_
            refine tk_goto (tgt := 61) X d_TC_meetRequest_57 (by decide) ?_
            refine kw_putN X (k := (7, c, j)) (ks_d7 hc hj) rfl hc_Way hi_Way t_Way t_Way_ok n_Way 0 (by decide) rfl n_TC_62 rfl rfl rfl d_TC_meetRequest_61 ?_
            have e1 : k_meet1 (ks_T P) a c j true = (k_abort (ks_T P) a c 1 0) := (((if_pos h1).trans (if_pos rfl)).trans (if_neg h4))
            have e2 : k_kp (k_abort (ks_T P) a c 1 0) c j = _ := if_neg h8
            exact tk_vret X hlk hr d_TC_meetRequest_64 rfl (fun _ h => h) (Or.inr rfl) (kw_st (by rw [k_meet, e1]; refine Eq.trans ?_ (if_neg h7).symm; rw [e2]; rfl) rfl rfl)
          · skip
            refine tk_aload_n X d_TC_meetRequest_43 rfl rfl ?_
            refine tk_get X (k := (0, 0, 0)) (dm := ks_dm P) (ks_d0 (by decide)) rfl hc_TC hi_TC 0 (by decide) m_TC_16 (v := .ref (tk_ad (ks_G P) (1, 0, 0))) rfl d_TC_meetRequest_44 ?_
            refine tk_aload_n X d_TC_meetRequest_47 rfl rfl ?_
            refine tk_callV X (kb := (1, 0, 0)) (ks_d0 (by decide)) rfl hc_Store (c_Store_keep l P hP c j hc hj _ b o) (ks_site (n := 1) mc_Store_keep mi_Store (by decide +kernel) (by decide) (by decide)) m_TC_207 ms_Store_keep mv_Store_keep rfl (Nat.le_of_ble_eq_true rfl) ⟨Nat.le_of_ble_eq_true rfl, Nat.le_of_ble_eq_true rfl⟩ rfl d_TC_meetRequest_48 ?_
            refine tk_aload_n X d_TC_meetRequest_51 rfl rfl ?_
            refine tk_iload_n X d_TC_meetRequest_52 rfl rfl ?_
            refine tk_if_eq (tgt := 60) X d_TC_meetRequest_53 (by decide) (fun h => absurd h (by decide)) (fun _ => ?_)
            refine tk_iconst (v := 0) X d_TC_meetRequest_56 (by decide) ?_
            refine tk_goto (tgt := 61) X d_TC_meetRequest_57 (by decide) ?_
            refine kw_putN X (k := (7, c, j)) (ks_d7 hc hj) rfl hc_Way hi_Way t_Way t_Way_ok n_Way 0 (by decide) rfl n_TC_62 rfl rfl rfl d_TC_meetRequest_61 ?_
            have e1 : k_meet1 (ks_T P) a c j true = (k_abort (ks_T P) a c 1 0) := (((if_pos h1).trans (if_pos rfl)).trans (if_neg h4))
            have e2 : k_kp (k_abort (ks_T P) a c 1 0) c j = _ := if_pos h8
            exact tk_vret X hlk hr d_TC_meetRequest_64 rfl (fun _ h => h) (Or.inr rfl) (kw_st (by rw [k_meet, e1]; refine Eq.trans ?_ (if_neg h7).symm; rw [e2]; rfl) rfl rfl)
        · skip
          have e1 : k_meet1 (ks_T P) a c j true = (k_abort (ks_T P) a c 1 0) := (((if_pos h1).trans (if_pos rfl)).trans (if_neg h4))
          exact tk_vret X hlk hr d_TC_meetRequest_34 rfl (fun _ h => h) (Or.inr rfl) (kw_st (by rw [k_meet, e1]; exact (if_pos h7).symm) rfl rfl)

section LP
variable {p : Program} {l : Launch} {e : Env} {R : Room} {s : State} {m : MethodId} {args : Array Value} {below : List Frame} {meth : Method} {c0 : Code} {P : ks_P} {cells slots : Nat} {Q : State → Prop}
set_option maxRecDepth 100000 in
set_option maxHeartbeats 4000000 in
theorem lp_TC_sendRequest (X : tk_X p m c0 s args (ks_G P) R_TC b_TC_sendRequest 6 WS) (hP : ks_ok P) {y : Nat} (hy : y < 32) (x : Int32) (w : Bool) (b : ks_M) (o : ks_O) {a2 : ks_M} (kend : ∀ t5, tk_go p l e (ks_rm 3) s m args below meth c0 (ks_G P) (ks_dm P) 6 0 0 Q (ks_sl P a2 b o) 64 [some (.ref (tk_ad (ks_G P) (0, 0, 0))), some (.int x), some (.int (nI y)), some (.int (q_b w)), some (.int (nI (ks_n P))), t5] []) : ∀ (k i : Nat) (a : ks_M) (t5 : Option Value), i + k = ks_n P → k_send (ks_S P) (ks_W P) x y w k i a = a2 → tk_go p l e (ks_rm 3) s m args below meth c0 (ks_G P) (ks_dm P) 6 0 0 Q (ks_sl P a b o) 3 [some (.ref (tk_ad (ks_G P) (0, 0, 0))), some (.int x), some (.int (nI y)), some (.int (q_b w)), some (.int (nI i)), t5] [] := by
  have hn64 := ks_n64 hP
  have hT64 := ks_T64 hP
  intro k
  induction k with
  | zero =>
    intro i a t5 hi hk
    have hiT : i = ks_n P := by omega
    subst hiT
    have hk2 : a = a2 := hk
    subst hk2
    refine tk_iload X d_TC_sendRequest_3 rfl ?_
    refine tk_aload_n X d_TC_sendRequest_5 rfl rfl ?_
    refine tk_get X (k := (0, 0, 0)) (dm := ks_dm P) (ks_d0 (by decide)) rfl hc_TC hi_TC 1 (by decide) m_TC_22 (v := .ref (tk_ad (ks_G P) (3, 0, 0))) rfl d_TC_sendRequest_6 ?_
    refine tk_alen X (k := (3, 0, 0)) (dm := ks_dm P) (ks_d0 (by decide)) rfl rfl (v := nI _) rfl d_TC_sendRequest_9 ?_
    refine tk_icmp_ge (tgt := 64) X d_TC_sendRequest_10 (by decide) (fun _ => ?_) (fun h => absurd (nI_le (Nat.le_refl _) (by omega)) h)
    exact kend t5
  | succ k ih =>
    intro i a t5 hi hk
    have hi2 : i < ks_n P := by omega
    refine tk_iload X d_TC_sendRequest_3 rfl ?_
    refine tk_aload_n X d_TC_sendRequest_5 rfl rfl ?_
    refine tk_get X (k := (0, 0, 0)) (dm := ks_dm P) (ks_d0 (by decide)) rfl hc_TC hi_TC 1 (by decide) m_TC_22 (v := .ref (tk_ad (ks_G P) (3, 0, 0))) rfl d_TC_sendRequest_6 ?_
    refine tk_alen X (k := (3, 0, 0)) (dm := ks_dm P) (ks_d0 (by decide)) rfl rfl (v := nI _) rfl d_TC_sendRequest_9 ?_
    refine tk_icmp_ge (tgt := 64) X d_TC_sendRequest_10 (by decide) (fun h => absurd h (nI_ge hi2 (by omega))) (fun _ => ?_)
    refine tk_iload X d_TC_sendRequest_13 rfl ?_
    refine tk_iload_n X d_TC_sendRequest_15 rfl rfl ?_
    refine tk_icmp_ne (tgt := 23) X d_TC_sendRequest_16 (by decide) (fun h1 => ?_) (fun h1 => ?_)
    · skip
      refine tk_aload_n X d_TC_sendRequest_23 rfl rfl ?_
      refine tk_get X (k := (0, 0, 0)) (dm := ks_dm P) (ks_d0 (by decide)) rfl hc_TC hi_TC 1 (by decide) m_TC_22 (v := .ref (tk_ad (ks_G P) (3, 0, 0))) rfl d_TC_sendRequest_24 ?_
      refine tk_iload X d_TC_sendRequest_27 rfl ?_
      refine kw_core X (i := i) rfl hi2 hn64 d_TC_sendRequest_29 ?_
      refine tk_getN X (k := (4, i, 0)) (dm := ks_dm P) (ks_d4 hi2) rfl hc_Core hi_Core 1 (by decide) n_TC_54 (v := .ref (tk_ad (ks_G P) (5, i, 0))) rfl d_TC_sendRequest_30 ?_
      refine tk_iload_n X d_TC_sendRequest_33 rfl rfl ?_
      refine tk_callV X (kb := (5, i, 0)) (ks_d5 hi2) rfl hc_Cache (c_Cache_find l P hP i y hi2 hy a b o) (ks_site (n := 1) mc_Cache_find mi_Cache (by decide +kernel) (by decide) (by decide)) m_TC_58 ms_Cache_find mv_Cache_find rfl (Nat.le_of_ble_eq_true rfl) ⟨Nat.le_of_ble_eq_true rfl, Nat.le_of_ble_eq_true rfl⟩ rfl d_TC_sendRequest_34 ?_
      cases hf : k_find a i y (ks_W P) (k_first (ks_S P) (ks_W P) y) with
      | none =>
        refine tk_astoreN X d_TC_sendRequest_37 (by decide) rfl ?_
        refine tk_aloadN X d_TC_sendRequest_39 rfl ?_
        refine tk_ifnullN (tgt := 58) X d_TC_sendRequest_41 (by decide) ?_
        refine tk_iinc (v := nI (i + 1)) X d_TC_sendRequest_58 rfl (q_inc i) (by decide) rfl ?_
        refine tk_goto (tgt := 3) X d_TC_sendRequest_61 (by decide) ?_
        have e1 : k_ask1 (ks_S P) (ks_W P) x y w i a = a := ((if_neg h1).trans (by rw [hf]))
        exact ih (i + 1) _ _ (by omega) (by rw [← e1]; exact hk)
      | some j =>
        have hj : j < ks_T P := k_find_T hP hf
        refine tk_astore X d_TC_sendRequest_37 (by decide) rfl ?_
        refine tk_aload X d_TC_sendRequest_39 rfl ?_
        refine tk_ifnull X d_TC_sendRequest_41 ?_
        refine tk_aload_n X d_TC_sendRequest_44 rfl rfl ?_
        refine tk_aload_n X d_TC_sendRequest_45 rfl rfl ?_
        refine tk_get X (k := (0, 0, 0)) (dm := ks_dm P) (ks_d0 (by decide)) rfl hc_TC hi_TC 1 (by decide) m_TC_22 (v := .ref (tk_ad (ks_G P) (3, 0, 0))) rfl d_TC_sendRequest_46 ?_
        refine tk_iload X d_TC_sendRequest_49 rfl ?_
        refine kw_core X (i := i) rfl hi2 hn64 d_TC_sendRequest_51 ?_
        refine tk_aload X d_TC_sendRequest_52 rfl ?_
        refine tk_iload_n X d_TC_sendRequest_54 rfl rfl ?_
        refine tk_callV X (kb := (0, 0, 0)) (ks_d0 (by decide)) rfl hc_TC (c_TC_meetRequest l P hP i j hi2 hj w a b o) (ks_site (n := 3) mc_TC_meetRequest mi_TC (by decide +kernel) (by decide) (by decide)) m_TC_214 ms_TC_meetRequest mv_TC_meetRequest rfl (Nat.le_of_ble_eq_true rfl) ⟨Nat.le_of_ble_eq_true rfl, Nat.le_of_ble_eq_true rfl⟩ rfl d_TC_sendRequest_55 ?_
        refine tk_iinc (v := nI (i + 1)) X d_TC_sendRequest_58 rfl (q_inc i) (by decide) rfl ?_
        refine tk_goto (tgt := 3) X d_TC_sendRequest_61 (by decide) ?_
        have e1 : k_ask1 (ks_S P) (ks_W P) x y w i a = k_meet (ks_T P) a i j w := ((if_neg h1).trans (by rw [hf]))
        exact ih (i + 1) _ _ (by omega) (by rw [← e1]; exact hk)
    · skip
      refine tk_null X d_TC_sendRequest_19 ?_
      refine tk_goto (tgt := 37) X d_TC_sendRequest_20 (by decide) ?_
      refine tk_astoreN X d_TC_sendRequest_37 (by decide) rfl ?_
      refine tk_aloadN X d_TC_sendRequest_39 rfl ?_
      refine tk_ifnullN (tgt := 58) X d_TC_sendRequest_41 (by decide) ?_
      refine tk_iinc (v := nI (i + 1)) X d_TC_sendRequest_58 rfl (q_inc i) (by decide) rfl ?_
      refine tk_goto (tgt := 3) X d_TC_sendRequest_61 (by decide) ?_
      have e1 : k_ask1 (ks_S P) (ks_W P) x y w i a = a := (if_pos h1)
      exact ih (i + 1) _ _ (by omega) (by rw [← e1]; exact hk)
end LP

set_option maxRecDepth 100000 in
set_option maxHeartbeats 4000000 in
theorem c_TC_sendRequest (l : Launch) (P : ks_P) (hP : ks_ok P) (y : Nat) (hy : y < 32) (x : Int32) (w : Bool) (a b : ks_M) (o : ks_O) : kc l P y_TC_sendRequest b_TC_sendRequest 6 none 3 [.ref (tk_ad (ks_G P) (0, 0, 0)), .int x, .int (nI y), .int (q_b w)] a b o (none) (k_send (ks_S P) (ks_W P) x y w (ks_n P) 0 a) b o := by
  have hn64 := ks_n64 hP
  have hT64 := ks_T64 hP
  refine tk_of hP.2.2.2.2.2 (by decide) rfl (Nat.le_of_ble_eq_true rfl) ?_
  intro p e s m below meth c0 X hlk hr hnm
  refine tk_iconst (v := 0) X d_TC_sendRequest_0 (by decide) ?_
  refine tk_istore X d_TC_sendRequest_1 (by decide) rfl ?_
  refine lp_TC_sendRequest X hP hy x w b o (a2 := k_send (ks_S P) (ks_W P) x y w (ks_n P) 0 a) (fun t5 => ?_) (ks_n P) 0 a _ (by omega) rfl
  exact tk_vret X hlk hr d_TC_sendRequest_64 rfl (fun _ h => h) (Or.inr rfl) (fun _ _ => rfl)

section LP
variable {p : Program} {l : Launch} {e : Env} {R : Room} {s : State} {m : MethodId} {args : Array Value} {below : List Frame} {meth : Method} {c0 : Code} {P : ks_P} {cells slots : Nat} {Q : State → Prop}
set_option maxRecDepth 100000 in
set_option maxHeartbeats 4000000 in
theorem tl_acc142 (X : tk_X p m c0 s args (ks_G P) R_TC b_TC_access 6 WS) (hP : ks_ok P) {c j y : Nat} (hc : c < ks_n P) (hj : j < ks_T P) (hy : y < 32) (w : Bool) (v4 : Option Value) (a b : ks_M) (o : ks_O) (kend : tk_go p l e (ks_rm 4) s m args below meth c0 (ks_G P) (ks_dm P) 6 0 0 Q (ks_sl P (k_us a c j) b o) 163 [some (.ref (tk_ad (ks_G P) (0, 0, 0))), some (.ref (tk_ad (ks_G P) (4, c, 0))), some (.int (nI y)), some (.int (q_b w)), v4, some (.ref (tk_ad (ks_G P) (7, c, j)))] [.ref (tk_ad (ks_G P) (7, c, j))]) : tk_go p l e (ks_rm 4) s m args below meth c0 (ks_G P) (ks_dm P) 6 0 0 Q (ks_sl P a b o) 142 [some (.ref (tk_ad (ks_G P) (0, 0, 0))), some (.ref (tk_ad (ks_G P) (4, c, 0))), some (.int (nI y)), some (.int (q_b w)), v4, some (.ref (tk_ad (ks_G P) (7, c, j)))] [] := by
  have hn64 := ks_n64 hP
  have hT64 := ks_T64 hP
  refine tk_aload_n X d_TC_access_142 rfl rfl ?_
  refine tk_dup X rfl d_TC_access_143 ?_
  refine tk_get X (k := (0, 0, 0)) (dm := ks_dm P) (ks_d0 (by decide)) rfl hc_TC hi_TC 3 (by decide) m_TC_201 (v := .int _) rfl d_TC_access_144 ?_
  refine tk_iconst (v := 1) X d_TC_access_147 (by decide) ?_
  refine tk_iadd X d_TC_access_148 ?_
  refine kw_put X (k := (0, 0, 0)) (ks_d0 (by decide)) rfl hc_TC hi_TC t_TC t_TC_ok n_TC 3 (by decide) rfl m_TC_201 rfl rfl rfl d_TC_access_149 ?_
  refine tk_aload X d_TC_access_152 rfl ?_
  refine tk_aload_n X d_TC_access_154 rfl rfl ?_
  refine tk_get X (k := (0, 0, 0)) (dm := ks_dm P) (ks_d0 (by decide)) rfl hc_TC hi_TC 3 (by decide) m_TC_201 (v := .int _) rfl d_TC_access_155 ?_
  refine kw_putN X (k := (7, c, j)) (ks_d7 hc hj) rfl hc_Way hi_Way t_Way t_Way_ok n_Way 5 (by decide) rfl n_TC_204 rfl rfl rfl d_TC_access_158 ?_
  refine tk_aload X d_TC_access_161 rfl ?_
  exact kend
end LP

section LP
variable {p : Program} {l : Launch} {e : Env} {R : Room} {s : State} {m : MethodId} {args : Array Value} {below : List Frame} {meth : Method} {c0 : Code} {P : ks_P} {cells slots : Nat} {Q : State → Prop}
set_option maxRecDepth 100000 in
set_option maxHeartbeats 4000000 in
theorem tl_acc116 (X : tk_X p m c0 s args (ks_G P) R_TC b_TC_access 6 WS) (hP : ks_ok P) {c j y : Nat} (hc : c < ks_n P) (hj : j < ks_T P) (hy : y < 32) (w : Bool) (v4 : Option Value) (a b : ks_M) (o : ks_O) (kend : tk_go p l e (ks_rm 4) s m args below meth c0 (ks_G P) (ks_dm P) 6 0 0 Q (ks_sl P (k_us (k_mk a c j w) c j) b o) 163 [some (.ref (tk_ad (ks_G P) (0, 0, 0))), some (.ref (tk_ad (ks_G P) (4, c, 0))), some (.int (nI y)), some (.int (q_b w)), v4, some (.ref (tk_ad (ks_G P) (7, c, j)))] [.ref (tk_ad (ks_G P) (7, c, j))]) : tk_go p l e (ks_rm 4) s m args below meth c0 (ks_G P) (ks_dm P) 6 0 0 Q (ks_sl P a b o) 116 [some (.ref (tk_ad (ks_G P) (0, 0, 0))), some (.ref (tk_ad (ks_G P) (4, c, 0))), some (.int (nI y)), some (.int (q_b w)), v4, some (.ref (tk_ad (ks_G P) (7, c, j)))] [] := by
  have hn64 := ks_n64 hP
  have hT64 := ks_T64 hP
  cases w with
  | false =>
    refine tk_aload_n X d_TC_access_116 rfl rfl ?_
    refine tk_getN X (k := (4, c, 0)) (dm := ks_dm P) (ks_d4 hc) rfl hc_Core hi_Core 8 (by decide) n_TC_86 (v := .int _) rfl d_TC_access_117 ?_
    refine tk_if_le (tgt := 142) X d_TC_access_120 (by decide) (fun h1 => ?_) (fun h1 => ?_)
    · skip
      have e1 : k_mk a c j false = a := if_pos h1
      rw [e1] at kend
      exact tl_acc142 X hP hc hj hy _ _ a b o kend
    · skip
      refine tk_aload X d_TC_access_123 rfl ?_
      refine tk_dup X rfl d_TC_access_125 ?_
      refine tk_getN X (k := (7, c, j)) (dm := ks_dm P) (ks_d7 hc hj) rfl hc_Way hi_Way 2 (by decide) n_TC_68 (v := .int _) rfl d_TC_access_126 ?_
      refine tk_iload_n X d_TC_access_129 rfl rfl ?_
      refine tk_if_eq (tgt := 137) X d_TC_access_130 (by decide) (fun _ => ?_) (fun h => absurd (by decide) h)
      refine tk_iconst (v := 1) X d_TC_access_137 (by decide) ?_
      refine tk_ior X d_TC_access_138 ?_
      refine kw_putN X (k := (7, c, j)) (ks_d7 hc hj) rfl hc_Way hi_Way t_Way t_Way_ok n_Way 2 (by decide) rfl n_TC_68 rfl rfl rfl d_TC_access_139 ?_
      have e1 : k_mk a c j false = ks_up a (7, c, j) 2 (a (7, c, j) 2 ||| 1) := if_neg h1
      rw [e1] at kend
      exact tl_acc142 X hP hc hj hy _ _ _ b o kend
  | true =>
    refine tk_aload_n X d_TC_access_116 rfl rfl ?_
    refine tk_getN X (k := (4, c, 0)) (dm := ks_dm P) (ks_d4 hc) rfl hc_Core hi_Core 8 (by decide) n_TC_86 (v := .int _) rfl d_TC_access_117 ?_
    refine tk_if_le (tgt := 142) X d_TC_access_120 (by decide) (fun h1 => ?_) (fun h1 => ?_)
    · skip
      have e1 : k_mk a c j true = a := if_pos h1
      rw [e1] at kend
      exact tl_acc142 X hP hc hj hy _ _ a b o kend
    · skip
      refine tk_aload X d_TC_access_123 rfl ?_
      refine tk_dup X rfl d_TC_access_125 ?_
      refine tk_getN X (k := (7, c, j)) (dm := ks_dm P) (ks_d7 hc hj) rfl hc_Way hi_Way 2 (by decide) n_TC_68 (v := .int _) rfl d_TC_access_126 ?_
      refine tk_iload_n X d_TC_access_129 rfl rfl ?_
      refine tk_if_eq (tgt := 137) X d_TC_access_130 (by decide) (fun h => absurd h (by decide)) (fun _ => ?_)
      refine tk_iconst (v := 2) X d_TC_access_133 (by decide) ?_
      refine tk_goto (tgt := 138) X d_TC_access_134 (by decide) ?_
      refine tk_ior X d_TC_access_138 ?_
      refine kw_putN X (k := (7, c, j)) (ks_d7 hc hj) rfl hc_Way hi_Way t_Way t_Way_ok n_Way 2 (by decide) rfl n_TC_68 rfl rfl rfl d_TC_access_139 ?_
      have e1 : k_mk a c j true = ks_up a (7, c, j) 2 (a (7, c, j) 2 ||| 2) := if_neg h1
      rw [e1] at kend
      exact tl_acc142 X hP hc hj hy _ _ _ b o kend
end LP

section LP
variable {p : Program} {l : Launch} {e : Env} {R : Room} {s : State} {m : MethodId} {args : Array Value} {below : List Frame} {meth : Method} {c0 : Code} {P : ks_P} {cells slots : Nat} {Q : State → Prop}
set_option maxRecDepth 100000 in
set_option maxHeartbeats 4000000 in
theorem tl_acc94 (X : tk_X p m c0 s args (ks_G P) R_TC b_TC_access 6 WS) (hP : ks_ok P) {c j y : Nat} (hc : c < ks_n P) (hj : j < ks_T P) (hy : y < 32) (w : Bool) (v4 : Option Value) (a b : ks_M) (o : ks_O) (kend : tk_go p l e (ks_rm 4) s m args below meth c0 (ks_G P) (ks_dm P) 6 0 0 Q (ks_sl P (k_us (k_mk (k_md a c j w) c j w) c j) b o) 163 [some (.ref (tk_ad (ks_G P) (0, 0, 0))), some (.ref (tk_ad (ks_G P) (4, c, 0))), some (.int (nI y)), some (.int (q_b w)), v4, some (.ref (tk_ad (ks_G P) (7, c, j)))] [.ref (tk_ad (ks_G P) (7, c, j))]) : tk_go p l e (ks_rm 4) s m args below meth c0 (ks_G P) (ks_dm P) 6 0 0 Q (ks_sl P a b o) 94 [some (.ref (tk_ad (ks_G P) (0, 0, 0))), some (.ref (tk_ad (ks_G P) (4, c, 0))), some (.int (nI y)), some (.int (q_b w)), v4, some (.ref (tk_ad (ks_G P) (7, c, j)))] [] := by
  have hn64 := ks_n64 hP
  have hT64 := ks_T64 hP
  cases w with
  | false =>
    refine tk_iload_n X d_TC_access_94 rfl rfl ?_
    refine tk_if_eq (tgt := 116) X d_TC_access_95 (by decide) (fun _ => ?_) (fun h => absurd (by decide) h)
    have e1 : k_md a c j false = a := if_neg (by decide)
    rw [e1] at kend
    exact tl_acc116 X hP hc hj hy _ _ a b o kend
  | true =>
    refine tk_iload_n X d_TC_access_94 rfl rfl ?_
    refine tk_if_eq (tgt := 116) X d_TC_access_95 (by decide) (fun h => absurd h (by decide)) (fun _ => ?_)
    refine tk_aload_n X d_TC_access_98 rfl rfl ?_
    refine tk_aload X d_TC_access_99 rfl ?_
    refine tk_aload_n X d_TC_access_101 rfl rfl ?_
    refine tk_getN X (k := (4, c, 0)) (dm := ks_dm P) (ks_d4 hc) rfl hc_Core hi_Core 8 (by decide) n_TC_86 (v := .int _) rfl d_TC_access_102 ?_
    refine tk_if_le (tgt := 112) X d_TC_access_105 (by decide) (fun h1 => ?_) (fun h1 => ?_)
    · skip
      refine tk_iconst (v := 0) X d_TC_access_112 (by decide) ?_
      refine tk_callV X (kb := (0, 0, 0)) (ks_d0 (by decide)) rfl hc_TC (c_TC_makeModified l P hP c j hc hj false a b o) (ks_site (n := 2) mc_TC_makeModified mi_TC (by decide +kernel) (by decide) (by decide)) m_TC_197 ms_TC_makeModified mv_TC_makeModified rfl (Nat.le_of_ble_eq_true rfl) ⟨Nat.le_of_ble_eq_true rfl, Nat.le_of_ble_eq_true rfl⟩ rfl d_TC_access_113 ?_
      have e1 : k_md a c j true = k_modify a c j false := (if_pos rfl).trans (if_pos h1)
      rw [e1] at kend
      exact tl_acc116 X hP hc hj hy _ _ _ b o kend
    · skip
      refine tk_iconst (v := 1) X d_TC_access_108 (by decide) ?_
      refine tk_goto (tgt := 113) X d_TC_access_109 (by decide) ?_
      refine tk_callV X (kb := (0, 0, 0)) (ks_d0 (by decide)) rfl hc_TC (c_TC_makeModified l P hP c j hc hj true a b o) (ks_site (n := 2) mc_TC_makeModified mi_TC (by decide +kernel) (by decide) (by decide)) m_TC_197 ms_TC_makeModified mv_TC_makeModified rfl (Nat.le_of_ble_eq_true rfl) ⟨Nat.le_of_ble_eq_true rfl, Nat.le_of_ble_eq_true rfl⟩ rfl d_TC_access_113 ?_
      have e1 : k_md a c j true = k_modify a c j true := (if_pos rfl).trans (if_neg h1)
      rw [e1] at kend
      exact tl_acc116 X hP hc hj hy _ _ _ b o kend
end LP

section LP
variable {p : Program} {l : Launch} {e : Env} {R : Room} {s : State} {m : MethodId} {args : Array Value} {below : List Frame} {meth : Method} {c0 : Code} {P : ks_P} {cells slots : Nat} {Q : State → Prop}
set_option maxRecDepth 100000 in
set_option maxHeartbeats 4000000 in
theorem tl_acc82true (X : tk_X p m c0 s args (ks_G P) R_TC b_TC_access 6 WS) (hP : ks_ok P) {c j y : Nat} (hc : c < ks_n P) (hj : j < ks_T P) (hy : y < 32) (w : Bool) (a b : ks_M) (o : ks_O) (kend : tk_go p l e (ks_rm 4) s m args below meth c0 (ks_G P) (ks_dm P) 6 0 0 Q (ks_sl P (k_us (k_mk (k_md (k_rf a c j y true) c j w) c j w) c j) b o) 163 [some (.ref (tk_ad (ks_G P) (0, 0, 0))), some (.ref (tk_ad (ks_G P) (4, c, 0))), some (.int (nI y)), some (.int (q_b w)), some (.ref (tk_ad (ks_G P) (7, c, j))), some (.ref (tk_ad (ks_G P) (7, c, j)))] [.ref (tk_ad (ks_G P) (7, c, j))]) : tk_go p l e (ks_rm 4) s m args below meth c0 (ks_G P) (ks_dm P) 6 0 0 Q (ks_sl P a b o) 82 [some (.ref (tk_ad (ks_G P) (0, 0, 0))), some (.ref (tk_ad (ks_G P) (4, c, 0))), some (.int (nI y)), some (.int (q_b w)), some (.ref (tk_ad (ks_G P) (7, c, j))), some (.ref (tk_ad (ks_G P) (7, c, j)))] [] := by
  have hn64 := ks_n64 hP
  have hT64 := ks_T64 hP
  refine tk_aload X d_TC_access_82 rfl ?_
  refine tk_ifnonnull (tgt := 94) X d_TC_access_84 (by decide) ?_
  have e1 : k_rf a c j y true = _ := if_pos rfl
  rw [e1] at kend
  exact tl_acc94 X hP hc hj hy _ _ _ b o kend
end LP

section LP
variable {p : Program} {l : Launch} {e : Env} {R : Room} {s : State} {m : MethodId} {args : Array Value} {below : List Frame} {meth : Method} {c0 : Code} {P : ks_P} {cells slots : Nat} {Q : State → Prop}
set_option maxRecDepth 100000 in
set_option maxHeartbeats 4000000 in
theorem tl_acc44true (X : tk_X p m c0 s args (ks_G P) R_TC b_TC_access 6 WS) (hP : ks_ok P) {c j y : Nat} (hc : c < ks_n P) (hj : j < ks_T P) (hy : y < 32) (w : Bool) (a b : ks_M) (o : ks_O) (kend : tk_go p l e (ks_rm 4) s m args below meth c0 (ks_G P) (ks_dm P) 6 0 0 Q (ks_sl P (k_acc2 (ks_n P) (ks_S P) (ks_W P) a c y w true j) b o) 163 [some (.ref (tk_ad (ks_G P) (0, 0, 0))), some (.ref (tk_ad (ks_G P) (4, c, 0))), some (.int (nI y)), some (.int (q_b w)), some (.ref (tk_ad (ks_G P) (7, c, j))), some (.ref (tk_ad (ks_G P) (7, c, j)))] [.ref (tk_ad (ks_G P) (7, c, j))]) : tk_go p l e (ks_rm 4) s m args below meth c0 (ks_G P) (ks_dm P) 6 0 0 Q (ks_sl P a b o) 44 [some (.ref (tk_ad (ks_G P) (0, 0, 0))), some (.ref (tk_ad (ks_G P) (4, c, 0))), some (.int (nI y)), some (.int (q_b w)), some (.ref (tk_ad (ks_G P) (7, c, j))), some (.ref (tk_ad (ks_G P) (7, c, j)))] [] := by
  have hn64 := ks_n64 hP
  have hT64 := ks_T64 hP
  cases w with
  | false =>
    refine tk_aload X d_TC_access_44 rfl ?_
    refine tk_ifnull X d_TC_access_46 ?_
    refine tk_iload_n X d_TC_access_49 rfl rfl ?_
    refine tk_if_eq (tgt := 82) X d_TC_access_50 (by decide) (fun _ => ?_) (fun h => absurd (by decide) h)
    have e1 : k_rq (ks_n P) (ks_S P) (ks_W P) a c y false true j = a := ((if_pos rfl).trans (if_neg (by decide)))
    unfold k_acc2 at kend
    rw [e1] at kend
    exact tl_acc82true X hP hc hj hy _ _ b o kend
  | true =>
    refine tk_aload X d_TC_access_44 rfl ?_
    refine tk_ifnull X d_TC_access_46 ?_
    refine tk_iload_n X d_TC_access_49 rfl rfl ?_
    refine tk_if_eq (tgt := 82) X d_TC_access_50 (by decide) (fun h => absurd h (by decide)) (fun _ => ?_)
    refine tk_aload X d_TC_access_53 rfl ?_
    refine tk_getN X (k := (7, c, j)) (dm := ks_dm P) (ks_d7 hc hj) rfl hc_Way hi_Way 0 (by decide) n_TC_62 (v := .int _) rfl d_TC_access_55 ?_
    refine tk_iconst (v := 2) X d_TC_access_58 (by decide) ?_
    refine tk_icmp_eq (tgt := 82) X d_TC_access_59 (by decide) (fun h1 => ?_) (fun h1 => ?_)
    · skip
      have e1 : k_rq (ks_n P) (ks_S P) (ks_W P) a c y true true j = a := (((if_pos rfl).trans (if_pos rfl)).trans (if_pos h1))
      unfold k_acc2 at kend
      rw [e1] at kend
      exact tl_acc82true X hP hc hj hy _ _ b o kend
    · skip
      refine tk_aload_n X d_TC_access_62 rfl rfl ?_
      refine tk_dup X rfl d_TC_access_63 ?_
      refine tk_get X (k := (0, 0, 0)) (dm := ks_dm P) (ks_d0 (by decide)) rfl hc_TC hi_TC 2 (by decide) m_TC_123 (v := .int _) rfl d_TC_access_64 ?_
      refine tk_iconst (v := 1) X d_TC_access_67 (by decide) ?_
      refine tk_iadd X d_TC_access_68 ?_
      refine kw_put X (k := (0, 0, 0)) (ks_d0 (by decide)) rfl hc_TC hi_TC t_TC t_TC_ok n_TC 2 (by decide) rfl m_TC_123 rfl rfl rfl d_TC_access_69 ?_
      refine tk_aload_n X d_TC_access_72 rfl rfl ?_
      refine tk_aload_n X d_TC_access_73 rfl rfl ?_
      refine tk_getN X (k := (4, c, 0)) (dm := ks_dm P) (ks_d4 hc) rfl hc_Core hi_Core 0 (by decide) n_TC_190 (v := .int _) rfl d_TC_access_74 ?_
      refine tk_iload_n X d_TC_access_77 rfl rfl ?_
      refine tk_iload_n X d_TC_access_78 rfl rfl ?_
      refine tk_callV X (kb := (0, 0, 0)) (ks_d0 (by decide)) rfl hc_TC (c_TC_sendRequest l P hP y hy (nI c) true (ks_up a (0, 0, 0) 2 (a (0, 0, 0) 2 + 1)) b o) (ks_site (n := 3) mc_TC_sendRequest mi_TC (by decide +kernel) (by decide) (by decide)) m_TC_47 ms_TC_sendRequest mv_TC_sendRequest rfl (Nat.le_of_ble_eq_true rfl) ⟨Nat.le_of_ble_eq_true rfl, Nat.le_of_ble_eq_true rfl⟩ rfl d_TC_access_79 ?_
      have e1 : k_rq (ks_n P) (ks_S P) (ks_W P) a c y true true j = k_ask (ks_n P) (ks_S P) (ks_W P) a c y true := (((if_pos rfl).trans (if_pos rfl)).trans (if_neg h1))
      unfold k_acc2 at kend
      rw [e1] at kend
      exact tl_acc82true X hP hc hj hy _ _ b o kend
end LP

section LP
variable {p : Program} {l : Launch} {e : Env} {R : Room} {s : State} {m : MethodId} {args : Array Value} {below : List Frame} {meth : Method} {c0 : Code} {P : ks_P} {cells slots : Nat} {Q : State → Prop}
set_option maxRecDepth 100000 in
set_option maxHeartbeats 4000000 in
theorem tl_acc82false (X : tk_X p m c0 s args (ks_G P) R_TC b_TC_access 6 WS) (hP : ks_ok P) {c j y : Nat} (hc : c < ks_n P) (hj : j < ks_T P) (hy : y < 32) (w : Bool) (a b : ks_M) (o : ks_O) (kend : tk_go p l e (ks_rm 4) s m args below meth c0 (ks_G P) (ks_dm P) 6 0 0 Q (ks_sl P (k_us (k_mk (k_md (k_rf a c j y false) c j w) c j w) c j) b o) 163 [some (.ref (tk_ad (ks_G P) (0, 0, 0))), some (.ref (tk_ad (ks_G P) (4, c, 0))), some (.int (nI y)), some (.int (q_b w)), some (.null), some (.ref (tk_ad (ks_G P) (7, c, j)))] [.ref (tk_ad (ks_G P) (7, c, j))]) : tk_go p l e (ks_rm 4) s m args below meth c0 (ks_G P) (ks_dm P) 6 0 0 Q (ks_sl P a b o) 82 [some (.ref (tk_ad (ks_G P) (0, 0, 0))), some (.ref (tk_ad (ks_G P) (4, c, 0))), some (.int (nI y)), some (.int (q_b w)), some (.null), some (.ref (tk_ad (ks_G P) (7, c, j)))] [] := by
  have hn64 := ks_n64 hP
  have hT64 := ks_T64 hP
  refine tk_aloadN X d_TC_access_82 rfl ?_
  refine tk_ifnonnullN X d_TC_access_84 ?_
  refine tk_aload_n X d_TC_access_87 rfl rfl ?_
  refine tk_aload X d_TC_access_88 rfl ?_
  refine tk_iload_n X d_TC_access_90 rfl rfl ?_
  refine tk_callV X (kb := (0, 0, 0)) (ks_d0 (by decide)) rfl hc_TC (c_TC_refill l P hP c j hc hj (nI y) a b o) (ks_site (n := 2) mc_TC_refill mi_TC (by decide +kernel) (by decide) (by decide)) m_TC_193 ms_TC_refill mv_TC_refill rfl (Nat.le_of_ble_eq_true rfl) ⟨Nat.le_of_ble_eq_true rfl, Nat.le_of_ble_eq_true rfl⟩ rfl d_TC_access_91 ?_
  have e1 : k_rf a c j y false = _ := if_neg (by decide)
  rw [e1] at kend
  exact tl_acc94 X hP hc hj hy _ _ _ b o kend
end LP

section LP
variable {p : Program} {l : Launch} {e : Env} {R : Room} {s : State} {m : MethodId} {args : Array Value} {below : List Frame} {meth : Method} {c0 : Code} {P : ks_P} {cells slots : Nat} {Q : State → Prop}
set_option maxRecDepth 100000 in
set_option maxHeartbeats 4000000 in
theorem tl_acc44false (X : tk_X p m c0 s args (ks_G P) R_TC b_TC_access 6 WS) (hP : ks_ok P) {c j y : Nat} (hc : c < ks_n P) (hj : j < ks_T P) (hy : y < 32) (w : Bool) (a b : ks_M) (o : ks_O) (kend : tk_go p l e (ks_rm 4) s m args below meth c0 (ks_G P) (ks_dm P) 6 0 0 Q (ks_sl P (k_acc2 (ks_n P) (ks_S P) (ks_W P) a c y w false j) b o) 163 [some (.ref (tk_ad (ks_G P) (0, 0, 0))), some (.ref (tk_ad (ks_G P) (4, c, 0))), some (.int (nI y)), some (.int (q_b w)), some (.null), some (.ref (tk_ad (ks_G P) (7, c, j)))] [.ref (tk_ad (ks_G P) (7, c, j))]) : tk_go p l e (ks_rm 4) s m args below meth c0 (ks_G P) (ks_dm P) 6 0 0 Q (ks_sl P a b o) 44 [some (.ref (tk_ad (ks_G P) (0, 0, 0))), some (.ref (tk_ad (ks_G P) (4, c, 0))), some (.int (nI y)), some (.int (q_b w)), some (.null), some (.ref (tk_ad (ks_G P) (7, c, j)))] [] := by
  have hn64 := ks_n64 hP
  have hT64 := ks_T64 hP
  cases w with
  | false =>
    refine tk_aloadN X d_TC_access_44 rfl ?_
    refine tk_ifnullN (tgt := 62) X d_TC_access_46 (by decide) ?_
    refine tk_aload_n X d_TC_access_62 rfl rfl ?_
    refine tk_dup X rfl d_TC_access_63 ?_
    refine tk_get X (k := (0, 0, 0)) (dm := ks_dm P) (ks_d0 (by decide)) rfl hc_TC hi_TC 2 (by decide) m_TC_123 (v := .int _) rfl d_TC_access_64 ?_
    refine tk_iconst (v := 1) X d_TC_access_67 (by decide) ?_
    refine tk_iadd X d_TC_access_68 ?_
    refine kw_put X (k := (0, 0, 0)) (ks_d0 (by decide)) rfl hc_TC hi_TC t_TC t_TC_ok n_TC 2 (by decide) rfl m_TC_123 rfl rfl rfl d_TC_access_69 ?_
    refine tk_aload_n X d_TC_access_72 rfl rfl ?_
    refine tk_aload_n X d_TC_access_73 rfl rfl ?_
    refine tk_getN X (k := (4, c, 0)) (dm := ks_dm P) (ks_d4 hc) rfl hc_Core hi_Core 0 (by decide) n_TC_190 (v := .int _) rfl d_TC_access_74 ?_
    refine tk_iload_n X d_TC_access_77 rfl rfl ?_
    refine tk_iload_n X d_TC_access_78 rfl rfl ?_
    refine tk_callV X (kb := (0, 0, 0)) (ks_d0 (by decide)) rfl hc_TC (c_TC_sendRequest l P hP y hy (nI c) false (ks_up a (0, 0, 0) 2 (a (0, 0, 0) 2 + 1)) b o) (ks_site (n := 3) mc_TC_sendRequest mi_TC (by decide +kernel) (by decide) (by decide)) m_TC_47 ms_TC_sendRequest mv_TC_sendRequest rfl (Nat.le_of_ble_eq_true rfl) ⟨Nat.le_of_ble_eq_true rfl, Nat.le_of_ble_eq_true rfl⟩ rfl d_TC_access_79 ?_
    have e1 : k_rq (ks_n P) (ks_S P) (ks_W P) a c y false false j = k_ask (ks_n P) (ks_S P) (ks_W P) a c y false := (if_neg (by decide))
    unfold k_acc2 at kend
    rw [e1] at kend
    exact tl_acc82false X hP hc hj hy _ _ b o kend
  | true =>
    refine tk_aloadN X d_TC_access_44 rfl ?_
    refine tk_ifnullN (tgt := 62) X d_TC_access_46 (by decide) ?_
    refine tk_aload_n X d_TC_access_62 rfl rfl ?_
    refine tk_dup X rfl d_TC_access_63 ?_
    refine tk_get X (k := (0, 0, 0)) (dm := ks_dm P) (ks_d0 (by decide)) rfl hc_TC hi_TC 2 (by decide) m_TC_123 (v := .int _) rfl d_TC_access_64 ?_
    refine tk_iconst (v := 1) X d_TC_access_67 (by decide) ?_
    refine tk_iadd X d_TC_access_68 ?_
    refine kw_put X (k := (0, 0, 0)) (ks_d0 (by decide)) rfl hc_TC hi_TC t_TC t_TC_ok n_TC 2 (by decide) rfl m_TC_123 rfl rfl rfl d_TC_access_69 ?_
    refine tk_aload_n X d_TC_access_72 rfl rfl ?_
    refine tk_aload_n X d_TC_access_73 rfl rfl ?_
    refine tk_getN X (k := (4, c, 0)) (dm := ks_dm P) (ks_d4 hc) rfl hc_Core hi_Core 0 (by decide) n_TC_190 (v := .int _) rfl d_TC_access_74 ?_
    refine tk_iload_n X d_TC_access_77 rfl rfl ?_
    refine tk_iload_n X d_TC_access_78 rfl rfl ?_
    refine tk_callV X (kb := (0, 0, 0)) (ks_d0 (by decide)) rfl hc_TC (c_TC_sendRequest l P hP y hy (nI c) true (ks_up a (0, 0, 0) 2 (a (0, 0, 0) 2 + 1)) b o) (ks_site (n := 3) mc_TC_sendRequest mi_TC (by decide +kernel) (by decide) (by decide)) m_TC_47 ms_TC_sendRequest mv_TC_sendRequest rfl (Nat.le_of_ble_eq_true rfl) ⟨Nat.le_of_ble_eq_true rfl, Nat.le_of_ble_eq_true rfl⟩ rfl d_TC_access_79 ?_
    have e1 : k_rq (ks_n P) (ks_S P) (ks_W P) a c y true false j = k_ask (ks_n P) (ks_S P) (ks_W P) a c y true := (if_neg (by decide))
    unfold k_acc2 at kend
    rw [e1] at kend
    exact tl_acc82false X hP hc hj hy _ _ b o kend
end LP

set_option maxRecDepth 100000 in
set_option maxHeartbeats 4000000 in
theorem c_TC_access (l : Launch) (P : ks_P) (hP : ks_ok P) (c y : Nat) (hc : c < ks_n P) (hy : y < 32) (w : Bool) (a b : ks_M) (o : ks_O) : kc l P y_TC_access b_TC_access 6 (some (.object "TransactionCores$Way")) 4 [.ref (tk_ad (ks_G P) (0, 0, 0)), .ref (tk_ad (ks_G P) (4, c, 0)), .int (nI y), .int (q_b w)] a b o (some (k_ref P c (k_acc (ks_n P) (ks_S P) (ks_W P) a c y w).1)) (k_acc (ks_n P) (ks_S P) (ks_W P) a c y w).2 b o := by
  have hn64 := ks_n64 hP
  have hT64 := ks_T64 hP
  refine tk_of hP.2.2.2.2.2 (by decide) rfl (Nat.le_of_ble_eq_true rfl) ?_
  intro p e s m below meth c0 X hlk hr hnm
  refine tk_aload_n X d_TC_access_0 rfl rfl ?_
  refine tk_getN X (k := (4, c, 0)) (dm := ks_dm P) (ks_d4 hc) rfl hc_Core hi_Core 1 (by decide) n_TC_54 (v := .ref (tk_ad (ks_G P) (5, c, 0))) rfl d_TC_access_1 ?_
  refine tk_iload_n X d_TC_access_4 rfl rfl ?_
  refine tk_callV X (kb := (5, c, 0)) (ks_d5 hc) rfl hc_Cache (c_Cache_find l P hP c y hc hy a b o) (ks_site (n := 1) mc_Cache_find mi_Cache (by decide +kernel) (by decide) (by decide)) m_TC_58 ms_Cache_find mv_Cache_find rfl (Nat.le_of_ble_eq_true rfl) ⟨Nat.le_of_ble_eq_true rfl, Nat.le_of_ble_eq_true rfl⟩ rfl d_TC_access_5 ?_
  cases hf : k_find a c y (ks_W P) (k_first (ks_S P) (ks_W P) y) with
  | none =>
    refine tk_astoreN X d_TC_access_8 (by decide) rfl ?_
    refine tk_aloadN X d_TC_access_10 rfl ?_
    refine tk_ifnullN (tgt := 20) X d_TC_access_12 (by decide) ?_
    refine tk_aload_n X d_TC_access_20 rfl rfl ?_
    refine tk_getN X (k := (4, c, 0)) (dm := ks_dm P) (ks_d4 hc) rfl hc_Core hi_Core 1 (by decide) n_TC_54 (v := .ref (tk_ad (ks_G P) (5, c, 0))) rfl d_TC_access_21 ?_
    refine tk_iload_n X d_TC_access_24 rfl rfl ?_
    refine tk_callV X (kb := (5, c, 0)) (ks_d5 hc) rfl hc_Cache (c_Cache_room l P hP c y hc hy a b o) (ks_site (n := 1) mc_Cache_room mi_Cache (by decide +kernel) (by decide) (by decide)) m_TC_184 ms_Cache_room mv_Cache_room rfl (Nat.le_of_ble_eq_true rfl) ⟨Nat.le_of_ble_eq_true rfl, Nat.le_of_ble_eq_true rfl⟩ rfl d_TC_access_25 ?_
    cases hg : k_room a c (ks_W P) (k_first (ks_S P) (ks_W P) y) none with
    | none =>
      refine tk_astoreN X d_TC_access_28 (by decide) rfl ?_
      refine tk_aloadN X d_TC_access_30 rfl ?_
      refine tk_ifnonnullN X d_TC_access_32 ?_
      refine tk_aload_n X d_TC_access_35 rfl rfl ?_
      refine tk_iconst (v := 2) X d_TC_access_36 (by decide) ?_
      refine tk_iconst (v := 0) X d_TC_access_37 (by decide) ?_
      refine tk_callV X (kb := (4, c, 0)) (ks_d4 hc) rfl hc_Core (c_Core_abort l P hP c hc 2 (by decide) 0 a b o) (ks_site (n := 2) mc_Core_abort mi_Core (by decide +kernel) (by decide) (by decide)) m_TC_187 ms_Core_abort mv_Core_abort rfl (Nat.le_of_ble_eq_true rfl) ⟨Nat.le_of_ble_eq_true rfl, Nat.le_of_ble_eq_true rfl⟩ rfl d_TC_access_38 ?_
      refine tk_pop X rfl d_TC_access_41 ?_
      refine tk_null X d_TC_access_42 ?_
      have e1 : k_acc (ks_n P) (ks_S P) (ks_W P) a c y w = (none, k_abort (ks_T P) a c 2 0) := by unfold k_acc; rw [hf, hg]
      exact tk_aret X hlk hr (Or.inl ⟨_, rfl⟩) (Or.inl rfl) d_TC_access_43 (by rw [e1]; rfl) (fun _ h => h) (Or.inr rfl) (kw_st (by rw [e1]) rfl rfl)
    | some j =>
      have hj : j < ks_T P := k_room_T hP hg
      refine tk_astore X d_TC_access_28 (by decide) rfl ?_
      refine tk_aload X d_TC_access_30 rfl ?_
      refine tk_ifnonnull (tgt := 44) X d_TC_access_32 (by decide) ?_
      have e1 : k_acc (ks_n P) (ks_S P) (ks_W P) a c y w = (some j, k_acc2 (ks_n P) (ks_S P) (ks_W P) a c y w false j) := by unfold k_acc; rw [hf, hg]
      refine tl_acc44false X hP hc hj hy w a b o ?_
      exact tk_aret X hlk hr (Or.inl ⟨_, rfl⟩) (Or.inr ⟨_, rfl⟩) d_TC_access_163 (by rw [e1]; rfl) (fun _ h => h) (Or.inr rfl) (kw_st (by rw [e1]) rfl rfl)
  | some j =>
    have hj : j < ks_T P := k_find_T hP hf
    refine tk_astore X d_TC_access_8 (by decide) rfl ?_
    refine tk_aload X d_TC_access_10 rfl ?_
    refine tk_ifnull X d_TC_access_12 ?_
    refine tk_aload X d_TC_access_15 rfl ?_
    refine tk_goto (tgt := 28) X d_TC_access_17 (by decide) ?_
    refine tk_astore X d_TC_access_28 (by decide) rfl ?_
    refine tk_aload X d_TC_access_30 rfl ?_
    refine tk_ifnonnull (tgt := 44) X d_TC_access_32 (by decide) ?_
    have e1 : k_acc (ks_n P) (ks_S P) (ks_W P) a c y w = (some j, k_acc2 (ks_n P) (ks_S P) (ks_W P) a c y w true j) := by unfold k_acc; rw [hf]
    refine tl_acc44true X hP hc hj hy w a b o ?_
    exact tk_aret X hlk hr (Or.inl ⟨_, rfl⟩) (Or.inr ⟨_, rfl⟩) d_TC_access_163 (by rw [e1]; rfl) (fun _ h => h) (Or.inr rfl) (kw_st (by rw [e1]) rfl rfl)
