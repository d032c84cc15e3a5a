set_option maxRecDepth 100000 in
set_option maxHeartbeats 4000000 in
theorem c_Model_way (l : Launch) (P : ks_P) (hP : ks_ok P) (c : Nat) (hc : c < ks_n P) (t u v : Nat) (ht : t < ks_S P) (hu : u < ks_W P) (hv : v < 5) (hj : t * ks_W P + u < ks_T P) (a b : ks_M) (o : ks_O)  : kc l P y_Model_way b_Model_way 6 (some .int) 1 [.ref (tk_ad (ks_G P) (12, 0, 0)), .int (nI c), .int (nI t), .int (nI u), .int (nI v)] a b o (some (.int (k_wayq b c (t * ks_W P + u) (nI v)))) a b (o.1, 0) := by
  have hn64 := ks_n64 hP
  have hT64 := ks_T64 hP
  have hc3 : c < 3 := by have := hP.2.1; omega
  refine tk_of hP.2.2.2.2.2 (by decide) rfl (Nat.le_of_ble_eq_true rfl) ?_
  intro p e s m below meth c0 X hlk hr hnm
  have hS4 : ks_S P ≤ 4 := by rcases hP.2.2.1 with h | h | h <;> omega
  have hW4 : ks_W P ≤ 3 := hP.2.2.2.2.1
  refine tk_aload_n X d_Model_way_0 rfl rfl ?_
  refine tk_iconst (v := 0) X d_Model_way_1 (by decide) ?_
  refine kr_code X hc_Model hi_Model t_Model t_Model_ok n_Model (by decide) m_Model_66 rfl rfl rfl d_Model_way_2 ?_
  refine tk_aload_n X d_Model_way_5 rfl rfl ?_
  refine tk_iload_n X d_Model_way_6 rfl rfl ?_
  refine tk_callV X (kb := (12, 0, 0)) (ks_d0 (by decide)) rfl hc_Model (c_Model_isCore l P hP c hc a b _) (ks_site (n := 1) mc_Model_isCore mi_Model (by decide +kernel) (by decide) (by decide)) m_Model_98 ms_Model_isCore mv_Model_isCore rfl (Nat.le_of_ble_eq_true rfl) ⟨Nat.le_of_ble_eq_true rfl, Nat.le_of_ble_eq_true rfl⟩ rfl d_Model_way_7 ?_
  refine tk_if_eq (tgt := 48) X d_Model_way_10 (by decide) (fun h => absurd h (by decide)) (fun _ => ?_)
  refine tk_iload_n X d_Model_way_13 rfl rfl ?_
  refine tk_if_lt (tgt := 48) X d_Model_way_14 (by decide) (fun h => absurd h (nI_pos (by omega))) (fun _ => ?_)
  refine tk_iload_n X d_Model_way_17 rfl rfl ?_
  refine tk_aload_n X d_Model_way_18 rfl rfl ?_
  refine tk_get X (k := (12, 0, 0)) (dm := ks_dm P) (ks_d0 (by decide)) rfl hc_Model hi_Model 1 (by decide) m_Model_60 (v := .int _) rfl d_Model_way_19 ?_
  refine tk_icmp_ge (tgt := 48) X d_Model_way_22 (by decide) (fun h => absurd h (nI_ge ht (by rcases hP.2.2.1 with h | h | h <;> omega))) (fun _ => ?_)
  refine tk_iload_n X d_Model_way_25 rfl rfl ?_
  refine tk_if_lt (tgt := 48) X d_Model_way_26 (by decide) (fun h => absurd h (nI_pos (by omega))) (fun _ => ?_)
  refine tk_iload_n X d_Model_way_29 rfl rfl ?_
  refine tk_aload_n X d_Model_way_30 rfl rfl ?_
  refine tk_get X (k := (12, 0, 0)) (dm := ks_dm P) (ks_d0 (by decide)) rfl hc_Model hi_Model 2 (by decide) m_Model_63 (v := .int _) rfl d_Model_way_31 ?_
  refine tk_icmp_ge (tgt := 48) X d_Model_way_34 (by decide) (fun h => absurd h (nI_ge hu (by have := hP.2.2.2.2.1; omega))) (fun _ => ?_)
  refine tk_iload X d_Model_way_37 rfl ?_
  refine tk_if_lt (tgt := 48) X d_Model_way_39 (by decide) (fun h => absurd h (nI_pos (by omega))) (fun _ => ?_)
  refine tk_iload X d_Model_way_42 rfl ?_
  refine tk_iconst (v := 4) X d_Model_way_44 (by decide) ?_
  refine tk_icmp_le (tgt := 54) X d_Model_way_45 (by decide) (fun _ => ?_) (fun h => absurd (nI_le (b := 4) (by omega) (by decide)) h)
  refine tk_bipush (v := 12) X d_Model_way_54 (by decide) ?_
  refine tk_iload_n X d_Model_way_56 rfl rfl ?_
  refine tk_imul X d_Model_way_57 ?_
  refine tk_iconst (v := 3) X d_Model_way_58 (by decide) ?_
  refine tk_iload_n X d_Model_way_59 rfl rfl ?_
  refine tk_imul X d_Model_way_60 ?_
  refine tk_iadd X d_Model_way_61 ?_
  refine tk_iload_n X d_Model_way_62 rfl rfl ?_
  refine tk_iadd X d_Model_way_63 ?_
  rw [r_wj hP hu]
  refine tk_istore X d_Model_way_64 (by decide) rfl ?_
  refine tk_iload X d_Model_way_66 rfl ?_
  refine tk_if_ne (tgt := 79) X d_Model_way_68 (by decide) (fun h1 => ?_) (fun h1 => ?_)
  · skip
    refine tk_aload_n X d_Model_way_79 rfl rfl ?_
    refine tk_get X (k := (12, 0, 0)) (dm := ks_dm P) (ks_d0 (by decide)) rfl hc_Model hi_Model 15 (by decide) m_Model_38 (v := .ref (tk_ad (ks_G P) (22, 0, 0))) rfl d_Model_way_80 ?_
    refine tk_iload X d_Model_way_83 rfl ?_
    refine kr_iald X (f := 22) (i' := 0) (by decide) (by decide) rfl (by decide) rfl (r_pj_lt hP hc hj) (ks_vk_pj hP hj) rfl d_Model_way_85 ?_
    refine tk_if_ne (tgt := 91) X d_Model_way_86 (by decide) (fun h2 => ?_) (fun h2 => ?_)
    · skip
      refine tk_iload X d_Model_way_91 rfl ?_
      refine tk_iconst (v := 1) X d_Model_way_93 (by decide) ?_
      refine tk_icmp_ne (tgt := 107) X d_Model_way_94 (by decide) (fun h3 => ?_) (fun h3 => ?_)
      · skip
        refine tk_iload X d_Model_way_107 rfl ?_
        refine tk_iconst (v := 2) X d_Model_way_109 (by decide) ?_
        refine tk_icmp_ne (tgt := 123) X d_Model_way_110 (by decide) (fun h4 => ?_) (fun h4 => ?_)
        · skip
          refine tk_iload X d_Model_way_123 rfl ?_
          refine tk_iconst (v := 3) X d_Model_way_125 (by decide) ?_
          refine tk_icmp_ne (tgt := 139) X d_Model_way_126 (by decide) (fun h5 => ?_) (fun h5 => ?_)
          · skip
            refine tk_aload_n X d_Model_way_139 rfl rfl ?_
            refine tk_get X (k := (12, 0, 0)) (dm := ks_dm P) (ks_d0 (by decide)) rfl hc_Model hi_Model 19 (by decide) m_Model_50 (v := .ref (tk_ad (ks_G P) (26, 0, 0))) rfl d_Model_way_140 ?_
            refine tk_iload X d_Model_way_143 rfl ?_
            refine kr_iald X (f := 26) (i' := 4) (by decide) (by decide) rfl (by decide) rfl (r_pj_lt hP hc hj) (ks_vk_pj hP hj) rfl d_Model_way_145 ?_
            have e1 : k_wayq b c (t * ks_W P + u) (nI v) = _ := (((((if_neg h1).trans (if_neg h2)).trans (if_neg h3)).trans (if_neg h4)).trans (if_neg h5))
            exact tk_iret X hlk hr d_Model_way_146 (by rw [e1]) (fun _ h => h) (Or.inr rfl) (kw_st rfl rfl rfl)
          · skip
            refine tk_aload_n X d_Model_way_129 rfl rfl ?_
            refine tk_get X (k := (12, 0, 0)) (dm := ks_dm P) (ks_d0 (by decide)) rfl hc_Model hi_Model 18 (by decide) m_Model_47 (v := .ref (tk_ad (ks_G P) (25, 0, 0))) rfl d_Model_way_130 ?_
            refine tk_iload X d_Model_way_133 rfl ?_
            refine kr_iald X (f := 25) (i' := 3) (by decide) (by decide) rfl (by decide) rfl (r_pj_lt hP hc hj) (ks_vk_pj hP hj) rfl d_Model_way_135 ?_
            refine tk_goto (tgt := 146) X d_Model_way_136 (by decide) ?_
            have e1 : k_wayq b c (t * ks_W P + u) (nI v) = _ := (((((if_neg h1).trans (if_neg h2)).trans (if_neg h3)).trans (if_neg h4)).trans (if_pos h5))
            exact tk_iret X hlk hr d_Model_way_146 (by rw [e1]) (fun _ h => h) (Or.inr rfl) (kw_st rfl rfl rfl)
        · skip
          refine tk_aload_n X d_Model_way_113 rfl rfl ?_
          refine tk_get X (k := (12, 0, 0)) (dm := ks_dm P) (ks_d0 (by decide)) rfl hc_Model hi_Model 17 (by decide) m_Model_44 (v := .ref (tk_ad (ks_G P) (24, 0, 0))) rfl d_Model_way_114 ?_
          refine tk_iload X d_Model_way_117 rfl ?_
          refine kr_iald X (f := 24) (i' := 2) (by decide) (by decide) rfl (by decide) rfl (r_pj_lt hP hc hj) (ks_vk_pj hP hj) rfl d_Model_way_119 ?_
          refine tk_goto (tgt := 146) X d_Model_way_120 (by decide) ?_
          have e1 : k_wayq b c (t * ks_W P + u) (nI v) = _ := ((((if_neg h1).trans (if_neg h2)).trans (if_neg h3)).trans (if_pos h4))
          exact tk_iret X hlk hr d_Model_way_146 (by rw [e1]) (fun _ h => h) (Or.inr rfl) (kw_st rfl rfl rfl)
      · skip
        refine tk_aload_n X d_Model_way_97 rfl rfl ?_
        refine tk_get X (k := (12, 0, 0)) (dm := ks_dm P) (ks_d0 (by decide)) rfl hc_Model hi_Model 16 (by decide) m_Model_41 (v := .ref (tk_ad (ks_G P) (23, 0, 0))) rfl d_Model_way_98 ?_
        refine tk_iload X d_Model_way_101 rfl ?_
        refine kr_iald X (f := 23) (i' := 1) (by decide) (by decide) rfl (by decide) rfl (r_pj_lt hP hc hj) (ks_vk_pj hP hj) rfl d_Model_way_103 ?_
        refine tk_goto (tgt := 146) X d_Model_way_104 (by decide) ?_
        have e1 : k_wayq b c (t * ks_W P + u) (nI v) = _ := (((if_neg h1).trans (if_neg h2)).trans (if_pos h3))
        exact tk_iret X hlk hr d_Model_way_146 (by rw [e1]) (fun _ h => h) (Or.inr rfl) (kw_st rfl rfl rfl)
    · skip
      refine tk_iconst (v := -1) X d_Model_way_89 (by decide) ?_
      have e1 : k_wayq b c (t * ks_W P + u) (nI v) = _ := ((if_neg h1).trans (if_pos h2))
      exact tk_iret X hlk hr d_Model_way_90 (by rw [e1]) (fun _ h => h) (Or.inr rfl) (kw_st rfl rfl rfl)
  · skip
    refine tk_aload_n X d_Model_way_71 rfl rfl ?_
    refine tk_get X (k := (12, 0, 0)) (dm := ks_dm P) (ks_d0 (by decide)) rfl hc_Model hi_Model 15 (by decide) m_Model_38 (v := .ref (tk_ad (ks_G P) (22, 0, 0))) rfl d_Model_way_72 ?_
    refine tk_iload X d_Model_way_75 rfl ?_
    refine kr_iald X (f := 22) (i' := 0) (by decide) (by decide) rfl (by decide) rfl (r_pj_lt hP hc hj) (ks_vk_pj hP hj) rfl d_Model_way_77 ?_
    have e1 : k_wayq b c (t * ks_W P + u) (nI v) = _ := (if_pos h1)
    exact tk_iret X hlk hr d_Model_way_78 (by rw [e1]) (fun _ h => h) (Or.inr rfl) (kw_st rfl rfl rfl)

set_option maxRecDepth 100000 in
set_option maxHeartbeats 4000000 in
theorem c_Model_wayX (l : Launch) (P : ks_P) (hP : ks_ok P) (x : Int32) (hx : x < 0 ∨ nI (ks_n P) ≤ x) (t u v : Int32) (a b : ks_M) (o : ks_O)  : kc l P y_Model_way b_Model_way 6 (some .int) 1 [.ref (tk_ad (ks_G P) (12, 0, 0)), .int x, .int t, .int u, .int v] a b o (some (.int 0)) a b (o.1, 1) := by
  have hn64 := ks_n64 hP
  have hT64 := ks_T64 hP
  refine tk_of hP.2.2.2.2.2 (by decide) rfl (Nat.le_of_ble_eq_true rfl) ?_
  intro p e s m below meth c0 X hlk hr hnm
  have hS4 : ks_S P ≤ 4 := by rcases hP.2.2.1 with h | h | h <;> omega
  have hW4 : ks_W P ≤ 3 := hP.2.2.2.2.1
  refine tk_aload_n X d_Model_way_0 rfl rfl ?_
  refine tk_iconst (v := 0) X d_Model_way_1 (by decide) ?_
  refine kr_code X hc_Model hi_Model t_Model t_Model_ok n_Model (by decide) m_Model_66 rfl rfl rfl d_Model_way_2 ?_
  refine tk_aload_n X d_Model_way_5 rfl rfl ?_
  refine tk_iload_n X d_Model_way_6 rfl rfl ?_
  refine tk_callV X (kb := (12, 0, 0)) (ks_d0 (by decide)) rfl hc_Model (c_Model_isCore0 l P hP x hx a b _) (ks_site (n := 1) mc_Model_isCore mi_Model (by decide +kernel) (by decide) (by decide)) m_Model_98 ms_Model_isCore mv_Model_isCore rfl (Nat.le_of_ble_eq_true rfl) ⟨Nat.le_of_ble_eq_true rfl, Nat.le_of_ble_eq_true rfl⟩ rfl d_Model_way_7 ?_
  refine tk_if_eq (tgt := 48) X d_Model_way_10 (by decide) (fun _ => ?_) (fun h => absurd (by decide) h)
  refine tk_aload_n X d_Model_way_48 rfl rfl ?_
  refine tk_iconst (v := 1) X d_Model_way_49 (by decide) ?_
  refine tk_callV X (kb := (12, 0, 0)) (ks_d0 (by decide)) rfl hc_Model (c_Model_fail l P hP 1 a b (o.1, 0)) (ks_site (n := 1) mc_Model_fail mi_Model (by decide +kernel) (by decide) (by decide)) m_Model_120 ms_Model_fail mv_Model_fail rfl (Nat.le_of_ble_eq_true rfl) ⟨Nat.le_of_ble_eq_true rfl, Nat.le_of_ble_eq_true rfl⟩ rfl d_Model_way_50 ?_
  exact tk_iret X hlk hr d_Model_way_53 (rfl) (fun _ h => h) (Or.inr rfl) (kw_st rfl rfl rfl)

set_option maxRecDepth 100000 in
set_option maxHeartbeats 4000000 in
theorem c_Model_wayT (l : Launch) (P : ks_P) (hP : ks_ok P) (c : Nat) (hc : c < ks_n P) (t u v : Int32) (ht : t < 0 ∨ nI (ks_S P) ≤ t) (a b : ks_M) (o : ks_O)  : kc l P y_Model_way b_Model_way 6 (some .int) 1 [.ref (tk_ad (ks_G P) (12, 0, 0)), .int (nI c), .int t, .int u, .int v] a b o (some (.int 0)) a b (o.1, 1) := by
  have hn64 := ks_n64 hP
  have hT64 := ks_T64 hP
  have hc3 : c < 3 := by have := hP.2.1; omega
  refine tk_of hP.2.2.2.2.2 (by decide) rfl (Nat.le_of_ble_eq_true rfl) ?_
  intro p e s m below meth c0 X hlk hr hnm
  have hS4 : ks_S P ≤ 4 := by rcases hP.2.2.1 with h | h | h <;> omega
  have hW4 : ks_W P ≤ 3 := hP.2.2.2.2.1
  refine tk_aload_n X d_Model_way_0 rfl rfl ?_
  refine tk_iconst (v := 0) X d_Model_way_1 (by decide) ?_
  refine kr_code X hc_Model hi_Model t_Model t_Model_ok n_Model (by decide) m_Model_66 rfl rfl rfl d_Model_way_2 ?_
  refine tk_aload_n X d_Model_way_5 rfl rfl ?_
  refine tk_iload_n X d_Model_way_6 rfl rfl ?_
  refine tk_callV X (kb := (12, 0, 0)) (ks_d0 (by decide)) rfl hc_Model (c_Model_isCore l P hP c hc a b _) (ks_site (n := 1) mc_Model_isCore mi_Model (by decide +kernel) (by decide) (by decide)) m_Model_98 ms_Model_isCore mv_Model_isCore rfl (Nat.le_of_ble_eq_true rfl) ⟨Nat.le_of_ble_eq_true rfl, Nat.le_of_ble_eq_true rfl⟩ rfl d_Model_way_7 ?_
  refine tk_if_eq (tgt := 48) X d_Model_way_10 (by decide) (fun h => absurd h (by decide)) (fun _ => ?_)
  refine tk_iload_n X d_Model_way_13 rfl rfl ?_
  refine tk_if_lt (tgt := 48) X d_Model_way_14 (by decide) (fun h1 => ?_) (fun h1 => ?_)
  · skip
    refine tk_aload_n X d_Model_way_48 rfl rfl ?_
    refine tk_iconst (v := 1) X d_Model_way_49 (by decide) ?_
    refine tk_callV X (kb := (12, 0, 0)) (ks_d0 (by decide)) rfl hc_Model (c_Model_fail l P hP 1 a b (o.1, 0)) (ks_site (n := 1) mc_Model_fail mi_Model (by decide +kernel) (by decide) (by decide)) m_Model_120 ms_Model_fail mv_Model_fail rfl (Nat.le_of_ble_eq_true rfl) ⟨Nat.le_of_ble_eq_true rfl, Nat.le_of_ble_eq_true rfl⟩ rfl d_Model_way_50 ?_
    exact tk_iret X hlk hr d_Model_way_53 (rfl) (fun _ h => h) (Or.inr rfl) (kw_st rfl rfl rfl)
  · skip
    refine tk_iload_n X d_Model_way_17 rfl rfl ?_
    refine tk_aload_n X d_Model_way_18 rfl rfl ?_
    refine tk_get X (k := (12, 0, 0)) (dm := ks_dm P) (ks_d0 (by decide)) rfl hc_Model hi_Model 1 (by decide) m_Model_60 (v := .int _) rfl d_Model_way_19 ?_
    refine tk_icmp_ge (tgt := 48) X d_Model_way_22 (by decide) (fun _ => ?_) (fun h => absurd (ht.resolve_left h1) h)
    refine tk_aload_n X d_Model_way_48 rfl rfl ?_
    refine tk_iconst (v := 1) X d_Model_way_49 (by decide) ?_
    refine tk_callV X (kb := (12, 0, 0)) (ks_d0 (by decide)) rfl hc_Model (c_Model_fail l P hP 1 a b (o.1, 0)) (ks_site (n := 1) mc_Model_fail mi_Model (by decide +kernel) (by decide) (by decide)) m_Model_120 ms_Model_fail mv_Model_fail rfl (Nat.le_of_ble_eq_true rfl) ⟨Nat.le_of_ble_eq_true rfl, Nat.le_of_ble_eq_true rfl⟩ rfl d_Model_way_50 ?_
    exact tk_iret X hlk hr d_Model_way_53 (rfl) (fun _ h => h) (Or.inr rfl) (kw_st rfl rfl rfl)

set_option maxRecDepth 100000 in
set_option maxHeartbeats 4000000 in
theorem c_Model_wayU (l : Launch) (P : ks_P) (hP : ks_ok P) (c : Nat) (hc : c < ks_n P) (t : Nat) (ht : t < ks_S P) (u v : Int32) (hu : u < 0 ∨ nI (ks_W P) ≤ u) (a b : ks_M) (o : ks_O)  : kc l P y_Model_way b_Model_way 6 (some .int) 1 [.ref (tk_ad (ks_G P) (12, 0, 0)), .int (nI c), .int (nI t), .int u, .int v] a b o (some (.int 0)) a b (o.1, 1) := by
  have hn64 := ks_n64 hP
  have hT64 := ks_T64 hP
  have hc3 : c < 3 := by have := hP.2.1; omega
  refine tk_of hP.2.2.2.2.2 (by decide) rfl (Nat.le_of_ble_eq_true rfl) ?_
  intro p e s m below meth c0 X hlk hr hnm
  have hS4 : ks_S P ≤ 4 := by rcases hP.2.2.1 with h | h | h <;> omega
  have hW4 : ks_W P ≤ 3 := hP.2.2.2.2.1
  refine tk_aload_n X d_Model_way_0 rfl rfl ?_
  refine tk_iconst (v := 0) X d_Model_way_1 (by decide) ?_
  refine kr_code X hc_Model hi_Model t_Model t_Model_ok n_Model (by decide) m_Model_66 rfl rfl rfl d_Model_way_2 ?_
  refine tk_aload_n X d_Model_way_5 rfl rfl ?_
  refine tk_iload_n X d_Model_way_6 rfl rfl ?_
  refine tk_callV X (kb := (12, 0, 0)) (ks_d0 (by decide)) rfl hc_Model (c_Model_isCore l P hP c hc a b _) (ks_site (n := 1) mc_Model_isCore mi_Model (by decide +kernel) (by decide) (by decide)) m_Model_98 ms_Model_isCore mv_Model_isCore rfl (Nat.le_of_ble_eq_true rfl) ⟨Nat.le_of_ble_eq_true rfl, Nat.le_of_ble_eq_true rfl⟩ rfl d_Model_way_7 ?_
  refine tk_if_eq (tgt := 48) X d_Model_way_10 (by decide) (fun h => absurd h (by decide)) (fun _ => ?_)
  refine tk_iload_n X d_Model_way_13 rfl rfl ?_
  refine tk_if_lt (tgt := 48) X d_Model_way_14 (by decide) (fun h => absurd h (nI_pos (by omega))) (fun _ => ?_)
  refine tk_iload_n X d_Model_way_17 rfl rfl ?_
  refine tk_aload_n X d_Model_way_18 rfl rfl ?_
  refine tk_get X (k := (12, 0, 0)) (dm := ks_dm P) (ks_d0 (by decide)) rfl hc_Model hi_Model 1 (by decide) m_Model_60 (v := .int _) rfl d_Model_way_19 ?_
  refine tk_icmp_ge (tgt := 48) X d_Model_way_22 (by decide) (fun h => absurd h (nI_ge ht (by rcases hP.2.2.1 with h | h | h <;> omega))) (fun _ => ?_)
  refine tk_iload_n X d_Model_way_25 rfl rfl ?_
  refine tk_if_lt (tgt := 48) X d_Model_way_26 (by decide) (fun h1 => ?_) (fun h1 => ?_)
  · skip
    refine tk_aload_n X d_Model_way_48 rfl rfl ?_
    refine tk_iconst (v := 1) X d_Model_way_49 (by decide) ?_
    refine tk_callV X (kb := (12, 0, 0)) (ks_d0 (by decide)) rfl hc_Model (c_Model_fail l P hP 1 a b (o.1, 0)) (ks_site (n := 1) mc_Model_fail mi_Model (by decide +kernel) (by decide) (by decide)) m_Model_120 ms_Model_fail mv_Model_fail rfl (Nat.le_of_ble_eq_true rfl) ⟨Nat.le_of_ble_eq_true rfl, Nat.le_of_ble_eq_true rfl⟩ rfl d_Model_way_50 ?_
    exact tk_iret X hlk hr d_Model_way_53 (rfl) (fun _ h => h) (Or.inr rfl) (kw_st rfl rfl rfl)
  · skip
    refine tk_iload_n X d_Model_way_29 rfl rfl ?_
    refine tk_aload_n X d_Model_way_30 rfl rfl ?_
    refine tk_get X (k := (12, 0, 0)) (dm := ks_dm P) (ks_d0 (by decide)) rfl hc_Model hi_Model 2 (by decide) m_Model_63 (v := .int _) rfl d_Model_way_31 ?_
    refine tk_icmp_ge (tgt := 48) X d_Model_way_34 (by decide) (fun _ => ?_) (fun h => absurd (hu.resolve_left h1) h)
    refine tk_aload_n X d_Model_way_48 rfl rfl ?_
    refine tk_iconst (v := 1) X d_Model_way_49 (by decide) ?_
    refine tk_callV X (kb := (12, 0, 0)) (ks_d0 (by decide)) rfl hc_Model (c_Model_fail l P hP 1 a b (o.1, 0)) (ks_site (n := 1) mc_Model_fail mi_Model (by decide +kernel) (by decide) (by decide)) m_Model_120 ms_Model_fail mv_Model_fail rfl (Nat.le_of_ble_eq_true rfl) ⟨Nat.le_of_ble_eq_true rfl, Nat.le_of_ble_eq_true rfl⟩ rfl d_Model_way_50 ?_
    exact tk_iret X hlk hr d_Model_way_53 (rfl) (fun _ h => h) (Or.inr rfl) (kw_st rfl rfl rfl)

set_option maxRecDepth 100000 in
set_option maxHeartbeats 4000000 in
theorem c_Model_wayY (l : Launch) (P : ks_P) (hP : ks_ok P) (c : Nat) (hc : c < ks_n P) (t u : Nat) (ht : t < ks_S P) (hu : u < ks_W P) (v : Int32) (hv : v < 0 ∨ ¬ v ≤ 4) (a b : ks_M) (o : ks_O)  : kc l P y_Model_way b_Model_way 6 (some .int) 1 [.ref (tk_ad (ks_G P) (12, 0, 0)), .int (nI c), .int (nI t), .int (nI u), .int v] a b o (some (.int 0)) a b (o.1, 1) := by
  have hn64 := ks_n64 hP
  have hT64 := ks_T64 hP
  have hc3 : c < 3 := by have := hP.2.1; omega
  refine tk_of hP.2.2.2.2.2 (by decide) rfl (Nat.le_of_ble_eq_true rfl) ?_
  intro p e s m below meth c0 X hlk hr hnm
  have hS4 : ks_S P ≤ 4 := by rcases hP.2.2.1 with h | h | h <;> omega
  have hW4 : ks_W P ≤ 3 := hP.2.2.2.2.1
  refine tk_aload_n X d_Model_way_0 rfl rfl ?_
  refine tk_iconst (v := 0) X d_Model_way_1 (by decide) ?_
  refine kr_code X hc_Model hi_Model t_Model t_Model_ok n_Model (by decide) m_Model_66 rfl rfl rfl d_Model_way_2 ?_
  refine tk_aload_n X d_Model_way_5 rfl rfl ?_
  refine tk_iload_n X d_Model_way_6 rfl rfl ?_
  refine tk_callV X (kb := (12, 0, 0)) (ks_d0 (by decide)) rfl hc_Model (c_Model_isCore l P hP c hc a b _) (ks_site (n := 1) mc_Model_isCore mi_Model (by decide +kernel) (by decide) (by decide)) m_Model_98 ms_Model_isCore mv_Model_isCore rfl (Nat.le_of_ble_eq_true rfl) ⟨Nat.le_of_ble_eq_true rfl, Nat.le_of_ble_eq_true rfl⟩ rfl d_Model_way_7 ?_
  refine tk_if_eq (tgt := 48) X d_Model_way_10 (by decide) (fun h => absurd h (by decide)) (fun _ => ?_)
  refine tk_iload_n X d_Model_way_13 rfl rfl ?_
  refine tk_if_lt (tgt := 48) X d_Model_way_14 (by decide) (fun h => absurd h (nI_pos (by omega))) (fun _ => ?_)
  refine tk_iload_n X d_Model_way_17 rfl rfl ?_
  refine tk_aload_n X d_Model_way_18 rfl rfl ?_
  refine tk_get X (k := (12, 0, 0)) (dm := ks_dm P) (ks_d0 (by decide)) rfl hc_Model hi_Model 1 (by decide) m_Model_60 (v := .int _) rfl d_Model_way_19 ?_
  refine tk_icmp_ge (tgt := 48) X d_Model_way_22 (by decide) (fun h => absurd h (nI_ge ht (by rcases hP.2.2.1 with h | h | h <;> omega))) (fun _ => ?_)
  refine tk_iload_n X d_Model_way_25 rfl rfl ?_
  refine tk_if_lt (tgt := 48) X d_Model_way_26 (by decide) (fun h => absurd h (nI_pos (by omega))) (fun _ => ?_)
  refine tk_iload_n X d_Model_way_29 rfl rfl ?_
  refine tk_aload_n X d_Model_way_30 rfl rfl ?_
  refine tk_get X (k := (12, 0, 0)) (dm := ks_dm P) (ks_d0 (by decide)) rfl hc_Model hi_Model 2 (by decide) m_Model_63 (v := .int _) rfl d_Model_way_31 ?_
  refine tk_icmp_ge (tgt := 48) X d_Model_way_34 (by decide) (fun h => absurd h (nI_ge hu (by have := hP.2.2.2.2.1; omega))) (fun _ => ?_)
  refine tk_iload X d_Model_way_37 rfl ?_
  refine tk_if_lt (tgt := 48) X d_Model_way_39 (by decide) (fun h1 => ?_) (fun h1 => ?_)
  · skip
    refine tk_aload_n X d_Model_way_48 rfl rfl ?_
    refine tk_iconst (v := 1) X d_Model_way_49 (by decide) ?_
    refine tk_callV X (kb := (12, 0, 0)) (ks_d0 (by decide)) rfl hc_Model (c_Model_fail l P hP 1 a b (o.1, 0)) (ks_site (n := 1) mc_Model_fail mi_Model (by decide +kernel) (by decide) (by decide)) m_Model_120 ms_Model_fail mv_Model_fail rfl (Nat.le_of_ble_eq_true rfl) ⟨Nat.le_of_ble_eq_true rfl, Nat.le_of_ble_eq_true rfl⟩ rfl d_Model_way_50 ?_
    exact tk_iret X hlk hr d_Model_way_53 (rfl) (fun _ h => h) (Or.inr rfl) (kw_st rfl rfl rfl)
  · skip
    refine tk_iload X d_Model_way_42 rfl ?_
    refine tk_iconst (v := 4) X d_Model_way_44 (by decide) ?_
    refine tk_icmp_le (tgt := 54) X d_Model_way_45 (by decide) (fun h => absurd h (hv.resolve_left h1)) (fun _ => ?_)
    refine tk_aload_n X d_Model_way_48 rfl rfl ?_
    refine tk_iconst (v := 1) X d_Model_way_49 (by decide) ?_
    refine tk_callV X (kb := (12, 0, 0)) (ks_d0 (by decide)) rfl hc_Model (c_Model_fail l P hP 1 a b (o.1, 0)) (ks_site (n := 1) mc_Model_fail mi_Model (by decide +kernel) (by decide) (by decide)) m_Model_120 ms_Model_fail mv_Model_fail rfl (Nat.le_of_ble_eq_true rfl) ⟨Nat.le_of_ble_eq_true rfl, Nat.le_of_ble_eq_true rfl⟩ rfl d_Model_way_50 ?_
    exact tk_iret X hlk hr d_Model_way_53 (rfl) (fun _ h => h) (Or.inr rfl) (kw_st rfl rfl rfl)

section LP
variable {p : Program} {l : Launch} {e : Env} {R : Room} {s : State} {m : MethodId} {args : Array Value} {below : List Frame} {meth : Method} {c0 : Code} {P : ks_P} {cells slots : Nat} {Q : State → Prop}
set_option maxRecDepth 100000 in
set_option maxHeartbeats 4000000 in
theorem lp_Model_run (X : tk_X p m c0 s args (ks_G P) R_Model b_Model_run 5 WS) (hP : ks_ok P) {N : Nat} (hN : N ≤ 16) (x : Int32) (J : ks_M → Prop) (hJ1 : ∀ b, J b → r_V (ks_n P) (ks_T P) b ∧ k_I (ks_n P) b) (hJ2 : ∀ (b : ks_M) (c : Nat), c < ks_n P → J b → J (k_step (ks_n P) (ks_S P) (ks_W P) b c).2) (a : ks_M) (o : Int64) {r : Int32 × ks_M} (kend : tk_go p l e (ks_rm 6) s m args below meth c0 (ks_G P) (ks_dm P) 5 0 0 Q (ks_sl P a r.2 (o, (0 : Int32))) 72 [some (.ref (tk_ad (ks_G P) (12, 0, 0))), some (.int x), some (.int (nI N)), some (.int r.1), some (.int (nI N))] []) : ∀ (k i : Nat) (v : Int32) (b : ks_M), i + k = N → J b → k_run (ks_n P) (ks_S P) (ks_W P) x k i v b = r → tk_go p l e (ks_rm 6) s m args below meth c0 (ks_G P) (ks_dm P) 5 0 0 Q (ks_sl P a b (o, (0 : Int32))) 24 [some (.ref (tk_ad (ks_G P) (12, 0, 0))), some (.int x), some (.int (nI N)), some (.int v), some (.int (nI i))] [] := by
  have hn64 := ks_n64 hP
  have hT64 := ks_T64 hP
  intro k
  induction k with
  | zero =>
    intro i v b hi hJ hk
    have hiT : i = N := by omega
    subst hiT
    have hk2 : (v, b) = r := hk
    subst hk2
    refine tk_iload X d_Model_run_24 rfl ?_
    refine tk_iload_n X d_Model_run_26 rfl rfl ?_
    refine tk_icmp_ge (tgt := 72) X d_Model_run_27 (by decide) (fun _ => ?_) (fun h => absurd (nI_le (Nat.le_refl _) (by omega)) h)
    exact kend
  | succ k ih =>
    intro i v b hi hJ hk
    have hi2 : i < N := by omega
    have hq := q_core_lt (n := ks_n P) hP.1 x i
    refine tk_iload X d_Model_run_24 rfl ?_
    refine tk_iload_n X d_Model_run_26 rfl rfl ?_
    refine tk_icmp_ge (tgt := 72) X d_Model_run_27 (by decide) (fun h => absurd h (nI_ge hi2 (by omega))) (fun _ => ?_)
    refine tk_aload_n X d_Model_run_30 rfl rfl ?_
    refine tk_get X (k := (12, 0, 0)) (dm := ks_dm P) (ks_d0 (by decide)) rfl hc_Model hi_Model 3 (by decide) m_Model_66 (v := .int _) rfl d_Model_run_31 ?_
    refine tk_if_ne (tgt := 72) X d_Model_run_34 (by decide) (fun h => absurd (rfl : (0 : Int32) = 0) h) (fun _ => ?_)
    refine tk_iload_n X d_Model_run_37 rfl rfl ?_
    refine tk_aload_n X d_Model_run_38 rfl rfl ?_
    refine tk_iload_n X d_Model_run_39 rfl rfl ?_
    refine tk_iconst (v := 2) X d_Model_run_40 (by decide) ?_
    refine tk_iload X d_Model_run_41 rfl ?_
    refine tk_imul X d_Model_run_43 ?_
    refine tk_ishr X d_Model_run_44 ?_
    refine tk_iconst (v := 3) X d_Model_run_45 (by decide) ?_
    refine tk_iand X d_Model_run_46 ?_
    refine tk_aload_n X d_Model_run_47 rfl rfl ?_
    refine tk_get X (k := (12, 0, 0)) (dm := ks_dm P) (ks_d0 (by decide)) rfl hc_Model hi_Model 0 (by decide) m_Model_56 (v := .int _) rfl d_Model_run_48 ?_
    refine tk_irem X d_Model_run_51 (nI_ne0 hP.1 (by omega)) ?_
    rw [show (2 : Int32) * nI i = 2 * nI i from rfl, q_sh x (by omega), q_core_eq hP.1 (by omega) x i]
    refine tk_callV X (kb := (12, 0, 0)) (ks_d0 (by decide)) rfl hc_Model (c_Model_stepped l P hP (q_core (ks_n P) x i) hq a b (o, 0) (hJ1 b hJ).1 ((hJ1 b hJ).2 _ hq).1) (ks_site (n := 1) mc_Model_stepped mi_Model (by decide +kernel) (by decide) (by decide)) m_Model_117 ms_Model_stepped mv_Model_stepped rfl (Nat.le_of_ble_eq_true rfl) ⟨Nat.le_of_ble_eq_true rfl, Nat.le_of_ble_eq_true rfl⟩ rfl d_Model_run_52 ?_
    refine tk_iconst (v := 3) X d_Model_run_55 (by decide) ?_
    refine tk_icmp_ne (tgt := 63) X d_Model_run_56 (by decide) (fun h1 => ?_) (fun h1 => ?_)
    · skip
      refine tk_iconst (v := 0) X d_Model_run_63 (by decide) ?_
      refine tk_iadd X d_Model_run_64 ?_
      refine tk_istore_n X d_Model_run_65 rfl (by decide) rfl ?_
      refine tk_iinc (v := nI (i + 1)) X d_Model_run_66 rfl (q_inc i) (by decide) rfl ?_
      refine tk_goto (tgt := 24) X d_Model_run_69 (by decide) ?_
      exact ih (i + 1) _ _ (by omega) (hJ2 b _ hq hJ) (by rw [k_run, if_neg h1] at hk; rw [Int32.add_zero]; exact hk)
    · skip
      refine tk_iconst (v := 1) X d_Model_run_59 (by decide) ?_
      refine tk_goto (tgt := 64) X d_Model_run_60 (by decide) ?_
      refine tk_iadd X d_Model_run_64 ?_
      refine tk_istore_n X d_Model_run_65 rfl (by decide) rfl ?_
      refine tk_iinc (v := nI (i + 1)) X d_Model_run_66 rfl (q_inc i) (by decide) rfl ?_
      refine tk_goto (tgt := 24) X d_Model_run_69 (by decide) ?_
      exact ih (i + 1) _ _ (by omega) (hJ2 b _ hq hJ) (by rw [k_run, if_pos h1] at hk; exact hk)
end LP

set_option maxRecDepth 100000 in
set_option maxHeartbeats 4000000 in
theorem c_Model_run (l : Launch) (P : ks_P) (hP : ks_ok P) (N : Nat) (hN : N ≤ 16) (x : Int32) (J : ks_M → Prop) (hJ1 : ∀ b, J b → r_V (ks_n P) (ks_T P) b ∧ k_I (ks_n P) b) (hJ2 : ∀ (b : ks_M) (c : Nat), c < ks_n P → J b → J (k_step (ks_n P) (ks_S P) (ks_W P) b c).2) (a b : ks_M) (o : ks_O) (hJ : J b) : kc l P y_Model_run b_Model_run 5 (some .int) 6 [.ref (tk_ad (ks_G P) (12, 0, 0)), .int x, .int (nI N)] a b o (some (.int (k_run (ks_n P) (ks_S P) (ks_W P) x N 0 0 b).1)) a (k_run (ks_n P) (ks_S P) (ks_W P) x N 0 0 b).2 (o.1, 0) := by
  have hn64 := ks_n64 hP
  have hT64 := ks_T64 hP
  refine tk_of hP.2.2.2.2.2 (by decide) rfl (Nat.le_of_ble_eq_true rfl) ?_
  intro p e s m below meth c0 X hlk hr hnm
  refine tk_aload_n X d_Model_run_0 rfl rfl ?_
  refine tk_iload_n X d_Model_run_1 rfl rfl ?_
  refine tk_if_lt (tgt := 11) X d_Model_run_2 (by decide) (fun h => absurd h (nI_pos (by omega))) (fun _ => ?_)
  refine tk_iload_n X d_Model_run_5 rfl rfl ?_
  refine tk_bipush (v := 16) X d_Model_run_6 (by decide) ?_
  refine tk_icmp_le (tgt := 15) X d_Model_run_8 (by decide) (fun _ => ?_) (fun h => absurd (nI_le hN (by decide)) h)
  refine tk_iconst (v := 0) X d_Model_run_15 (by decide) ?_
  refine kr_code X hc_Model hi_Model t_Model t_Model_ok n_Model (by decide) m_Model_66 rfl rfl rfl d_Model_run_16 ?_
  refine tk_iconst (v := 0) X d_Model_run_19 (by decide) ?_
  refine tk_istore_n X d_Model_run_20 rfl (by decide) rfl ?_
  refine tk_iconst (v := 0) X d_Model_run_21 (by decide) ?_
  refine tk_istore X d_Model_run_22 (by decide) rfl ?_
  refine lp_Model_run X hP hN x J hJ1 hJ2 a o.1 (r := k_run (ks_n P) (ks_S P) (ks_W P) x N 0 0 b) ?_ N 0 0 b (by omega) hJ rfl
  refine tk_iload_n X d_Model_run_72 rfl rfl ?_
  exact tk_iret X hlk hr d_Model_run_73 rfl (fun _ h => h) (Or.inr rfl) (kw_st rfl rfl rfl)

set_option maxRecDepth 100000 in
set_option maxHeartbeats 4000000 in
theorem c_Model_runX (l : Launch) (P : ks_P) (hP : ks_ok P) (y : Int32) (hy : y < 0 ∨ ¬ y ≤ 16) (x : Int32) (a b : ks_M) (o : ks_O)  : kc l P y_Model_run b_Model_run 5 (some .int) 6 [.ref (tk_ad (ks_G P) (12, 0, 0)), .int x, .int y] a b o (some (.int 0)) a b (o.1, 1) := by
  have hn64 := ks_n64 hP
  have hT64 := ks_T64 hP
  refine tk_of hP.2.2.2.2.2 (by decide) rfl (Nat.le_of_ble_eq_true rfl) ?_
  intro p e s m below meth c0 X hlk hr hnm
  refine tk_aload_n X d_Model_run_0 rfl rfl ?_
  refine tk_iload_n X d_Model_run_1 rfl rfl ?_
  refine tk_if_lt (tgt := 11) X d_Model_run_2 (by decide) (fun h1 => ?_) (fun h1 => ?_)
  · skip
    refine tk_iconst (v := 1) X d_Model_run_11 (by decide) ?_
    refine tk_goto (tgt := 16) X d_Model_run_12 (by decide) ?_
    refine kr_code X hc_Model hi_Model t_Model t_Model_ok n_Model (by decide) m_Model_66 rfl rfl rfl d_Model_run_16 ?_
    refine tk_iconst (v := 0) X d_Model_run_19 (by decide) ?_
    refine tk_istore_n X d_Model_run_20 rfl (by decide) rfl ?_
    refine tk_iconst (v := 0) X d_Model_run_21 (by decide) ?_
    refine tk_istore X d_Model_run_22 (by decide) rfl ?_
    refine tk_iload X d_Model_run_24 rfl ?_
    refine tk_iload_n X d_Model_run_26 rfl rfl ?_
    refine tk_icmp_ge (tgt := 72) X d_Model_run_27 (by decide) (fun h2 => ?_) (fun h2 => ?_)
    · skip
      refine tk_iload_n X d_Model_run_72 rfl rfl ?_
      exact tk_iret X hlk hr d_Model_run_73 (rfl) (fun _ h => h) (Or.inr rfl) (kw_st rfl rfl rfl)
    · skip
      refine tk_aload_n X d_Model_run_30 rfl rfl ?_
      refine tk_get X (k := (12, 0, 0)) (dm := ks_dm P) (ks_d0 (by decide)) rfl hc_Model hi_Model 3 (by decide) m_Model_66 (v := .int _) rfl d_Model_run_31 ?_
      refine tk_if_ne (tgt := 72) X d_Model_run_34 (by decide) (fun _ => ?_) (fun h => absurd h (show ¬ ((1 : Int32) = 0) from by decide))
      refine tk_iload_n X d_Model_run_72 rfl rfl ?_
      exact tk_iret X hlk hr d_Model_run_73 (rfl) (fun _ h => h) (Or.inr rfl) (kw_st rfl rfl rfl)
  · skip
    refine tk_iload_n X d_Model_run_5 rfl rfl ?_
    refine tk_bipush (v := 16) X d_Model_run_6 (by decide) ?_
    refine tk_icmp_le (tgt := 15) X d_Model_run_8 (by decide) (fun h => absurd h (hy.resolve_left h1)) (fun _ => ?_)
    refine tk_iconst (v := 1) X d_Model_run_11 (by decide) ?_
    refine tk_goto (tgt := 16) X d_Model_run_12 (by decide) ?_
    refine kr_code X hc_Model hi_Model t_Model t_Model_ok n_Model (by decide) m_Model_66 rfl rfl rfl d_Model_run_16 ?_
    refine tk_iconst (v := 0) X d_Model_run_19 (by decide) ?_
    refine tk_istore_n X d_Model_run_20 rfl (by decide) rfl ?_
    refine tk_iconst (v := 0) X d_Model_run_21 (by decide) ?_
    refine tk_istore X d_Model_run_22 (by decide) rfl ?_
    refine tk_iload X d_Model_run_24 rfl ?_
    refine tk_iload_n X d_Model_run_26 rfl rfl ?_
    refine tk_icmp_ge (tgt := 72) X d_Model_run_27 (by decide) (fun h3 => ?_) (fun h3 => ?_)
    · skip
      refine tk_iload_n X d_Model_run_72 rfl rfl ?_
      exact tk_iret X hlk hr d_Model_run_73 (rfl) (fun _ h => h) (Or.inr rfl) (kw_st rfl rfl rfl)
    · skip
      refine tk_aload_n X d_Model_run_30 rfl rfl ?_
      refine tk_get X (k := (12, 0, 0)) (dm := ks_dm P) (ks_d0 (by decide)) rfl hc_Model hi_Model 3 (by decide) m_Model_66 (v := .int _) rfl d_Model_run_31 ?_
      refine tk_if_ne (tgt := 72) X d_Model_run_34 (by decide) (fun _ => ?_) (fun h => absurd h (show ¬ ((1 : Int32) = 0) from by decide))
      refine tk_iload_n X d_Model_run_72 rfl rfl ?_
      exact tk_iret X hlk hr d_Model_run_73 (rfl) (fun _ h => h) (Or.inr rfl) (kw_st rfl rfl rfl)

section LP
variable {p : Program} {l : Launch} {e : Env} {R : Room} {s : State} {m : MethodId} {args : Array Value} {below : List Frame} {meth : Method} {c0 : Code} {P : ks_P} {cells slots : Nat} {Q : State → Prop}
set_option maxRecDepth 100000 in
set_option maxHeartbeats 4000000 in
theorem lp_Model_peek (X : tk_X p m c0 s args (ks_G P) R_Model b_Model_peek 6 WS) (hP : ks_ok P) {y : Nat} (hy : y < 32) (x : Int32) (a b : ks_M) (o : ks_O) (hV : r_V (ks_n P) (ks_T P) b) {r : Int32} (kend : ∀ t5, tk_go p l e (ks_rm 2) s m args below meth c0 (ks_G P) (ks_dm P) 6 0 0 Q (ks_sl P a b o) 102 [some (.ref (tk_ad (ks_G P) (12, 0, 0))), some (.int x), some (.int (nI y)), some (.int r), some (.int (nI (ks_n P))), t5] []) : ∀ (k i : Nat) (v : Int32) (t5 : Option Value), i + k = ks_n P → r_pk (ks_S P) (ks_W P) b y x k i v = r → tk_go p l e (ks_rm 2) s m args below meth c0 (ks_G P) (ks_dm P) 6 0 0 Q (ks_sl P a b o) 25 [some (.ref (tk_ad (ks_G P) (12, 0, 0))), some (.int x), some (.int (nI y)), some (.int v), some (.int (nI i)), t5] [] := by
  have hn64 := ks_n64 hP
  have hT64 := ks_T64 hP
  intro k
  induction k with
  | zero =>
    intro i v t5 hi hk
    have hiT : i = ks_n P := by omega
    subst hiT
    have hk2 : v = r := hk
    subst hk2
    refine tk_iload X d_Model_peek_25 rfl ?_
    refine tk_aload_n X d_Model_peek_27 rfl rfl ?_
    refine tk_get X (k := (12, 0, 0)) (dm := ks_dm P) (ks_d0 (by decide)) rfl hc_Model hi_Model 0 (by decide) m_Model_56 (v := .int _) rfl d_Model_peek_28 ?_
    refine tk_icmp_ge (tgt := 102) X d_Model_peek_31 (by decide) (fun _ => ?_) (fun h => absurd (nI_le (Nat.le_refl _) (by omega)) h)
    exact kend t5
  | succ k ih =>
    intro i v t5 hi hk
    have hi2 : i < ks_n P := by omega
    refine tk_iload X d_Model_peek_25 rfl ?_
    refine tk_aload_n X d_Model_peek_27 rfl rfl ?_
    refine tk_get X (k := (12, 0, 0)) (dm := ks_dm P) (ks_d0 (by decide)) rfl hc_Model hi_Model 0 (by decide) m_Model_56 (v := .int _) rfl d_Model_peek_28 ?_
    refine tk_icmp_ge (tgt := 102) X d_Model_peek_31 (by decide) (fun h => absurd h (nI_ge hi2 (by omega))) (fun _ => ?_)
    refine tk_aload_n X d_Model_peek_34 rfl rfl ?_
    refine tk_iload X d_Model_peek_35 rfl ?_
    refine tk_iload_n X d_Model_peek_37 rfl rfl ?_
    refine tk_callV X (kb := (12, 0, 0)) (ks_d0 (by decide)) rfl hc_Model (c_Model_find l P hP i y hi2 hy a b o (hV i hi2).1) (ks_site (n := 2) mc_Model_find mi_Model (by decide +kernel) (by decide) (by decide)) m_Model_73 ms_Model_find mv_Model_find rfl (Nat.le_of_ble_eq_true rfl) ⟨Nat.le_of_ble_eq_true rfl, Nat.le_of_ble_eq_true rfl⟩ rfl d_Model_peek_38 ?_
    cases hf : k_find b i y (ks_W P) (k_first (ks_S P) (ks_W P) y) with
    | none =>
      refine tk_istore X d_Model_peek_41 (by decide) rfl ?_
      refine tk_iload X d_Model_peek_43 rfl ?_
      refine tk_iconst (v := -1) X d_Model_peek_45 (by decide) ?_
      refine tk_icmp_eq (tgt := 96) X d_Model_peek_46 (by decide) (fun _ => ?_) (fun h => absurd rfl h)
      refine tk_iinc (v := nI (i + 1)) X d_Model_peek_96 rfl (q_inc i) (by decide) rfl ?_
      refine tk_goto (tgt := 25) X d_Model_peek_99 (by decide) ?_
      have e1 : r_pk1 (ks_S P) (ks_W P) b y x i v = v := by unfold r_pk1 r_hit; rw [hf]
      exact ih (i + 1) _ _ (by omega) (by rw [← e1]; exact hk)
    | some j =>
      have hj : j < ks_T P := k_find_T hP hf
      refine tk_istore X d_Model_peek_41 (by decide) rfl ?_
      refine tk_iload X d_Model_peek_43 rfl ?_
      refine tk_iconst (v := -1) X d_Model_peek_45 (by decide) ?_
      refine tk_icmp_eq (tgt := 96) X d_Model_peek_46 (by decide) (fun h => absurd h (nI_nm1 (Nat.lt_trans (r_pj_lt hP hi2 hj) (by decide)))) (fun _ => ?_)
      refine tk_aload_n X d_Model_peek_49 rfl rfl ?_
      refine tk_get X (k := (12, 0, 0)) (dm := ks_dm P) (ks_d0 (by decide)) rfl hc_Model hi_Model 15 (by decide) m_Model_38 (v := .ref (tk_ad (ks_G P) (22, 0, 0))) rfl d_Model_peek_50 ?_
      refine tk_iload X d_Model_peek_53 rfl ?_
      refine kr_iald X (f := 22) (i' := 0) (by decide) (by decide) rfl (by decide) rfl (r_pj_lt hP hi2 hj) (ks_vk_pj hP hj) rfl d_Model_peek_55 ?_
      refine tk_iconst (v := 2) X d_Model_peek_56 (by decide) ?_
      refine tk_icmp_ne (tgt := 96) X d_Model_peek_57 (by decide) (fun h1 => ?_) (fun h1 => ?_)
      · skip
        refine tk_iinc (v := nI (i + 1)) X d_Model_peek_96 rfl (q_inc i) (by decide) rfl ?_
        refine tk_goto (tgt := 25) X d_Model_peek_99 (by decide) ?_
        have e1 : r_pk1 (ks_S P) (ks_W P) b y x i v = v := by unfold r_pk1 r_hit; rw [hf]; simp only [if_neg h1]
        exact ih (i + 1) _ _ (by omega) (by rw [← e1]; exact hk)
      · skip
        refine tk_aload_n X d_Model_peek_60 rfl rfl ?_
        refine tk_get X (k := (12, 0, 0)) (dm := ks_dm P) (ks_d0 (by decide)) rfl hc_Model hi_Model 17 (by decide) m_Model_44 (v := .ref (tk_ad (ks_G P) (24, 0, 0))) rfl d_Model_peek_61 ?_
        refine tk_iload X d_Model_peek_64 rfl ?_
        refine kr_iald X (f := 24) (i' := 2) (by decide) (by decide) rfl (by decide) rfl (r_pj_lt hP hi2 hj) (ks_vk_pj hP hj) rfl d_Model_peek_66 ?_
        refine tk_iconst (v := 2) X d_Model_peek_67 (by decide) ?_
        refine tk_iand X d_Model_peek_68 ?_
        refine tk_if_ne (tgt := 96) X d_Model_peek_69 (by decide) (fun h2 => ?_) (fun h2 => ?_)
        · skip
          refine tk_iinc (v := nI (i + 1)) X d_Model_peek_96 rfl (q_inc i) (by decide) rfl ?_
          refine tk_goto (tgt := 25) X d_Model_peek_99 (by decide) ?_
          have e1 : r_pk1 (ks_S P) (ks_W P) b y x i v = v := by unfold r_pk1 r_hit; rw [hf]; simp only [if_pos h1, if_neg h2]
          exact ih (i + 1) _ _ (by omega) (by rw [← e1]; exact hk)
        · skip
          refine tk_iload_n X d_Model_peek_72 rfl rfl ?_
          refine tk_iconst (v := 1) X d_Model_peek_73 (by decide) ?_
          refine tk_iand X d_Model_peek_74 ?_
          refine tk_if_ne (tgt := 88) X d_Model_peek_75 (by decide) (fun h3 => ?_) (fun h3 => ?_)
          · skip
            refine tk_aload_n X d_Model_peek_88 rfl rfl ?_
            refine tk_get X (k := (12, 0, 0)) (dm := ks_dm P) (ks_d0 (by decide)) rfl hc_Model hi_Model 19 (by decide) m_Model_50 (v := .ref (tk_ad (ks_G P) (26, 0, 0))) rfl d_Model_peek_89 ?_
            refine tk_iload X d_Model_peek_92 rfl ?_
            refine kr_iald X (f := 26) (i' := 4) (by decide) (by decide) rfl (by decide) rfl (r_pj_lt hP hi2 hj) (ks_vk_pj hP hj) rfl d_Model_peek_94 ?_
            refine tk_istore_n X d_Model_peek_95 rfl (by decide) rfl ?_
            refine tk_iinc (v := nI (i + 1)) X d_Model_peek_96 rfl (q_inc i) (by decide) rfl ?_
            refine tk_goto (tgt := 25) X d_Model_peek_99 (by decide) ?_
            have e1 : r_pk1 (ks_S P) (ks_W P) b y x i v = (k_wget b i j x) := by unfold r_pk1 r_hit; rw [hf]; simp only [if_pos h1, if_pos h2]
            have e2 : k_wget b i j x = _ := if_neg h3
            exact ih (i + 1) _ _ (by omega) (by rw [← e2, ← e1]; exact hk)
          · skip
            refine tk_aload_n X d_Model_peek_78 rfl rfl ?_
            refine tk_get X (k := (12, 0, 0)) (dm := ks_dm P) (ks_d0 (by decide)) rfl hc_Model hi_Model 18 (by decide) m_Model_47 (v := .ref (tk_ad (ks_G P) (25, 0, 0))) rfl d_Model_peek_79 ?_
            refine tk_iload X d_Model_peek_82 rfl ?_
            refine kr_iald X (f := 25) (i' := 3) (by decide) (by decide) rfl (by decide) rfl (r_pj_lt hP hi2 hj) (ks_vk_pj hP hj) rfl d_Model_peek_84 ?_
            refine tk_goto (tgt := 95) X d_Model_peek_85 (by decide) ?_
            refine tk_istore_n X d_Model_peek_95 rfl (by decide) rfl ?_
            refine tk_iinc (v := nI (i + 1)) X d_Model_peek_96 rfl (q_inc i) (by decide) rfl ?_
            refine tk_goto (tgt := 25) X d_Model_peek_99 (by decide) ?_
            have e1 : r_pk1 (ks_S P) (ks_W P) b y x i v = (k_wget b i j x) := by unfold r_pk1 r_hit; rw [hf]; simp only [if_pos h1, if_pos h2]
            have e2 : k_wget b i j x = _ := if_pos h3
            exact ih (i + 1) _ _ (by omega) (by rw [← e2, ← e1]; exact hk)
end LP

set_option maxRecDepth 100000 in
set_option maxHeartbeats 4000000 in
theorem c_Model_peek (l : Launch) (P : ks_P) (hP : ks_ok P) (x : Int32) (a b : ks_M) (o : ks_O) (hV : r_V (ks_n P) (ks_T P) b) : kc l P y_Model_peek b_Model_peek 6 (some .int) 2 [.ref (tk_ad (ks_G P) (12, 0, 0)), .int x] a b o (some (.int (r_pk (ks_S P) (ks_W P) b (q_ln x) x (ks_n P) 0 (k_get b x)))) a b (o.1, 0) := by
  have hn64 := ks_n64 hP
  have hT64 := ks_T64 hP
  refine tk_of hP.2.2.2.2.2 (by decide) rfl (Nat.le_of_ble_eq_true rfl) ?_
  intro p e s m below meth c0 X hlk hr hnm
  refine tk_aload_n X d_Model_peek_0 rfl rfl ?_
  refine tk_iconst (v := 0) X d_Model_peek_1 (by decide) ?_
  refine kr_code X hc_Model hi_Model t_Model t_Model_ok n_Model (by decide) m_Model_66 rfl rfl rfl d_Model_peek_2 ?_
  refine tk_iload_n X d_Model_peek_5 rfl rfl ?_
  refine tk_bipush (v := 63) X d_Model_peek_6 (by decide) ?_
  refine tk_iand X d_Model_peek_8 ?_
  refine tk_iconst (v := 2) X d_Model_peek_9 (by decide) ?_
  refine tk_idiv X d_Model_peek_10 (by decide) ?_
  rw [q_dv x]
  refine tk_istore_n X d_Model_peek_11 rfl (by decide) rfl ?_
  refine tk_aload_n X d_Model_peek_12 rfl rfl ?_
  refine tk_get X (k := (12, 0, 0)) (dm := ks_dm P) (ks_d0 (by decide)) rfl hc_Model hi_Model 6 (by decide) m_Model_7 (v := .ref (tk_ad (ks_G P) (13, 0, 0))) rfl d_Model_peek_13 ?_
  refine tk_iload_n X d_Model_peek_16 rfl rfl ?_
  refine tk_bipush (v := 63) X d_Model_peek_17 (by decide) ?_
  refine tk_iand X d_Model_peek_19 ?_
  refine kr_iald X (f := 13) (i' := (q_ix (x &&& 63))) (k' := (2, 0, 0)) (by decide) (by decide) rfl (by decide) (q_m63 x) (q_l63 x) rfl rfl d_Model_peek_20 ?_
  refine tk_istore_n X d_Model_peek_21 rfl (by decide) rfl ?_
  refine tk_iconst (v := 0) X d_Model_peek_22 (by decide) ?_
  refine tk_istore X d_Model_peek_23 (by decide) rfl ?_
  refine lp_Model_peek X hP (q_ln_lt x) x a b (o.1, 0) hV (fun t5 => ?_) (ks_n P) 0 _ _ (by omega) rfl
  refine tk_iload_n X d_Model_peek_102 rfl rfl ?_
  exact tk_iret X hlk hr d_Model_peek_103 rfl (fun _ h => h) (Or.inr rfl) (kw_st rfl rfl rfl)
