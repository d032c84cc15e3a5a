theorem c_Model_abortK (l : Launch) (P : ks_P) (hP : ks_ok P) (c q : Nat) (hc : c < ks_n P) (hq : q < 6) (m v : Int32) (hv : nI q + m = v) (a b : ks_M) (o : ks_O) (hjk : ∀ j, ks_T P ≤ j → b (7, c, j) 2 = 0) : kc l P y_Model_abort b_Model_abort 5 none 0 [.ref (tk_ad (ks_G P) (12, 0, 0)), .int (nI c), .int (nI q), .int v] a b o none a (k_abort (ks_T P) b c q m) o := by
  subst hv
  exact c_Model_abort l P hP c q hc hq _ a b o hjk

set_option maxRecDepth 100000 in
set_option maxHeartbeats 4000000 in
theorem c_Model_meet (l : Launch) (P : ks_P) (hP : ks_ok P) (c y : Nat) (hc : c < ks_n P) (hy : y < 32) (w : Bool) (a b : ks_M) (o : ks_O) (hv : r_Vc (ks_T P) b c) : kc l P y_Model_meet b_Model_meet 5 none 2 [.ref (tk_ad (ks_G P) (12, 0, 0)), .int (nI c), .int (nI y), .int (q_b w)] a b o (none) a (k_met (ks_S P) (ks_W P) b c y w) o := by
  have hn64 := ks_n64 hP
  have hT64 := ks_T64 hP
  cases w with
  | false =>
    refine tk_of hP.2.2.2.2.2 (by decide) rfl (Nat.le_of_ble_eq_true rfl) ?_
    intro p e s m below meth c0 X hlk hr hnm
    refine tk_aload_n X d_Model_meet_0 rfl rfl ?_
    refine tk_iload_n X d_Model_meet_1 rfl rfl ?_
    refine tk_iload_n X d_Model_meet_2 rfl rfl ?_
    refine tk_callV X (kb := (12, 0, 0)) (ks_d0 (by decide)) rfl hc_Model (c_Model_find l P hP c y hc hy a b o hv.1) (ks_site (n := 2) mc_Model_find mi_Model (by decide +kernel) (by decide) (by decide)) m_Model_73 ms_Model_find mv_Model_find rfl (Nat.le_of_ble_eq_true rfl) ⟨Nat.le_of_ble_eq_true rfl, Nat.le_of_ble_eq_true rfl⟩ rfl d_Model_meet_3 ?_
    cases hf : k_find b c y (ks_W P) (k_first (ks_S P) (ks_W P) y) with
    | none =>
      refine tk_istore X d_Model_meet_6 (by decide) rfl ?_
      refine tk_iload X d_Model_meet_8 rfl ?_
      refine tk_iconst (v := -1) X d_Model_meet_10 (by decide) ?_
      refine tk_icmp_ne (tgt := 15) X d_Model_meet_11 (by decide) (fun h => absurd rfl h) (fun _ => ?_)
      have em : k_met (ks_S P) (ks_W P) b c y false = b := by unfold k_met; rw [hf]
      exact tk_vret X hlk hr d_Model_meet_14 rfl (fun _ h => h) (Or.inr rfl) (kw_st rfl em.symm rfl)
    | some j =>
      have hj : j < ks_T P := k_find_T hP hf
      have hl : q_lin (b (7, c, j) 1) := ⟨y, hy, (k_find_mat b c y _ _ hf).2⟩
      have em : k_met (ks_S P) (ks_W P) b c y false = k_meet (ks_T P) b c j false := by unfold k_met; rw [hf]
      refine tk_istore X d_Model_meet_6 (by decide) rfl ?_
      refine tk_iload X d_Model_meet_8 rfl ?_
      refine tk_iconst (v := -1) X d_Model_meet_10 (by decide) ?_
      refine tk_icmp_ne (tgt := 15) X d_Model_meet_11 (by decide) (fun _ => ?_) (fun h => absurd h (nI_nm1 (Nat.lt_trans (r_pj_lt hP hc hj) (by decide))))
      refine tk_aload_n X d_Model_meet_15 rfl rfl ?_
      refine tk_get X (k := (12, 0, 0)) (dm := ks_dm P) (ks_d0 (by decide)) rfl hc_Model hi_Model 17 (by decide) m_Model_44 (v := .ref (tk_ad (ks_G P) (24, 0, 0))) rfl d_Model_meet_16 ?_
      refine tk_iload X d_Model_meet_19 rfl ?_
      refine kr_iald X (f := 24) (i' := 2) (by decide) (by decide) rfl (by decide) rfl (r_pj_lt hP hc hj) (ks_vk_pj hP hj) rfl d_Model_meet_21 ?_
      refine tk_iconst (v := 2) X d_Model_meet_22 (by decide) ?_
      refine tk_iand X d_Model_meet_23 ?_
      refine tk_if_ne (tgt := 41) X d_Model_meet_24 (by decide) (fun h1 => ?_) (fun h1 => ?_)
      · skip
        refine tk_aload_n X d_Model_meet_41 rfl rfl ?_
        refine tk_iload_n X d_Model_meet_42 rfl rfl ?_
        refine tk_iconst (v := 1) X d_Model_meet_43 (by decide) ?_
        refine tk_iconst (v := 1) X d_Model_meet_44 (by decide) ?_
        refine tk_callV X (kb := (12, 0, 0)) (ks_d0 (by decide)) rfl hc_Model (c_Model_abortK l P hP c 1 hc (by decide) 0 1 (by decide) a b o hv.2.1) (ks_site (n := 3) mc_Model_abort mi_Model (by decide +kernel) (by decide) (by decide)) m_Model_77 ms_Model_abort mv_Model_abort rfl (Nat.le_of_ble_eq_true rfl) ⟨Nat.le_of_ble_eq_true rfl, Nat.le_of_ble_eq_true rfl⟩ rfl d_Model_meet_45 ?_
        refine tk_aload_n X d_Model_meet_48 rfl rfl ?_
        refine tk_get X (k := (12, 0, 0)) (dm := ks_dm P) (ks_d0 (by decide)) rfl hc_Model hi_Model 15 (by decide) m_Model_38 (v := .ref (tk_ad (ks_G P) (22, 0, 0))) rfl d_Model_meet_49 ?_
        refine tk_iload X d_Model_meet_52 rfl ?_
        refine kr_iald X (f := 22) (i' := 0) (by decide) (by decide) rfl (by decide) rfl (r_pj_lt hP hc hj) (ks_vk_pj hP hj) rfl d_Model_meet_54 ?_
        refine tk_if_ne (tgt := 59) X d_Model_meet_55 (by decide) (fun h2 => ?_) (fun h2 => ?_)
        · skip
          refine tk_aload_n X d_Model_meet_59 rfl rfl ?_
          refine tk_get X (k := (12, 0, 0)) (dm := ks_dm P) (ks_d0 (by decide)) rfl hc_Model hi_Model 15 (by decide) m_Model_38 (v := .ref (tk_ad (ks_G P) (22, 0, 0))) rfl d_Model_meet_60 ?_
          refine tk_iload X d_Model_meet_63 rfl ?_
          refine kr_iald X (f := 22) (i' := 0) (by decide) (by decide) rfl (by decide) rfl (r_pj_lt hP hc hj) (ks_vk_pj hP hj) rfl d_Model_meet_65 ?_
          refine tk_iconst (v := 2) X d_Model_meet_66 (by decide) ?_
          refine tk_icmp_ne (tgt := 76) X d_Model_meet_67 (by decide) (fun h3 => ?_) (fun h3 => ?_)
          · skip
            refine tk_aload_n X d_Model_meet_76 rfl rfl ?_
            refine tk_get X (k := (12, 0, 0)) (dm := ks_dm P) (ks_d0 (by decide)) rfl hc_Model hi_Model 15 (by decide) m_Model_38 (v := .ref (tk_ad (ks_G P) (22, 0, 0))) rfl d_Model_meet_77 ?_
            refine tk_iload X d_Model_meet_80 rfl ?_
            refine tk_iload_n X d_Model_meet_82 rfl rfl ?_
            refine tk_if_eq (tgt := 90) X d_Model_meet_83 (by decide) (fun _ => ?_) (fun h => absurd (by decide) h)
            refine tk_iconst (v := 1) X d_Model_meet_90 (by decide) ?_
            refine kr_iast X hP (f := 22) (i' := 0) (by decide) (by decide) rfl (by decide) rfl (r_pj_lt hP hc hj) (ks_vk_pj hP hj) rfl d_Model_meet_91 ?_
            have e1 : k_meet1 (ks_T P) b c j false = (k_abort (ks_T P) b c 1 0) := (if_neg h1)
            have e2 : k_kp (k_abort (ks_T P) b c 1 0) c j = _ := if_neg h3
            exact tk_vret X hlk hr d_Model_meet_92 rfl (fun _ h => h) (Or.inr rfl) (kw_st rfl (by rw [em, k_meet, e1]; refine Eq.trans ?_ (if_neg h2).symm; rw [e2]; rfl) rfl)
          · skip
            refine tk_aload_n X d_Model_meet_70 rfl rfl ?_
            refine tk_iload X d_Model_meet_71 rfl ?_
            refine tk_callV X (kb := (12, 0, 0)) (ks_d0 (by decide)) rfl hc_Model (c_Model_toMemory l P hP c j hc hj a (k_abort (ks_T P) b c 1 0) o (by rw [k_abort_abv, k_ab_i _ _ _ _ _ _ _ (by decide) (by decide)]; exact hl)) (ks_site (n := 1) mc_Model_toMemory mi_Model (by decide +kernel) (by decide) (by decide)) m_Model_81 ms_Model_toMemory mv_Model_toMemory rfl (Nat.le_of_ble_eq_true rfl) ⟨Nat.le_of_ble_eq_true rfl, Nat.le_of_ble_eq_true rfl⟩ rfl d_Model_meet_73 ?_
            refine tk_aload_n X d_Model_meet_76 rfl rfl ?_
            refine tk_get X (k := (12, 0, 0)) (dm := ks_dm P) (ks_d0 (by decide)) rfl hc_Model hi_Model 15 (by decide) m_Model_38 (v := .ref (tk_ad (ks_G P) (22, 0, 0))) rfl d_Model_meet_77 ?_
            refine tk_iload X d_Model_meet_80 rfl ?_
            refine tk_iload_n X d_Model_meet_82 rfl rfl ?_
            refine tk_if_eq (tgt := 90) X d_Model_meet_83 (by decide) (fun _ => ?_) (fun h => absurd (by decide) h)
            refine tk_iconst (v := 1) X d_Model_meet_90 (by decide) ?_
            refine kr_iast X hP (f := 22) (i' := 0) (by decide) (by decide) rfl (by decide) rfl (r_pj_lt hP hc hj) (ks_vk_pj hP hj) rfl d_Model_meet_91 ?_
            have e1 : k_meet1 (ks_T P) b c j false = (k_abort (ks_T P) b c 1 0) := (if_neg h1)
            have e2 : k_kp (k_abort (ks_T P) b c 1 0) c j = _ := if_pos h3
            exact tk_vret X hlk hr d_Model_meet_92 rfl (fun _ h => h) (Or.inr rfl) (kw_st rfl (by rw [em, k_meet, e1]; refine Eq.trans ?_ (if_neg h2).symm; rw [e2]; rfl) rfl)
        · skip
          have e1 : k_meet1 (ks_T P) b c j false = (k_abort (ks_T P) b c 1 0) := (if_neg h1)
          exact tk_vret X hlk hr d_Model_meet_58 rfl (fun _ h => h) (Or.inr rfl) (kw_st rfl (by rw [em, k_meet, e1]; exact (if_pos h2).symm) rfl)
      · skip
        refine tk_iload_n X d_Model_meet_27 rfl rfl ?_
        refine tk_if_eq (tgt := 48) X d_Model_meet_28 (by decide) (fun _ => ?_) (fun h => absurd (by decide) h)
        refine tk_aload_n X d_Model_meet_48 rfl rfl ?_
        refine tk_get X (k := (12, 0, 0)) (dm := ks_dm P) (ks_d0 (by decide)) rfl hc_Model hi_Model 15 (by decide) m_Model_38 (v := .ref (tk_ad (ks_G P) (22, 0, 0))) rfl d_Model_meet_49 ?_
        refine tk_iload X d_Model_meet_52 rfl ?_
        refine kr_iald X (f := 22) (i' := 0) (by decide) (by decide) rfl (by decide) rfl (r_pj_lt hP hc hj) (ks_vk_pj hP hj) rfl d_Model_meet_54 ?_
        refine tk_if_ne (tgt := 59) X d_Model_meet_55 (by decide) (fun h4 => ?_) (fun h4 => ?_)
        · skip
          refine tk_aload_n X d_Model_meet_59 rfl rfl ?_
          refine tk_get X (k := (12, 0, 0)) (dm := ks_dm P) (ks_d0 (by decide)) rfl hc_Model hi_Model 15 (by decide) m_Model_38 (v := .ref (tk_ad (ks_G P) (22, 0, 0))) rfl d_Model_meet_60 ?_
          refine tk_iload X d_Model_meet_63 rfl ?_
          refine kr_iald X (f := 22) (i' := 0) (by decide) (by decide) rfl (by decide) rfl (r_pj_lt hP hc hj) (ks_vk_pj hP hj) rfl d_Model_meet_65 ?_
          refine tk_iconst (v := 2) X d_Model_meet_66 (by decide) ?_
          refine tk_icmp_ne (tgt := 76) X d_Model_meet_67 (by decide) (fun h5 => ?_) (fun h5 => ?_)
          · skip
            refine tk_aload_n X d_Model_meet_76 rfl rfl ?_
            refine tk_get X (k := (12, 0, 0)) (dm := ks_dm P) (ks_d0 (by decide)) rfl hc_Model hi_Model 15 (by decide) m_Model_38 (v := .ref (tk_ad (ks_G P) (22, 0, 0))) rfl d_Model_meet_77 ?_
            refine tk_iload X d_Model_meet_80 rfl ?_
            refine tk_iload_n X d_Model_meet_82 rfl rfl ?_
            refine tk_if_eq (tgt := 90) X d_Model_meet_83 (by decide) (fun _ => ?_) (fun h => absurd (by decide) h)
            refine tk_iconst (v := 1) X d_Model_meet_90 (by decide) ?_
            refine kr_iast X hP (f := 22) (i' := 0) (by decide) (by decide) rfl (by decide) rfl (r_pj_lt hP hc hj) (ks_vk_pj hP hj) rfl d_Model_meet_91 ?_
            have e1 : k_meet1 (ks_T P) b c j false = b := ((if_pos h1).trans (if_neg (by decide)))
            have e2 : k_kp b c j = _ := if_neg h5
            exact tk_vret X hlk hr d_Model_meet_92 rfl (fun _ h => h) (Or.inr rfl) (kw_st rfl (by rw [em, k_meet, e1]; refine Eq.trans ?_ (if_neg h4).symm; rw [e2]; rfl) rfl)
          · skip
            refine tk_aload_n X d_Model_meet_70 rfl rfl ?_
            refine tk_iload X d_Model_meet_71 rfl ?_
            refine tk_callV X (kb := (12, 0, 0)) (ks_d0 (by decide)) rfl hc_Model (c_Model_toMemory l P hP c j hc hj a b o hl) (ks_site (n := 1) mc_Model_toMemory mi_Model (by decide +kernel) (by decide) (by decide)) m_Model_81 ms_Model_toMemory mv_Model_toMemory rfl (Nat.le_of_ble_eq_true rfl) ⟨Nat.le_of_ble_eq_true rfl, Nat.le_of_ble_eq_true rfl⟩ rfl d_Model_meet_73 ?_
            refine tk_aload_n X d_Model_meet_76 rfl rfl ?_
            refine tk_get X (k := (12, 0, 0)) (dm := ks_dm P) (ks_d0 (by decide)) rfl hc_Model hi_Model 15 (by decide) m_Model_38 (v := .ref (tk_ad (ks_G P) (22, 0, 0))) rfl d_Model_meet_77 ?_
            refine tk_iload X d_Model_meet_80 rfl ?_
            refine tk_iload_n X d_Model_meet_82 rfl rfl ?_
            refine tk_if_eq (tgt := 90) X d_Model_meet_83 (by decide) (fun _ => ?_) (fun h => absurd (by decide) h)
            refine tk_iconst (v := 1) X d_Model_meet_90 (by decide) ?_
            refine kr_iast X hP (f := 22) (i' := 0) (by decide) (by decide) rfl (by decide) rfl (r_pj_lt hP hc hj) (ks_vk_pj hP hj) rfl d_Model_meet_91 ?_
            have e1 : k_meet1 (ks_T P) b c j false = b := ((if_pos h1).trans (if_neg (by decide)))
            have e2 : k_kp b c j = _ := if_pos h5
            exact tk_vret X hlk hr d_Model_meet_92 rfl (fun _ h => h) (Or.inr rfl) (kw_st rfl (by rw [em, k_meet, e1]; refine Eq.trans ?_ (if_neg h4).symm; rw [e2]; rfl) rfl)
        · skip
          have e1 : k_meet1 (ks_T P) b c j false = b := ((if_pos h1).trans (if_neg (by decide)))
          exact tk_vret X hlk hr d_Model_meet_58 rfl (fun _ h => h) (Or.inr rfl) (kw_st rfl (by rw [em, k_meet, e1]; exact (if_pos h4).symm) rfl)
  | true =>
    refine tk_of hP.2.2.2.2.2 (by decide) rfl (Nat.le_of_ble_eq_true rfl) ?_
    intro p e s m below meth c0 X hlk hr hnm
    refine tk_aload_n X d_Model_meet_0 rfl rfl ?_
    refine tk_iload_n X d_Model_meet_1 rfl rfl ?_
    refine tk_iload_n X d_Model_meet_2 rfl rfl ?_
    refine tk_callV X (kb := (12, 0, 0)) (ks_d0 (by decide)) rfl hc_Model (c_Model_find l P hP c y hc hy a b o hv.1) (ks_site (n := 2) mc_Model_find mi_Model (by decide +kernel) (by decide) (by decide)) m_Model_73 ms_Model_find mv_Model_find rfl (Nat.le_of_ble_eq_true rfl) ⟨Nat.le_of_ble_eq_true rfl, Nat.le_of_ble_eq_true rfl⟩ rfl d_Model_meet_3 ?_
    cases hf : k_find b c y (ks_W P) (k_first (ks_S P) (ks_W P) y) with
    | none =>
      refine tk_istore X d_Model_meet_6 (by decide) rfl ?_
      refine tk_iload X d_Model_meet_8 rfl ?_
      refine tk_iconst (v := -1) X d_Model_meet_10 (by decide) ?_
      refine tk_icmp_ne (tgt := 15) X d_Model_meet_11 (by decide) (fun h => absurd rfl h) (fun _ => ?_)
      have em : k_met (ks_S P) (ks_W P) b c y true = b := by unfold k_met; rw [hf]
      exact tk_vret X hlk hr d_Model_meet_14 rfl (fun _ h => h) (Or.inr rfl) (kw_st rfl em.symm rfl)
    | some j =>
      have hj : j < ks_T P := k_find_T hP hf
      have hl : q_lin (b (7, c, j) 1) := ⟨y, hy, (k_find_mat b c y _ _ hf).2⟩
      have em : k_met (ks_S P) (ks_W P) b c y true = k_meet (ks_T P) b c j true := by unfold k_met; rw [hf]
      refine tk_istore X d_Model_meet_6 (by decide) rfl ?_
      refine tk_iload X d_Model_meet_8 rfl ?_
      refine tk_iconst (v := -1) X d_Model_meet_10 (by decide) ?_
      refine tk_icmp_ne (tgt := 15) X d_Model_meet_11 (by decide) (fun _ => ?_) (fun h => absurd h (nI_nm1 (Nat.lt_trans (r_pj_lt hP hc hj) (by decide))))
      refine tk_aload_n X d_Model_meet_15 rfl rfl ?_
      refine tk_get X (k := (12, 0, 0)) (dm := ks_dm P) (ks_d0 (by decide)) rfl hc_Model hi_Model 17 (by decide) m_Model_44 (v := .ref (tk_ad (ks_G P) (24, 0, 0))) rfl d_Model_meet_16 ?_
      refine tk_iload X d_Model_meet_19 rfl ?_
      refine kr_iald X (f := 24) (i' := 2) (by decide) (by decide) rfl (by decide) rfl (r_pj_lt hP hc hj) (ks_vk_pj hP hj) rfl d_Model_meet_21 ?_
      refine tk_iconst (v := 2) X d_Model_meet_22 (by decide) ?_
      refine tk_iand X d_Model_meet_23 ?_
      refine tk_if_ne (tgt := 41) X d_Model_meet_24 (by decide) (fun h1 => ?_) (fun h1 => ?_)
      · skip
        refine tk_aload_n X d_Model_meet_41 rfl rfl ?_
        refine tk_iload_n X d_Model_meet_42 rfl rfl ?_
        refine tk_iconst (v := 1) X d_Model_meet_43 (by decide) ?_
        refine tk_iconst (v := 1) X d_Model_meet_44 (by decide) ?_
        refine tk_callV X (kb := (12, 0, 0)) (ks_d0 (by decide)) rfl hc_Model (c_Model_abortK l P hP c 1 hc (by decide) 0 1 (by decide) a b o hv.2.1) (ks_site (n := 3) mc_Model_abort mi_Model (by decide +kernel) (by decide) (by decide)) m_Model_77 ms_Model_abort mv_Model_abort rfl (Nat.le_of_ble_eq_true rfl) ⟨Nat.le_of_ble_eq_true rfl, Nat.le_of_ble_eq_true rfl⟩ rfl d_Model_meet_45 ?_
        refine tk_aload_n X d_Model_meet_48 rfl rfl ?_
        refine tk_get X (k := (12, 0, 0)) (dm := ks_dm P) (ks_d0 (by decide)) rfl hc_Model hi_Model 15 (by decide) m_Model_38 (v := .ref (tk_ad (ks_G P) (22, 0, 0))) rfl d_Model_meet_49 ?_
        refine tk_iload X d_Model_meet_52 rfl ?_
        refine kr_iald X (f := 22) (i' := 0) (by decide) (by decide) rfl (by decide) rfl (r_pj_lt hP hc hj) (ks_vk_pj hP hj) rfl d_Model_meet_54 ?_
        refine tk_if_ne (tgt := 59) X d_Model_meet_55 (by decide) (fun h2 => ?_) (fun h2 => ?_)
        · skip
          refine tk_aload_n X d_Model_meet_59 rfl rfl ?_
          refine tk_get X (k := (12, 0, 0)) (dm := ks_dm P) (ks_d0 (by decide)) rfl hc_Model hi_Model 15 (by decide) m_Model_38 (v := .ref (tk_ad (ks_G P) (22, 0, 0))) rfl d_Model_meet_60 ?_
          refine tk_iload X d_Model_meet_63 rfl ?_
          refine kr_iald X (f := 22) (i' := 0) (by decide) (by decide) rfl (by decide) rfl (r_pj_lt hP hc hj) (ks_vk_pj hP hj) rfl d_Model_meet_65 ?_
          refine tk_iconst (v := 2) X d_Model_meet_66 (by decide) ?_
          refine tk_icmp_ne (tgt := 76) X d_Model_meet_67 (by decide) (fun h3 => ?_) (fun h3 => ?_)
          · skip
            refine tk_aload_n X d_Model_meet_76 rfl rfl ?_
            refine tk_get X (k := (12, 0, 0)) (dm := ks_dm P) (ks_d0 (by decide)) rfl hc_Model hi_Model 15 (by decide) m_Model_38 (v := .ref (tk_ad (ks_G P) (22, 0, 0))) rfl d_Model_meet_77 ?_
            refine tk_iload X d_Model_meet_80 rfl ?_
            refine tk_iload_n X d_Model_meet_82 rfl rfl ?_
            refine tk_if_eq (tgt := 90) X d_Model_meet_83 (by decide) (fun h => absurd h (by decide)) (fun _ => ?_)
            refine tk_iconst (v := 0) X d_Model_meet_86 (by decide) ?_
            refine tk_goto (tgt := 91) X d_Model_meet_87 (by decide) ?_
            refine kr_iast X hP (f := 22) (i' := 0) (by decide) (by decide) rfl (by decide) rfl (r_pj_lt hP hc hj) (ks_vk_pj hP hj) rfl d_Model_meet_91 ?_
            have e1 : k_meet1 (ks_T P) b c j true = (k_abort (ks_T P) b c 1 0) := (if_neg h1)
            have e2 : k_kp (k_abort (ks_T P) b c 1 0) c j = _ := if_neg h3
            exact tk_vret X hlk hr d_Model_meet_92 rfl (fun _ h => h) (Or.inr rfl) (kw_st rfl (by rw [em, k_meet, e1]; refine Eq.trans ?_ (if_neg h2).symm; rw [e2]; rfl) rfl)
          · skip
            refine tk_aload_n X d_Model_meet_70 rfl rfl ?_
            refine tk_iload X d_Model_meet_71 rfl ?_
            refine tk_callV X (kb := (12, 0, 0)) (ks_d0 (by decide)) rfl hc_Model (c_Model_toMemory l P hP c j hc hj a (k_abort (ks_T P) b c 1 0) o (by rw [k_abort_abv, k_ab_i _ _ _ _ _ _ _ (by decide) (by decide)]; exact hl)) (ks_site (n := 1) mc_Model_toMemory mi_Model (by decide +kernel) (by decide) (by decide)) m_Model_81 ms_Model_toMemory mv_Model_toMemory rfl (Nat.le_of_ble_eq_true rfl) ⟨Nat.le_of_ble_eq_true rfl, Nat.le_of_ble_eq_true rfl⟩ rfl d_Model_meet_73 ?_
            refine tk_aload_n X d_Model_meet_76 rfl rfl ?_
            refine tk_get X (k := (12, 0, 0)) (dm := ks_dm P) (ks_d0 (by decide)) rfl hc_Model hi_Model 15 (by decide) m_Model_38 (v := .ref (tk_ad (ks_G P) (22, 0, 0))) rfl d_Model_meet_77 ?_
            refine tk_iload X d_Model_meet_80 rfl ?_
            refine tk_iload_n X d_Model_meet_82 rfl rfl ?_
            refine tk_if_eq (tgt := 90) X d_Model_meet_83 (by decide) (fun h => absurd h (by decide)) (fun _ => ?_)
            refine tk_iconst (v := 0) X d_Model_meet_86 (by decide) ?_
            refine tk_goto (tgt := 91) X d_Model_meet_87 (by decide) ?_
            refine kr_iast X hP (f := 22) (i' := 0) (by decide) (by decide) rfl (by decide) rfl (r_pj_lt hP hc hj) (ks_vk_pj hP hj) rfl d_Model_meet_91 ?_
            have e1 : k_meet1 (ks_T P) b c j true = (k_abort (ks_T P) b c 1 0) := (if_neg h1)
            have e2 : k_kp (k_abort (ks_T P) b c 1 0) c j = _ := if_pos h3
            exact tk_vret X hlk hr d_Model_meet_92 rfl (fun _ h => h) (Or.inr rfl) (kw_st rfl (by rw [em, k_meet, e1]; refine Eq.trans ?_ (if_neg h2).symm; rw [e2]; rfl) rfl)
        · skip
          have e1 : k_meet1 (ks_T P) b c j true = (k_abort (ks_T P) b c 1 0) := (if_neg h1)
          exact tk_vret X hlk hr d_Model_meet_58 rfl (fun _ h => h) (Or.inr rfl) (kw_st rfl (by rw [em, k_meet, e1]; exact (if_pos h2).symm) rfl)
      · skip
        refine tk_iload_n X d_Model_meet_27 rfl rfl ?_
        refine tk_if_eq (tgt := 48) X d_Model_meet_28 (by decide) (fun h => absurd h (by decide)) (fun _ => ?_)
        refine tk_aload_n X d_Model_meet_31 rfl rfl ?_
        refine tk_get X (k := (12, 0, 0)) (dm := ks_dm P) (ks_d0 (by decide)) rfl hc_Model hi_Model 17 (by decide) m_Model_44 (v := .ref (tk_ad (ks_G P) (24, 0, 0))) rfl d_Model_meet_32 ?_
        refine tk_iload X d_Model_meet_35 rfl ?_
        refine kr_iald X (f := 24) (i' := 2) (by decide) (by decide) rfl (by decide) rfl (r_pj_lt hP hc hj) (ks_vk_pj hP hj) rfl d_Model_meet_37 ?_
        refine tk_if_eq (tgt := 48) X d_Model_meet_38 (by decide) (fun h4 => ?_) (fun h4 => ?_)
        · skip
          refine tk_aload_n X d_Model_meet_48 rfl rfl ?_
          refine tk_get X (k := (12, 0, 0)) (dm := ks_dm P) (ks_d0 (by decide)) rfl hc_Model hi_Model 15 (by decide) m_Model_38 (v := .ref (tk_ad (ks_G P) (22, 0, 0))) rfl d_Model_meet_49 ?_
          refine tk_iload X d_Model_meet_52 rfl ?_
          refine kr_iald X (f := 22) (i' := 0) (by decide) (by decide) rfl (by decide) rfl (r_pj_lt hP hc hj) (ks_vk_pj hP hj) rfl d_Model_meet_54 ?_
          refine tk_if_ne (tgt := 59) X d_Model_meet_55 (by decide) (fun h5 => ?_) (fun h5 => ?_)
          · skip
            refine tk_aload_n X d_Model_meet_59 rfl rfl ?_
            refine tk_get X (k := (12, 0, 0)) (dm := ks_dm P) (ks_d0 (by decide)) rfl hc_Model hi_Model 15 (by decide) m_Model_38 (v := .ref (tk_ad (ks_G P) (22, 0, 0))) rfl d_Model_meet_60 ?_
            refine tk_iload X d_Model_meet_63 rfl ?_
            refine kr_iald X (f := 22) (i' := 0) (by decide) (by decide) rfl (by decide) rfl (r_pj_lt hP hc hj) (ks_vk_pj hP hj) rfl d_Model_meet_65 ?_
            refine tk_iconst (v := 2) X d_Model_meet_66 (by decide) ?_
            refine tk_icmp_ne (tgt := 76) X d_Model_meet_67 (by decide) (fun h6 => ?_) (fun h6 => ?_)
            · skip
              refine tk_aload_n X d_Model_meet_76 rfl rfl ?_
              refine tk_get X (k := (12, 0, 0)) (dm := ks_dm P) (ks_d0 (by decide)) rfl hc_Model hi_Model 15 (by decide) m_Model_38 (v := .ref (tk_ad (ks_G P) (22, 0, 0))) rfl d_Model_meet_77 ?_
              refine tk_iload X d_Model_meet_80 rfl ?_
              refine tk_iload_n X d_Model_meet_82 rfl rfl ?_
              refine tk_if_eq (tgt := 90) X d_Model_meet_83 (by decide) (fun h => absurd h (by decide)) (fun _ => ?_)
              refine tk_iconst (v := 0) X d_Model_meet_86 (by decide) ?_
              refine tk_goto (tgt := 91) X d_Model_meet_87 (by decide) ?_
              refine kr_iast X hP (f := 22) (i' := 0) (by decide) (by decide) rfl (by decide) rfl (r_pj_lt hP hc hj) (ks_vk_pj hP hj) rfl d_Model_meet_91 ?_
              have e1 : k_meet1 (ks_T P) b c j true = b := (((if_pos h1).trans (if_pos rfl)).trans (if_pos h4))
              have e2 : k_kp b c j = _ := if_neg h6
              exact tk_vret X hlk hr d_Model_meet_92 rfl (fun _ h => h) (Or.inr rfl) (kw_st rfl (by rw [em, k_meet, e1]; refine Eq.trans ?_ (if_neg h5).symm; rw [e2]; rfl) rfl)
            · skip
              refine tk_aload_n X d_Model_meet_70 rfl rfl ?_
              refine tk_iload X d_Model_meet_71 rfl ?_
              refine tk_callV X (kb := (12, 0, 0)) (ks_d0 (by decide)) rfl hc_Model (c_Model_toMemory l P hP c j hc hj a b o hl) (ks_site (n := 1) mc_Model_toMemory mi_Model (by decide +kernel) (by decide) (by decide)) m_Model_81 ms_Model_toMemory mv_Model_toMemory rfl (Nat.le_of_ble_eq_true rfl) ⟨Nat.le_of_ble_eq_true rfl, Nat.le_of_ble_eq_true rfl⟩ rfl d_Model_meet_73 ?_
              refine tk_aload_n X d_Model_meet_76 rfl rfl ?_
              refine tk_get X (k := (12, 0, 0)) (dm := ks_dm P) (ks_d0 (by decide)) rfl hc_Model hi_Model 15 (by decide) m_Model_38 (v := .ref (tk_ad (ks_G P) (22, 0, 0))) rfl d_Model_meet_77 ?_
              refine tk_iload X d_Model_meet_80 rfl ?_
              refine tk_iload_n X d_Model_meet_82 rfl rfl ?_
              refine tk_if_eq (tgt := 90) X d_Model_meet_83 (by decide) (fun h => absurd h (by decide)) (fun _ => ?_)
              refine tk_iconst (v := 0) X d_Model_meet_86 (by decide) ?_
              refine tk_goto (tgt := 91) X d_Model_meet_87 (by decide) ?_
              refine kr_iast X hP (f := 22) (i' := 0) (by decide) (by decide) rfl (by decide) rfl (r_pj_lt hP hc hj) (ks_vk_pj hP hj) rfl d_Model_meet_91 ?_
              have e1 : k_meet1 (ks_T P) b c j true = b := (((if_pos h1).trans (if_pos rfl)).trans (if_pos h4))
              have e2 : k_kp b c j = _ := if_pos h6
              exact tk_vret X hlk hr d_Model_meet_92 rfl (fun _ h => h) (Or.inr rfl) (kw_st rfl (by rw [em, k_meet, e1]; refine Eq.trans ?_ (if_neg h5).symm; rw [e2]; rfl) rfl)
          · skip
            have e1 : k_meet1 (ks_T P) b c j true = b := (((if_pos h1).trans (if_pos rfl)).trans (if_pos h4))
            exact tk_vret X hlk hr d_Model_meet_58 rfl (fun _ h => h) (Or.inr rfl) (kw_st rfl (by rw [em, k_meet, e1]; exact (if_pos h5).symm) rfl)
        · skip
          refine tk_aload_n X d_Model_meet_41 rfl rfl ?_
          refine tk_iload_n X d_Model_meet_42 rfl rfl ?_
          refine tk_iconst (v := 1) X d_Model_meet_43 (by decide) ?_
          refine tk_iconst (v := 1) X d_Model_meet_44 (by decide) ?_
          refine tk_callV X (kb := (12, 0, 0)) (ks_d0 (by decide)) rfl hc_Model (c_Model_abortK l P hP c 1 hc (by decide) 0 1 (by decide) a b o hv.2.1) (ks_site (n := 3) mc_Model_abort mi_Model (by decide +kernel) (by decide) (by decide)) m_Model_77 ms_Model_abort mv_Model_abort rfl (Nat.le_of_ble_eq_true rfl) ⟨Nat.le_of_ble_eq_true rfl, Nat.le_of_ble_eq_true rfl⟩ rfl d_Model_meet_45 ?_
          refine tk_aload_n X d_Model_meet_48 rfl rfl ?_
          refine tk_get X (k := (12, 0, 0)) (dm := ks_dm P) (ks_d0 (by decide)) rfl hc_Model hi_Model 15 (by decide) m_Model_38 (v := .ref (tk_ad (ks_G P) (22, 0, 0))) rfl d_Model_meet_49 ?_
          refine tk_iload X d_Model_meet_52 rfl ?_
          refine kr_iald X (f := 22) (i' := 0) (by decide) (by decide) rfl (by decide) rfl (r_pj_lt hP hc hj) (ks_vk_pj hP hj) rfl d_Model_meet_54 ?_
          refine tk_if_ne (tgt := 59) X d_Model_meet_55 (by decide) (fun h7 => ?_) (fun h7 => ?_)
          · skip
            refine tk_aload_n X d_Model_meet_59 rfl rfl ?_
            refine tk_get X (k := (12, 0, 0)) (dm := ks_dm P) (ks_d0 (by decide)) rfl hc_Model hi_Model 15 (by decide) m_Model_38 (v := .ref (tk_ad (ks_G P) (22, 0, 0))) rfl d_Model_meet_60 ?_
            refine tk_iload X d_Model_meet_63 rfl ?_
            refine kr_iald X (f := 22) (i' := 0) (by decide) (by decide) rfl (by decide) rfl (r_pj_lt hP hc hj) (ks_vk_pj hP hj) rfl d_Model_meet_65 ?_
            refine tk_iconst (v := 2) X d_Model_meet_66 (by decide) ?_
            refine tk_icmp_ne (tgt := 76) X d_Model_meet_67 (by decide) (fun h8 => ?_) (fun h8 => ?_)
            · skip
              refine tk_aload_n X d_Model_meet_76 rfl rfl ?_
              refine tk_get X (k := (12, 0, 0)) (dm := ks_dm P) (ks_d0 (by decide)) rfl hc_Model hi_Model 15 (by decide) m_Model_38 (v := .ref (tk_ad (ks_G P) (22, 0, 0))) rfl d_Model_meet_77 ?_
              refine tk_iload X d_Model_meet_80 rfl ?_
              refine tk_iload_n X d_Model_meet_82 rfl rfl ?_
              refine tk_if_eq (tgt := 90) X d_Model_meet_83 (by decide) (fun h => absurd h (by decide)) (fun _ => ?_)
              refine tk_iconst (v := 0) X d_Model_meet_86 (by decide) ?_
              refine tk_goto (tgt := 91) X d_Model_meet_87 (by decide) ?_
              refine kr_iast X hP (f := 22) (i' := 0) (by decide) (by decide) rfl (by decide) rfl (r_pj_lt hP hc hj) (ks_vk_pj hP hj) rfl d_Model_meet_91 ?_
              have e1 : k_meet1 (ks_T P) b c j true = (k_abort (ks_T P) b c 1 0) := (((if_pos h1).trans (if_pos rfl)).trans (if_neg h4))
              have e2 : k_kp (k_abort (ks_T P) b c 1 0) c j = _ := if_neg h8
              exact tk_vret X hlk hr d_Model_meet_92 rfl (fun _ h => h) (Or.inr rfl) (kw_st rfl (by rw [em, k_meet, e1]; refine Eq.trans ?_ (if_neg h7).symm; rw [e2]; rfl) rfl)
            · skip
              refine tk_aload_n X d_Model_meet_70 rfl rfl ?_
              refine tk_iload X d_Model_meet_71 rfl ?_
              refine tk_callV X (kb := (12, 0, 0)) (ks_d0 (by decide)) rfl hc_Model (c_Model_toMemory l P hP c j hc hj a (k_abort (ks_T P) b c 1 0) o (by rw [k_abort_abv, k_ab_i _ _ _ _ _ _ _ (by decide) (by decide)]; exact hl)) (ks_site (n := 1) mc_Model_toMemory mi_Model (by decide +kernel) (by decide) (by decide)) m_Model_81 ms_Model_toMemory mv_Model_toMemory rfl (Nat.le_of_ble_eq_true rfl) ⟨Nat.le_of_ble_eq_true rfl, Nat.le_of_ble_eq_true rfl⟩ rfl d_Model_meet_73 ?_
              refine tk_aload_n X d_Model_meet_76 rfl rfl ?_
              refine tk_get X (k := (12, 0, 0)) (dm := ks_dm P) (ks_d0 (by decide)) rfl hc_Model hi_Model 15 (by decide) m_Model_38 (v := .ref (tk_ad (ks_G P) (22, 0, 0))) rfl d_Model_meet_77 ?_
              refine tk_iload X d_Model_meet_80 rfl ?_
              refine tk_iload_n X d_Model_meet_82 rfl rfl ?_
              refine tk_if_eq (tgt := 90) X d_Model_meet_83 (by decide) (fun h => absurd h (by decide)) (fun _ => ?_)
              refine tk_iconst (v := 0) X d_Model_meet_86 (by decide) ?_
              refine tk_goto (tgt := 91) X d_Model_meet_87 (by decide) ?_
              refine kr_iast X hP (f := 22) (i' := 0) (by decide) (by decide) rfl (by decide) rfl (r_pj_lt hP hc hj) (ks_vk_pj hP hj) rfl d_Model_meet_91 ?_
              have e1 : k_meet1 (ks_T P) b c j true = (k_abort (ks_T P) b c 1 0) := (((if_pos h1).trans (if_pos rfl)).trans (if_neg h4))
              have e2 : k_kp (k_abort (ks_T P) b c 1 0) c j = _ := if_pos h8
              exact tk_vret X hlk hr d_Model_meet_92 rfl (fun _ h => h) (Or.inr rfl) (kw_st rfl (by rw [em, k_meet, e1]; refine Eq.trans ?_ (if_neg h7).symm; rw [e2]; rfl) rfl)
          · skip
            have e1 : k_meet1 (ks_T P) b c j true = (k_abort (ks_T P) b c 1 0) := (((if_pos h1).trans (if_pos rfl)).trans (if_neg h4))
            exact tk_vret X hlk hr d_Model_meet_58 rfl (fun _ h => h) (Or.inr rfl) (kw_st rfl (by rw [em, k_meet, e1]; exact (if_pos h7).symm) rfl)

section LP
variable {p : Program} {l : Launch} {e : Env} {R : Room} {s : State} {m : MethodId} {args : Array Value} {below : List Frame} {meth : Method} {c0 : Code} {P : ks_P} {cells slots : Nat} {Q : State → Prop}
set_option maxRecDepth 100000 in
set_option maxHeartbeats 4000000 in
theorem tl_m275 (X : tk_X p m c0 s args (ks_G P) R_Model b_Model_access 7 WS) (hP : ks_ok P) {c j y : Nat} (hc : c < ks_n P) (hj : j < ks_T P) (hy : y < 32) (w had : Bool) (a b : ks_M) (o : ks_O) (kend : ∀ t6, tk_go p l e (ks_rm 3) s m args below meth c0 (ks_G P) (ks_dm P) 7 0 0 Q (ks_sl P a (k_us b c j) o) 298 [some (.ref (tk_ad (ks_G P) (12, 0, 0))), some (.int (nI c)), some (.int (nI y)), some (.int (q_b w)), some (.int (nI (r_pj (ks_W P) c j))), some (.int (q_b had)), t6] [.int (nI (r_pj (ks_W P) c j))]) (t6 : Option Value) : tk_go p l e (ks_rm 3) s m args below meth c0 (ks_G P) (ks_dm P) 7 0 0 Q (ks_sl P a b o) 275 [some (.ref (tk_ad (ks_G P) (12, 0, 0))), some (.int (nI c)), some (.int (nI y)), some (.int (q_b w)), some (.int (nI (r_pj (ks_W P) c j))), some (.int (q_b had)), t6] [] := by
  have hn64 := ks_n64 hP
  have hT64 := ks_T64 hP
  have hc3 : c < 3 := by have := hP.2.1; omega
  refine tk_aload_n X d_Model_access_275 rfl rfl ?_
  refine tk_dup X rfl d_Model_access_276 ?_
  refine tk_get X (k := (12, 0, 0)) (dm := ks_dm P) (ks_d0 (by decide)) rfl hc_Model hi_Model 4 (by decide) m_Model_95 (v := .int _) rfl d_Model_access_277 ?_
  refine tk_iconst (v := 1) X d_Model_access_280 (by decide) ?_
  refine tk_iadd X d_Model_access_281 ?_
  refine kr_put X hc_Model hi_Model t_Model t_Model_ok n_Model 4 (by decide) (by decide) m_Model_95 rfl rfl rfl d_Model_access_282 ?_
  refine tk_aload_n X d_Model_access_285 rfl rfl ?_
  refine tk_get X (k := (12, 0, 0)) (dm := ks_dm P) (ks_d0 (by decide)) rfl hc_Model hi_Model 20 (by decide) m_Model_53 (v := .ref (tk_ad (ks_G P) (27, 0, 0))) rfl d_Model_access_286 ?_
  refine tk_iload X d_Model_access_289 rfl ?_
  refine tk_aload_n X d_Model_access_291 rfl rfl ?_
  refine tk_get X (k := (12, 0, 0)) (dm := ks_dm P) (ks_d0 (by decide)) rfl hc_Model hi_Model 4 (by decide) m_Model_95 (v := .int _) rfl d_Model_access_292 ?_
  refine kr_iast X hP (f := 27) (i' := 5) (by decide) (by decide) rfl (by decide) rfl (r_pj_lt hP hc hj) (ks_vk_pj hP hj) rfl d_Model_access_295 ?_
  refine tk_iload X d_Model_access_296 rfl ?_
  exact kend t6
end LP

section LP
variable {p : Program} {l : Launch} {e : Env} {R : Room} {s : State} {m : MethodId} {args : Array Value} {below : List Frame} {meth : Method} {c0 : Code} {P : ks_P} {cells slots : Nat} {Q : State → Prop}
set_option maxRecDepth 100000 in
set_option maxHeartbeats 4000000 in
theorem tl_m189 (X : tk_X p m c0 s args (ks_G P) R_Model b_Model_access 7 WS) (hP : ks_ok P) {c j y : Nat} (hc : c < ks_n P) (hj : j < ks_T P) (hy : y < 32) (w had : Bool) (a b : ks_M) (o : ks_O) (hl : q_lin (b (7, c, j) 1)) (kend : ∀ t6, tk_go p l e (ks_rm 3) s m args below meth c0 (ks_G P) (ks_dm P) 7 0 0 Q (ks_sl P a (k_us (k_mk (k_md b c j w) c j w) c j) o) 298 [some (.ref (tk_ad (ks_G P) (12, 0, 0))), some (.int (nI c)), some (.int (nI y)), some (.int (q_b w)), some (.int (nI (r_pj (ks_W P) c j))), some (.int (q_b had)), t6] [.int (nI (r_pj (ks_W P) c j))]) (t6 : Option Value) : tk_go p l e (ks_rm 3) s m args below meth c0 (ks_G P) (ks_dm P) 7 0 0 Q (ks_sl P a b o) 189 [some (.ref (tk_ad (ks_G P) (12, 0, 0))), some (.int (nI c)), some (.int (nI y)), some (.int (q_b w)), some (.int (nI (r_pj (ks_W P) c j))), some (.int (q_b had)), t6] [] := by
  have hn64 := ks_n64 hP
  have hT64 := ks_T64 hP
  have hc3 : c < 3 := by have := hP.2.1; omega
  cases w with
  | false =>
    refine tk_aload_n X d_Model_access_189 rfl rfl ?_
    refine tk_get X (k := (12, 0, 0)) (dm := ks_dm P) (ks_d0 (by decide)) rfl hc_Model hi_Model 11 (by decide) m_Model_25 (v := .ref (tk_ad (ks_G P) (18, 0, 0))) rfl d_Model_access_190 ?_
    refine tk_iload_n X d_Model_access_193 rfl rfl ?_
    refine kr_iald X (f := 18) (i' := 8) (k' := (4, c, 0)) (by decide) (by decide) rfl (by decide) rfl hc3 rfl rfl d_Model_access_194 ?_
    refine tk_if_le (tgt := 202) X d_Model_access_195 (by decide) (fun h1 => ?_) (fun h1 => ?_)
    · skip
      refine tk_iconst (v := 0) X d_Model_access_202 (by decide) ?_
      refine tk_istore X d_Model_access_203 (by decide) rfl ?_
      refine tk_iload_n X d_Model_access_205 rfl rfl ?_
      refine tk_if_eq (tgt := 251) X d_Model_access_206 (by decide) (fun _ => ?_) (fun h => absurd (by decide) h)
      refine tk_iload X d_Model_access_251 rfl ?_
      refine tk_if_eq (tgt := 275) X d_Model_access_253 (by decide) (fun _ => ?_) (fun h => absurd (by decide) h)
      have e1 : k_md b c j false = b := if_neg (by decide)
      have e2 : k_mk b c j false = b := if_pos h1
      rw [e1, e2] at kend
      exact tl_m275 X hP hc hj hy _ _ a _ o kend _
    · skip
      refine tk_iconst (v := 1) X d_Model_access_198 (by decide) ?_
      refine tk_goto (tgt := 203) X d_Model_access_199 (by decide) ?_
      refine tk_istore X d_Model_access_203 (by decide) rfl ?_
      refine tk_iload_n X d_Model_access_205 rfl rfl ?_
      refine tk_if_eq (tgt := 251) X d_Model_access_206 (by decide) (fun _ => ?_) (fun h => absurd (by decide) h)
      refine tk_iload X d_Model_access_251 rfl ?_
      refine tk_if_eq (tgt := 275) X d_Model_access_253 (by decide) (fun h => absurd h (by decide)) (fun _ => ?_)
      refine tk_aload_n X d_Model_access_256 rfl rfl ?_
      refine tk_get X (k := (12, 0, 0)) (dm := ks_dm P) (ks_d0 (by decide)) rfl hc_Model hi_Model 17 (by decide) m_Model_44 (v := .ref (tk_ad (ks_G P) (24, 0, 0))) rfl d_Model_access_257 ?_
      refine tk_iload X d_Model_access_260 rfl ?_
      refine tk_dup2 X rfl rfl d_Model_access_262 ?_
      refine kr_iald X (f := 24) (i' := 2) (by decide) (by decide) rfl (by decide) rfl (r_pj_lt hP hc hj) (ks_vk_pj hP hj) rfl d_Model_access_263 ?_
      refine tk_iload_n X d_Model_access_264 rfl rfl ?_
      refine tk_if_eq (tgt := 272) X d_Model_access_265 (by decide) (fun _ => ?_) (fun h => absurd (by decide) h)
      refine tk_iconst (v := 1) X d_Model_access_272 (by decide) ?_
      refine tk_ior X d_Model_access_273 ?_
      refine kr_iast X hP (f := 24) (i' := 2) (by decide) (by decide) rfl (by decide) rfl (r_pj_lt hP hc hj) (ks_vk_pj hP hj) rfl d_Model_access_274 ?_
      have e1 : k_md b c j false = b := if_neg (by decide)
      have e2 : k_mk b c j false = ks_up b (7, c, j) 2 (b (7, c, j) 2 ||| 1) := if_neg h1
      rw [e1, e2] at kend
      exact tl_m275 X hP hc hj hy _ _ a _ o kend _
  | true =>
    refine tk_aload_n X d_Model_access_189 rfl rfl ?_
    refine tk_get X (k := (12, 0, 0)) (dm := ks_dm P) (ks_d0 (by decide)) rfl hc_Model hi_Model 11 (by decide) m_Model_25 (v := .ref (tk_ad (ks_G P) (18, 0, 0))) rfl d_Model_access_190 ?_
    refine tk_iload_n X d_Model_access_193 rfl rfl ?_
    refine kr_iald X (f := 18) (i' := 8) (k' := (4, c, 0)) (by decide) (by decide) rfl (by decide) rfl hc3 rfl rfl d_Model_access_194 ?_
    refine tk_if_le (tgt := 202) X d_Model_access_195 (by decide) (fun h1 => ?_) (fun h1 => ?_)
    · skip
      refine tk_iconst (v := 0) X d_Model_access_202 (by decide) ?_
      refine tk_istore X d_Model_access_203 (by decide) rfl ?_
      refine tk_iload_n X d_Model_access_205 rfl rfl ?_
      refine tk_if_eq (tgt := 251) X d_Model_access_206 (by decide) (fun h => absurd h (by decide)) (fun _ => ?_)
      refine tk_iload X d_Model_access_209 rfl ?_
      refine tk_if_eq (tgt := 243) X d_Model_access_211 (by decide) (fun _ => ?_) (fun h => absurd (by decide) h)
      refine tk_aload_n X d_Model_access_243 rfl rfl ?_
      refine tk_get X (k := (12, 0, 0)) (dm := ks_dm P) (ks_d0 (by decide)) rfl hc_Model hi_Model 15 (by decide) m_Model_38 (v := .ref (tk_ad (ks_G P) (22, 0, 0))) rfl d_Model_access_244 ?_
      refine tk_iload X d_Model_access_247 rfl ?_
      refine tk_iconst (v := 2) X d_Model_access_249 (by decide) ?_
      refine kr_iast X hP (f := 22) (i' := 0) (by decide) (by decide) rfl (by decide) rfl (r_pj_lt hP hc hj) (ks_vk_pj hP hj) rfl d_Model_access_250 ?_
      refine tk_iload X d_Model_access_251 rfl ?_
      refine tk_if_eq (tgt := 275) X d_Model_access_253 (by decide) (fun _ => ?_) (fun h => absurd (by decide) h)
      have e1 : k_md b c j true = ks_up b (7, c, j) 0 2 := (if_pos rfl).trans (if_pos h1)
      have e2 : k_mk (ks_up b (7, c, j) 0 2) c j true = ks_up b (7, c, j) 0 2 := if_pos (by rw [ks_up_nk _ _ (by simp)]; exact h1)
      rw [e1, e2] at kend
      exact tl_m275 X hP hc hj hy _ _ a _ o kend _
    · skip
      refine tk_iconst (v := 1) X d_Model_access_198 (by decide) ?_
      refine tk_goto (tgt := 203) X d_Model_access_199 (by decide) ?_
      refine tk_istore X d_Model_access_203 (by decide) rfl ?_
      refine tk_iload_n X d_Model_access_205 rfl rfl ?_
      refine tk_if_eq (tgt := 251) X d_Model_access_206 (by decide) (fun h => absurd h (by decide)) (fun _ => ?_)
      refine tk_iload X d_Model_access_209 rfl ?_
      refine tk_if_eq (tgt := 243) X d_Model_access_211 (by decide) (fun h => absurd h (by decide)) (fun _ => ?_)
      refine tk_aload_n X d_Model_access_214 rfl rfl ?_
      refine tk_get X (k := (12, 0, 0)) (dm := ks_dm P) (ks_d0 (by decide)) rfl hc_Model hi_Model 15 (by decide) m_Model_38 (v := .ref (tk_ad (ks_G P) (22, 0, 0))) rfl d_Model_access_215 ?_
      refine tk_iload X d_Model_access_218 rfl ?_
      refine kr_iald X (f := 22) (i' := 0) (by decide) (by decide) rfl (by decide) rfl (r_pj_lt hP hc hj) (ks_vk_pj hP hj) rfl d_Model_access_220 ?_
      refine tk_iconst (v := 2) X d_Model_access_221 (by decide) ?_
      refine tk_icmp_ne (tgt := 243) X d_Model_access_222 (by decide) (fun h2 => ?_) (fun h2 => ?_)
      · skip
        refine tk_aload_n X d_Model_access_243 rfl rfl ?_
        refine tk_get X (k := (12, 0, 0)) (dm := ks_dm P) (ks_d0 (by decide)) rfl hc_Model hi_Model 15 (by decide) m_Model_38 (v := .ref (tk_ad (ks_G P) (22, 0, 0))) rfl d_Model_access_244 ?_
        refine tk_iload X d_Model_access_247 rfl ?_
        refine tk_iconst (v := 2) X d_Model_access_249 (by decide) ?_
        refine kr_iast X hP (f := 22) (i' := 0) (by decide) (by decide) rfl (by decide) rfl (r_pj_lt hP hc hj) (ks_vk_pj hP hj) rfl d_Model_access_250 ?_
        refine tk_iload X d_Model_access_251 rfl ?_
        refine tk_if_eq (tgt := 275) X d_Model_access_253 (by decide) (fun h => absurd h (by decide)) (fun _ => ?_)
        refine tk_aload_n X d_Model_access_256 rfl rfl ?_
        refine tk_get X (k := (12, 0, 0)) (dm := ks_dm P) (ks_d0 (by decide)) rfl hc_Model hi_Model 17 (by decide) m_Model_44 (v := .ref (tk_ad (ks_G P) (24, 0, 0))) rfl d_Model_access_257 ?_
        refine tk_iload X d_Model_access_260 rfl ?_
        refine tk_dup2 X rfl rfl d_Model_access_262 ?_
        refine kr_iald X (f := 24) (i' := 2) (by decide) (by decide) rfl (by decide) rfl (r_pj_lt hP hc hj) (ks_vk_pj hP hj) rfl d_Model_access_263 ?_
        refine tk_iload_n X d_Model_access_264 rfl rfl ?_
        refine tk_if_eq (tgt := 272) X d_Model_access_265 (by decide) (fun h => absurd h (by decide)) (fun _ => ?_)
        refine tk_iconst (v := 2) X d_Model_access_268 (by decide) ?_
        refine tk_goto (tgt := 273) X d_Model_access_269 (by decide) ?_
        refine tk_ior X d_Model_access_273 ?_
        refine kr_iast X hP (f := 24) (i' := 2) (by decide) (by decide) rfl (by decide) rfl (r_pj_lt hP hc hj) (ks_vk_pj hP hj) rfl d_Model_access_274 ?_
        have e3 : k_kp2 b c j true = b := ((if_pos rfl).trans (if_neg h2))
        have e1 : k_md b c j true = ks_up b (7, c, j) 0 2 := ((if_pos rfl).trans (if_neg h1)).trans (by unfold k_modify; rw [e3])
        have e2 : k_mk (ks_up b (7, c, j) 0 2) c j true = ks_up (ks_up b (7, c, j) 0 2) (7, c, j) 2 ((ks_up b (7, c, j) 0 2) (7, c, j) 2 ||| 2) := if_neg (by rw [ks_up_nk _ _ (by simp)]; exact h1)
        rw [e1, e2] at kend
        exact tl_m275 X hP hc hj hy _ _ a _ o kend _
      · skip
        refine tk_aload_n X d_Model_access_225 rfl rfl ?_
        refine tk_get X (k := (12, 0, 0)) (dm := ks_dm P) (ks_d0 (by decide)) rfl hc_Model hi_Model 17 (by decide) m_Model_44 (v := .ref (tk_ad (ks_G P) (24, 0, 0))) rfl d_Model_access_226 ?_
        refine tk_iload X d_Model_access_229 rfl ?_
        refine kr_iald X (f := 24) (i' := 2) (by decide) (by decide) rfl (by decide) rfl (r_pj_lt hP hc hj) (ks_vk_pj hP hj) rfl d_Model_access_231 ?_
        refine tk_iconst (v := 2) X d_Model_access_232 (by decide) ?_
        refine tk_iand X d_Model_access_233 ?_
        refine tk_if_ne (tgt := 243) X d_Model_access_234 (by decide) (fun h3 => ?_) (fun h3 => ?_)
        · skip
          refine tk_aload_n X d_Model_access_243 rfl rfl ?_
          refine tk_get X (k := (12, 0, 0)) (dm := ks_dm P) (ks_d0 (by decide)) rfl hc_Model hi_Model 15 (by decide) m_Model_38 (v := .ref (tk_ad (ks_G P) (22, 0, 0))) rfl d_Model_access_244 ?_
          refine tk_iload X d_Model_access_247 rfl ?_
          refine tk_iconst (v := 2) X d_Model_access_249 (by decide) ?_
          refine kr_iast X hP (f := 22) (i' := 0) (by decide) (by decide) rfl (by decide) rfl (r_pj_lt hP hc hj) (ks_vk_pj hP hj) rfl d_Model_access_250 ?_
          refine tk_iload X d_Model_access_251 rfl ?_
          refine tk_if_eq (tgt := 275) X d_Model_access_253 (by decide) (fun h => absurd h (by decide)) (fun _ => ?_)
          refine tk_aload_n X d_Model_access_256 rfl rfl ?_
          refine tk_get X (k := (12, 0, 0)) (dm := ks_dm P) (ks_d0 (by decide)) rfl hc_Model hi_Model 17 (by decide) m_Model_44 (v := .ref (tk_ad (ks_G P) (24, 0, 0))) rfl d_Model_access_257 ?_
          refine tk_iload X d_Model_access_260 rfl ?_
          refine tk_dup2 X rfl rfl d_Model_access_262 ?_
          refine kr_iald X (f := 24) (i' := 2) (by decide) (by decide) rfl (by decide) rfl (r_pj_lt hP hc hj) (ks_vk_pj hP hj) rfl d_Model_access_263 ?_
          refine tk_iload_n X d_Model_access_264 rfl rfl ?_
          refine tk_if_eq (tgt := 272) X d_Model_access_265 (by decide) (fun h => absurd h (by decide)) (fun _ => ?_)
          refine tk_iconst (v := 2) X d_Model_access_268 (by decide) ?_
          refine tk_goto (tgt := 273) X d_Model_access_269 (by decide) ?_
          refine tk_ior X d_Model_access_273 ?_
          refine kr_iast X hP (f := 24) (i' := 2) (by decide) (by decide) rfl (by decide) rfl (r_pj_lt hP hc hj) (ks_vk_pj hP hj) rfl d_Model_access_274 ?_
          have e3 : k_kp2 b c j true = b := (((if_pos rfl).trans (if_pos h2)).trans (if_neg h3))
          have e1 : k_md b c j true = ks_up b (7, c, j) 0 2 := ((if_pos rfl).trans (if_neg h1)).trans (by unfold k_modify; rw [e3])
          have e2 : k_mk (ks_up b (7, c, j) 0 2) c j true = ks_up (ks_up b (7, c, j) 0 2) (7, c, j) 2 ((ks_up b (7, c, j) 0 2) (7, c, j) 2 ||| 2) := if_neg (by rw [ks_up_nk _ _ (by simp)]; exact h1)
          rw [e1, e2] at kend
          exact tl_m275 X hP hc hj hy _ _ a _ o kend _
        · skip
          refine tk_aload_n X d_Model_access_237 rfl rfl ?_
          refine tk_iload X d_Model_access_238 rfl ?_
          refine tk_callV X (kb := (12, 0, 0)) (ks_d0 (by decide)) rfl hc_Model (c_Model_toMemory l P hP c j hc hj a b o hl) (ks_site (n := 1) mc_Model_toMemory mi_Model (by decide +kernel) (by decide) (by decide)) m_Model_81 ms_Model_toMemory mv_Model_toMemory rfl (Nat.le_of_ble_eq_true rfl) ⟨Nat.le_of_ble_eq_true rfl, Nat.le_of_ble_eq_true rfl⟩ rfl d_Model_access_240 ?_
          refine tk_aload_n X d_Model_access_243 rfl rfl ?_
          refine tk_get X (k := (12, 0, 0)) (dm := ks_dm P) (ks_d0 (by decide)) rfl hc_Model hi_Model 15 (by decide) m_Model_38 (v := .ref (tk_ad (ks_G P) (22, 0, 0))) rfl d_Model_access_244 ?_
          refine tk_iload X d_Model_access_247 rfl ?_
          refine tk_iconst (v := 2) X d_Model_access_249 (by decide) ?_
          refine kr_iast X hP (f := 22) (i' := 0) (by decide) (by decide) rfl (by decide) rfl (r_pj_lt hP hc hj) (ks_vk_pj hP hj) rfl d_Model_access_250 ?_
          refine tk_iload X d_Model_access_251 rfl ?_
          refine tk_if_eq (tgt := 275) X d_Model_access_253 (by decide) (fun h => absurd h (by decide)) (fun _ => ?_)
          refine tk_aload_n X d_Model_access_256 rfl rfl ?_
          refine tk_get X (k := (12, 0, 0)) (dm := ks_dm P) (ks_d0 (by decide)) rfl hc_Model hi_Model 17 (by decide) m_Model_44 (v := .ref (tk_ad (ks_G P) (24, 0, 0))) rfl d_Model_access_257 ?_
          refine tk_iload X d_Model_access_260 rfl ?_
          refine tk_dup2 X rfl rfl d_Model_access_262 ?_
          refine kr_iald X (f := 24) (i' := 2) (by decide) (by decide) rfl (by decide) rfl (r_pj_lt hP hc hj) (ks_vk_pj hP hj) rfl d_Model_access_263 ?_
          refine tk_iload_n X d_Model_access_264 rfl rfl ?_
          refine tk_if_eq (tgt := 272) X d_Model_access_265 (by decide) (fun h => absurd h (by decide)) (fun _ => ?_)
          refine tk_iconst (v := 2) X d_Model_access_268 (by decide) ?_
          refine tk_goto (tgt := 273) X d_Model_access_269 (by decide) ?_
          refine tk_ior X d_Model_access_273 ?_
          refine kr_iast X hP (f := 24) (i' := 2) (by decide) (by decide) rfl (by decide) rfl (r_pj_lt hP hc hj) (ks_vk_pj hP hj) rfl d_Model_access_274 ?_
          have e3 : k_kp2 b c j true = (k_keep b c j) := (((if_pos rfl).trans (if_pos h2)).trans (if_pos h3))
          have e1 : k_md b c j true = ks_up (k_keep b c j) (7, c, j) 0 2 := ((if_pos rfl).trans (if_neg h1)).trans (by unfold k_modify; rw [e3])
          have e2 : k_mk (ks_up (k_keep b c j) (7, c, j) 0 2) c j true = ks_up (ks_up (k_keep b c j) (7, c, j) 0 2) (7, c, j) 2 ((ks_up (k_keep b c j) (7, c, j) 0 2) (7, c, j) 2 ||| 2) := if_neg (by rw [ks_up_nk _ _ (by simp), k_keep_ne _ _ _ _ (by simp)]; exact h1)
          rw [e1, e2] at kend
          exact tl_m275 X hP hc hj hy _ _ a _ o kend _
end LP

section LP
variable {p : Program} {l : Launch} {e : Env} {R : Room} {s : State} {m : MethodId} {args : Array Value} {below : List Frame} {meth : Method} {c0 : Code} {P : ks_P} {cells slots : Nat} {Q : State → Prop}
set_option maxRecDepth 100000 in
set_option maxHeartbeats 4000000 in
theorem tl_m111true (X : tk_X p m c0 s args (ks_G P) R_Model b_Model_access 7 WS) (hP : ks_ok P) {c j y : Nat} (hc : c < ks_n P) (hj : j < ks_T P) (hy : y < 32) (w : Bool) (a b : ks_M) (o : ks_O) (hl : q_lin (b (7, c, j) 1)) (kend : ∀ t6, tk_go p l e (ks_rm 3) s m args below meth c0 (ks_G P) (ks_dm P) 7 0 0 Q (ks_sl P a (k_us (k_mk (k_md (k_rf b c j y true) c j w) c j w) c j) o) 298 [some (.ref (tk_ad (ks_G P) (12, 0, 0))), some (.int (nI c)), some (.int (nI y)), some (.int (q_b w)), some (.int (nI (r_pj (ks_W P) c j))), some (.int (q_b true)), t6] [.int (nI (r_pj (ks_W P) c j))]) (t6 : Option Value) : tk_go p l e (ks_rm 3) s m args below meth c0 (ks_G P) (ks_dm P) 7 0 0 Q (ks_sl P a b o) 111 [some (.ref (tk_ad (ks_G P) (12, 0, 0))), some (.int (nI c)), some (.int (nI y)), some (.int (q_b w)), some (.int (nI (r_pj (ks_W P) c j))), some (.int (q_b true)), t6] [] := by
  have hn64 := ks_n64 hP
  have hT64 := ks_T64 hP
  have hc3 : c < 3 := by have := hP.2.1; omega
  refine tk_iload X d_Model_access_111 rfl ?_
  refine tk_if_ne (tgt := 189) X d_Model_access_113 (by decide) (fun _ => ?_) (fun h => absurd h (by decide))
  have e1 : k_rf b c j y true = b := if_pos rfl
  rw [e1] at kend
  exact tl_m189 X hP hc hj hy _ _ a b o hl kend _
end LP

section LP
variable {p : Program} {l : Launch} {e : Env} {R : Room} {s : State} {m : MethodId} {args : Array Value} {below : List Frame} {meth : Method} {c0 : Code} {P : ks_P} {cells slots : Nat} {Q : State → Prop}
set_option maxRecDepth 100000 in
set_option maxHeartbeats 4000000 in
theorem tl_m111false (X : tk_X p m c0 s args (ks_G P) R_Model b_Model_access 7 WS) (hP : ks_ok P) {c j y : Nat} (hc : c < ks_n P) (hj : j < ks_T P) (hy : y < 32) (w : Bool) (a b : ks_M) (o : ks_O) (hl : q_lin (b (7, c, j) 1)) (hm : b (7, c, j) 2 = 0) (kend : ∀ t6, tk_go p l e (ks_rm 3) s m args below meth c0 (ks_G P) (ks_dm P) 7 0 0 Q (ks_sl P a (k_us (k_mk (k_md (k_rf b c j y false) c j w) c j w) c j) o) 298 [some (.ref (tk_ad (ks_G P) (12, 0, 0))), some (.int (nI c)), some (.int (nI y)), some (.int (q_b w)), some (.int (nI (r_pj (ks_W P) c j))), some (.int (q_b false)), t6] [.int (nI (r_pj (ks_W P) c j))]) (t6 : Option Value) : tk_go p l e (ks_rm 3) s m args below meth c0 (ks_G P) (ks_dm P) 7 0 0 Q (ks_sl P a b o) 111 [some (.ref (tk_ad (ks_G P) (12, 0, 0))), some (.int (nI c)), some (.int (nI y)), some (.int (q_b w)), some (.int (nI (r_pj (ks_W P) c j))), some (.int (q_b false)), t6] [] := by
  have hn64 := ks_n64 hP
  have hT64 := ks_T64 hP
  have hc3 : c < 3 := by have := hP.2.1; omega
  refine tk_iload X d_Model_access_111 rfl ?_
  refine tk_if_ne (tgt := 189) X d_Model_access_113 (by decide) (fun h => absurd (by decide) h) (fun _ => ?_)
  refine tk_aload_n X d_Model_access_116 rfl rfl ?_
  refine tk_get X (k := (12, 0, 0)) (dm := ks_dm P) (ks_d0 (by decide)) rfl hc_Model hi_Model 15 (by decide) m_Model_38 (v := .ref (tk_ad (ks_G P) (22, 0, 0))) rfl d_Model_access_117 ?_
  refine tk_iload X d_Model_access_120 rfl ?_
  refine kr_iald X (f := 22) (i' := 0) (by decide) (by decide) rfl (by decide) rfl (r_pj_lt hP hc hj) (ks_vk_pj hP hj) rfl d_Model_access_122 ?_
  refine tk_iconst (v := 2) X d_Model_access_123 (by decide) ?_
  refine tk_icmp_ne (tgt := 133) X d_Model_access_124 (by decide) (fun h1 => ?_) (fun h1 => ?_)
  · skip
    refine tk_aload_n X d_Model_access_133 rfl rfl ?_
    refine tk_get X (k := (12, 0, 0)) (dm := ks_dm P) (ks_d0 (by decide)) rfl hc_Model hi_Model 15 (by decide) m_Model_38 (v := .ref (tk_ad (ks_G P) (22, 0, 0))) rfl d_Model_access_134 ?_
    refine tk_iload X d_Model_access_137 rfl ?_
    refine tk_iconst (v := 1) X d_Model_access_139 (by decide) ?_
    refine kr_iast X hP (f := 22) (i' := 0) (by decide) (by decide) rfl (by decide) rfl (r_pj_lt hP hc hj) (ks_vk_pj hP hj) rfl d_Model_access_140 ?_
    refine tk_aload_n X d_Model_access_141 rfl rfl ?_
    refine tk_get X (k := (12, 0, 0)) (dm := ks_dm P) (ks_d0 (by decide)) rfl hc_Model hi_Model 16 (by decide) m_Model_41 (v := .ref (tk_ad (ks_G P) (23, 0, 0))) rfl d_Model_access_142 ?_
    refine tk_iload X d_Model_access_145 rfl ?_
    refine tk_iload_n X d_Model_access_147 rfl rfl ?_
    refine kr_iast X hP (f := 23) (i' := 1) (by decide) (by decide) rfl (by decide) rfl (r_pj_lt hP hc hj) (ks_vk_pj hP hj) rfl d_Model_access_148 ?_
    refine tk_aload_n X d_Model_access_149 rfl rfl ?_
    refine tk_get X (k := (12, 0, 0)) (dm := ks_dm P) (ks_d0 (by decide)) rfl hc_Model hi_Model 17 (by decide) m_Model_44 (v := .ref (tk_ad (ks_G P) (24, 0, 0))) rfl d_Model_access_150 ?_
    refine tk_iload X d_Model_access_153 rfl ?_
    refine tk_iconst (v := 0) X d_Model_access_155 (by decide) ?_
    refine kr_iast X hP (f := 24) (i' := 2) (by decide) (by decide) rfl (by decide) rfl (r_pj_lt hP hc hj) (ks_vk_pj hP hj) rfl d_Model_access_156 ?_
    refine tk_aload_n X d_Model_access_157 rfl rfl ?_
    refine tk_get X (k := (12, 0, 0)) (dm := ks_dm P) (ks_d0 (by decide)) rfl hc_Model hi_Model 18 (by decide) m_Model_47 (v := .ref (tk_ad (ks_G P) (25, 0, 0))) rfl d_Model_access_158 ?_
    refine tk_iload X d_Model_access_161 rfl ?_
    refine tk_aload_n X d_Model_access_163 rfl rfl ?_
    refine tk_get X (k := (12, 0, 0)) (dm := ks_dm P) (ks_d0 (by decide)) rfl hc_Model hi_Model 6 (by decide) m_Model_7 (v := .ref (tk_ad (ks_G P) (13, 0, 0))) rfl d_Model_access_164 ?_
    refine tk_iconst (v := 2) X d_Model_access_167 (by decide) ?_
    refine tk_iload_n X d_Model_access_168 rfl rfl ?_
    refine tk_imul X d_Model_access_169 ?_
    refine kr_iald X (f := 13) (i' := (2 * y)) (k' := (2, 0, 0)) (by decide) (by decide) rfl (by decide) (by rw [show (2 : Int32) = nI 2 from rfl, pk_mul]) (by omega) rfl rfl d_Model_access_170 ?_
    refine kr_iast X hP (f := 25) (i' := 3) (by decide) (by decide) rfl (by decide) rfl (r_pj_lt hP hc hj) (ks_vk_pj hP hj) rfl d_Model_access_171 ?_
    refine tk_aload_n X d_Model_access_172 rfl rfl ?_
    refine tk_get X (k := (12, 0, 0)) (dm := ks_dm P) (ks_d0 (by decide)) rfl hc_Model hi_Model 19 (by decide) m_Model_50 (v := .ref (tk_ad (ks_G P) (26, 0, 0))) rfl d_Model_access_173 ?_
    refine tk_iload X d_Model_access_176 rfl ?_
    refine tk_aload_n X d_Model_access_178 rfl rfl ?_
    refine tk_get X (k := (12, 0, 0)) (dm := ks_dm P) (ks_d0 (by decide)) rfl hc_Model hi_Model 6 (by decide) m_Model_7 (v := .ref (tk_ad (ks_G P) (13, 0, 0))) rfl d_Model_access_179 ?_
    refine tk_iconst (v := 2) X d_Model_access_182 (by decide) ?_
    refine tk_iload_n X d_Model_access_183 rfl rfl ?_
    refine tk_imul X d_Model_access_184 ?_
    refine tk_iconst (v := 1) X d_Model_access_185 (by decide) ?_
    refine tk_iadd X d_Model_access_186 ?_
    refine kr_iald X (f := 13) (i' := (2 * y + 1)) (k' := (2, 0, 0)) (by decide) (by decide) rfl (by decide) (by rw [show (2 : Int32) = nI 2 from rfl, pk_mul, nI_1]) (by omega) rfl rfl d_Model_access_187 ?_
    refine kr_iast X hP (f := 26) (i' := 4) (by decide) (by decide) rfl (by decide) rfl (r_pj_lt hP hc hj) (ks_vk_pj hP hj) rfl d_Model_access_188 ?_
    have e1 : k_kp b c j = _ := if_neg h1
    have e3 : k_rf b c j y false = _ := (if_neg (by decide)).trans (r_fill2 hy hm e1).symm
    rw [e3] at kend
    exact tl_m189 X hP hc hj hy _ _ a _ o ⟨y, hy, r_fl1 _ c j y⟩ kend _
  · skip
    refine tk_aload_n X d_Model_access_127 rfl rfl ?_
    refine tk_iload X d_Model_access_128 rfl ?_
    refine tk_callV X (kb := (12, 0, 0)) (ks_d0 (by decide)) rfl hc_Model (c_Model_toMemory l P hP c j hc hj a b o hl) (ks_site (n := 1) mc_Model_toMemory mi_Model (by decide +kernel) (by decide) (by decide)) m_Model_81 ms_Model_toMemory mv_Model_toMemory rfl (Nat.le_of_ble_eq_true rfl) ⟨Nat.le_of_ble_eq_true rfl, Nat.le_of_ble_eq_true rfl⟩ rfl d_Model_access_130 ?_
    refine tk_aload_n X d_Model_access_133 rfl rfl ?_
    refine tk_get X (k := (12, 0, 0)) (dm := ks_dm P) (ks_d0 (by decide)) rfl hc_Model hi_Model 15 (by decide) m_Model_38 (v := .ref (tk_ad (ks_G P) (22, 0, 0))) rfl d_Model_access_134 ?_
    refine tk_iload X d_Model_access_137 rfl ?_
    refine tk_iconst (v := 1) X d_Model_access_139 (by decide) ?_
    refine kr_iast X hP (f := 22) (i' := 0) (by decide) (by decide) rfl (by decide) rfl (r_pj_lt hP hc hj) (ks_vk_pj hP hj) rfl d_Model_access_140 ?_
    refine tk_aload_n X d_Model_access_141 rfl rfl ?_
    refine tk_get X (k := (12, 0, 0)) (dm := ks_dm P) (ks_d0 (by decide)) rfl hc_Model hi_Model 16 (by decide) m_Model_41 (v := .ref (tk_ad (ks_G P) (23, 0, 0))) rfl d_Model_access_142 ?_
    refine tk_iload X d_Model_access_145 rfl ?_
    refine tk_iload_n X d_Model_access_147 rfl rfl ?_
    refine kr_iast X hP (f := 23) (i' := 1) (by decide) (by decide) rfl (by decide) rfl (r_pj_lt hP hc hj) (ks_vk_pj hP hj) rfl d_Model_access_148 ?_
    refine tk_aload_n X d_Model_access_149 rfl rfl ?_
    refine tk_get X (k := (12, 0, 0)) (dm := ks_dm P) (ks_d0 (by decide)) rfl hc_Model hi_Model 17 (by decide) m_Model_44 (v := .ref (tk_ad (ks_G P) (24, 0, 0))) rfl d_Model_access_150 ?_
    refine tk_iload X d_Model_access_153 rfl ?_
    refine tk_iconst (v := 0) X d_Model_access_155 (by decide) ?_
    refine kr_iast X hP (f := 24) (i' := 2) (by decide) (by decide) rfl (by decide) rfl (r_pj_lt hP hc hj) (ks_vk_pj hP hj) rfl d_Model_access_156 ?_
    refine tk_aload_n X d_Model_access_157 rfl rfl ?_
    refine tk_get X (k := (12, 0, 0)) (dm := ks_dm P) (ks_d0 (by decide)) rfl hc_Model hi_Model 18 (by decide) m_Model_47 (v := .ref (tk_ad (ks_G P) (25, 0, 0))) rfl d_Model_access_158 ?_
    refine tk_iload X d_Model_access_161 rfl ?_
    refine tk_aload_n X d_Model_access_163 rfl rfl ?_
    refine tk_get X (k := (12, 0, 0)) (dm := ks_dm P) (ks_d0 (by decide)) rfl hc_Model hi_Model 6 (by decide) m_Model_7 (v := .ref (tk_ad (ks_G P) (13, 0, 0))) rfl d_Model_access_164 ?_
    refine tk_iconst (v := 2) X d_Model_access_167 (by decide) ?_
    refine tk_iload_n X d_Model_access_168 rfl rfl ?_
    refine tk_imul X d_Model_access_169 ?_
    refine kr_iald X (f := 13) (i' := (2 * y)) (k' := (2, 0, 0)) (by decide) (by decide) rfl (by decide) (by rw [show (2 : Int32) = nI 2 from rfl, pk_mul]) (by omega) rfl rfl d_Model_access_170 ?_
    refine kr_iast X hP (f := 25) (i' := 3) (by decide) (by decide) rfl (by decide) rfl (r_pj_lt hP hc hj) (ks_vk_pj hP hj) rfl d_Model_access_171 ?_
    refine tk_aload_n X d_Model_access_172 rfl rfl ?_
    refine tk_get X (k := (12, 0, 0)) (dm := ks_dm P) (ks_d0 (by decide)) rfl hc_Model hi_Model 19 (by decide) m_Model_50 (v := .ref (tk_ad (ks_G P) (26, 0, 0))) rfl d_Model_access_173 ?_
    refine tk_iload X d_Model_access_176 rfl ?_
    refine tk_aload_n X d_Model_access_178 rfl rfl ?_
    refine tk_get X (k := (12, 0, 0)) (dm := ks_dm P) (ks_d0 (by decide)) rfl hc_Model hi_Model 6 (by decide) m_Model_7 (v := .ref (tk_ad (ks_G P) (13, 0, 0))) rfl d_Model_access_179 ?_
    refine tk_iconst (v := 2) X d_Model_access_182 (by decide) ?_
    refine tk_iload_n X d_Model_access_183 rfl rfl ?_
    refine tk_imul X d_Model_access_184 ?_
    refine tk_iconst (v := 1) X d_Model_access_185 (by decide) ?_
    refine tk_iadd X d_Model_access_186 ?_
    refine kr_iald X (f := 13) (i' := (2 * y + 1)) (k' := (2, 0, 0)) (by decide) (by decide) rfl (by decide) (by rw [show (2 : Int32) = nI 2 from rfl, pk_mul, nI_1]) (by omega) rfl rfl d_Model_access_187 ?_
    refine kr_iast X hP (f := 26) (i' := 4) (by decide) (by decide) rfl (by decide) rfl (r_pj_lt hP hc hj) (ks_vk_pj hP hj) rfl d_Model_access_188 ?_
    have e1 : k_kp b c j = _ := if_pos h1
    have e3 : k_rf b c j y false = _ := (if_neg (by decide)).trans (r_fill2 hy hm e1).symm
    rw [e3] at kend
    exact tl_m189 X hP hc hj hy _ _ a _ o ⟨y, hy, r_fl1 _ c j y⟩ kend _
end LP

section LP
variable {p : Program} {l : Launch} {e : Env} {R : Room} {s : State} {m : MethodId} {args : Array Value} {below : List Frame} {meth : Method} {c0 : Code} {P : ks_P} {cells slots : Nat} {Q : State → Prop}
set_option maxRecDepth 100000 in
set_option maxHeartbeats 4000000 in
theorem lp_Model_accesstrue (X : tk_X p m c0 s args (ks_G P) R_Model b_Model_access 7 WS) (hP : ks_ok P) {c j y : Nat} (hc : c < ks_n P) (hj : j < ks_T P) (hy : y < 32) (w : Bool) (a : ks_M) (o : ks_O) {b2 : ks_M} (kend : tk_go p l e (ks_rm 3) s m args below meth c0 (ks_G P) (ks_dm P) 7 0 0 Q (ks_sl P a b2 o) 111 [some (.ref (tk_ad (ks_G P) (12, 0, 0))), some (.int (nI c)), some (.int (nI y)), some (.int (q_b w)), some (.int (nI (r_pj (ks_W P) c j))), some (.int (q_b true)), some (.int (nI (ks_n P)))] []) : ∀ (k i : Nat) (b : ks_M), i + k = ks_n P → r_V (ks_n P) (ks_T P) b → k_send (ks_S P) (ks_W P) (nI c) y w k i b = b2 → tk_go p l e (ks_rm 3) s m args below meth c0 (ks_G P) (ks_dm P) 7 0 0 Q (ks_sl P a b o) 82 [some (.ref (tk_ad (ks_G P) (12, 0, 0))), some (.int (nI c)), some (.int (nI y)), some (.int (q_b w)), some (.int (nI (r_pj (ks_W P) c j))), some (.int (q_b true)), some (.int (nI i))] [] := by
  have hn64 := ks_n64 hP
  have hT64 := ks_T64 hP
  intro k
  induction k with
  | zero =>
    intro i b hi hV hk
    have hiT : i = ks_n P := by omega
    subst hiT
    have hk2 : b = b2 := hk
    subst hk2
    refine tk_iload X d_Model_access_82 rfl ?_
    refine tk_aload_n X d_Model_access_84 rfl rfl ?_
    refine tk_get X (k := (12, 0, 0)) (dm := ks_dm P) (ks_d0 (by decide)) rfl hc_Model hi_Model 0 (by decide) m_Model_56 (v := .int _) rfl d_Model_access_85 ?_
    refine tk_icmp_ge (tgt := 111) X d_Model_access_88 (by decide) (fun _ => ?_) (fun h => absurd (nI_le (Nat.le_refl _) (by omega)) h)
    exact kend
  | succ k ih =>
    intro i b hi hV hk
    have hi2 : i < ks_n P := by omega
    refine tk_iload X d_Model_access_82 rfl ?_
    refine tk_aload_n X d_Model_access_84 rfl rfl ?_
    refine tk_get X (k := (12, 0, 0)) (dm := ks_dm P) (ks_d0 (by decide)) rfl hc_Model hi_Model 0 (by decide) m_Model_56 (v := .int _) rfl d_Model_access_85 ?_
    refine tk_icmp_ge (tgt := 111) X d_Model_access_88 (by decide) (fun h => absurd h (nI_ge hi2 (by omega))) (fun _ => ?_)
    refine tk_iload X d_Model_access_91 rfl ?_
    refine tk_iload_n X d_Model_access_93 rfl rfl ?_
    refine tk_icmp_eq (tgt := 105) X d_Model_access_94 (by decide) (fun h1 => ?_) (fun h1 => ?_)
    · skip
      refine tk_iinc (v := nI (i + 1)) X d_Model_access_105 rfl (q_inc i) (by decide) rfl ?_
      refine tk_goto (tgt := 82) X d_Model_access_108 (by decide) ?_
      have e1 : k_ask1 (ks_S P) (ks_W P) (nI c) y w i b = b := if_pos h1
      exact ih (i + 1) _ (by omega) hV (by rw [← e1]; exact hk)
    · skip
      refine tk_aload_n X d_Model_access_97 rfl rfl ?_
      refine tk_iload X d_Model_access_98 rfl ?_
      refine tk_iload_n X d_Model_access_100 rfl rfl ?_
      refine tk_iload_n X d_Model_access_101 rfl rfl ?_
      refine tk_callV X (kb := (12, 0, 0)) (ks_d0 (by decide)) rfl hc_Model (c_Model_meet l P hP i y hi2 hy w a b o (hV i hi2)) (ks_site (n := 3) mc_Model_meet mi_Model (by decide +kernel) (by decide) (by decide)) m_Model_91 ms_Model_meet mv_Model_meet rfl (Nat.le_of_ble_eq_true rfl) ⟨Nat.le_of_ble_eq_true rfl, Nat.le_of_ble_eq_true rfl⟩ rfl d_Model_access_102 ?_
      refine tk_iinc (v := nI (i + 1)) X d_Model_access_105 rfl (q_inc i) (by decide) rfl ?_
      refine tk_goto (tgt := 82) X d_Model_access_108 (by decide) ?_
      have e1 : k_ask1 (ks_S P) (ks_W P) (nI c) y w i b = k_met (ks_S P) (ks_W P) b i y w := if_neg h1
      exact ih (i + 1) _ (by omega) (r_V_met hV (k_first_le hP y) w) (by rw [← e1]; exact hk)
end LP

section LP
variable {p : Program} {l : Launch} {e : Env} {R : Room} {s : State} {m : MethodId} {args : Array Value} {below : List Frame} {meth : Method} {c0 : Code} {P : ks_P} {cells slots : Nat} {Q : State → Prop}
set_option maxRecDepth 100000 in
set_option maxHeartbeats 4000000 in
theorem tl_m49true (X : tk_X p m c0 s args (ks_G P) R_Model b_Model_access 7 WS) (hP : ks_ok P) {c j y : Nat} (hc : c < ks_n P) (hj : j < ks_T P) (hy : y < 32) (w : Bool) (a b : ks_M) (o : ks_O) (hV : r_V (ks_n P) (ks_T P) b) (hl : q_lin (b (7, c, j) 1)) (kend : ∀ t6, tk_go p l e (ks_rm 3) s m args below meth c0 (ks_G P) (ks_dm P) 7 0 0 Q (ks_sl P a (k_acc2 (ks_n P) (ks_S P) (ks_W P) b c y w true j) o) 298 [some (.ref (tk_ad (ks_G P) (12, 0, 0))), some (.int (nI c)), some (.int (nI y)), some (.int (q_b w)), some (.int (nI (r_pj (ks_W P) c j))), some (.int (q_b true)), t6] [.int (nI (r_pj (ks_W P) c j))]) (t6 : Option Value) : tk_go p l e (ks_rm 3) s m args below meth c0 (ks_G P) (ks_dm P) 7 0 0 Q (ks_sl P a b o) 49 [some (.ref (tk_ad (ks_G P) (12, 0, 0))), some (.int (nI c)), some (.int (nI y)), some (.int (q_b w)), some (.int (nI (r_pj (ks_W P) c j))), some (.int (q_b true)), t6] [] := by
  have hn64 := ks_n64 hP
  have hT64 := ks_T64 hP
  have hc3 : c < 3 := by have := hP.2.1; omega
  cases w with
  | false =>
    refine tk_iload X d_Model_access_49 rfl ?_
    refine tk_if_eq (tgt := 69) X d_Model_access_51 (by decide) (fun h => absurd h (by decide)) (fun _ => ?_)
    refine tk_iload_n X d_Model_access_54 rfl rfl ?_
    refine tk_if_eq (tgt := 111) X d_Model_access_55 (by decide) (fun _ => ?_) (fun h => absurd (by decide) h)
    have e1 : k_rq (ks_n P) (ks_S P) (ks_W P) b c y false true j = b := ((if_pos rfl).trans (if_neg (by decide)))
    unfold k_acc2 at kend
    rw [e1] at kend
    exact tl_m111true X hP hc hj hy _ a b o hl kend _
  | true =>
    refine tk_iload X d_Model_access_49 rfl ?_
    refine tk_if_eq (tgt := 69) X d_Model_access_51 (by decide) (fun h => absurd h (by decide)) (fun _ => ?_)
    refine tk_iload_n X d_Model_access_54 rfl rfl ?_
    refine tk_if_eq (tgt := 111) X d_Model_access_55 (by decide) (fun h => absurd h (by decide)) (fun _ => ?_)
    refine tk_aload_n X d_Model_access_58 rfl rfl ?_
    refine tk_get X (k := (12, 0, 0)) (dm := ks_dm P) (ks_d0 (by decide)) rfl hc_Model hi_Model 15 (by decide) m_Model_38 (v := .ref (tk_ad (ks_G P) (22, 0, 0))) rfl d_Model_access_59 ?_
    refine tk_iload X d_Model_access_62 rfl ?_
    refine kr_iald X (f := 22) (i' := 0) (by decide) (by decide) rfl (by decide) rfl (r_pj_lt hP hc hj) (ks_vk_pj hP hj) rfl d_Model_access_64 ?_
    refine tk_iconst (v := 2) X d_Model_access_65 (by decide) ?_
    refine tk_icmp_eq (tgt := 111) X d_Model_access_66 (by decide) (fun h1 => ?_) (fun h1 => ?_)
    · skip
      have e1 : k_rq (ks_n P) (ks_S P) (ks_W P) b c y true true j = b := (((if_pos rfl).trans (if_pos rfl)).trans (if_pos h1))
      unfold k_acc2 at kend
      rw [e1] at kend
      exact tl_m111true X hP hc hj hy _ a b o hl kend _
    · skip
      refine tk_aload_n X d_Model_access_69 rfl rfl ?_
      refine tk_dup X rfl d_Model_access_70 ?_
      refine tk_get X (k := (12, 0, 0)) (dm := ks_dm P) (ks_d0 (by decide)) rfl hc_Model hi_Model 5 (by decide) m_Model_88 (v := .int _) rfl d_Model_access_71 ?_
      refine tk_iconst (v := 1) X d_Model_access_74 (by decide) ?_
      refine tk_iadd X d_Model_access_75 ?_
      refine kr_put X hc_Model hi_Model t_Model t_Model_ok n_Model 5 (by decide) (by decide) m_Model_88 rfl rfl rfl d_Model_access_76 ?_
      refine tk_iconst (v := 0) X d_Model_access_79 (by decide) ?_
      refine tk_istore X d_Model_access_80 (by decide) rfl ?_
      have e1 : k_rq (ks_n P) (ks_S P) (ks_W P) b c y true true j = k_ask (ks_n P) (ks_S P) (ks_W P) b c y true := (((if_pos rfl).trans (if_pos rfl)).trans (if_neg h1))
      unfold k_acc2 at kend
      rw [e1] at kend
      refine lp_Model_accesstrue X hP hc hj hy true a o (b2 := k_ask (ks_n P) (ks_S P) (ks_W P) b c y true) ?_ (ks_n P) 0 (ks_up b (0, 0, 0) 2 (b (0, 0, 0) 2 + 1)) (by omega) (fun i hi => r_Vc_eq (hV i hi) (fun _ _ => ks_up_nk _ _ (by simp))) rfl
      exact tl_m111true X hP hc hj hy _ a _ o (by unfold k_ask; rw [k_send_own _ _ _ (by omega) _ _ _ (by omega), ks_up_nk _ _ (by simp)]; exact hl) kend _
end LP

section LP
variable {p : Program} {l : Launch} {e : Env} {R : Room} {s : State} {m : MethodId} {args : Array Value} {below : List Frame} {meth : Method} {c0 : Code} {P : ks_P} {cells slots : Nat} {Q : State → Prop}
set_option maxRecDepth 100000 in
set_option maxHeartbeats 4000000 in
theorem lp_Model_accessfalse (X : tk_X p m c0 s args (ks_G P) R_Model b_Model_access 7 WS) (hP : ks_ok P) {c j y : Nat} (hc : c < ks_n P) (hj : j < ks_T P) (hy : y < 32) (w : Bool) (a : ks_M) (o : ks_O) {b2 : ks_M} (kend : tk_go p l e (ks_rm 3) s m args below meth c0 (ks_G P) (ks_dm P) 7 0 0 Q (ks_sl P a b2 o) 111 [some (.ref (tk_ad (ks_G P) (12, 0, 0))), some (.int (nI c)), some (.int (nI y)), some (.int (q_b w)), some (.int (nI (r_pj (ks_W P) c j))), some (.int (q_b false)), some (.int (nI (ks_n P)))] []) : ∀ (k i : Nat) (b : ks_M), i + k = ks_n P → r_V (ks_n P) (ks_T P) b → k_send (ks_S P) (ks_W P) (nI c) y w k i b = b2 → tk_go p l e (ks_rm 3) s m args below meth c0 (ks_G P) (ks_dm P) 7 0 0 Q (ks_sl P a b o) 82 [some (.ref (tk_ad (ks_G P) (12, 0, 0))), some (.int (nI c)), some (.int (nI y)), some (.int (q_b w)), some (.int (nI (r_pj (ks_W P) c j))), some (.int (q_b false)), some (.int (nI i))] [] := by
  have hn64 := ks_n64 hP
  have hT64 := ks_T64 hP
  intro k
  induction k with
  | zero =>
    intro i b hi hV hk
    have hiT : i = ks_n P := by omega
    subst hiT
    have hk2 : b = b2 := hk
    subst hk2
    refine tk_iload X d_Model_access_82 rfl ?_
    refine tk_aload_n X d_Model_access_84 rfl rfl ?_
    refine tk_get X (k := (12, 0, 0)) (dm := ks_dm P) (ks_d0 (by decide)) rfl hc_Model hi_Model 0 (by decide) m_Model_56 (v := .int _) rfl d_Model_access_85 ?_
    refine tk_icmp_ge (tgt := 111) X d_Model_access_88 (by decide) (fun _ => ?_) (fun h => absurd (nI_le (Nat.le_refl _) (by omega)) h)
    exact kend
  | succ k ih =>
    intro i b hi hV hk
    have hi2 : i < ks_n P := by omega
    refine tk_iload X d_Model_access_82 rfl ?_
    refine tk_aload_n X d_Model_access_84 rfl rfl ?_
    refine tk_get X (k := (12, 0, 0)) (dm := ks_dm P) (ks_d0 (by decide)) rfl hc_Model hi_Model 0 (by decide) m_Model_56 (v := .int _) rfl d_Model_access_85 ?_
    refine tk_icmp_ge (tgt := 111) X d_Model_access_88 (by decide) (fun h => absurd h (nI_ge hi2 (by omega))) (fun _ => ?_)
    refine tk_iload X d_Model_access_91 rfl ?_
    refine tk_iload_n X d_Model_access_93 rfl rfl ?_
    refine tk_icmp_eq (tgt := 105) X d_Model_access_94 (by decide) (fun h1 => ?_) (fun h1 => ?_)
    · skip
      refine tk_iinc (v := nI (i + 1)) X d_Model_access_105 rfl (q_inc i) (by decide) rfl ?_
      refine tk_goto (tgt := 82) X d_Model_access_108 (by decide) ?_
      have e1 : k_ask1 (ks_S P) (ks_W P) (nI c) y w i b = b := if_pos h1
      exact ih (i + 1) _ (by omega) hV (by rw [← e1]; exact hk)
    · skip
      refine tk_aload_n X d_Model_access_97 rfl rfl ?_
      refine tk_iload X d_Model_access_98 rfl ?_
      refine tk_iload_n X d_Model_access_100 rfl rfl ?_
      refine tk_iload_n X d_Model_access_101 rfl rfl ?_
      refine tk_callV X (kb := (12, 0, 0)) (ks_d0 (by decide)) rfl hc_Model (c_Model_meet l P hP i y hi2 hy w a b o (hV i hi2)) (ks_site (n := 3) mc_Model_meet mi_Model (by decide +kernel) (by decide) (by decide)) m_Model_91 ms_Model_meet mv_Model_meet rfl (Nat.le_of_ble_eq_true rfl) ⟨Nat.le_of_ble_eq_true rfl, Nat.le_of_ble_eq_true rfl⟩ rfl d_Model_access_102 ?_
      refine tk_iinc (v := nI (i + 1)) X d_Model_access_105 rfl (q_inc i) (by decide) rfl ?_
      refine tk_goto (tgt := 82) X d_Model_access_108 (by decide) ?_
      have e1 : k_ask1 (ks_S P) (ks_W P) (nI c) y w i b = k_met (ks_S P) (ks_W P) b i y w := if_neg h1
      exact ih (i + 1) _ (by omega) (r_V_met hV (k_first_le hP y) w) (by rw [← e1]; exact hk)
end LP

section LP
variable {p : Program} {l : Launch} {e : Env} {R : Room} {s : State} {m : MethodId} {args : Array Value} {below : List Frame} {meth : Method} {c0 : Code} {P : ks_P} {cells slots : Nat} {Q : State → Prop}
set_option maxRecDepth 100000 in
set_option maxHeartbeats 4000000 in
theorem tl_m49false (X : tk_X p m c0 s args (ks_G P) R_Model b_Model_access 7 WS) (hP : ks_ok P) {c j y : Nat} (hc : c < ks_n P) (hj : j < ks_T P) (hy : y < 32) (w : Bool) (a b : ks_M) (o : ks_O) (hV : r_V (ks_n P) (ks_T P) b) (hl : q_lin (b (7, c, j) 1)) (hm : b (7, c, j) 2 = 0) (kend : ∀ t6, tk_go p l e (ks_rm 3) s m args below meth c0 (ks_G P) (ks_dm P) 7 0 0 Q (ks_sl P a (k_acc2 (ks_n P) (ks_S P) (ks_W P) b c y w false j) o) 298 [some (.ref (tk_ad (ks_G P) (12, 0, 0))), some (.int (nI c)), some (.int (nI y)), some (.int (q_b w)), some (.int (nI (r_pj (ks_W P) c j))), some (.int (q_b false)), t6] [.int (nI (r_pj (ks_W P) c j))]) (t6 : Option Value) : tk_go p l e (ks_rm 3) s m args below meth c0 (ks_G P) (ks_dm P) 7 0 0 Q (ks_sl P a b o) 49 [some (.ref (tk_ad (ks_G P) (12, 0, 0))), some (.int (nI c)), some (.int (nI y)), some (.int (q_b w)), some (.int (nI (r_pj (ks_W P) c j))), some (.int (q_b false)), t6] [] := by
  have hn64 := ks_n64 hP
  have hT64 := ks_T64 hP
  have hc3 : c < 3 := by have := hP.2.1; omega
  cases w with
  | false =>
    refine tk_iload X d_Model_access_49 rfl ?_
    refine tk_if_eq (tgt := 69) X d_Model_access_51 (by decide) (fun _ => ?_) (fun h => absurd (by decide) h)
    refine tk_aload_n X d_Model_access_69 rfl rfl ?_
    refine tk_dup X rfl d_Model_access_70 ?_
    refine tk_get X (k := (12, 0, 0)) (dm := ks_dm P) (ks_d0 (by decide)) rfl hc_Model hi_Model 5 (by decide) m_Model_88 (v := .int _) rfl d_Model_access_71 ?_
    refine tk_iconst (v := 1) X d_Model_access_74 (by decide) ?_
    refine tk_iadd X d_Model_access_75 ?_
    refine kr_put X hc_Model hi_Model t_Model t_Model_ok n_Model 5 (by decide) (by decide) m_Model_88 rfl rfl rfl d_Model_access_76 ?_
    refine tk_iconst (v := 0) X d_Model_access_79 (by decide) ?_
    refine tk_istore X d_Model_access_80 (by decide) rfl ?_
    have e1 : k_rq (ks_n P) (ks_S P) (ks_W P) b c y false false j = k_ask (ks_n P) (ks_S P) (ks_W P) b c y false := (if_neg (by decide))
    unfold k_acc2 at kend
    rw [e1] at kend
    refine lp_Model_accessfalse X hP hc hj hy false a o (b2 := k_ask (ks_n P) (ks_S P) (ks_W P) b c y false) ?_ (ks_n P) 0 (ks_up b (0, 0, 0) 2 (b (0, 0, 0) 2 + 1)) (by omega) (fun i hi => r_Vc_eq (hV i hi) (fun _ _ => ks_up_nk _ _ (by simp))) rfl
    exact tl_m111false X hP hc hj hy _ a _ o (by unfold k_ask; rw [k_send_own _ _ _ (by omega) _ _ _ (by omega), ks_up_nk _ _ (by simp)]; exact hl) (by unfold k_ask; rw [k_send_own _ _ _ (by omega) _ _ _ (by omega), ks_up_nk _ _ (by simp)]; exact hm) kend _
  | true =>
    refine tk_iload X d_Model_access_49 rfl ?_
    refine tk_if_eq (tgt := 69) X d_Model_access_51 (by decide) (fun _ => ?_) (fun h => absurd (by decide) h)
    refine tk_aload_n X d_Model_access_69 rfl rfl ?_
    refine tk_dup X rfl d_Model_access_70 ?_
    refine tk_get X (k := (12, 0, 0)) (dm := ks_dm P) (ks_d0 (by decide)) rfl hc_Model hi_Model 5 (by decide) m_Model_88 (v := .int _) rfl d_Model_access_71 ?_
    refine tk_iconst (v := 1) X d_Model_access_74 (by decide) ?_
    refine tk_iadd X d_Model_access_75 ?_
    refine kr_put X hc_Model hi_Model t_Model t_Model_ok n_Model 5 (by decide) (by decide) m_Model_88 rfl rfl rfl d_Model_access_76 ?_
    refine tk_iconst (v := 0) X d_Model_access_79 (by decide) ?_
    refine tk_istore X d_Model_access_80 (by decide) rfl ?_
    have e1 : k_rq (ks_n P) (ks_S P) (ks_W P) b c y true false j = k_ask (ks_n P) (ks_S P) (ks_W P) b c y true := (if_neg (by decide))
    unfold k_acc2 at kend
    rw [e1] at kend
    refine lp_Model_accessfalse X hP hc hj hy true a o (b2 := k_ask (ks_n P) (ks_S P) (ks_W P) b c y true) ?_ (ks_n P) 0 (ks_up b (0, 0, 0) 2 (b (0, 0, 0) 2 + 1)) (by omega) (fun i hi => r_Vc_eq (hV i hi) (fun _ _ => ks_up_nk _ _ (by simp))) rfl
    exact tl_m111false X hP hc hj hy _ a _ o (by unfold k_ask; rw [k_send_own _ _ _ (by omega) _ _ _ (by omega), ks_up_nk _ _ (by simp)]; exact hl) (by unfold k_ask; rw [k_send_own _ _ _ (by omega) _ _ _ (by omega), ks_up_nk _ _ (by simp)]; exact hm) kend _
end LP

set_option maxRecDepth 100000 in
set_option maxHeartbeats 4000000 in
theorem c_Model_access (l : Launch) (P : ks_P) (hP : ks_ok P) (c y : Nat) (hc : c < ks_n P) (hy : y < 32) (w : Bool) (a b : ks_M) (o : ks_O) (hV : r_V (ks_n P) (ks_T P) b) : kc l P y_Model_access b_Model_access 7 (some .int) 3 [.ref (tk_ad (ks_G P) (12, 0, 0)), .int (nI c), .int (nI y), .int (q_b w)] a b o (some (.int (r_int (ks_W P) c (k_acc (ks_n P) (ks_S P) (ks_W P) b c y w).1))) a (k_acc (ks_n P) (ks_S P) (ks_W P) b c y w).2 o := by
  have hn64 := ks_n64 hP
  have hT64 := ks_T64 hP
  refine tk_of hP.2.2.2.2.2 (by decide) rfl (Nat.le_of_ble_eq_true rfl) ?_
  intro p e s m below meth c0 X hlk hr hnm
  refine tk_aload_n X d_Model_access_0 rfl rfl ?_
  refine tk_iload_n X d_Model_access_1 rfl rfl ?_
  refine tk_iload_n X d_Model_access_2 rfl rfl ?_
  refine tk_callV X (kb := (12, 0, 0)) (ks_d0 (by decide)) rfl hc_Model (c_Model_find l P hP c y hc hy a b o (hV c hc).1) (ks_site (n := 2) mc_Model_find mi_Model (by decide +kernel) (by decide) (by decide)) m_Model_73 ms_Model_find mv_Model_find rfl (Nat.le_of_ble_eq_true rfl) ⟨Nat.le_of_ble_eq_true rfl, Nat.le_of_ble_eq_true rfl⟩ rfl d_Model_access_3 ?_
  cases hf : k_find b c y (ks_W P) (k_first (ks_S P) (ks_W P) y) with
  | none =>
    refine tk_istore X d_Model_access_6 (by decide) rfl ?_
    refine tk_iload X d_Model_access_8 rfl ?_
    refine tk_iconst (v := -1) X d_Model_access_10 (by decide) ?_
    refine tk_icmp_eq (tgt := 18) X d_Model_access_11 (by decide) (fun _ => ?_) (fun h => absurd rfl h)
    refine tk_iconst (v := 0) X d_Model_access_18 (by decide) ?_
    refine tk_istore X d_Model_access_19 (by decide) rfl ?_
    refine tk_iload X d_Model_access_21 rfl ?_
    refine tk_if_ne (tgt := 34) X d_Model_access_23 (by decide) (fun h => absurd (by decide) h) (fun _ => ?_)
    refine tk_aload_n X d_Model_access_26 rfl rfl ?_
    refine tk_iload_n X d_Model_access_27 rfl rfl ?_
    refine tk_iload_n X d_Model_access_28 rfl rfl ?_
    refine tk_callV X (kb := (12, 0, 0)) (ks_d0 (by decide)) rfl hc_Model (c_Model_room l P hP c y hc hy a b o) (ks_site (n := 2) mc_Model_room mi_Model (by decide +kernel) (by decide) (by decide)) m_Model_85 ms_Model_room mv_Model_room rfl (Nat.le_of_ble_eq_true rfl) ⟨Nat.le_of_ble_eq_true rfl, Nat.le_of_ble_eq_true rfl⟩ rfl d_Model_access_29 ?_
    cases hg : k_room b c (ks_W P) (k_first (ks_S P) (ks_W P) y) none with
    | none =>
      refine tk_istore X d_Model_access_32 (by decide) rfl ?_
      refine tk_iload X d_Model_access_34 rfl ?_
      refine tk_iconst (v := -1) X d_Model_access_36 (by decide) ?_
      refine tk_icmp_ne (tgt := 49) X d_Model_access_37 (by decide) (fun h => absurd rfl h) (fun _ => ?_)
      refine tk_aload_n X d_Model_access_40 rfl rfl ?_
      refine tk_iload_n X d_Model_access_41 rfl rfl ?_
      refine tk_iconst (v := 2) X d_Model_access_42 (by decide) ?_
      refine tk_iconst (v := 2) X d_Model_access_43 (by decide) ?_
      refine tk_callV X (kb := (12, 0, 0)) (ks_d0 (by decide)) rfl hc_Model (c_Model_abortK l P hP c 2 hc (by decide) 0 2 (by decide) a b o (hV c hc).2.1) (ks_site (n := 3) mc_Model_abort mi_Model (by decide +kernel) (by decide) (by decide)) m_Model_77 ms_Model_abort mv_Model_abort rfl (Nat.le_of_ble_eq_true rfl) ⟨Nat.le_of_ble_eq_true rfl, Nat.le_of_ble_eq_true rfl⟩ rfl d_Model_access_44 ?_
      refine tk_iconst (v := -1) X d_Model_access_47 (by decide) ?_
      have e1 : k_acc (ks_n P) (ks_S P) (ks_W P) b c y w = (none, k_abort (ks_T P) b c 2 0) := by unfold k_acc; rw [hf, hg]
      exact tk_iret X hlk hr d_Model_access_48 (by rw [e1]; rfl) (fun _ h => h) (Or.inr rfl) (kw_st rfl (by rw [e1]) rfl)
    | some j =>
      have hj : j < ks_T P := k_room_T hP hg
      have hl : q_lin (b (7, c, j) 1) := ((hV c hc).2.2 j hj).1
      have hm : b (7, c, j) 2 = 0 := k_room_m (hV c hc) _ _ none (k_first_le hP y) (fun i h => by cases h) hg
      refine tk_istore X d_Model_access_32 (by decide) rfl ?_
      refine tk_iload X d_Model_access_34 rfl ?_
      refine tk_iconst (v := -1) X d_Model_access_36 (by decide) ?_
      refine tk_icmp_ne (tgt := 49) X d_Model_access_37 (by decide) (fun _ => ?_) (fun h => absurd h (nI_nm1 (Nat.lt_trans (r_pj_lt hP hc hj) (by decide))))
      have e1 : k_acc (ks_n P) (ks_S P) (ks_W P) b c y w = (some j, k_acc2 (ks_n P) (ks_S P) (ks_W P) b c y w false j) := by unfold k_acc; rw [hf, hg]
      refine tl_m49false X hP hc hj hy w a b o hV hl hm (fun t6 => ?_) _
      exact tk_iret X hlk hr d_Model_access_298 (by rw [e1]; rfl) (fun _ h => h) (Or.inr rfl) (kw_st rfl (by rw [e1]) rfl)
  | some j =>
    have hj : j < ks_T P := k_find_T hP hf
    have hl : q_lin (b (7, c, j) 1) := ⟨y, hy, (k_find_mat b c y _ _ hf).2⟩
    refine tk_istore X d_Model_access_6 (by decide) rfl ?_
    refine tk_iload X d_Model_access_8 rfl ?_
    refine tk_iconst (v := -1) X d_Model_access_10 (by decide) ?_
    refine tk_icmp_eq (tgt := 18) X d_Model_access_11 (by decide) (fun h => absurd h (nI_nm1 (Nat.lt_trans (r_pj_lt hP hc hj) (by decide)))) (fun _ => ?_)
    refine tk_iconst (v := 1) X d_Model_access_14 (by decide) ?_
    refine tk_goto (tgt := 19) X d_Model_access_15 (by decide) ?_
    refine tk_istore X d_Model_access_19 (by decide) rfl ?_
    refine tk_iload X d_Model_access_21 rfl ?_
    refine tk_if_ne (tgt := 34) X d_Model_access_23 (by decide) (fun _ => ?_) (fun h => absurd h (by decide))
    refine tk_iload X d_Model_access_34 rfl ?_
    refine tk_iconst (v := -1) X d_Model_access_36 (by decide) ?_
    refine tk_icmp_ne (tgt := 49) X d_Model_access_37 (by decide) (fun _ => ?_) (fun h => absurd h (nI_nm1 (Nat.lt_trans (r_pj_lt hP hc hj) (by decide))))
    have e1 : k_acc (ks_n P) (ks_S P) (ks_W P) b c y w = (some j, k_acc2 (ks_n P) (ks_S P) (ks_W P) b c y w true j) := by unfold k_acc; rw [hf]
    refine tl_m49true X hP hc hj hy w a b o hV hl (fun t6 => ?_) _
    exact tk_iret X hlk hr d_Model_access_298 (by rw [e1]; rfl) (fun _ h => h) (Or.inr rfl) (kw_st rfl (by rw [e1]) rfl)
