theorem c_Model_abortK (l : Launch) (P : ks_P) (hP : ks_ok P) (c q : Nat) (hc : c < ks_n P) (hq : q < 6) (m v : Int32) (hv : nI q + m = v) (a b : ks_M) (o : ks_O) (hjk : ∀ j, ks_T P ≤ j → b (7, c, j) 2 = 0) : kc l P y_Model_abort b_Model_abort 5 none 0 [.ref (tk_ad (ks_G P) (12, 0, 0)), .int (nI c), .int (nI q), .int v] a b o none a (k_abort (ks_T P) b c q m) o := by
  subst hv
  exact c_Model_abort l P hP c q hc hq _ a b o hjk

set_option maxRecDepth 100000 in
set_option maxHeartbeats 4000000 in
theorem c_Model_meet (l : Launch) (P : ks_P) (hP : ks_ok P) (c y : Nat) (hc : c < ks_n P) (hy : y < 32) (w : Bool) (a b : ks_M) (o : ks_O) (hv : r_Vc (ks_T P) b c) : kc l P y_Model_meet b_Model_meet 5 none 2 [.ref (tk_ad (ks_G P) (12, 0, 0)), .int (nI c), .int (nI y), .int (q_b w)] a b o (none) a (k_met (ks_S P) (ks_W P) b c y w) o := by
  have hn64 := ks_n64 hP
  have hT64 := ks_T64 hP
  cases w with
  | false =>
    refine tk_of hP.2.2.2.2.2 (by decide) rfl (Nat.le_of_ble_eq_true rfl) ?_
    intro p e s m below meth c0 X hlk hr hnm
    refine tk_aload_n X d_Model_meet_0 rfl rfl ?_
    refine tk_iload_n X d_Model_meet_1 rfl rfl ?_
    refine tk_iload_n X d_Model_meet_2 rfl rfl ?_
    refine tk_callV X (kb := (12, 0, 0)) (ks_d0 (by decide)) rfl hc_Model (c_Model_find l P hP c y hc hy a b o hv.1) (ks_site (n := 2) mc_Model_find mi_Model (by decide +kernel) (by decide) (by decide)) m_Model_73 ms_Model_find mv_Model_find rfl (Nat.le_of_ble_eq_true rfl) ⟨Nat.le_of_ble_eq_true rfl, Nat.le_of_ble_eq_true rfl⟩ rfl d_Model_meet_3 ?_
    cases hf : k_find b c y (ks_W P) (k_first (ks_S P) (ks_W P) y) with
    | none =>
      refine tk_istore X d_Model_meet_6 (by decide) rfl ?_
      refine tk_iload X d_Model_meet_8 rfl ?_
      refine tk_iconst (v := -1) X d_Model_meet_10 (by decide) ?_
      refine tk_icmp_ne (tgt := 15) X d_Model_meet_11 (by decide) (fun h => absurd rfl h) (fun _ => ?_)
      have em : k_met (ks_S P) (ks_W P) b c y false = b := by unfold k_met; rw [hf]
      exact tk_vret X hlk hr d_Model_meet_14 rfl (fun _ h => h) (Or.inr rfl) (kw_st rfl em.symm rfl)
    | some j =>
      have hj : j < ks_T P := k_find_T hP hf
      have hl : q_lin (b (7, c, j) 1) := ⟨y, hy, (k_find_mat b c y _ _ hf).2⟩
      have em : k_met (ks_S P) (ks_W P) b c y false = k_meet (ks_T P) b c j false := by unfold k_met; rw [hf]
      refine tk_istore X d_Model_meet_6 (by decide) rfl ?_
      refine tk_iload X d_Model_meet_8 rfl ?_
      refine tk_iconst (v := -1) X d_Model_meet_10 (by decide) ?_
      refine tk_icmp_ne (tgt := 15) X d_Model_meet_11 (by decide) (fun _ => ?_) (fun h => absurd h (nI_nm1 (Nat.lt_trans (r_pj_lt hP hc hj) (by decide))))
      refine tk_aload_n X d_Model_meet_15 rfl rfl ?_
      refine tk_get X (k := (12, 0, 0)) (dm := ks_dm P) (ks_d0 (by decide)) rfl hc_Model hi_Model 17 (by decide) m_Model_44 (v := .ref (tk_ad (ks_G P) (24, 0, 0))) rfl d_Model_meet_16 ?_
      refine tk_iload X d_Model_meet_19 rfl ?_
      refine kr_iald X (f := 24) (i' := 2) (by decide) (by decide) rfl (by decide) rfl (r_pj_lt hP hc hj) (ks_vk_pj hP hj) rfl d_Model_meet_21 ?_
      refine tk_iconst (v := 2) X d_Model_meet_22 (by decide) ?_
      refine tk_iand X d_Model_meet_23 ?_
      refine tk_if_ne (tgt := 41) X d_Model_meet_24 (by decide) (fun h1 => ?_) (fun h1 => ?_)
      · skip
        refine tk_aload_n X d_Model_meet_41 rfl rfl ?_
        refine tk_iload_n X d_Model_meet_42 rfl rfl ?_
        refine tk_iconst (v := 1) X d_Model_meet_43 (by decide) ?_
        refine tk_iconst (v := 1) X d_Model_meet_44 (by decide) ?_
        refine tk_callV X (kb := (12, 0, 0)) (ks_d0 (by decide)) rfl hc_Model (c_Model_abortK l P hP c 1 hc (by decide) 0 1 (by decide) a b o hv.2.1) (ks_site (n := 3) mc_Model_abort mi_Model (by decide +kernel) (by decide) (by decide)) m_Model_77 ms_Model_abort mv_Model_abort rfl (Nat.le_of_ble_eq_true rfl) ⟨Nat.le_of_ble_eq_true rfl, Nat.le_of_ble_eq_true rfl⟩ rfl d_Model_meet_45 ?_
        refine tk_aload_n X d_Model_meet_48 rfl rfl ?_
        refine tk_get X (k := (12, 0, 0)) (dm := ks_dm P) (ks_d0 (by decide)) rfl hc_Model hi_Model 15 (by decide) m_Model_38 (v := .ref (tk_ad (ks_G P) (22, 0, 0))) rfl d_Model_meet_49 ?_
        refine tk_iload X d_Model_meet_52 rfl ?_
        refine kr_iald X (f := 22) (i' := 0) (by decide) (by decide) rfl (by decide) rfl (r_pj_lt hP hc hj) (ks_vk_pj hP hj) rfl d_Model_meet_54 ?_
        refine tk_if_ne (tgt := 59) X d_Model_meet_55 (by decide) (fun h2 => ?_) (fun h2 => ?_)
        · skip
          refine tk_aload_n X d_Model_meet_59 rfl rfl ?_
          refine tk_get X (k := (12, 0, 0)) (dm := ks_dm P) (ks_d0 (by decide)) rfl hc_Model hi_Model 15 (by decide) m_Model_38 (v := .ref (tk_ad (ks_G P) (22, 0, 0))) rfl d_Model_meet_60 ?_
          refine tk_iload X d_Model_meet_63 rfl ?_
          refine kr_iald X (f := 22) (i' := 0) (by decide) (by decide) rfl (by decide) rfl (r_pj_lt hP hc hj) (ks_vk_pj hP hj) rfl d_Model_meet_65 ?_
          refine tk_iconst (v := 2) X d_Model_meet_66 (by decide) ?_
          refine tk_icmp_ne (tgt := 76) X d_Model_meet_67 (by decide) (fun h3 => ?_) (fun h3 => ?_)
          · skip
            refine tk_aload_n X d_Model_meet_76 rfl rfl ?_
            refine tk_get X (k := (12, 0, 0)) (dm := ks_dm P) (ks_d0 (by decide)) rfl hc_Model hi_Model 15 (by decide) m_Model_38 (v := .ref (tk_ad (ks_G P) (22, 0, 0))) rfl d_Model_meet_77 ?_
            refine tk_iload X d_Model_meet_80 rfl ?_
            refine tk_iload_n X d_Model_meet_82 rfl rfl ?_
            refine tk_if_eq (tgt := 90) X d_Model_meet_83 (by decide) (fun _ => ?_) (fun h => absurd (by decide) h)
            refine tk_iconst (v := 1) X d_Model_meet_90 (by decide) ?_
            refine kr_iast X hP (f := 22) (i' := 0) (by decide) (by decide) rfl (by decide) rfl (r_pj_lt hP hc hj) (ks_vk_pj hP hj) rfl d_Model_meet_91 ?_
            have e1 : k_meet1 (ks_T P) b c j false = (k_abort (ks_T P) b c 1 0) := (if_neg h1)
            have e2 : k_kp (k_abort (ks_T P) b c 1 0) c j = _ := if_neg h3
            exact tk_vret X hlk hr d_Model_meet_92 rfl (fun _ h => h) (Or.inr rfl) (kw_st rfl (by rw [em, k_meet, e1]; refine Eq.trans ?_ (if_neg h2).symm; rw [e2]; rfl) rfl)
          · skip
            refine tk_aload_n X d_Model_meet_70 rfl rfl ?_
            refine tk_iload X d_Model_meet_71 rfl ?_
            refine tk_callV X (kb := (12, 0, 0)) (ks_d0 (by decide)) rfl hc_Model (c_Model_toMemory l P hP c j hc hj a (k_abort (ks_T P) b c 1 0) o (by rw [k_abort_abv, k_ab_i _ _ _ _ _ _ _ (by decide) (by decide)]; exact hl)) (ks_site (n := 1) mc_Model_toMemory mi_Model (by decide +kernel) (by decide) (by decide)) m_Model_81 ms_Model_toMemory mv_Model_toMemory rfl (Nat.le_of_ble_eq_true rfl) ⟨Nat.le_of_ble_eq_true rfl, Nat.le_of_ble_eq_true rfl⟩ rfl d_Model_meet_73 ?_
            refine tk_aload_n X d_Model_meet_76 rfl rfl ?_
            refine tk_get X (k := (12, 0, 0)) (dm := ks_dm P) (ks_d0 (by decide)) rfl hc_Model hi_Model 15 (by decide) m_Model_38 (v := .ref (tk_ad (ks_G P) (22, 0, 0))) rfl d_Model_meet_77 ?_
            refine tk_iload X d_Model_meet_80 rfl ?_
            refine tk_iload_n X d_Model_meet_82 rfl rfl ?_
            refine tk_if_eq (tgt := 90) X d_Model_meet_83 (by decide) (fun _ => ?_) (fun h => absurd (by decide) h)
            refine tk_iconst (v := 1) X d_Model_meet_90 (by decide) ?_
            refine kr_iast X hP (f := 22) (i' := 0) (by decide) (by decide) rfl (by decide) rfl (r_pj_lt hP hc hj) (ks_vk_pj hP hj) rfl d_Model_meet_91 ?_
            have e1 : k_meet1 (ks_T P) b c j false = (k_abort (ks_T P) b c 1 0) := (if_neg h1)
            have e2 : k_kp (k_abort (ks_T P) b c 1 0) c j = _ := if_pos h3
            exact tk_vret X hlk hr d_Model_meet_92 rfl (fun _ h => h) (Or.inr rfl) (kw_st rfl (by rw [em, k_meet, e1]; refine Eq.trans ?_ (if_neg h2).symm; rw [e2]; rfl) rfl)
        · skip
          have e1 : k_meet1 (ks_T P) b c j false = (k_abort (ks_T P) b c 1 0) := (if_neg h1)
          exact tk_vret X hlk hr d_Model_meet_58 rfl (fun _ h => h) (Or.inr rfl) (kw_st rfl (by rw [em, k_meet, e1]; exact (if_pos h2).symm) rfl)
      · skip
        refine tk_iload_n X d_Model_meet_27 rfl rfl ?_
        refine tk_if_eq (tgt := 48) X d_Model_meet_28 (by decide) (fun _ => ?_) (fun h => absurd (by decide) h)
        refine tk_aload_n X d_Model_meet_48 rfl rfl ?_
        refine tk_get X (k := (12, 0, 0)) (dm := ks_dm P) (ks_d0 (by decide)) rfl hc_Model hi_Model 15 (by decide) m_Model_38 (v := .ref (tk_ad (ks_G P) (22, 0, 0))) rfl d_Model_meet_49 ?_
        refine tk_iload X d_Model_meet_52 rfl ?_
        refine kr_iald X (f := 22) (i' := 0) (by decide) (by decide) rfl (by decide) rfl (r_pj_lt hP hc hj) (ks_vk_pj hP hj) rfl d_Model_meet_54 ?_
        refine tk_if_ne (tgt := 59) X d_Model_meet_55 (by decide) (fun h4 => ?_) (fun h4 => ?_)
        · skip
          refine tk_aload_n X d_Model_meet_59 rfl rfl ?_
          refine tk_get X (k := (12, 0, 0)) (dm := ks_dm P) (ks_d0 (by decide)) rfl hc_Model hi_Model 15 (by decide) m_Model_38 (v := .ref (tk_ad (ks_G P) (22, 0, 0))) rfl d_Model_meet_60 ?_
          refine tk_iload X d_Model_meet_63 rfl ?_
          refine kr_iald X (f := 22) (i' := 0) (by decide) (by decide) rfl (by decide) rfl (r_pj_lt hP hc hj) (ks_vk_pj hP hj) rfl d_Model_meet_65 ?_
          refine tk_iconst (v := 2) X d_Model_meet_66 (by decide) ?_
          refine tk_icmp_ne (tgt := 76) X d_Model_meet_67 (by decide) (fun h5 => ?_) (fun h5 => ?_)
          · skip
            refine tk_aload_n X d_Model_meet_76 rfl rfl ?_
            refine tk_get X (k := (12, 0, 0)) (dm := ks_dm P) (ks_d0 (by decide)) rfl hc_Model hi_Model 15 (by decide) m_Model_38 (v := .ref (tk_ad (ks_G P) (22, 0, 0))) rfl d_Model_meet_77 ?_
            refine tk_iload X d_Model_meet_80 rfl ?_
            refine tk_iload_n X d_Model_meet_82 rfl rfl ?_
            refine tk_if_eq (tgt := 90) X d_Model_meet_83 (by decide) (fun _ => ?_) (fun h => absurd (by decide) h)
            refine tk_iconst (v := 1) X d_Model_meet_90 (by decide) ?_
            refine kr_iast X hP (f := 22) (i' := 0) (by decide) (by decide) rfl (by decide) rfl (r_pj_lt hP hc hj) (ks_vk_pj hP hj) rfl d_Model_meet_91 ?_
            have e1 : k_meet1 (ks_T P) b c j false = b := ((if_pos h1).trans (if_neg (by decide)))
            have e2 : k_kp b c j = _ := if_neg h5
            exact tk_vret X hlk hr d_Model_meet_92 rfl (fun _ h => h) (Or.inr rfl) (kw_st rfl (by rw [em, k_meet, e1]; refine Eq.trans ?_ (if_neg h4).symm; rw [e2]; rfl) rfl)
          · skip
            refine tk_aload_n X d_Model_meet_70 rfl rfl ?_
            refine tk_iload X d_Model_meet_71 rfl ?_
            refine tk_callV X (kb := (12, 0, 0)) (ks_d0 (by decide)) rfl hc_Model (c_Model_toMemory l P hP c j hc hj a b o hl) (ks_site (n := 1) mc_Model_toMemory mi_Model (by decide +kernel) (by decide) (by decide)) m_Model_81 ms_Model_toMemory mv_Model_toMemory rfl (Nat.le_of_ble_eq_true rfl) ⟨Nat.le_of_ble_eq_true rfl, Nat.le_of_ble_eq_true rfl⟩ rfl d_Model_meet_73 ?_
            refine tk_aload_n X d_Model_meet_76 rfl rfl ?_
            refine tk_get X (k := (12, 0, 0)) (dm := ks_dm P) (ks_d0 (by decide)) rfl hc_Model hi_Model 15 (by decide) m_Model_38 (v := .ref (tk_ad (ks_G P) (22, 0, 0))) rfl d_Model_meet_77 ?_
            refine tk_iload X d_Model_meet_80 rfl ?_
            refine tk_iload_n X d_Model_meet_82 rfl rfl ?_
            refine tk_if_eq (tgt := 90) X d_Model_meet_83 (by decide) (fun _ => ?_) (fun h => absurd (by decide) h)
            refine tk_iconst (v := 1) X d_Model_meet_90 (by decide) ?_
            refine kr_iast X hP (f := 22) (i' := 0) (by decide) (by decide) rfl (by decide) rfl (r_pj_lt hP hc hj) (ks_vk_pj hP hj) rfl d_Model_meet_91 ?_
            have e1 : k_meet1 (ks_T P) b c j false = b := ((if_pos h1).trans (if_neg (by decide)))
            have e2 : k_kp b c j = _ := if_pos h5
            exact tk_vret X hlk hr d_Model_meet_92 rfl (fun _ h => h) (Or.inr rfl) (kw_st rfl (by rw [em, k_meet, e1]; refine Eq.trans ?_ (if_neg h4).symm; rw [e2]; rfl) rfl)
        · skip
          have e1 : k_meet1 (ks_T P) b c j false = b := ((if_pos h1).trans (if_neg (by decide)))
          exact tk_vret X hlk hr d_Model_meet_58 rfl (fun _ h => h) (Or.inr rfl) (kw_st rfl (by rw [em, k_meet, e1]; exact (if_pos h4).symm) rfl)
  | true =>
    refine tk_of hP.2.2.2.2.2 (by decide) rfl (Nat.le_of_ble_eq_true rfl) ?_
    intro p e s m below meth c0 X hlk hr hnm
    refine tk_aload_n X d_Model_meet_0 rfl rfl ?_
    refine tk_iload_n X d_Model_meet_1 rfl rfl ?_
    refine tk_iload_n X d_Model_meet_2 rfl rfl ?_
    refine tk_callV X (kb := (12, 0, 0)) (ks_d0 (by decide)) rfl hc_Model (c_Model_find l P hP c y hc hy a b o hv.1) (ks_site (n := 2) mc_Model_find mi_Model (by decide +kernel) (by decide) (by decide)) m_Model_73 ms_Model_find mv_Model_find rfl (Nat.le_of_ble_eq_true rfl) ⟨Nat.le_of_ble_eq_true rfl, Nat.le_of_ble_eq_true rfl⟩ rfl d_Model_meet_3 ?_
    cases hf : k_find b c y (ks_W P) (k_first (ks_S P) (ks_W P) y) with
    | none =>
      refine tk_istore X d_Model_meet_6 (by decide) rfl ?_
      refine tk_iload X d_Model_meet_8 rfl ?_
      refine tk_iconst (v := -1) X d_Model_meet_10 (by decide) ?_
      refine tk_icmp_ne (tgt := 15) X d_Model_meet_11 (by decide) (fun h => absurd rfl h) (fun _ => ?_)
      have em : k_met (ks_S P) (ks_W P) b c y true = b := by unfold k_met; rw [hf]
      exact tk_vret X hlk hr d_Model_meet_14 rfl (fun _ h => h) (Or.inr rfl) (kw_st rfl em.symm rfl)
    | some j =>
      have hj : j < ks_T P := k_find_T hP hf
      have hl : q_lin (b (7, c, j) 1) := ⟨y, hy, (k_find_mat b c y _ _ hf).2⟩
      have em : k_met (ks_S P) (ks_W P) b c y true = k_meet (ks_T P) b c j true := by unfold k_met; rw [hf]
      refine tk_istore X d_Model_meet_6 (by decide) rfl ?_
      refine tk_iload X d_Model_meet_8 rfl ?_
      refine tk_iconst (v := -1) X d_Model_meet_10 (by decide) ?_
      refine tk_icmp_ne (tgt := 15) X d_Model_meet_11 (by decide) (fun _ => ?_) (fun h => absurd h (nI_nm1 (Nat.lt_trans (r_pj_lt hP hc hj) (by decide))))
      refine tk_aload_n X d_Model_meet_15 rfl rfl ?_
      refine tk_get X (k := (12, 0, 0)) (dm := ks_dm P) (ks_d0 (by decide)) rfl hc_Model hi_Model 17 (by decide) m_Model_44 (v := .ref (tk_ad (ks_G P) (24, 0, 0))) rfl d_Model_meet_16 ?_
      refine tk_iload X d_Model_meet_19 rfl ?_
      refine kr_iald X (f := 24) (i' := 2) (by decide) (by decide) rfl (by decide) rfl (r_pj_lt hP hc hj) (ks_vk_pj hP hj) rfl d_Model_meet_21 ?_
      refine tk_iconst (v := 2) X d_Model_meet_22 (by decide) ?_
      refine tk_iand X d_Model_meet_23 ?_
      refine tk_if_ne (tgt := 41) X d_Model_meet_24 (by decide) (fun h1 => ?_) (fun h1 => ?_)
      · skip
        refine tk_aload_n X d_Model_meet_41 rfl rfl ?_
        refine tk_iload_n X d_Model_meet_42 rfl rfl ?_
        refine tk_iconst (v := 1) X d_Model_meet_43 (by decide) ?_
        refine tk_iconst (v := 1) X d_Model_meet_44 (by decide) ?_
        refine tk_callV X (kb := (12, 0, 0)) (ks_d0 (by decide)) rfl hc_Model (c_Model_abortK l P hP c 1 hc (by decide) 0 1 (by decide) a b o hv.2.1) (ks_site (n := 3) mc_Model_abort mi_Model (by decide +kernel) (by decide) (by decide)) m_Model_77 ms_Model_abort mv_Model_abort rfl (Nat.le_of_ble_eq_true rfl) ⟨Nat.le_of_ble_eq_true rfl, Nat.le_of_ble_eq_true rfl⟩ rfl d_Model_meet_45 ?_
        refine tk_aload_n X d_Model_meet_48 rfl rfl ?_
        refine tk_get X (k := (12, 0, 0)) (dm := ks_dm P) (ks_d0 (by decide)) rfl hc_Model hi_Model 15 (by decide) m_Model_38 (v := .ref (tk_ad (ks_G P) (22, 0, 0))) rfl d_Model_meet_49 ?_
        refine tk_iload X d_Model_meet_52 rfl ?_
        refine kr_iald X (f := 22) (i' := 0) (by decide) (by decide) rfl (by decide) rfl (r_pj_lt hP hc hj) (ks_vk_pj hP hj) rfl d_Model_meet_54 ?_
        refine tk_if_ne (tgt := 59) X d_Model_meet_55 (by decide) (fun h2 => ?_) (fun h2 => ?_)
        · skip
          refine tk_aload_n X d_Model_meet_59 rfl rfl ?_
          refine tk_get X (k := (12, 0, 0)) (dm := ks_dm P) (ks_d0 (by decide)) rfl hc_Model hi_Model 15 (by decide) m_Model_38 (v := .ref (tk_ad (ks_G P) (22, 0, 0))) rfl d_Model_meet_60 ?_
          refine tk_iload X d_Model_meet_63 rfl ?_
          refine kr_iald X (f := 22) (i' := 0) (by decide) (by decide) rfl (by decide) rfl (r_pj_lt hP hc hj) (ks_vk_pj hP hj) rfl d_Model_meet_65 ?_
          refine tk_iconst (v := 2) X d_Model_meet_66 (by decide) ?_
          refine tk_icmp_ne (tgt := 76) X d_Model_meet_67 (by decide) (fun h3 => ?_) (fun h3 => ?_)
          · skip
            refine tk_aload_n X d_Model_meet_76 rfl rfl ?_
            refine tk_get X (k := (12, 0, 0)) (dm := ks_dm P) (ks_d0 (by decide)) rfl hc_Model hi_Model 15 (by decide) m_Model_38 (v := .ref (tk_ad (ks_G P) (22, 0, 0))) rfl d_Model_meet_77 ?_
            refine tk_iload X d_Model_meet_80 rfl ?_
            refine tk_iload_n X d_Model_meet_82 rfl rfl ?_
            refine tk_if_eq (tgt := 90) X d_Model_meet_83 (by decide) (fun h => absurd h (by decide)) (fun _ => ?_)
            refine tk_iconst (v := 0) X d_Model_meet_86 (by decide) ?_
            refine tk_goto (tgt := 91) X d_Model_meet_87 (by decide) ?_
            refine kr_iast X hP (f := 22) (i' := 0) (by decide) (by decide) rfl (by decide) rfl (r_pj_lt hP hc hj) (ks_vk_pj hP hj) rfl d_Model_meet_91 ?_
            have e1 : k_meet1 (ks_T P) b c j true = (k_abort (ks_T P) b c 1 0) := (if_neg h1)
            have e2 : k_kp (k_abort (ks_T P) b c 1 0) c j = _ := if_neg h3
            exact tk_vret X hlk hr d_Model_meet_92 rfl (fun _ h => h) (Or.inr rfl) (kw_st rfl (by rw [em, k_meet, e1]; refine Eq.trans ?_ (if_neg h2).symm; rw [e2]; rfl) rfl)
          · skip
            refine tk_aload_n X d_Model_meet_70 rfl rfl ?_
            refine tk_iload X d_Model_meet_71 rfl ?_
            refine tk_callV X (kb := (12, 0, 0)) (ks_d0 (by decide)) rfl hc_Model (c_Model_toMemory l P hP c j hc hj a (k_abort (ks_T P) b c 1 0) o (by rw [k_abort_abv, k_ab_i _ _ _ _ _ _ _ (by decide) (by decide)]; exact hl)) (ks_site (n := 1) mc_Model_toMemory mi_Model (by decide +kernel) (by decide) (by decide)) m_Model_81 ms_Model_toMemory mv_Model_toMemory rfl (Nat.le_of_ble_eq_true rfl) ⟨Nat.le_of_ble_eq_true rfl, Nat.le_of_ble_eq_true rfl⟩ rfl d_Model_meet_73 ?_
            refine tk_aload_n X d_Model_meet_76 rfl rfl ?_
            refine tk_get X (k := (12, 0, 0)) (dm := ks_dm P) (ks_d0 (by decide)) rfl hc_Model hi_Model 15 (by decide) m_Model_38 (v := .ref (tk_ad (ks_G P) (22, 0, 0))) rfl d_Model_meet_77 ?_
            refine tk_iload X d_Model_meet_80 rfl ?_
            refine tk_iload_n X d_Model_meet_82 rfl rfl ?_
            refine tk_if_eq (tgt := 90) X d_Model_meet_83 (by decide) (fun h => absurd h (by decide)) (fun _ => ?_)
            refine tk_iconst (v := 0) X d_Model_meet_86 (by decide) ?_
            refine tk_goto (tgt := 91) X d_Model_meet_87 (by decide) ?_
            refine kr_iast X hP (f := 22) (i' := 0) (by decide) (by decide) rfl (by decide) rfl (r_pj_lt hP hc hj) (ks_vk_pj hP hj) rfl d_Model_meet_91 ?_
            have e1 : k_meet1 (ks_T P) b c j true = (k_abort (ks_T P) b c 1 0) := (if_neg h1)
            have e2 : k_kp (k_abort (ks_T P) b c 1 0) c j = _ := if_pos h3
            exact tk_vret X hlk hr d_Model_meet_92 rfl (fun _ h => h) (Or.inr rfl) (kw_st rfl (by rw [em, k_meet, e1]; refine Eq.trans ?_ (if_neg h2).symm; rw [e2]; rfl) rfl)
        · skip
          have e1 : k_meet1 (ks_T P) b c j true = (k_abort (ks_T P) b c 1 0) := (if_neg h1)
          exact tk_vret X hlk hr d_Model_meet_58 rfl (fun _ h => h) (Or.inr rfl) (kw_st rfl (by rw [em, k_meet, e1]; exact (if_pos h2).symm) rfl)
      · skip
        refine tk_iload_n X d_Model_meet_27 rfl rfl ?_
        refine tk_if_eq (tgt := 48) X d_Model_meet_28 (by decide) (fun h => absurd h (by decide)) (fun _ => ?_)
        refine tk_aload_n X d_Model_meet_31 rfl rfl ?_
        refine tk_get X (k := (12, 0, 0)) (dm := ks_dm P) (ks_d0 (by decide)) rfl hc_Model hi_Model 17 (by decide) m_Model_44 (v := .ref (tk_ad (ks_G P) (24, 0, 0))) rfl d_Model_meet_32 ?_
        refine tk_iload X d_Model_meet_35 rfl ?_
        refine kr_iald X (f := 24) (i' := 2) (by decide) (by decide) rfl (by decide) rfl (r_pj_lt hP hc hj) (ks_vk_pj hP hj) rfl d_Model_meet_37 ?_
        refine tk_if_eq (tgt := 48) X d_Model_meet_38 (by decide) (fun h4 => ?_) (fun h4 => ?_)
        · skip
          refine tk_aload_n X d_Model_meet_48 rfl rfl ?_
          refine tk_get X (k := (12, 0, 0)) (dm := ks_dm P) (ks_d0 (by decide)) rfl hc_Model hi_Model 15 (by decide) m_Model_38 (v := .ref (tk_ad (ks_G P) (22, 0, 0))) rfl d_Model_meet_49 ?_
          refine tk_iload X d_Model_meet_52 rfl ?_
          refine kr_iald X (f := 22) (i' := 0) (by decide) (by decide) rfl (by decide) rfl (r_pj_lt hP hc hj) (ks_vk_pj hP hj) rfl d_Model_meet_54 ?_
          refine tk_if_ne (tgt := 59) X d_Model_meet_55 (by decide) (fun h5 => ?_) (fun h5 => ?_)
          · skip
            refine tk_aload_n X d_Model_meet_59 rfl rfl ?_
            refine tk_get X (k := (12, 0, 0)) (dm := ks_dm P) (ks_d0 (by decide)) rfl hc_Model hi_Model 15 (by decide) m_Model_38 (v := .ref (tk_ad (ks_G P) (22, 0, 0))) rfl d_Model_meet_60 ?_
            refine tk_iload X d_Model_meet_63 rfl ?_
            refine kr_iald X (f := 22) (i' := 0) (by decide) (by decide) rfl (by decide) rfl (r_pj_lt hP hc hj) (ks_vk_pj hP hj) rfl d_Model_meet_65 ?_
            refine tk_iconst (v := 2) X d_Model_meet_66 (by decide) ?_
            refine tk_icmp_ne (tgt := 76) X d_Model_meet_67 (by decide) (fun h6 => ?_) (fun h6 => ?_)
            · skip
              refine tk_aload_n X d_Model_meet_76 rfl rfl ?_
              refine tk_get X (k := (12, 0, 0)) (dm := ks_dm P) (ks_d0 (by decide)) rfl hc_Model hi_Model 15 (by decide) m_Model_38 (v := .ref (tk_ad (ks_G P) (22, 0, 0))) rfl d_Model_meet_77 ?_
              refine tk_iload X d_Model_meet_80 rfl ?_
              refine tk_iload_n X d_Model_meet_82 rfl rfl ?_
              refine tk_if_eq (tgt := 90) X d_Model_meet_83 (by decide) (fun h => absurd h (by decide)) (fun _ => ?_)
              refine tk_iconst (v := 0) X d_Model_meet_86 (by decide) ?_
              refine tk_goto (tgt := 91) X d_Model_meet_87 (by decide) ?_
              refine kr_iast X hP (f := 22) (i' := 0) (by decide) (by decide) rfl (by decide) rfl (r_pj_lt hP hc hj) (ks_vk_pj hP hj) rfl d_Model_meet_91 ?_
              have e1 : k_meet1 (ks_T P) b c j true = b := (((if_pos h1).trans (if_pos rfl)).trans (if_pos h4))
              have e2 : k_kp b c j = _ := if_neg h6
              exact tk_vret X hlk hr d_Model_meet_92 rfl (fun _ h => h) (Or.inr rfl) (kw_st rfl (by rw [em, k_meet, e1]; refine Eq.trans ?_ (if_neg h5).symm; rw [e2]; rfl) rfl)
            · skip
              refine tk_aload_n X d_Model_meet_70 rfl rfl ?_
              refine tk_iload X d_Model_meet_71 rfl ?_
              refine tk_callV X (kb := (12, 0, 0)) (ks_d0 (by decide)) rfl hc_Model (c_Model_toMemory l P hP c j hc hj a b o hl) (ks_site (n := 1) mc_Model_toMemory mi_Model (by decide +kernel) (by decide) (by decide)) m_Model_81 ms_Model_toMemory mv_Model_toMemory rfl (Nat.le_of_ble_eq_true rfl) ⟨Nat.le_of_ble_eq_true rfl, Nat.le_of_ble_eq_true rfl⟩ rfl d_Model_meet_73 ?_
              refine tk_aload_n X d_Model_meet_76 rfl rfl ?_
              refine tk_get X (k := (12, 0, 0)) (dm := ks_dm P) (ks_d0 (by decide)) rfl hc_Model hi_Model 15 (by decide) m_Model_38 (v := .ref (tk_ad (ks_G P) (22, 0, 0))) rfl d_Model_meet_77 ?_
              refine tk_iload X d_Model_meet_80 rfl ?_
              refine tk_iload_n X d_Model_meet_82 rfl rfl ?_
              refine tk_if_eq (tgt := 90) X d_Model_meet_83 (by decide) (fun h => absurd h (by decide)) (fun _ => ?_)
              refine tk_iconst (v := 0) X d_Model_meet_86 (by decide) ?_
              refine tk_goto (tgt := 91) X d_Model_meet_87 (by decide) ?_
              refine kr_iast X hP (f := 22) (i' := 0) (by decide) (by decide) rfl (by decide) rfl (r_pj_lt hP hc hj) (ks_vk_pj hP hj) rfl d_Model_meet_91 ?_
              have e1 : k_meet1 (ks_T P) b c j true = b := (((if_pos h1).trans (if_pos rfl)).trans (if_pos h4))
              have e2 : k_kp b c j = _ := if_pos h6
              exact tk_vret X hlk hr d_Model_meet_92 rfl (fun _ h => h) (Or.inr rfl) (kw_st rfl (by rw [em, k_meet, e1]; refine Eq.trans ?_ (if_neg h5).symm; rw [e2]; rfl) rfl)
          · skip
            have e1 : k_meet1 (ks_T P) b c j true = b := (((if_pos h1).trans (if_pos rfl)).trans (if_pos h4))
            exact tk_vret X hlk hr d_Model_meet_58 rfl (fun _ h => h) (Or.inr rfl) (kw_st rfl (by rw [em, k_meet, e1]; exact (if_pos h5).symm) rfl)
        · skip
          refine tk_aload_n X d_Model_meet_41 rfl rfl ?_
          refine tk_iload_n X d_Model_meet_42 rfl rfl ?_
          refine tk_iconst (v := 1) X d_Model_meet_43 (by decide) ?_
          refine tk_iconst (v := 1) X d_Model_meet_44 (by decide) ?_
          refine tk_callV X (kb := (12, 0, 0)) (ks_d0 (by decide)) rfl hc_Model (c_Model_abortK l P hP c 1 hc (by decide) 0 1 (by decide) a b o hv.2.1) (ks_site (n := 3) mc_Model_abort mi_Model (by decide +kernel) (by decide) (by decide)) m_Model_77 ms_Model_abort mv_Model_abort rfl (Nat.le_of_ble_eq_true rfl) ⟨Nat.le_of_ble_eq_true rfl, Nat.le_of_ble_eq_true rfl⟩ rfl d_Model_meet_45 ?_
          refine tk_aload_n X d_Model_meet_48 rfl rfl ?_
          refine tk_get X (k := (12, 0, 0)) (dm := ks_dm P) (ks_d0 (by decide)) rfl hc_Model hi_Model 15 (by decide) m_Model_38 (v := .ref (tk_ad (ks_G P) (22, 0, 0))) rfl d_Model_meet_49 ?_
          refine tk_iload X d_Model_meet_52 rfl ?_
          refine kr_iald X (f := 22) (i' := 0) (by decide) (by decide) rfl (by decide) rfl (r_pj_lt hP hc hj) (ks_vk_pj hP hj) rfl d_Model_meet_54 ?_
          refine tk_if_ne (tgt := 59) X d_Model_meet_55 (by decide) (fun h7 => ?_) (fun h7 => ?_)
          · skip
            refine tk_aload_n X d_Model_meet_59 rfl rfl ?_
            refine tk_get X (k := (12, 0, 0)) (dm := ks_dm P) (ks_d0 (by decide)) rfl hc_Model hi_Model 15 (by decide) m_Model_38 (v := .ref (tk_ad (ks_G P) (22, 0, 0))) rfl d_Model_meet_60 ?_
            refine tk_iload X d_Model_meet_63 rfl ?_
            refine kr_iald X (f := 22) (i' := 0) (by decide) (by decide) rfl (by decide) rfl (r_pj_lt hP hc hj) (ks_vk_pj hP hj) rfl d_Model_meet_65 ?_
            refine tk_iconst (v := 2) X d_Model_meet_66 (by decide) ?_
            refine tk_icmp_ne (tgt := 76) X d_Model_meet_67 (by decide) (fun h8 => ?_) (fun h8 => ?_)
            · skip
              refine tk_aload_n X d_Model_meet_76 rfl rfl ?_
              refine tk_get X (k := (12, 0, 0)) (dm := ks_dm P) (ks_d0 (by decide)) rfl hc_Model hi_Model 15 (by decide) m_Model_38 (v := .ref (tk_ad (ks_G P) (22, 0, 0))) rfl d_Model_meet_77 ?_
              refine tk_iload X d_Model_meet_80 rfl ?_
              refine tk_iload_n X d_Model_meet_82 rfl rfl ?_
              refine tk_if_eq (tgt := 90) X d_Model_meet_83 (by decide) (fun h => absurd h (by decide)) (fun _ => ?_)
              refine tk_iconst (v := 0) X d_Model_meet_86 (by decide) ?_
              refine tk_goto (tgt := 91) X d_Model_meet_87 (by decide) ?_
              refine kr_iast X hP (f := 22) (i' := 0) (by decide) (by decide) rfl (by decide) rfl (r_pj_lt hP hc hj) (ks_vk_pj hP hj) rfl d_Model_meet_91 ?_
              have e1 : k_meet1 (ks_T P) b c j true = (k_abort (ks_T P) b c 1 0) := (((if_pos h1).trans (if_pos rfl)).trans (if_neg h4))
              have e2 : k_kp (k_abort (ks_T P) b c 1 0) c j = _ := if_neg h8
              exact tk_vret X hlk hr d_Model_meet_92 rfl (fun _ h => h) (Or.inr rfl) (kw_st rfl (by rw [em, k_meet, e1]; refine Eq.trans ?_ (if_neg h7).symm; rw [e2]; rfl) rfl)
            · skip
              refine tk_aload_n X d_Model_meet_70 rfl rfl ?_
              refine tk_iload X d_Model_meet_71 rfl ?_
              refine tk_callV X (kb := (12, 0, 0)) (ks_d0 (by decide)) rfl hc_Model (c_Model_toMemory l P hP c j hc hj a (k_abort (ks_T P) b c 1 0) o (by rw [k_abort_abv, k_ab_i _ _ _ _ _ _ _ (by decide) (by decide)]; exact hl)) (ks_site (n := 1) mc_Model_toMemory mi_Model (by decide +kernel) (by decide) (by decide)) m_Model_81 ms_Model_toMemory mv_Model_toMemory rfl (Nat.le_of_ble_eq_true rfl) ⟨Nat.le_of_ble_eq_true rfl, Nat.le_of_ble_eq_true rfl⟩ rfl d_Model_meet_73 ?_
              refine tk_aload_n X d_Model_meet_76 rfl rfl ?_
              refine tk_get X (k := (12, 0, 0)) (dm := ks_dm P) (ks_d0 (by decide)) rfl hc_Model hi_Model 15 (by decide) m_Model_38 (v := .ref (tk_ad (ks_G P) (22, 0, 0))) rfl d_Model_meet_77 ?_
              refine tk_iload X d_Model_meet_80 rfl ?_
              refine tk_iload_n X d_Model_meet_82 rfl rfl ?_
              refine tk_if_eq (tgt := 90) X d_Model_meet_83 (by decide) (fun h => absurd h (by decide)) (fun _ => ?_)
              refine tk_iconst (v := 0) X d_Model_meet_86 (by decide) ?_
              refine tk_goto (tgt := 91) X d_Model_meet_87 (by decide) ?_
              refine kr_iast X hP (f := 22) (i' := 0) (by decide) (by decide) rfl (by decide) rfl (r_pj_lt hP hc hj) (ks_vk_pj hP hj) rfl d_Model_meet_91 ?_
              have e1 : k_meet1 (ks_T P) b c j true = (k_abort (ks_T P) b c 1 0) := (((if_pos h1).trans (if_pos rfl)).trans (if_neg h4))
              have e2 : k_kp (k_abort (ks_T P) b c 1 0) c j = _ := if_pos h8
              exact tk_vret X hlk hr d_Model_meet_92 rfl (fun _ h => h) (Or.inr rfl) (kw_st rfl (by rw [em, k_meet, e1]; refine Eq.trans ?_ (if_neg h7).symm; rw [e2]; rfl) rfl)
          · skip
            have e1 : k_meet1 (ks_T P) b c j true = (k_abort (ks_T P) b c 1 0) := (((if_pos h1).trans (if_pos rfl)).trans (if_neg h4))
            exact tk_vret X hlk hr d_Model_meet_58 rfl (fun _ h => h) (Or.inr rfl) (kw_st rfl (by rw [em, k_meet, e1]; exact (if_pos h7).symm) rfl)
