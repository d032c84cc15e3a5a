set_option maxRecDepth 100000 in
set_option maxHeartbeats 4000000 in
theorem c_Model_moved (l : Launch) (P : ks_P) (hP : ks_ok P) (c r : Nat) (hc : c < ks_n P) (hr : r < 8) (x : Int32) (w : Bool) (a b : ks_M) (o : ks_O) (hV : r_V (ks_n P) (ks_T P) b) : kc l P y_Model_moved b_Model_moved 7 (some .int) 4 [.ref (tk_ad (ks_G P) (12, 0, 0)), .int (nI c), .int (nI (8 * c + r)), .int x, .int (q_b w)] a b o (some (.int (k_mv (ks_n P) (ks_S P) (ks_W P) b c r x w).1)) a (k_mv (ks_n P) (ks_S P) (ks_W P) b c r x w).2 o := by
  have hn64 := ks_n64 hP
  have hT64 := ks_T64 hP
  have hc3 : c < 3 := by have := hP.2.1; omega
  cases w with
  | false =>
    refine tk_of hP.2.2.2.2.2 (by decide) rfl (Nat.le_of_ble_eq_true rfl) ?_
    intro p e s m below meth c0 X hlk hret hnm
    refine tk_aload_n X d_Model_moved_0 rfl rfl ?_
    refine tk_iload_n X d_Model_moved_1 rfl rfl ?_
    refine tk_iload_n X d_Model_moved_2 rfl rfl ?_
    refine tk_bipush (v := 63) X d_Model_moved_3 (by decide) ?_
    refine tk_iand X d_Model_moved_5 ?_
    refine tk_iconst (v := 2) X d_Model_moved_6 (by decide) ?_
    refine tk_idiv X d_Model_moved_7 (by decide) ?_
    rw [q_dv x]
    refine tk_iload X d_Model_moved_8 rfl ?_
    refine tk_callV X (kb := (12, 0, 0)) (ks_d0 (by decide)) rfl hc_Model (c_Model_access l P hP c (q_ln x) hc (q_ln_lt x) false a b o hV) (ks_site (n := 3) mc_Model_access mi_Model (by decide +kernel) (by decide) (by decide)) m_Model_113 ms_Model_access mv_Model_access rfl (Nat.le_of_ble_eq_true rfl) ⟨Nat.le_of_ble_eq_true rfl, Nat.le_of_ble_eq_true rfl⟩ rfl d_Model_moved_10 ?_
    cases hf : (k_acc (ks_n P) (ks_S P) (ks_W P) b c (q_ln x) false).1 with
    | none =>
      refine tk_istore X d_Model_moved_13 (by decide) rfl ?_
      refine tk_iload X d_Model_moved_15 rfl ?_
      refine tk_iconst (v := -1) X d_Model_moved_17 (by decide) ?_
      refine tk_icmp_ne (tgt := 23) X d_Model_moved_18 (by decide) (fun h => absurd rfl h) (fun _ => ?_)
      refine tk_iconst (v := 2) X d_Model_moved_21 (by decide) ?_
      have e1 : k_mv (ks_n P) (ks_S P) (ks_W P) b c r x false = (2, (k_acc (ks_n P) (ks_S P) (ks_W P) b c (q_ln x) false).2) := by unfold k_mv; rw [hf]
      exact tk_iret X hlk hret d_Model_moved_22 (by rw [e1]) (fun _ h => h) (Or.inr rfl) (kw_st rfl (by rw [e1]) rfl)
    | some j =>
      have hj : j < ks_T P := k_acc_lt hP hf
      refine tk_istore X d_Model_moved_13 (by decide) rfl ?_
      refine tk_iload X d_Model_moved_15 rfl ?_
      refine tk_iconst (v := -1) X d_Model_moved_17 (by decide) ?_
      refine tk_icmp_ne (tgt := 23) X d_Model_moved_18 (by decide) (fun _ => ?_) (fun h => absurd h (nI_nm1 (Nat.lt_trans (r_pj_lt hP hc hj) (by decide))))
      refine tk_iload_n X d_Model_moved_23 rfl rfl ?_
      refine tk_iconst (v := 1) X d_Model_moved_24 (by decide) ?_
      refine tk_iand X d_Model_moved_25 ?_
      refine tk_if_ne (tgt := 33) X d_Model_moved_26 (by decide) (fun h1 => ?_) (fun h1 => ?_)
      · skip
        refine tk_iconst (v := 0) X d_Model_moved_33 (by decide) ?_
        refine tk_istore X d_Model_moved_34 (by decide) rfl ?_
        refine tk_iload X d_Model_moved_36 rfl ?_
        refine tk_if_ne (tgt := 72) X d_Model_moved_38 (by decide) (fun h => absurd (by decide) h) (fun _ => ?_)
        refine tk_aload_n X d_Model_moved_41 rfl rfl ?_
        refine tk_get X (k := (12, 0, 0)) (dm := ks_dm P) (ks_d0 (by decide)) rfl hc_Model hi_Model 7 (by decide) m_Model_13 (v := .ref (tk_ad (ks_G P) (14, 0, 0))) rfl d_Model_moved_42 ?_
        refine tk_iload_n X d_Model_moved_45 rfl rfl ?_
        refine tk_iload X d_Model_moved_46 rfl ?_
        refine tk_if_eq (tgt := 61) X d_Model_moved_48 (by decide) (fun _ => ?_) (fun h => absurd (by decide) h)
        refine tk_aload_n X d_Model_moved_61 rfl rfl ?_
        refine tk_get X (k := (12, 0, 0)) (dm := ks_dm P) (ks_d0 (by decide)) rfl hc_Model hi_Model 19 (by decide) m_Model_50 (v := .ref (tk_ad (ks_G P) (26, 0, 0))) rfl d_Model_moved_62 ?_
        refine tk_iload X d_Model_moved_65 rfl ?_
        refine kr_iald X (f := 26) (i' := 4) (by decide) (by decide) rfl (by decide) rfl (r_pj_lt hP hc hj) (ks_vk_pj hP hj) rfl d_Model_moved_67 ?_
        refine kr_iast X hP (f := 14) (i' := r) (by decide) (by decide) rfl (by decide) rfl (by omega) (v8k 9 hr) (v8i hr) d_Model_moved_68 ?_
        refine tk_goto (tgt := 106) X d_Model_moved_69 (by decide) ?_
        refine tk_iconst (v := 4) X d_Model_moved_106 (by decide) ?_
        have e2 : ks_up (k_acc (ks_n P) (ks_S P) (ks_W P) b c (q_ln x) false).2 (9, c, 0) r (k_wget (k_acc (ks_n P) (ks_S P) (ks_W P) b c (q_ln x) false).2 c j x) = ks_up (k_acc (ks_n P) (ks_S P) (ks_W P) b c (q_ln x) false).2 (9, c, 0) r ((k_acc (ks_n P) (ks_S P) (ks_W P) b c (q_ln x) false).2 (7, c, j) 4) := by rw [show k_wget (k_acc (ks_n P) (ks_S P) (ks_W P) b c (q_ln x) false).2 c j x = _ from if_neg h1]
        have e1 : k_mv (ks_n P) (ks_S P) (ks_W P) b c r x false = (4, ks_up (k_acc (ks_n P) (ks_S P) (ks_W P) b c (q_ln x) false).2 (9, c, 0) r ((k_acc (ks_n P) (ks_S P) (ks_W P) b c (q_ln x) false).2 (7, c, j) 4)) := by unfold k_mv; rw [hf, ← e2]; rfl
        exact tk_iret X hlk hret d_Model_moved_107 (by rw [e1]) (fun _ h => h) (Or.inr rfl) (kw_st rfl (by rw [e1]) rfl)
      · skip
        refine tk_iconst (v := 1) X d_Model_moved_29 (by decide) ?_
        refine tk_goto (tgt := 34) X d_Model_moved_30 (by decide) ?_
        refine tk_istore X d_Model_moved_34 (by decide) rfl ?_
        refine tk_iload X d_Model_moved_36 rfl ?_
        refine tk_if_ne (tgt := 72) X d_Model_moved_38 (by decide) (fun h => absurd (by decide) h) (fun _ => ?_)
        refine tk_aload_n X d_Model_moved_41 rfl rfl ?_
        refine tk_get X (k := (12, 0, 0)) (dm := ks_dm P) (ks_d0 (by decide)) rfl hc_Model hi_Model 7 (by decide) m_Model_13 (v := .ref (tk_ad (ks_G P) (14, 0, 0))) rfl d_Model_moved_42 ?_
        refine tk_iload_n X d_Model_moved_45 rfl rfl ?_
        refine tk_iload X d_Model_moved_46 rfl ?_
        refine tk_if_eq (tgt := 61) X d_Model_moved_48 (by decide) (fun h => absurd h (by decide)) (fun _ => ?_)
        refine tk_aload_n X d_Model_moved_51 rfl rfl ?_
        refine tk_get X (k := (12, 0, 0)) (dm := ks_dm P) (ks_d0 (by decide)) rfl hc_Model hi_Model 18 (by decide) m_Model_47 (v := .ref (tk_ad (ks_G P) (25, 0, 0))) rfl d_Model_moved_52 ?_
        refine tk_iload X d_Model_moved_55 rfl ?_
        refine kr_iald X (f := 25) (i' := 3) (by decide) (by decide) rfl (by decide) rfl (r_pj_lt hP hc hj) (ks_vk_pj hP hj) rfl d_Model_moved_57 ?_
        refine tk_goto (tgt := 68) X d_Model_moved_58 (by decide) ?_
        refine kr_iast X hP (f := 14) (i' := r) (by decide) (by decide) rfl (by decide) rfl (by omega) (v8k 9 hr) (v8i hr) d_Model_moved_68 ?_
        refine tk_goto (tgt := 106) X d_Model_moved_69 (by decide) ?_
        refine tk_iconst (v := 4) X d_Model_moved_106 (by decide) ?_
        have e2 : ks_up (k_acc (ks_n P) (ks_S P) (ks_W P) b c (q_ln x) false).2 (9, c, 0) r (k_wget (k_acc (ks_n P) (ks_S P) (ks_W P) b c (q_ln x) false).2 c j x) = ks_up (k_acc (ks_n P) (ks_S P) (ks_W P) b c (q_ln x) false).2 (9, c, 0) r ((k_acc (ks_n P) (ks_S P) (ks_W P) b c (q_ln x) false).2 (7, c, j) 3) := by rw [show k_wget (k_acc (ks_n P) (ks_S P) (ks_W P) b c (q_ln x) false).2 c j x = _ from if_pos h1]
        have e1 : k_mv (ks_n P) (ks_S P) (ks_W P) b c r x false = (4, ks_up (k_acc (ks_n P) (ks_S P) (ks_W P) b c (q_ln x) false).2 (9, c, 0) r ((k_acc (ks_n P) (ks_S P) (ks_W P) b c (q_ln x) false).2 (7, c, j) 3)) := by unfold k_mv; rw [hf, ← e2]; rfl
        exact tk_iret X hlk hret d_Model_moved_107 (by rw [e1]) (fun _ h => h) (Or.inr rfl) (kw_st rfl (by rw [e1]) rfl)
  | true =>
    refine tk_of hP.2.2.2.2.2 (by decide) rfl (Nat.le_of_ble_eq_true rfl) ?_
    intro p e s m below meth c0 X hlk hret hnm
    refine tk_aload_n X d_Model_moved_0 rfl rfl ?_
    refine tk_iload_n X d_Model_moved_1 rfl rfl ?_
    refine tk_iload_n X d_Model_moved_2 rfl rfl ?_
    refine tk_bipush (v := 63) X d_Model_moved_3 (by decide) ?_
    refine tk_iand X d_Model_moved_5 ?_
    refine tk_iconst (v := 2) X d_Model_moved_6 (by decide) ?_
    refine tk_idiv X d_Model_moved_7 (by decide) ?_
    rw [q_dv x]
    refine tk_iload X d_Model_moved_8 rfl ?_
    refine tk_callV X (kb := (12, 0, 0)) (ks_d0 (by decide)) rfl hc_Model (c_Model_access l P hP c (q_ln x) hc (q_ln_lt x) true a b o hV) (ks_site (n := 3) mc_Model_access mi_Model (by decide +kernel) (by decide) (by decide)) m_Model_113 ms_Model_access mv_Model_access rfl (Nat.le_of_ble_eq_true rfl) ⟨Nat.le_of_ble_eq_true rfl, Nat.le_of_ble_eq_true rfl⟩ rfl d_Model_moved_10 ?_
    cases hf : (k_acc (ks_n P) (ks_S P) (ks_W P) b c (q_ln x) true).1 with
    | none =>
      refine tk_istore X d_Model_moved_13 (by decide) rfl ?_
      refine tk_iload X d_Model_moved_15 rfl ?_
      refine tk_iconst (v := -1) X d_Model_moved_17 (by decide) ?_
      refine tk_icmp_ne (tgt := 23) X d_Model_moved_18 (by decide) (fun h => absurd rfl h) (fun _ => ?_)
      refine tk_iconst (v := 2) X d_Model_moved_21 (by decide) ?_
      have e1 : k_mv (ks_n P) (ks_S P) (ks_W P) b c r x true = (2, (k_acc (ks_n P) (ks_S P) (ks_W P) b c (q_ln x) true).2) := by unfold k_mv; rw [hf]
      exact tk_iret X hlk hret d_Model_moved_22 (by rw [e1]) (fun _ h => h) (Or.inr rfl) (kw_st rfl (by rw [e1]) rfl)
    | some j =>
      have hj : j < ks_T P := k_acc_lt hP hf
      refine tk_istore X d_Model_moved_13 (by decide) rfl ?_
      refine tk_iload X d_Model_moved_15 rfl ?_
      refine tk_iconst (v := -1) X d_Model_moved_17 (by decide) ?_
      refine tk_icmp_ne (tgt := 23) X d_Model_moved_18 (by decide) (fun _ => ?_) (fun h => absurd h (nI_nm1 (Nat.lt_trans (r_pj_lt hP hc hj) (by decide))))
      refine tk_iload_n X d_Model_moved_23 rfl rfl ?_
      refine tk_iconst (v := 1) X d_Model_moved_24 (by decide) ?_
      refine tk_iand X d_Model_moved_25 ?_
      refine tk_if_ne (tgt := 33) X d_Model_moved_26 (by decide) (fun h1 => ?_) (fun h1 => ?_)
      · skip
        refine tk_iconst (v := 0) X d_Model_moved_33 (by decide) ?_
        refine tk_istore X d_Model_moved_34 (by decide) rfl ?_
        refine tk_iload X d_Model_moved_36 rfl ?_
        refine tk_if_ne (tgt := 72) X d_Model_moved_38 (by decide) (fun _ => ?_) (fun h => absurd h (by decide))
        refine tk_iload X d_Model_moved_72 rfl ?_
        refine tk_if_eq (tgt := 93) X d_Model_moved_74 (by decide) (fun _ => ?_) (fun h => absurd (by decide) h)
        refine tk_aload_n X d_Model_moved_93 rfl rfl ?_
        refine tk_get X (k := (12, 0, 0)) (dm := ks_dm P) (ks_d0 (by decide)) rfl hc_Model hi_Model 19 (by decide) m_Model_50 (v := .ref (tk_ad (ks_G P) (26, 0, 0))) rfl d_Model_moved_94 ?_
        refine tk_iload X d_Model_moved_97 rfl ?_
        refine tk_aload_n X d_Model_moved_99 rfl rfl ?_
        refine tk_get X (k := (12, 0, 0)) (dm := ks_dm P) (ks_d0 (by decide)) rfl hc_Model hi_Model 7 (by decide) m_Model_13 (v := .ref (tk_ad (ks_G P) (14, 0, 0))) rfl d_Model_moved_100 ?_
        refine tk_iload_n X d_Model_moved_103 rfl rfl ?_
        refine kr_iald X (f := 14) (i' := r) (by decide) (by decide) rfl (by decide) rfl (by omega) (v8k 9 hr) (v8i hr) d_Model_moved_104 ?_
        refine kr_iast X hP (f := 26) (i' := 4) (by decide) (by decide) rfl (by decide) rfl (r_pj_lt hP hc hj) (ks_vk_pj hP hj) rfl d_Model_moved_105 ?_
        refine tk_iconst (v := 4) X d_Model_moved_106 (by decide) ?_
        have e2 : k_wput (k_acc (ks_n P) (ks_S P) (ks_W P) b c (q_ln x) true).2 c j x ((k_acc (ks_n P) (ks_S P) (ks_W P) b c (q_ln x) true).2 (9, c, 0) r) = ks_up (k_acc (ks_n P) (ks_S P) (ks_W P) b c (q_ln x) true).2 (7, c, j) 4 ((k_acc (ks_n P) (ks_S P) (ks_W P) b c (q_ln x) true).2 (9, c, 0) r) := if_neg h1
        have e1 : k_mv (ks_n P) (ks_S P) (ks_W P) b c r x true = (4, ks_up (k_acc (ks_n P) (ks_S P) (ks_W P) b c (q_ln x) true).2 (7, c, j) 4 ((k_acc (ks_n P) (ks_S P) (ks_W P) b c (q_ln x) true).2 (9, c, 0) r)) := by unfold k_mv; rw [hf, ← e2]; rfl
        exact tk_iret X hlk hret d_Model_moved_107 (by rw [e1]) (fun _ h => h) (Or.inr rfl) (kw_st rfl (by rw [e1]) rfl)
      · skip
        refine tk_iconst (v := 1) X d_Model_moved_29 (by decide) ?_
        refine tk_goto (tgt := 34) X d_Model_moved_30 (by decide) ?_
        refine tk_istore X d_Model_moved_34 (by decide) rfl ?_
        refine tk_iload X d_Model_moved_36 rfl ?_
        refine tk_if_ne (tgt := 72) X d_Model_moved_38 (by decide) (fun _ => ?_) (fun h => absurd h (by decide))
        refine tk_iload X d_Model_moved_72 rfl ?_
        refine tk_if_eq (tgt := 93) X d_Model_moved_74 (by decide) (fun h => absurd h (by decide)) (fun _ => ?_)
        refine tk_aload_n X d_Model_moved_77 rfl rfl ?_
        refine tk_get X (k := (12, 0, 0)) (dm := ks_dm P) (ks_d0 (by decide)) rfl hc_Model hi_Model 18 (by decide) m_Model_47 (v := .ref (tk_ad (ks_G P) (25, 0, 0))) rfl d_Model_moved_78 ?_
        refine tk_iload X d_Model_moved_81 rfl ?_
        refine tk_aload_n X d_Model_moved_83 rfl rfl ?_
        refine tk_get X (k := (12, 0, 0)) (dm := ks_dm P) (ks_d0 (by decide)) rfl hc_Model hi_Model 7 (by decide) m_Model_13 (v := .ref (tk_ad (ks_G P) (14, 0, 0))) rfl d_Model_moved_84 ?_
        refine tk_iload_n X d_Model_moved_87 rfl rfl ?_
        refine kr_iald X (f := 14) (i' := r) (by decide) (by decide) rfl (by decide) rfl (by omega) (v8k 9 hr) (v8i hr) d_Model_moved_88 ?_
        refine kr_iast X hP (f := 25) (i' := 3) (by decide) (by decide) rfl (by decide) rfl (r_pj_lt hP hc hj) (ks_vk_pj hP hj) rfl d_Model_moved_89 ?_
        refine tk_goto (tgt := 106) X d_Model_moved_90 (by decide) ?_
        refine tk_iconst (v := 4) X d_Model_moved_106 (by decide) ?_
        have e2 : k_wput (k_acc (ks_n P) (ks_S P) (ks_W P) b c (q_ln x) true).2 c j x ((k_acc (ks_n P) (ks_S P) (ks_W P) b c (q_ln x) true).2 (9, c, 0) r) = ks_up (k_acc (ks_n P) (ks_S P) (ks_W P) b c (q_ln x) true).2 (7, c, j) 3 ((k_acc (ks_n P) (ks_S P) (ks_W P) b c (q_ln x) true).2 (9, c, 0) r) := if_pos h1
        have e1 : k_mv (ks_n P) (ks_S P) (ks_W P) b c r x true = (4, ks_up (k_acc (ks_n P) (ks_S P) (ks_W P) b c (q_ln x) true).2 (7, c, j) 3 ((k_acc (ks_n P) (ks_S P) (ks_W P) b c (q_ln x) true).2 (9, c, 0) r)) := by unfold k_mv; rw [hf, ← e2]; rfl
        exact tk_iret X hlk hret d_Model_moved_107 (by rw [e1]) (fun _ h => h) (Or.inr rfl) (kw_st rfl (by rw [e1]) rfl)

set_option maxRecDepth 100000 in
set_option maxHeartbeats 4000000 in
theorem c_Model_fault (l : Launch) (P : ks_P) (hP : ks_ok P) (c : Nat) (hc : c < ks_n P) (x : Int32) (a b : ks_M) (o : ks_O) (hjk : ∀ j, ks_T P ≤ j → b (7, c, j) 2 = 0) (hx : (b (4, c, 0) 6 + 15) &&& 15 = x) : kc l P y_Model_fault b_Model_fault 2 (some .int) 1 [.ref (tk_ad (ks_G P) (12, 0, 0)), .int (nI c)] a b o (some (.int (k_fault (ks_T P) b c x).1)) a (k_fault (ks_T P) b c x).2 o := by
  have hn64 := ks_n64 hP
  have hT64 := ks_T64 hP
  have hc3 : c < 3 := by have := hP.2.1; omega
  refine tk_of hP.2.2.2.2.2 (by decide) rfl (Nat.le_of_ble_eq_true rfl) ?_
  intro p e s m below meth c0 X hlk hr hnm
  refine tk_aload_n X d_Model_fault_0 rfl rfl ?_
  refine tk_get X (k := (12, 0, 0)) (dm := ks_dm P) (ks_d0 (by decide)) rfl hc_Model hi_Model 11 (by decide) m_Model_25 (v := .ref (tk_ad (ks_G P) (18, 0, 0))) rfl d_Model_fault_1 ?_
  refine tk_iload_n X d_Model_fault_4 rfl rfl ?_
  refine kr_iald X (f := 18) (i' := 8) (k' := (4, c, 0)) (by decide) (by decide) rfl (by decide) rfl hc3 rfl rfl d_Model_fault_5 ?_
  refine tk_if_le (tgt := 18) X d_Model_fault_6 (by decide) (fun h1 => ?_) (fun h1 => ?_)
  · skip
    refine tk_aload_n X d_Model_fault_18 rfl rfl ?_
    refine tk_get X (k := (12, 0, 0)) (dm := ks_dm P) (ks_d0 (by decide)) rfl hc_Model hi_Model 13 (by decide) m_Model_31 (v := .ref (tk_ad (ks_G P) (20, 0, 0))) rfl d_Model_fault_19 ?_
    refine tk_iload_n X d_Model_fault_22 rfl rfl ?_
    refine tk_iconst (v := 1) X d_Model_fault_23 (by decide) ?_
    refine kr_zast X hP (w := 1) rfl hc3 (by decide) d_Model_fault_24 ?_
    refine tk_aload_n X d_Model_fault_25 rfl rfl ?_
    refine tk_get X (k := (12, 0, 0)) (dm := ks_dm P) (ks_d0 (by decide)) rfl hc_Model hi_Model 10 (by decide) m_Model_22 (v := .ref (tk_ad (ks_G P) (17, 0, 0))) rfl d_Model_fault_26 ?_
    refine tk_iload_n X d_Model_fault_29 rfl rfl ?_
    refine tk_aload_n X d_Model_fault_30 rfl rfl ?_
    refine tk_get X (k := (12, 0, 0)) (dm := ks_dm P) (ks_d0 (by decide)) rfl hc_Model hi_Model 10 (by decide) m_Model_22 (v := .ref (tk_ad (ks_G P) (17, 0, 0))) rfl d_Model_fault_31 ?_
    refine tk_iload_n X d_Model_fault_34 rfl rfl ?_
    refine kr_iald X (f := 17) (i' := 6) (k' := (4, c, 0)) (by decide) (by decide) rfl (by decide) rfl hc3 rfl rfl d_Model_fault_35 ?_
    refine tk_bipush (v := 15) X d_Model_fault_36 (by decide) ?_
    refine tk_iadd X d_Model_fault_38 ?_
    refine tk_bipush (v := 15) X d_Model_fault_39 (by decide) ?_
    refine tk_iand X d_Model_fault_41 ?_
    refine kr_iast X hP (f := 17) (i' := 6) (k' := (4, c, 0)) (by decide) (by decide) rfl (by decide) rfl hc3 rfl rfl d_Model_fault_42 ?_
    refine tk_iconst (v := 0) X d_Model_fault_43 (by decide) ?_
    have e1 : k_fault (ks_T P) b c x = _ := if_pos h1
    exact tk_iret X hlk hr d_Model_fault_44 (by rw [e1]) (fun _ h => h) (Or.inr rfl) (kw_st rfl (by rw [e1, ← hx, ks_up_ne _ _ (by simp)]) rfl)
  · skip
    refine tk_aload_n X d_Model_fault_9 rfl rfl ?_
    refine tk_iload_n X d_Model_fault_10 rfl rfl ?_
    refine tk_iconst (v := 5) X d_Model_fault_11 (by decide) ?_
    refine tk_iconst (v := 5) X d_Model_fault_12 (by decide) ?_
    refine tk_callV X (kb := (12, 0, 0)) (ks_d0 (by decide)) rfl hc_Model (c_Model_abortK l P hP c 5 hc (by decide) 0 5 (by decide) a b o hjk) (ks_site (n := 3) mc_Model_abort mi_Model (by decide +kernel) (by decide) (by decide)) m_Model_77 ms_Model_abort mv_Model_abort rfl (Nat.le_of_ble_eq_true rfl) ⟨Nat.le_of_ble_eq_true rfl, Nat.le_of_ble_eq_true rfl⟩ rfl d_Model_fault_13 ?_
    refine tk_iconst (v := 2) X d_Model_fault_16 (by decide) ?_
    have e1 : k_fault (ks_T P) b c x = _ := if_neg h1
    exact tk_iret X hlk hr d_Model_fault_17 (by rw [e1]) (fun _ h => h) (Or.inr rfl) (kw_st rfl (by rw [e1]) rfl)

section LP
variable {p : Program} {l : Launch} {e : Env} {R : Room} {s : State} {m : MethodId} {args : Array Value} {below : List Frame} {meth : Method} {c0 : Code} {P : ks_P} {cells slots : Nat} {Q : State → Prop}
set_option maxRecDepth 100000 in
set_option maxHeartbeats 4000000 in
theorem lp_Model_ruled1 (X : tk_X p m c0 s args (ks_G P) R_Model b_Model_ruled 5 WS) (hP : ks_ok P) {c : Nat} (hc : c < ks_n P) (v : Int32) (a b : ks_M) (o : ks_O) (hd : b (4, c, 0) 8 = 0) (kend : tk_go p l e R s m args below meth c0 (ks_G P) (ks_dm P) 5 cells slots Q (ks_sl P a (r_nt b c 8) o) 78 [some (.ref (tk_ad (ks_G P) (12, 0, 0))), some (.int (nI c)), some (.int 9), some (.int v), some (.int (nI (8 * c + 8)))] []) : ∀ (k r : Nat), r + k = 8 → tk_go p l e R s m args below meth c0 (ks_G P) (ks_dm P) 5 cells slots Q (ks_sl P a (r_nt b c r) o) 37 [some (.ref (tk_ad (ks_G P) (12, 0, 0))), some (.int (nI c)), some (.int 9), some (.int v), some (.int (nI (8 * c + r)))] [] := by
  have hn64 := ks_n64 hP
  have hT64 := ks_T64 hP
  intro k
  induction k with
  | zero =>
    intro r hr
    have hr2 : r = 8 := by omega
    subst hr2
    have hc3 : c < 3 := by have := hP.2.1; omega
    refine tk_iload X d_Model_ruled_37 rfl ?_
    refine tk_bipush (v := 8) X d_Model_ruled_39 (by decide) ?_
    refine tk_iload_n X d_Model_ruled_41 rfl rfl ?_
    refine tk_imul X d_Model_ruled_42 ?_
    refine tk_bipush (v := 8) X d_Model_ruled_43 (by decide) ?_
    refine tk_iadd X d_Model_ruled_45 ?_
    refine tk_icmp_ge (tgt := 78) X d_Model_ruled_46 (by decide) (fun _ => ?_) (fun h => absurd (by rw [show (8 : Int32) = nI 8 from rfl, q_mul]; exact nI_le (Nat.le_refl _) (by omega)) h)
    exact kend
  | succ k ih =>
    intro r hr
    have hr2 : r < 8 := by omega
    have hc3 : c < 3 := by have := hP.2.1; omega
    refine tk_iload X d_Model_ruled_37 rfl ?_
    refine tk_bipush (v := 8) X d_Model_ruled_39 (by decide) ?_
    refine tk_iload_n X d_Model_ruled_41 rfl rfl ?_
    refine tk_imul X d_Model_ruled_42 ?_
    refine tk_bipush (v := 8) X d_Model_ruled_43 (by decide) ?_
    refine tk_iadd X d_Model_ruled_45 ?_
    refine tk_icmp_ge (tgt := 78) X d_Model_ruled_46 (by decide) (fun h => absurd h (by rw [show (8 : Int32) = nI 8 from rfl, q_mul]; exact nI_ge (by omega) (by omega))) (fun _ => ?_)
    refine tk_aload_n X d_Model_ruled_49 rfl rfl ?_
    refine tk_get X (k := (12, 0, 0)) (dm := ks_dm P) (ks_d0 (by decide)) rfl hc_Model hi_Model 11 (by decide) m_Model_25 (v := .ref (tk_ad (ks_G P) (18, 0, 0))) rfl d_Model_ruled_50 ?_
    refine tk_iload_n X d_Model_ruled_53 rfl rfl ?_
    refine kr_iald X (f := 18) (i' := 8) (k' := (4, c, 0)) (by decide) (by decide) rfl (by decide) rfl hc3 rfl rfl d_Model_ruled_54 ?_
    refine tk_if_ne (tgt := 78) X d_Model_ruled_55 (by decide) (fun h => absurd (by rw [r_nt_4]; exact hd) h) (fun _ => ?_)
    refine tk_aload_n X d_Model_ruled_58 rfl rfl ?_
    refine tk_get X (k := (12, 0, 0)) (dm := ks_dm P) (ks_d0 (by decide)) rfl hc_Model hi_Model 8 (by decide) m_Model_16 (v := .ref (tk_ad (ks_G P) (15, 0, 0))) rfl d_Model_ruled_59 ?_
    refine tk_iload X d_Model_ruled_62 rfl ?_
    refine tk_aload_n X d_Model_ruled_64 rfl rfl ?_
    refine tk_get X (k := (12, 0, 0)) (dm := ks_dm P) (ks_d0 (by decide)) rfl hc_Model hi_Model 7 (by decide) m_Model_13 (v := .ref (tk_ad (ks_G P) (14, 0, 0))) rfl d_Model_ruled_65 ?_
    refine tk_iload X d_Model_ruled_68 rfl ?_
    refine kr_iald X (f := 14) (i' := r) (by decide) (by decide) rfl (by decide) rfl (by omega) (v8k 9 hr2) (v8i hr2) d_Model_ruled_70 ?_
    refine kr_iast X hP (f := 15) (i' := r) (by decide) (by decide) rfl (by decide) rfl (by omega) (v8k 10 hr2) (v8i hr2) d_Model_ruled_71 ?_
    refine tk_iinc (v := nI (8 * c + (r + 1))) X d_Model_ruled_72 rfl (q_inc _) (by decide) rfl ?_
    refine tk_goto (tgt := 37) X d_Model_ruled_75 (by decide) ?_
    exact ih (r + 1) (by omega)
end LP

section LP
variable {p : Program} {l : Launch} {e : Env} {R : Room} {s : State} {m : MethodId} {args : Array Value} {below : List Frame} {meth : Method} {c0 : Code} {P : ks_P} {cells slots : Nat} {Q : State → Prop}
set_option maxRecDepth 100000 in
set_option maxHeartbeats 4000000 in
theorem lp_Model_ruled2 (X : tk_X p m c0 s args (ks_G P) R_Model b_Model_ruled 5 WS) (hP : ks_ok P) {c : Nat} (hc : c < ks_n P) (v : Int32) (a b : ks_M) (o : ks_O) (kend : tk_go p l e R s m args below meth c0 (ks_G P) (ks_dm P) 5 cells slots Q (ks_sl P a (r_dm (ks_S P) (ks_W P) b c 12) o) 196 [some (.ref (tk_ad (ks_G P) (12, 0, 0))), some (.int (nI c)), some (.int 10), some (.int v), some (.int (nI (12 * c + 12)))] []) : ∀ (k r : Nat), r + k = 12 → tk_go p l e R s m args below meth c0 (ks_G P) (ks_dm P) 5 cells slots Q (ks_sl P a (r_dm (ks_S P) (ks_W P) b c r) o) 170 [some (.ref (tk_ad (ks_G P) (12, 0, 0))), some (.int (nI c)), some (.int 10), some (.int v), some (.int (nI (12 * c + r)))] [] := by
  have hn64 := ks_n64 hP
  have hT64 := ks_T64 hP
  intro k
  induction k with
  | zero =>
    intro r hr
    have hr2 : r = 12 := by omega
    subst hr2
    have hc3 : c < 3 := by have := hP.2.1; omega
    refine tk_iload X d_Model_ruled_170 rfl ?_
    refine tk_bipush (v := 12) X d_Model_ruled_172 (by decide) ?_
    refine tk_iload_n X d_Model_ruled_174 rfl rfl ?_
    refine tk_imul X d_Model_ruled_175 ?_
    refine tk_bipush (v := 12) X d_Model_ruled_176 (by decide) ?_
    refine tk_iadd X d_Model_ruled_178 ?_
    refine tk_icmp_ge (tgt := 196) X d_Model_ruled_179 (by decide) (fun _ => ?_) (fun h => absurd (by rw [show (12 : Int32) = nI 12 from rfl, q_mul]; exact nI_le (Nat.le_refl _) (by omega)) h)
    exact kend
  | succ k ih =>
    intro r hr
    have hr2 : r < 12 := by omega
    have hc3 : c < 3 := by have := hP.2.1; omega
    refine tk_iload X d_Model_ruled_170 rfl ?_
    refine tk_bipush (v := 12) X d_Model_ruled_172 (by decide) ?_
    refine tk_iload_n X d_Model_ruled_174 rfl rfl ?_
    refine tk_imul X d_Model_ruled_175 ?_
    refine tk_bipush (v := 12) X d_Model_ruled_176 (by decide) ?_
    refine tk_iadd X d_Model_ruled_178 ?_
    refine tk_icmp_ge (tgt := 196) X d_Model_ruled_179 (by decide) (fun h => absurd h (by rw [show (12 : Int32) = nI 12 from rfl, q_mul]; exact nI_ge (by omega) (by omega))) (fun _ => ?_)
    refine tk_aload_n X d_Model_ruled_182 rfl rfl ?_
    refine tk_get X (k := (12, 0, 0)) (dm := ks_dm P) (ks_d0 (by decide)) rfl hc_Model hi_Model 17 (by decide) m_Model_44 (v := .ref (tk_ad (ks_G P) (24, 0, 0))) rfl d_Model_ruled_183 ?_
    refine tk_iload X d_Model_ruled_186 rfl ?_
    refine tk_iconst (v := 0) X d_Model_ruled_188 (by decide) ?_
    refine kr_iast X hP (f := 24) (i' := 2) (by decide) (by decide) rfl (by decide) rfl (by omega) (v12k _ _ hr2) rfl d_Model_ruled_189 ?_
    refine tk_iinc (v := nI (12 * c + (r + 1))) X d_Model_ruled_190 rfl (q_inc _) (by decide) rfl ?_
    refine tk_goto (tgt := 170) X d_Model_ruled_193 (by decide) ?_
    exact ih (r + 1) (by omega)
end LP

set_option maxRecDepth 100000 in
set_option maxHeartbeats 4000000 in
theorem c_Model_ruled9 (l : Launch) (P : ks_P) (hP : ks_ok P) (c : Nat) (hc : c < ks_n P) (v : Int32) (a b : ks_M) (o : ks_O) (hjk : ∀ j, ks_T P ≤ j → b (7, c, j) 2 = 0) : kc l P y_Model_ruled b_Model_ruled 5 (some .int) 2 [.ref (tk_ad (ks_G P) (12, 0, 0)), .int (nI c), .int 9, .int v] a b o (some (.int (k_begin (ks_T P) b c v).1)) a (k_begin (ks_T P) b c v).2 o := by
  have hn64 := ks_n64 hP
  have hT64 := ks_T64 hP
  have hc3 : c < 3 := by have := hP.2.1; omega
  refine tk_of hP.2.2.2.2.2 (by decide) rfl (Nat.le_of_ble_eq_true rfl) ?_
  intro p e s m below meth c0 X hlk hr hnm
  refine tk_iload_n X d_Model_ruled_0 rfl rfl ?_
  refine tk_bipush (v := 9) X d_Model_ruled_1 (by decide) ?_
  refine tk_icmp_ne (tgt := 25) X d_Model_ruled_3 (by decide) (fun h => absurd rfl h) (fun _ => ?_)
  refine tk_aload_n X d_Model_ruled_6 rfl rfl ?_
  refine tk_get X (k := (12, 0, 0)) (dm := ks_dm P) (ks_d0 (by decide)) rfl hc_Model hi_Model 11 (by decide) m_Model_25 (v := .ref (tk_ad (ks_G P) (18, 0, 0))) rfl d_Model_ruled_7 ?_
  refine tk_iload_n X d_Model_ruled_10 rfl rfl ?_
  refine kr_iald X (f := 18) (i' := 8) (k' := (4, c, 0)) (by decide) (by decide) rfl (by decide) rfl hc3 rfl rfl d_Model_ruled_11 ?_
  refine tk_iconst (v := 3) X d_Model_ruled_12 (by decide) ?_
  refine tk_icmp_ne (tgt := 25) X d_Model_ruled_13 (by decide) (fun h1 => ?_) (fun h1 => ?_)
  · skip
    refine tk_iload_n X d_Model_ruled_25 rfl rfl ?_
    refine tk_bipush (v := 9) X d_Model_ruled_26 (by decide) ?_
    refine tk_icmp_ne (tgt := 116) X d_Model_ruled_28 (by decide) (fun h => absurd rfl h) (fun _ => ?_)
    refine tk_bipush (v := 8) X d_Model_ruled_31 (by decide) ?_
    refine tk_iload_n X d_Model_ruled_33 rfl rfl ?_
    refine tk_imul X d_Model_ruled_34 ?_
    refine tk_istore X d_Model_ruled_35 (by decide) rfl ?_
    rw [show (8 : Int32) * nI c = nI (8 * c + 0) from by rw [show (8 : Int32) = nI 8 from rfl, pk_mul]; rfl]
    by_cases hd : b (4, c, 0) 8 = 0
    · refine lp_Model_ruled1 X hP hc v a b o hd ?_ 8 0 (by decide)
      refine tk_aload_n X d_Model_ruled_78 rfl rfl ?_
      refine tk_get X (k := (12, 0, 0)) (dm := ks_dm P) (ks_d0 (by decide)) rfl hc_Model hi_Model 11 (by decide) m_Model_25 (v := .ref (tk_ad (ks_G P) (18, 0, 0))) rfl d_Model_ruled_79 ?_
      refine tk_iload_n X d_Model_ruled_82 rfl rfl ?_
      refine kr_iald X (f := 18) (i' := 8) (k' := (4, c, 0)) (by decide) (by decide) rfl (by decide) rfl hc3 rfl rfl d_Model_ruled_83 ?_
      refine tk_if_ne (tgt := 104) X d_Model_ruled_84 (by decide) (fun h => absurd (by rw [r_nt_4]; exact hd) h) (fun _ => ?_)
      refine tk_aload_n X d_Model_ruled_87 rfl rfl ?_
      refine tk_get X (k := (12, 0, 0)) (dm := ks_dm P) (ks_d0 (by decide)) rfl hc_Model hi_Model 12 (by decide) m_Model_28 (v := .ref (tk_ad (ks_G P) (19, 0, 0))) rfl d_Model_ruled_88 ?_
      refine tk_iload_n X d_Model_ruled_91 rfl rfl ?_
      refine tk_aload_n X d_Model_ruled_92 rfl rfl ?_
      refine tk_get X (k := (12, 0, 0)) (dm := ks_dm P) (ks_d0 (by decide)) rfl hc_Model hi_Model 10 (by decide) m_Model_22 (v := .ref (tk_ad (ks_G P) (17, 0, 0))) rfl d_Model_ruled_93 ?_
      refine tk_iload_n X d_Model_ruled_96 rfl rfl ?_
      refine kr_iald X (f := 17) (i' := 6) (k' := (4, c, 0)) (by decide) (by decide) rfl (by decide) rfl hc3 rfl rfl d_Model_ruled_97 ?_
      refine tk_iload_n X d_Model_ruled_98 rfl rfl ?_
      refine tk_iadd X d_Model_ruled_99 ?_
      refine tk_bipush (v := 15) X d_Model_ruled_100 (by decide) ?_
      refine tk_iand X d_Model_ruled_102 ?_
      refine kr_iast X hP (f := 19) (i' := 7) (k' := (4, c, 0)) (by decide) (by decide) rfl (by decide) rfl hc3 rfl rfl d_Model_ruled_103 ?_
      refine tk_aload_n X d_Model_ruled_104 rfl rfl ?_
      refine tk_get X (k := (12, 0, 0)) (dm := ks_dm P) (ks_d0 (by decide)) rfl hc_Model hi_Model 11 (by decide) m_Model_25 (v := .ref (tk_ad (ks_G P) (18, 0, 0))) rfl d_Model_ruled_105 ?_
      refine tk_iload_n X d_Model_ruled_108 rfl rfl ?_
      refine tk_dup2 X rfl rfl d_Model_ruled_109 ?_
      refine kr_iald X (f := 18) (i' := 8) (k' := (4, c, 0)) (by decide) (by decide) rfl (by decide) rfl hc3 rfl rfl d_Model_ruled_110 ?_
      refine tk_iconst (v := 1) X d_Model_ruled_111 (by decide) ?_
      refine tk_iadd X d_Model_ruled_112 ?_
      refine kr_iast X hP (f := 18) (i' := 8) (k' := (4, c, 0)) (by decide) (by decide) rfl (by decide) rfl hc3 rfl rfl d_Model_ruled_113 ?_
      refine tk_iconst (v := 4) X d_Model_ruled_114 (by decide) ?_
      have e1 : k_begin (ks_T P) b c v = (4, k_deep (k_note b c v) c) := (if_neg h1).trans (if_pos hd)
      exact tk_iret X hlk hr d_Model_ruled_115 (by rw [e1]) (fun _ h => h) (Or.inr rfl) (kw_st rfl (by rw [e1, r_nt_at]; rfl) rfl)
    · skip
      refine tk_iload X d_Model_ruled_37 rfl ?_
      refine tk_bipush (v := 8) X d_Model_ruled_39 (by decide) ?_
      refine tk_iload_n X d_Model_ruled_41 rfl rfl ?_
      refine tk_imul X d_Model_ruled_42 ?_
      refine tk_bipush (v := 8) X d_Model_ruled_43 (by decide) ?_
      refine tk_iadd X d_Model_ruled_45 ?_
      refine tk_icmp_ge (tgt := 78) X d_Model_ruled_46 (by decide) (fun h => absurd h (by rw [show (8 : Int32) = nI 8 from rfl, q_mul]; exact nI_ge (by omega) (by omega))) (fun _ => ?_)
      refine tk_aload_n X d_Model_ruled_49 rfl rfl ?_
      refine tk_get X (k := (12, 0, 0)) (dm := ks_dm P) (ks_d0 (by decide)) rfl hc_Model hi_Model 11 (by decide) m_Model_25 (v := .ref (tk_ad (ks_G P) (18, 0, 0))) rfl d_Model_ruled_50 ?_
      refine tk_iload_n X d_Model_ruled_53 rfl rfl ?_
      refine kr_iald X (f := 18) (i' := 8) (k' := (4, c, 0)) (by decide) (by decide) rfl (by decide) rfl hc3 rfl rfl d_Model_ruled_54 ?_
      refine tk_if_ne (tgt := 78) X d_Model_ruled_55 (by decide) (fun _ => ?_) (fun h => absurd h hd)
      refine tk_aload_n X d_Model_ruled_78 rfl rfl ?_
      refine tk_get X (k := (12, 0, 0)) (dm := ks_dm P) (ks_d0 (by decide)) rfl hc_Model hi_Model 11 (by decide) m_Model_25 (v := .ref (tk_ad (ks_G P) (18, 0, 0))) rfl d_Model_ruled_79 ?_
      refine tk_iload_n X d_Model_ruled_82 rfl rfl ?_
      refine kr_iald X (f := 18) (i' := 8) (k' := (4, c, 0)) (by decide) (by decide) rfl (by decide) rfl hc3 rfl rfl d_Model_ruled_83 ?_
      refine tk_if_ne (tgt := 104) X d_Model_ruled_84 (by decide) (fun _ => ?_) (fun h => absurd h hd)
      refine tk_aload_n X d_Model_ruled_104 rfl rfl ?_
      refine tk_get X (k := (12, 0, 0)) (dm := ks_dm P) (ks_d0 (by decide)) rfl hc_Model hi_Model 11 (by decide) m_Model_25 (v := .ref (tk_ad (ks_G P) (18, 0, 0))) rfl d_Model_ruled_105 ?_
      refine tk_iload_n X d_Model_ruled_108 rfl rfl ?_
      refine tk_dup2 X rfl rfl d_Model_ruled_109 ?_
      refine kr_iald X (f := 18) (i' := 8) (k' := (4, c, 0)) (by decide) (by decide) rfl (by decide) rfl hc3 rfl rfl d_Model_ruled_110 ?_
      refine tk_iconst (v := 1) X d_Model_ruled_111 (by decide) ?_
      refine tk_iadd X d_Model_ruled_112 ?_
      refine kr_iast X hP (f := 18) (i' := 8) (k' := (4, c, 0)) (by decide) (by decide) rfl (by decide) rfl hc3 rfl rfl d_Model_ruled_113 ?_
      refine tk_iconst (v := 4) X d_Model_ruled_114 (by decide) ?_
      have e1 : k_begin (ks_T P) b c v = (4, k_deep b c) := (if_neg h1).trans (if_neg hd)
      exact tk_iret X hlk hr d_Model_ruled_115 (by rw [e1]) (fun _ h => h) (Or.inr rfl) (kw_st rfl (by rw [e1]; rfl) rfl)
  · skip
    refine tk_aload_n X d_Model_ruled_16 rfl rfl ?_
    refine tk_iload_n X d_Model_ruled_17 rfl rfl ?_
    refine tk_iconst (v := 3) X d_Model_ruled_18 (by decide) ?_
    refine tk_iconst (v := 3) X d_Model_ruled_19 (by decide) ?_
    refine tk_callV X (kb := (12, 0, 0)) (ks_d0 (by decide)) rfl hc_Model (c_Model_abortK l P hP c 3 hc (by decide) 0 3 (by decide) a b o hjk) (ks_site (n := 3) mc_Model_abort mi_Model (by decide +kernel) (by decide) (by decide)) m_Model_77 ms_Model_abort mv_Model_abort rfl (Nat.le_of_ble_eq_true rfl) ⟨Nat.le_of_ble_eq_true rfl, Nat.le_of_ble_eq_true rfl⟩ rfl d_Model_ruled_20 ?_
    refine tk_iconst (v := 2) X d_Model_ruled_23 (by decide) ?_
    have e1 : k_begin (ks_T P) b c v = _ := if_pos h1
    exact tk_iret X hlk hr d_Model_ruled_24 (by rw [e1]) (fun _ h => h) (Or.inr rfl) (kw_st rfl (by rw [e1]) rfl)

set_option maxRecDepth 100000 in
set_option maxHeartbeats 4000000 in
theorem c_Model_ruled10 (l : Launch) (P : ks_P) (hP : ks_ok P) (c : Nat) (hc : c < ks_n P) (v : Int32) (a b : ks_M) (o : ks_O) (hjk : ∀ j, ks_T P ≤ j → b (7, c, j) 2 = 0) (x : Int32) (hx : (b (4, c, 0) 6 + 15) &&& 15 = x) : kc l P y_Model_ruled b_Model_ruled 5 (some .int) 2 [.ref (tk_ad (ks_G P) (12, 0, 0)), .int (nI c), .int 10, .int v] a b o (some (.int (if b (4, c, 0) 8 = 0 then k_fault (ks_T P) b c x else k_end (ks_T P) b c).1)) a (if b (4, c, 0) 8 = 0 then k_fault (ks_T P) b c x else k_end (ks_T P) b c).2 o := by
  have hn64 := ks_n64 hP
  have hT64 := ks_T64 hP
  have hc3 : c < 3 := by have := hP.2.1; omega
  refine tk_of hP.2.2.2.2.2 (by decide) rfl (Nat.le_of_ble_eq_true rfl) ?_
  intro p e s m below meth c0 X hlk hr hnm
  refine tk_iload_n X d_Model_ruled_0 rfl rfl ?_
  refine tk_bipush (v := 9) X d_Model_ruled_1 (by decide) ?_
  refine tk_icmp_ne (tgt := 25) X d_Model_ruled_3 (by decide) (fun _ => ?_) (fun h => absurd h (by decide))
  refine tk_iload_n X d_Model_ruled_25 rfl rfl ?_
  refine tk_bipush (v := 9) X d_Model_ruled_26 (by decide) ?_
  refine tk_icmp_ne (tgt := 116) X d_Model_ruled_28 (by decide) (fun _ => ?_) (fun h => absurd h (by decide))
  refine tk_iload_n X d_Model_ruled_116 rfl rfl ?_
  refine tk_bipush (v := 10) X d_Model_ruled_117 (by decide) ?_
  refine tk_icmp_ne (tgt := 137) X d_Model_ruled_119 (by decide) (fun h => absurd rfl h) (fun _ => ?_)
  refine tk_aload_n X d_Model_ruled_122 rfl rfl ?_
  refine tk_get X (k := (12, 0, 0)) (dm := ks_dm P) (ks_d0 (by decide)) rfl hc_Model hi_Model 11 (by decide) m_Model_25 (v := .ref (tk_ad (ks_G P) (18, 0, 0))) rfl d_Model_ruled_123 ?_
  refine tk_iload_n X d_Model_ruled_126 rfl rfl ?_
  refine kr_iald X (f := 18) (i' := 8) (k' := (4, c, 0)) (by decide) (by decide) rfl (by decide) rfl hc3 rfl rfl d_Model_ruled_127 ?_
  refine tk_if_ne (tgt := 137) X d_Model_ruled_128 (by decide) (fun h1 => ?_) (fun h1 => ?_)
  · skip
    refine tk_iload_n X d_Model_ruled_137 rfl rfl ?_
    refine tk_bipush (v := 10) X d_Model_ruled_138 (by decide) ?_
    refine tk_icmp_ne (tgt := 211) X d_Model_ruled_140 (by decide) (fun h => absurd rfl h) (fun _ => ?_)
    refine tk_aload_n X d_Model_ruled_143 rfl rfl ?_
    refine tk_get X (k := (12, 0, 0)) (dm := ks_dm P) (ks_d0 (by decide)) rfl hc_Model hi_Model 11 (by decide) m_Model_25 (v := .ref (tk_ad (ks_G P) (18, 0, 0))) rfl d_Model_ruled_144 ?_
    refine tk_iload_n X d_Model_ruled_147 rfl rfl ?_
    refine tk_dup2 X rfl rfl d_Model_ruled_148 ?_
    refine kr_iald X (f := 18) (i' := 8) (k' := (4, c, 0)) (by decide) (by decide) rfl (by decide) rfl hc3 rfl rfl d_Model_ruled_149 ?_
    refine tk_iconst (v := 1) X d_Model_ruled_150 (by decide) ?_
    refine tk_isub X d_Model_ruled_151 ?_
    refine kr_iast X hP (f := 18) (i' := 8) (k' := (4, c, 0)) (by decide) (by decide) rfl (by decide) rfl hc3 rfl rfl d_Model_ruled_152 ?_
    refine tk_aload_n X d_Model_ruled_153 rfl rfl ?_
    refine tk_get X (k := (12, 0, 0)) (dm := ks_dm P) (ks_d0 (by decide)) rfl hc_Model hi_Model 11 (by decide) m_Model_25 (v := .ref (tk_ad (ks_G P) (18, 0, 0))) rfl d_Model_ruled_154 ?_
    refine tk_iload_n X d_Model_ruled_157 rfl rfl ?_
    refine kr_iald X (f := 18) (i' := 8) (k' := (4, c, 0)) (by decide) (by decide) rfl (by decide) rfl hc3 rfl rfl d_Model_ruled_158 ?_
    refine tk_if_le (tgt := 164) X d_Model_ruled_159 (by decide) (fun h2 => ?_) (fun h2 => ?_)
    · skip
      refine tk_bipush (v := 12) X d_Model_ruled_164 (by decide) ?_
      refine tk_iload_n X d_Model_ruled_166 rfl rfl ?_
      refine tk_imul X d_Model_ruled_167 ?_
      refine tk_istore X d_Model_ruled_168 (by decide) rfl ?_
      have er : (if b (4, c, 0) 8 = 0 then k_fault (ks_T P) b c x else k_end (ks_T P) b c) = k_end (ks_T P) b c := if_neg h1
      rw [show (12 : Int32) * nI c = nI (12 * c + 0) from by rw [show (12 : Int32) = nI 12 from rfl, pk_mul]; rfl]
      refine lp_Model_ruled2 X hP hc v a (k_end1 b c) o ?_ 12 0 (by decide)
      refine tk_aload_n X d_Model_ruled_196 rfl rfl ?_
      refine tk_get X (k := (12, 0, 0)) (dm := ks_dm P) (ks_d0 (by decide)) rfl hc_Model hi_Model 14 (by decide) m_Model_35 (v := .ref (tk_ad (ks_G P) (21, 0, 0))) rfl d_Model_ruled_197 ?_
      refine tk_bipush (v := 6) X d_Model_ruled_200 (by decide) ?_
      refine tk_iload_n X d_Model_ruled_202 rfl rfl ?_
      refine tk_imul X d_Model_ruled_203 ?_
      rw [show (6 : Int32) * nI c = nI 6 * nI c + nI 0 from (Int32.add_zero _).symm]
      refine tk_dup2 X rfl rfl d_Model_ruled_204 ?_
      refine kr_iald X (f := 21) (i' := 0) (by decide) (by decide) rfl (by decide) (q_mul 6 c 0) (by omega) (v6k 11 (by decide)) (v6i (by decide)) d_Model_ruled_205 ?_
      refine tk_iconst (v := 1) X d_Model_ruled_206 (by decide) ?_
      refine tk_iadd X d_Model_ruled_207 ?_
      refine kr_iast X hP (f := 21) (i' := 0) (by decide) (by decide) rfl (by decide) (q_mul 6 c 0) (by omega) (v6k 11 (by decide)) (v6i (by decide)) d_Model_ruled_208 ?_
      refine tk_iconst (v := 3) X d_Model_ruled_209 (by decide) ?_
      have e1 : k_end (ks_T P) b c = (3, k_end2 (ks_T P) b c) := if_pos h2
      exact tk_iret X hlk hr d_Model_ruled_210 (by rw [er, e1]) (fun _ h => h) (Or.inr rfl) (kw_st rfl (by rw [er, e1]; unfold k_end2; rw [← r_dm_eq hP (k_end1 b c) c (fun j hj => by unfold k_end1; rw [ks_up_nk _ _ (by simp)]; exact hjk j hj)]) rfl)
    · skip
      refine tk_iconst (v := 4) X d_Model_ruled_162 (by decide) ?_
      have er : (if b (4, c, 0) 8 = 0 then k_fault (ks_T P) b c x else k_end (ks_T P) b c) = k_end (ks_T P) b c := if_neg h1
      have e1 : k_end (ks_T P) b c = (4, k_end1 b c) := if_neg h2
      exact tk_iret X hlk hr d_Model_ruled_163 (by rw [er, e1]) (fun _ h => h) (Or.inr rfl) (kw_st rfl (by rw [er, e1]; rfl) rfl)
  · skip
    refine tk_aload_n X d_Model_ruled_131 rfl rfl ?_
    refine tk_iload_n X d_Model_ruled_132 rfl rfl ?_
    refine tk_callV X (kb := (12, 0, 0)) (ks_d0 (by decide)) rfl hc_Model (c_Model_fault l P hP c hc x a b o hjk hx) (ks_site (n := 1) mc_Model_fault mi_Model (by decide +kernel) (by decide) (by decide)) m_Model_109 ms_Model_fault mv_Model_fault rfl (Nat.le_of_ble_eq_true rfl) ⟨Nat.le_of_ble_eq_true rfl, Nat.le_of_ble_eq_true rfl⟩ rfl d_Model_ruled_133 ?_
    have er : (if b (4, c, 0) 8 = 0 then k_fault (ks_T P) b c x else k_end (ks_T P) b c) = k_fault (ks_T P) b c x := if_pos h1
    exact tk_iret X hlk hr d_Model_ruled_136 (by rw [er]) (fun _ h => h) (Or.inr rfl) (kw_st rfl (by rw [er]) rfl)

set_option maxRecDepth 100000 in
set_option maxHeartbeats 4000000 in
theorem c_Model_ruled11 (l : Launch) (P : ks_P) (hP : ks_ok P) (c : Nat) (hc : c < ks_n P) (v : Int32) (a b : ks_M) (o : ks_O) (hjk : ∀ j, ks_T P ≤ j → b (7, c, j) 2 = 0) : kc l P y_Model_ruled b_Model_ruled 5 (some .int) 2 [.ref (tk_ad (ks_G P) (12, 0, 0)), .int (nI c), .int 11, .int v] a b o (some (.int (k_give (ks_T P) b c v).1)) a (k_give (ks_T P) b c v).2 o := by
  have hn64 := ks_n64 hP
  have hT64 := ks_T64 hP
  have hc3 : c < 3 := by have := hP.2.1; omega
  refine tk_of hP.2.2.2.2.2 (by decide) rfl (Nat.le_of_ble_eq_true rfl) ?_
  intro p e s m below meth c0 X hlk hr hnm
  refine tk_iload_n X d_Model_ruled_0 rfl rfl ?_
  refine tk_bipush (v := 9) X d_Model_ruled_1 (by decide) ?_
  refine tk_icmp_ne (tgt := 25) X d_Model_ruled_3 (by decide) (fun _ => ?_) (fun h => absurd h (by decide))
  refine tk_iload_n X d_Model_ruled_25 rfl rfl ?_
  refine tk_bipush (v := 9) X d_Model_ruled_26 (by decide) ?_
  refine tk_icmp_ne (tgt := 116) X d_Model_ruled_28 (by decide) (fun _ => ?_) (fun h => absurd h (by decide))
  refine tk_iload_n X d_Model_ruled_116 rfl rfl ?_
  refine tk_bipush (v := 10) X d_Model_ruled_117 (by decide) ?_
  refine tk_icmp_ne (tgt := 137) X d_Model_ruled_119 (by decide) (fun _ => ?_) (fun h => absurd h (by decide))
  refine tk_iload_n X d_Model_ruled_137 rfl rfl ?_
  refine tk_bipush (v := 10) X d_Model_ruled_138 (by decide) ?_
  refine tk_icmp_ne (tgt := 211) X d_Model_ruled_140 (by decide) (fun _ => ?_) (fun h => absurd h (by decide))
  refine tk_aload_n X d_Model_ruled_211 rfl rfl ?_
  refine tk_get X (k := (12, 0, 0)) (dm := ks_dm P) (ks_d0 (by decide)) rfl hc_Model hi_Model 11 (by decide) m_Model_25 (v := .ref (tk_ad (ks_G P) (18, 0, 0))) rfl d_Model_ruled_212 ?_
  refine tk_iload_n X d_Model_ruled_215 rfl rfl ?_
  refine kr_iald X (f := 18) (i' := 8) (k' := (4, c, 0)) (by decide) (by decide) rfl (by decide) rfl hc3 rfl rfl d_Model_ruled_216 ?_
  refine tk_if_ne (tgt := 222) X d_Model_ruled_217 (by decide) (fun h1 => ?_) (fun h1 => ?_)
  · skip
    refine tk_aload_n X d_Model_ruled_222 rfl rfl ?_
    refine tk_iload_n X d_Model_ruled_223 rfl rfl ?_
    refine tk_iconst (v := 4) X d_Model_ruled_224 (by decide) ?_
    refine tk_iconst (v := 4) X d_Model_ruled_225 (by decide) ?_
    refine tk_bipush (v := 8) X d_Model_ruled_226 (by decide) ?_
    refine tk_iload_n X d_Model_ruled_228 rfl rfl ?_
    refine tk_sipush (v := 255) X d_Model_ruled_229 (by decide) ?_
    refine tk_iand X d_Model_ruled_232 ?_
    refine tk_imul X d_Model_ruled_233 ?_
    refine tk_iadd X d_Model_ruled_234 ?_
    refine tk_callV X (kb := (12, 0, 0)) (ks_d0 (by decide)) rfl hc_Model (c_Model_abortK l P hP c 4 hc (by decide) (8 * (v &&& 255)) _ rfl a b o hjk) (ks_site (n := 3) mc_Model_abort mi_Model (by decide +kernel) (by decide) (by decide)) m_Model_77 ms_Model_abort mv_Model_abort rfl (Nat.le_of_ble_eq_true rfl) ⟨Nat.le_of_ble_eq_true rfl, Nat.le_of_ble_eq_true rfl⟩ rfl d_Model_ruled_235 ?_
    refine tk_iconst (v := 2) X d_Model_ruled_238 (by decide) ?_
    have e1 : k_give (ks_T P) b c v = _ := if_neg h1
    exact tk_iret X hlk hr d_Model_ruled_239 (by rw [e1]) (fun _ h => h) (Or.inr rfl) (kw_st rfl (by rw [e1]) rfl)
  · skip
    refine tk_iconst (v := 4) X d_Model_ruled_220 (by decide) ?_
    have e1 : k_give (ks_T P) b c v = _ := if_pos h1
    exact tk_iret X hlk hr d_Model_ruled_221 (by rw [e1]) (fun _ h => h) (Or.inr rfl) (kw_st rfl (by rw [e1]) rfl)
