set_option maxRecDepth 100000 in
set_option maxHeartbeats 4000000 in
theorem c_Model_stepped (l : Launch) (P : ks_P) (hP : ks_ok P) (c : Nat) (hc : c < ks_n P) (a b : ks_M) (o : ks_O) (hV : r_V (ks_n P) (ks_T P) b) (hp : q_pc (b (4, c, 0) 6)) : kc l P y_Model_stepped b_Model_stepped 9 (some .int) 5 [.ref (tk_ad (ks_G P) (12, 0, 0)), .int (nI c)] a b o (some (.int (k_step (ks_n P) (ks_S P) (ks_W P) b c).1)) a (k_step (ks_n P) (ks_S P) (ks_W P) b c).2 o := by
  have hn64 := ks_n64 hP
  have hT64 := ks_T64 hP
  have hc3 : c < 3 := by have := hP.2.1; omega
  refine tk_of hP.2.2.2.2.2 (by decide) rfl (Nat.le_of_ble_eq_true rfl) ?_
  intro p e s m below meth c0 X hlk hr hnm
  refine tk_aload_n X d_Model_stepped_0 rfl rfl ?_
  refine tk_get X (k := (12, 0, 0)) (dm := ks_dm P) (ks_d0 (by decide)) rfl hc_Model hi_Model 13 (by decide) m_Model_31 (v := .ref (tk_ad (ks_G P) (20, 0, 0))) rfl d_Model_stepped_1 ?_
  refine tk_iload_n X d_Model_stepped_4 rfl rfl ?_
  refine kw_zald X (k := (20, 0, 0)) (ks_d0 (by decide)) rfl (by decide) rfl hc3 (v := b (4, c, 0) 9) rfl d_Model_stepped_5 ?_
  refine tk_if_eq (tgt := 11) X d_Model_stepped_6 (by decide) (fun h1 => ?_) (fun h1 => ?_)
  · skip
    refine tk_aload_n X d_Model_stepped_11 rfl rfl ?_
    refine tk_get X (k := (12, 0, 0)) (dm := ks_dm P) (ks_d0 (by decide)) rfl hc_Model hi_Model 9 (by decide) m_Model_19 (v := .ref (tk_ad (ks_G P) (16, 0, 0))) rfl d_Model_stepped_12 ?_
    refine tk_bipush (v := 16) X d_Model_stepped_15 (by decide) ?_
    refine tk_iload_n X d_Model_stepped_17 rfl rfl ?_
    refine tk_imul X d_Model_stepped_18 ?_
    refine tk_aload_n X d_Model_stepped_19 rfl rfl ?_
    refine tk_get X (k := (12, 0, 0)) (dm := ks_dm P) (ks_d0 (by decide)) rfl hc_Model hi_Model 10 (by decide) m_Model_22 (v := .ref (tk_ad (ks_G P) (17, 0, 0))) rfl d_Model_stepped_20 ?_
    refine tk_iload_n X d_Model_stepped_23 rfl rfl ?_
    refine kr_iald X (f := 17) (i' := 6) (k' := (4, c, 0)) (by decide) (by decide) rfl (by decide) rfl hc3 rfl rfl d_Model_stepped_24 ?_
    refine tk_iadd X d_Model_stepped_25 ?_
    refine kr_iald X (f := 16) (i' := (q_ix (b (4, c, 0) 6))) (by decide) (by decide) rfl (by decide) (q_pg hp c) (by have := hp.2; omega) (v16k 8 hp.2) (v16i hp.2) d_Model_stepped_26 ?_
    refine tk_istore_n X d_Model_stepped_27 rfl (by decide) rfl ?_
    refine tk_bipush (v := 8) X d_Model_stepped_28 (by decide) ?_
    refine tk_iload_n X d_Model_stepped_30 rfl rfl ?_
    refine tk_imul X d_Model_stepped_31 ?_
    refine tk_istore_n X d_Model_stepped_32 rfl (by decide) rfl ?_
    refine tk_iload_n X d_Model_stepped_33 rfl rfl ?_
    refine tk_iload_n X d_Model_stepped_34 rfl rfl ?_
    refine tk_iconst (v := 4) X d_Model_stepped_35 (by decide) ?_
    refine tk_ishr X d_Model_stepped_36 ?_
    refine tk_bipush (v := 7) X d_Model_stepped_37 (by decide) ?_
    refine tk_iand X d_Model_stepped_39 ?_
    refine tk_iadd X d_Model_stepped_40 ?_
    refine tk_istore X d_Model_stepped_41 (by decide) rfl ?_
    refine tk_iload_n X d_Model_stepped_43 rfl rfl ?_
    refine tk_iload_n X d_Model_stepped_44 rfl rfl ?_
    refine tk_bipush (v := 7) X d_Model_stepped_45 (by decide) ?_
    refine tk_ishr X d_Model_stepped_47 ?_
    refine tk_bipush (v := 7) X d_Model_stepped_48 (by decide) ?_
    refine tk_iand X d_Model_stepped_50 ?_
    refine tk_iadd X d_Model_stepped_51 ?_
    refine tk_istore X d_Model_stepped_52 (by decide) rfl ?_
    refine tk_iload_n X d_Model_stepped_54 rfl rfl ?_
    refine tk_bipush (v := 11) X d_Model_stepped_55 (by decide) ?_
    refine tk_ishr X d_Model_stepped_57 ?_
    refine tk_istore X d_Model_stepped_58 (by decide) rfl ?_
    refine tk_iload_n X d_Model_stepped_60 rfl rfl ?_
    refine tk_iload X d_Model_stepped_61 rfl ?_
    refine tk_bipush (v := 7) X d_Model_stepped_63 (by decide) ?_
    refine tk_iand X d_Model_stepped_65 ?_
    refine tk_iadd X d_Model_stepped_66 ?_
    refine tk_istore X d_Model_stepped_67 (by decide) rfl ?_
    refine tk_iload_n X d_Model_stepped_69 rfl rfl ?_
    refine tk_bipush (v := 15) X d_Model_stepped_70 (by decide) ?_
    refine tk_iand X d_Model_stepped_72 ?_
    refine tk_istore X d_Model_stepped_73 (by decide) rfl ?_
    have e0 : k_step (ks_n P) (ks_S P) (ks_W P) b c = k_do (ks_n P) (ks_S P) (ks_W P) (k_next b c) c (k_word b c) (b (4, c, 0) 6) := if_pos h1
    obtain ⟨k, hk16, hk0⟩ : ∃ k : Nat, k < 2 ^ 4 ∧ (b (8, c, 0) (q_ix (b (4, c, 0) 6))) &&& 15 = nI k := pk_andE _ 4 (by decide)
    have hk17 : k = 0 ∨ k = 1 ∨ k = 2 ∨ k = 3 ∨ k = 4 ∨ k = 5 ∨ k = 6 ∨ k = 7 ∨ k = 8 ∨ k = 9 ∨ k = 10 ∨ k = 11 ∨ k = 12 ∨ k = 13 ∨ k = 14 ∨ k = 15 := by omega
    rcases hk17 with rfl | rfl | rfl | rfl | rfl | rfl | rfl | rfl | rfl | rfl | rfl | rfl | rfl | rfl | rfl | rfl
    · have hk : (b (8, c, 0) (q_ix (b (4, c, 0) 6))) &&& 15 = 0 := hk0
      have hkw : (k_word b c) &&& 15 = 0 := hk0
      refine tk_iload X d_Model_stepped_75 rfl ?_
      refine tk_if_ne (tgt := 82) X d_Model_stepped_77 (by decide) (fun h => absurd hk h) (fun _ => ?_)
      refine tk_iconst (v := 1) X d_Model_stepped_80 (by decide) ?_
      have e1 : k_do (ks_n P) (ks_S P) (ks_W P) (k_next b c) c (k_word b c) (b (4, c, 0) 6) = _ := (if_pos hkw)
      exact tk_iret X hlk hr d_Model_stepped_81 (by rw [e0, e1]; try rfl) (fun _ h => h) (Or.inr rfl) (kw_st rfl (by rw [e0, e1, k_next, k_up_back]) rfl)
    · have hk : (b (8, c, 0) (q_ix (b (4, c, 0) 6))) &&& 15 = 1 := hk0
      have hkw : (k_word b c) &&& 15 = 1 := hk0
      refine tk_iload X d_Model_stepped_75 rfl ?_
      refine tk_if_ne (tgt := 82) X d_Model_stepped_77 (by decide) (fun _ => ?_) (fun h => absurd h (fun z => absurd (hk.symm.trans z) (by decide)))
      refine tk_aload_n X d_Model_stepped_82 rfl rfl ?_
      refine tk_get X (k := (12, 0, 0)) (dm := ks_dm P) (ks_d0 (by decide)) rfl hc_Model hi_Model 10 (by decide) m_Model_22 (v := .ref (tk_ad (ks_G P) (17, 0, 0))) rfl d_Model_stepped_83 ?_
      refine tk_iload_n X d_Model_stepped_86 rfl rfl ?_
      refine tk_aload_n X d_Model_stepped_87 rfl rfl ?_
      refine tk_get X (k := (12, 0, 0)) (dm := ks_dm P) (ks_d0 (by decide)) rfl hc_Model hi_Model 10 (by decide) m_Model_22 (v := .ref (tk_ad (ks_G P) (17, 0, 0))) rfl d_Model_stepped_88 ?_
      refine tk_iload_n X d_Model_stepped_91 rfl rfl ?_
      refine kr_iald X (f := 17) (i' := 6) (k' := (4, c, 0)) (by decide) (by decide) rfl (by decide) rfl hc3 rfl rfl d_Model_stepped_92 ?_
      refine tk_iconst (v := 1) X d_Model_stepped_93 (by decide) ?_
      refine tk_iadd X d_Model_stepped_94 ?_
      refine tk_bipush (v := 15) X d_Model_stepped_95 (by decide) ?_
      refine tk_iand X d_Model_stepped_97 ?_
      refine kr_iast X hP (f := 17) (i' := 6) (k' := (4, c, 0)) (by decide) (by decide) rfl (by decide) rfl hc3 rfl rfl d_Model_stepped_98 ?_
      refine tk_iload X d_Model_stepped_99 rfl ?_
      refine tk_iconst (v := 5) X d_Model_stepped_101 (by decide) ?_
      refine tk_icmp_eq (tgt := 112) X d_Model_stepped_102 (by decide) (fun h => absurd h (fun z => absurd (hk.symm.trans z) (by decide))) (fun _ => ?_)
      refine tk_iload X d_Model_stepped_105 rfl ?_
      refine tk_bipush (v := 6) X d_Model_stepped_107 (by decide) ?_
      refine tk_icmp_ne (tgt := 142) X d_Model_stepped_109 (by decide) (fun _ => ?_) (fun h => absurd h (fun z => absurd (hk.symm.trans z) (by decide)))
      refine tk_iload X d_Model_stepped_142 rfl ?_
      refine tk_bipush (v := 8) X d_Model_stepped_144 (by decide) ?_
      refine tk_icmp_le (tgt := 166) X d_Model_stepped_146 (by decide) (fun _ => ?_) (fun h => absurd (by rw [hk]; decide) h)
      refine tk_iload X d_Model_stepped_166 rfl ?_
      refine tk_tableAt (K := 1) (tgt := 236) X hk d_Model_stepped_168 (by decide) (by decide) rfl (by decide) ?_
      refine tk_aload_n X d_Model_stepped_236 rfl rfl ?_
      refine tk_get X (k := (12, 0, 0)) (dm := ks_dm P) (ks_d0 (by decide)) rfl hc_Model hi_Model 7 (by decide) m_Model_13 (v := .ref (tk_ad (ks_G P) (14, 0, 0))) rfl d_Model_stepped_237 ?_
      refine tk_iload X d_Model_stepped_240 rfl ?_
      refine tk_iload X d_Model_stepped_242 rfl ?_
      refine kr_iast X hP (f := 14) (i' := (q_ix (q_A (b (8, c, 0) (q_ix (b (4, c, 0) 6)))))) (by decide) (by decide) rfl (by decide) (q_ra c (b (8, c, 0) (q_ix (b (4, c, 0) 6)))) (by have := q_lA (b (8, c, 0) (q_ix (b (4, c, 0) 6))); omega) (v8k 9 (q_lA (b (8, c, 0) (q_ix (b (4, c, 0) 6))))) (v8i (q_lA (b (8, c, 0) (q_ix (b (4, c, 0) 6))))) d_Model_stepped_244 ?_
      refine tk_goto (tgt := 425) X d_Model_stepped_245 (by decide) ?_
      refine tk_iconst (v := 4) X d_Model_stepped_425 (by decide) ?_
      have e1 : k_do (ks_n P) (ks_S P) (ks_W P) (k_next b c) c (k_word b c) (b (4, c, 0) 6) = _ := (((((((((if_neg (fun z => absurd (hkw.symm.trans z) (by decide))).trans (if_neg (fun z => absurd (hkw.symm.trans z) (by decide)))).trans (if_neg (fun z => absurd (hkw.symm.trans z) (by decide)))).trans (if_neg (fun z => absurd (hkw.symm.trans z) (by decide)))).trans (if_neg (fun z => absurd (hkw.symm.trans z) (by decide)))).trans (if_neg (fun z => absurd (hkw.symm.trans z) (by decide)))).trans (if_neg (fun z => absurd (hkw.symm.trans z) (by decide)))).trans (if_neg (fun z => absurd (hkw.symm.trans z) (by decide)))).trans (if_pos hkw))
      exact tk_iret X hlk hr d_Model_stepped_426 (by rw [e0, e1]; try rfl) (fun _ h => h) (Or.inr rfl) (kw_st rfl (by rw [e0, e1]; unfold k_reckon; rw [if_pos hkw]; rfl) rfl)
    · have hk : (b (8, c, 0) (q_ix (b (4, c, 0) 6))) &&& 15 = 2 := hk0
      have hkw : (k_word b c) &&& 15 = 2 := hk0
      refine tk_iload X d_Model_stepped_75 rfl ?_
      refine tk_if_ne (tgt := 82) X d_Model_stepped_77 (by decide) (fun _ => ?_) (fun h => absurd h (fun z => absurd (hk.symm.trans z) (by decide)))
      refine tk_aload_n X d_Model_stepped_82 rfl rfl ?_
      refine tk_get X (k := (12, 0, 0)) (dm := ks_dm P) (ks_d0 (by decide)) rfl hc_Model hi_Model 10 (by decide) m_Model_22 (v := .ref (tk_ad (ks_G P) (17, 0, 0))) rfl d_Model_stepped_83 ?_
      refine tk_iload_n X d_Model_stepped_86 rfl rfl ?_
      refine tk_aload_n X d_Model_stepped_87 rfl rfl ?_
      refine tk_get X (k := (12, 0, 0)) (dm := ks_dm P) (ks_d0 (by decide)) rfl hc_Model hi_Model 10 (by decide) m_Model_22 (v := .ref (tk_ad (ks_G P) (17, 0, 0))) rfl d_Model_stepped_88 ?_
      refine tk_iload_n X d_Model_stepped_91 rfl rfl ?_
      refine kr_iald X (f := 17) (i' := 6) (k' := (4, c, 0)) (by decide) (by decide) rfl (by decide) rfl hc3 rfl rfl d_Model_stepped_92 ?_
      refine tk_iconst (v := 1) X d_Model_stepped_93 (by decide) ?_
      refine tk_iadd X d_Model_stepped_94 ?_
      refine tk_bipush (v := 15) X d_Model_stepped_95 (by decide) ?_
      refine tk_iand X d_Model_stepped_97 ?_
      refine kr_iast X hP (f := 17) (i' := 6) (k' := (4, c, 0)) (by decide) (by decide) rfl (by decide) rfl hc3 rfl rfl d_Model_stepped_98 ?_
      refine tk_iload X d_Model_stepped_99 rfl ?_
      refine tk_iconst (v := 5) X d_Model_stepped_101 (by decide) ?_
      refine tk_icmp_eq (tgt := 112) X d_Model_stepped_102 (by decide) (fun h => absurd h (fun z => absurd (hk.symm.trans z) (by decide))) (fun _ => ?_)
      refine tk_iload X d_Model_stepped_105 rfl ?_
      refine tk_bipush (v := 6) X d_Model_stepped_107 (by decide) ?_
      refine tk_icmp_ne (tgt := 142) X d_Model_stepped_109 (by decide) (fun _ => ?_) (fun h => absurd h (fun z => absurd (hk.symm.trans z) (by decide)))
      refine tk_iload X d_Model_stepped_142 rfl ?_
      refine tk_bipush (v := 8) X d_Model_stepped_144 (by decide) ?_
      refine tk_icmp_le (tgt := 166) X d_Model_stepped_146 (by decide) (fun _ => ?_) (fun h => absurd (by rw [hk]; decide) h)
      refine tk_iload X d_Model_stepped_166 rfl ?_
      refine tk_tableAt (K := 2) (tgt := 248) X hk d_Model_stepped_168 (by decide) (by decide) rfl (by decide) ?_
      refine tk_aload_n X d_Model_stepped_248 rfl rfl ?_
      refine tk_get X (k := (12, 0, 0)) (dm := ks_dm P) (ks_d0 (by decide)) rfl hc_Model hi_Model 7 (by decide) m_Model_13 (v := .ref (tk_ad (ks_G P) (14, 0, 0))) rfl d_Model_stepped_249 ?_
      refine tk_iload X d_Model_stepped_252 rfl ?_
      refine tk_aload_n X d_Model_stepped_254 rfl rfl ?_
      refine tk_get X (k := (12, 0, 0)) (dm := ks_dm P) (ks_d0 (by decide)) rfl hc_Model hi_Model 7 (by decide) m_Model_13 (v := .ref (tk_ad (ks_G P) (14, 0, 0))) rfl d_Model_stepped_255 ?_
      refine tk_iload X d_Model_stepped_258 rfl ?_
      refine kr_iald X (f := 14) (i' := (q_ix (q_B (b (8, c, 0) (q_ix (b (4, c, 0) 6)))))) (by decide) (by decide) rfl (by decide) (q_rb c (b (8, c, 0) (q_ix (b (4, c, 0) 6)))) (by have := q_lB (b (8, c, 0) (q_ix (b (4, c, 0) 6))); omega) (v8k 9 (q_lB (b (8, c, 0) (q_ix (b (4, c, 0) 6))))) (v8i (q_lB (b (8, c, 0) (q_ix (b (4, c, 0) 6))))) d_Model_stepped_260 ?_
      refine tk_aload_n X d_Model_stepped_261 rfl rfl ?_
      refine tk_get X (k := (12, 0, 0)) (dm := ks_dm P) (ks_d0 (by decide)) rfl hc_Model hi_Model 7 (by decide) m_Model_13 (v := .ref (tk_ad (ks_G P) (14, 0, 0))) rfl d_Model_stepped_262 ?_
      refine tk_iload X d_Model_stepped_265 rfl ?_
      refine kr_iald X (f := 14) (i' := (q_ix (q_C (b (8, c, 0) (q_ix (b (4, c, 0) 6)))))) (by decide) (by decide) rfl (by decide) (q_rc c (b (8, c, 0) (q_ix (b (4, c, 0) 6)))) (by have := q_lC (b (8, c, 0) (q_ix (b (4, c, 0) 6))); omega) (v8k 9 (q_lC (b (8, c, 0) (q_ix (b (4, c, 0) 6))))) (v8i (q_lC (b (8, c, 0) (q_ix (b (4, c, 0) 6))))) d_Model_stepped_267 ?_
      refine tk_iadd X d_Model_stepped_268 ?_
      refine kr_iast X hP (f := 14) (i' := (q_ix (q_A (b (8, c, 0) (q_ix (b (4, c, 0) 6)))))) (by decide) (by decide) rfl (by decide) (q_ra c (b (8, c, 0) (q_ix (b (4, c, 0) 6)))) (by have := q_lA (b (8, c, 0) (q_ix (b (4, c, 0) 6))); omega) (v8k 9 (q_lA (b (8, c, 0) (q_ix (b (4, c, 0) 6))))) (v8i (q_lA (b (8, c, 0) (q_ix (b (4, c, 0) 6))))) d_Model_stepped_269 ?_
      refine tk_goto (tgt := 425) X d_Model_stepped_270 (by decide) ?_
      refine tk_iconst (v := 4) X d_Model_stepped_425 (by decide) ?_
      have e1 : k_do (ks_n P) (ks_S P) (ks_W P) (k_next b c) c (k_word b c) (b (4, c, 0) 6) = _ := ((((((((((if_neg (fun z => absurd (hkw.symm.trans z) (by decide))).trans (if_neg (fun z => absurd (hkw.symm.trans z) (by decide)))).trans (if_neg (fun z => absurd (hkw.symm.trans z) (by decide)))).trans (if_neg (fun z => absurd (hkw.symm.trans z) (by decide)))).trans (if_neg (fun z => absurd (hkw.symm.trans z) (by decide)))).trans (if_neg (fun z => absurd (hkw.symm.trans z) (by decide)))).trans (if_neg (fun z => absurd (hkw.symm.trans z) (by decide)))).trans (if_neg (fun z => absurd (hkw.symm.trans z) (by decide)))).trans (if_neg (fun z => absurd (hkw.symm.trans z) (by decide)))).trans (if_pos hkw))
      exact tk_iret X hlk hr d_Model_stepped_426 (by rw [e0, e1]; try rfl) (fun _ h => h) (Or.inr rfl) (kw_st rfl (by rw [e0, e1]; unfold k_reckon; rw [if_neg (fun z => absurd (hkw.symm.trans z) (by decide)), if_pos hkw]; rfl) rfl)
    · have hk : (b (8, c, 0) (q_ix (b (4, c, 0) 6))) &&& 15 = 3 := hk0
      have hkw : (k_word b c) &&& 15 = 3 := hk0
      refine tk_iload X d_Model_stepped_75 rfl ?_
      refine tk_if_ne (tgt := 82) X d_Model_stepped_77 (by decide) (fun _ => ?_) (fun h => absurd h (fun z => absurd (hk.symm.trans z) (by decide)))
      refine tk_aload_n X d_Model_stepped_82 rfl rfl ?_
      refine tk_get X (k := (12, 0, 0)) (dm := ks_dm P) (ks_d0 (by decide)) rfl hc_Model hi_Model 10 (by decide) m_Model_22 (v := .ref (tk_ad (ks_G P) (17, 0, 0))) rfl d_Model_stepped_83 ?_
      refine tk_iload_n X d_Model_stepped_86 rfl rfl ?_
      refine tk_aload_n X d_Model_stepped_87 rfl rfl ?_
      refine tk_get X (k := (12, 0, 0)) (dm := ks_dm P) (ks_d0 (by decide)) rfl hc_Model hi_Model 10 (by decide) m_Model_22 (v := .ref (tk_ad (ks_G P) (17, 0, 0))) rfl d_Model_stepped_88 ?_
      refine tk_iload_n X d_Model_stepped_91 rfl rfl ?_
      refine kr_iald X (f := 17) (i' := 6) (k' := (4, c, 0)) (by decide) (by decide) rfl (by decide) rfl hc3 rfl rfl d_Model_stepped_92 ?_
      refine tk_iconst (v := 1) X d_Model_stepped_93 (by decide) ?_
      refine tk_iadd X d_Model_stepped_94 ?_
      refine tk_bipush (v := 15) X d_Model_stepped_95 (by decide) ?_
      refine tk_iand X d_Model_stepped_97 ?_
      refine kr_iast X hP (f := 17) (i' := 6) (k' := (4, c, 0)) (by decide) (by decide) rfl (by decide) rfl hc3 rfl rfl d_Model_stepped_98 ?_
      refine tk_iload X d_Model_stepped_99 rfl ?_
      refine tk_iconst (v := 5) X d_Model_stepped_101 (by decide) ?_
      refine tk_icmp_eq (tgt := 112) X d_Model_stepped_102 (by decide) (fun h => absurd h (fun z => absurd (hk.symm.trans z) (by decide))) (fun _ => ?_)
      refine tk_iload X d_Model_stepped_105 rfl ?_
      refine tk_bipush (v := 6) X d_Model_stepped_107 (by decide) ?_
      refine tk_icmp_ne (tgt := 142) X d_Model_stepped_109 (by decide) (fun _ => ?_) (fun h => absurd h (fun z => absurd (hk.symm.trans z) (by decide)))
      refine tk_iload X d_Model_stepped_142 rfl ?_
      refine tk_bipush (v := 8) X d_Model_stepped_144 (by decide) ?_
      refine tk_icmp_le (tgt := 166) X d_Model_stepped_146 (by decide) (fun _ => ?_) (fun h => absurd (by rw [hk]; decide) h)
      refine tk_iload X d_Model_stepped_166 rfl ?_
      refine tk_tableAt (K := 3) (tgt := 273) X hk d_Model_stepped_168 (by decide) (by decide) rfl (by decide) ?_
      refine tk_aload_n X d_Model_stepped_273 rfl rfl ?_
      refine tk_get X (k := (12, 0, 0)) (dm := ks_dm P) (ks_d0 (by decide)) rfl hc_Model hi_Model 7 (by decide) m_Model_13 (v := .ref (tk_ad (ks_G P) (14, 0, 0))) rfl d_Model_stepped_274 ?_
      refine tk_iload X d_Model_stepped_277 rfl ?_
      refine tk_aload_n X d_Model_stepped_279 rfl rfl ?_
      refine tk_get X (k := (12, 0, 0)) (dm := ks_dm P) (ks_d0 (by decide)) rfl hc_Model hi_Model 7 (by decide) m_Model_13 (v := .ref (tk_ad (ks_G P) (14, 0, 0))) rfl d_Model_stepped_280 ?_
      refine tk_iload X d_Model_stepped_283 rfl ?_
      refine kr_iald X (f := 14) (i' := (q_ix (q_B (b (8, c, 0) (q_ix (b (4, c, 0) 6)))))) (by decide) (by decide) rfl (by decide) (q_rb c (b (8, c, 0) (q_ix (b (4, c, 0) 6)))) (by have := q_lB (b (8, c, 0) (q_ix (b (4, c, 0) 6))); omega) (v8k 9 (q_lB (b (8, c, 0) (q_ix (b (4, c, 0) 6))))) (v8i (q_lB (b (8, c, 0) (q_ix (b (4, c, 0) 6))))) d_Model_stepped_285 ?_
      refine tk_aload_n X d_Model_stepped_286 rfl rfl ?_
      refine tk_get X (k := (12, 0, 0)) (dm := ks_dm P) (ks_d0 (by decide)) rfl hc_Model hi_Model 7 (by decide) m_Model_13 (v := .ref (tk_ad (ks_G P) (14, 0, 0))) rfl d_Model_stepped_287 ?_
      refine tk_iload X d_Model_stepped_290 rfl ?_
      refine kr_iald X (f := 14) (i' := (q_ix (q_C (b (8, c, 0) (q_ix (b (4, c, 0) 6)))))) (by decide) (by decide) rfl (by decide) (q_rc c (b (8, c, 0) (q_ix (b (4, c, 0) 6)))) (by have := q_lC (b (8, c, 0) (q_ix (b (4, c, 0) 6))); omega) (v8k 9 (q_lC (b (8, c, 0) (q_ix (b (4, c, 0) 6))))) (v8i (q_lC (b (8, c, 0) (q_ix (b (4, c, 0) 6))))) d_Model_stepped_292 ?_
      refine tk_isub X d_Model_stepped_293 ?_
      refine kr_iast X hP (f := 14) (i' := (q_ix (q_A (b (8, c, 0) (q_ix (b (4, c, 0) 6)))))) (by decide) (by decide) rfl (by decide) (q_ra c (b (8, c, 0) (q_ix (b (4, c, 0) 6)))) (by have := q_lA (b (8, c, 0) (q_ix (b (4, c, 0) 6))); omega) (v8k 9 (q_lA (b (8, c, 0) (q_ix (b (4, c, 0) 6))))) (v8i (q_lA (b (8, c, 0) (q_ix (b (4, c, 0) 6))))) d_Model_stepped_294 ?_
      refine tk_goto (tgt := 425) X d_Model_stepped_295 (by decide) ?_
      refine tk_iconst (v := 4) X d_Model_stepped_425 (by decide) ?_
      have e1 : k_do (ks_n P) (ks_S P) (ks_W P) (k_next b c) c (k_word b c) (b (4, c, 0) 6) = _ := (((((((((((if_neg (fun z => absurd (hkw.symm.trans z) (by decide))).trans (if_neg (fun z => absurd (hkw.symm.trans z) (by decide)))).trans (if_neg (fun z => absurd (hkw.symm.trans z) (by decide)))).trans (if_neg (fun z => absurd (hkw.symm.trans z) (by decide)))).trans (if_neg (fun z => absurd (hkw.symm.trans z) (by decide)))).trans (if_neg (fun z => absurd (hkw.symm.trans z) (by decide)))).trans (if_neg (fun z => absurd (hkw.symm.trans z) (by decide)))).trans (if_neg (fun z => absurd (hkw.symm.trans z) (by decide)))).trans (if_neg (fun z => absurd (hkw.symm.trans z) (by decide)))).trans (if_neg (fun z => absurd (hkw.symm.trans z) (by decide)))).trans (if_pos hkw))
      exact tk_iret X hlk hr d_Model_stepped_426 (by rw [e0, e1]; try rfl) (fun _ h => h) (Or.inr rfl) (kw_st rfl (by rw [e0, e1]; unfold k_reckon; rw [if_neg (fun z => absurd (hkw.symm.trans z) (by decide)), if_neg (fun z => absurd (hkw.symm.trans z) (by decide)), if_pos hkw]; rfl) rfl)
    · have hk : (b (8, c, 0) (q_ix (b (4, c, 0) 6))) &&& 15 = 4 := hk0
      have hkw : (k_word b c) &&& 15 = 4 := hk0
      refine tk_iload X d_Model_stepped_75 rfl ?_
      refine tk_if_ne (tgt := 82) X d_Model_stepped_77 (by decide) (fun _ => ?_) (fun h => absurd h (fun z => absurd (hk.symm.trans z) (by decide)))
      refine tk_aload_n X d_Model_stepped_82 rfl rfl ?_
      refine tk_get X (k := (12, 0, 0)) (dm := ks_dm P) (ks_d0 (by decide)) rfl hc_Model hi_Model 10 (by decide) m_Model_22 (v := .ref (tk_ad (ks_G P) (17, 0, 0))) rfl d_Model_stepped_83 ?_
      refine tk_iload_n X d_Model_stepped_86 rfl rfl ?_
      refine tk_aload_n X d_Model_stepped_87 rfl rfl ?_
      refine tk_get X (k := (12, 0, 0)) (dm := ks_dm P) (ks_d0 (by decide)) rfl hc_Model hi_Model 10 (by decide) m_Model_22 (v := .ref (tk_ad (ks_G P) (17, 0, 0))) rfl d_Model_stepped_88 ?_
      refine tk_iload_n X d_Model_stepped_91 rfl rfl ?_
      refine kr_iald X (f := 17) (i' := 6) (k' := (4, c, 0)) (by decide) (by decide) rfl (by decide) rfl hc3 rfl rfl d_Model_stepped_92 ?_
      refine tk_iconst (v := 1) X d_Model_stepped_93 (by decide) ?_
      refine tk_iadd X d_Model_stepped_94 ?_
      refine tk_bipush (v := 15) X d_Model_stepped_95 (by decide) ?_
      refine tk_iand X d_Model_stepped_97 ?_
      refine kr_iast X hP (f := 17) (i' := 6) (k' := (4, c, 0)) (by decide) (by decide) rfl (by decide) rfl hc3 rfl rfl d_Model_stepped_98 ?_
      refine tk_iload X d_Model_stepped_99 rfl ?_
      refine tk_iconst (v := 5) X d_Model_stepped_101 (by decide) ?_
      refine tk_icmp_eq (tgt := 112) X d_Model_stepped_102 (by decide) (fun h => absurd h (fun z => absurd (hk.symm.trans z) (by decide))) (fun _ => ?_)
      refine tk_iload X d_Model_stepped_105 rfl ?_
      refine tk_bipush (v := 6) X d_Model_stepped_107 (by decide) ?_
      refine tk_icmp_ne (tgt := 142) X d_Model_stepped_109 (by decide) (fun _ => ?_) (fun h => absurd h (fun z => absurd (hk.symm.trans z) (by decide)))
      refine tk_iload X d_Model_stepped_142 rfl ?_
      refine tk_bipush (v := 8) X d_Model_stepped_144 (by decide) ?_
      refine tk_icmp_le (tgt := 166) X d_Model_stepped_146 (by decide) (fun _ => ?_) (fun h => absurd (by rw [hk]; decide) h)
      refine tk_iload X d_Model_stepped_166 rfl ?_
      refine tk_tableAt (K := 4) (tgt := 298) X hk d_Model_stepped_168 (by decide) (by decide) rfl (by decide) ?_
      refine tk_aload_n X d_Model_stepped_298 rfl rfl ?_
      refine tk_get X (k := (12, 0, 0)) (dm := ks_dm P) (ks_d0 (by decide)) rfl hc_Model hi_Model 7 (by decide) m_Model_13 (v := .ref (tk_ad (ks_G P) (14, 0, 0))) rfl d_Model_stepped_299 ?_
      refine tk_iload X d_Model_stepped_302 rfl ?_
      refine tk_aload_n X d_Model_stepped_304 rfl rfl ?_
      refine tk_get X (k := (12, 0, 0)) (dm := ks_dm P) (ks_d0 (by decide)) rfl hc_Model hi_Model 7 (by decide) m_Model_13 (v := .ref (tk_ad (ks_G P) (14, 0, 0))) rfl d_Model_stepped_305 ?_
      refine tk_iload X d_Model_stepped_308 rfl ?_
      refine kr_iald X (f := 14) (i' := (q_ix (q_B (b (8, c, 0) (q_ix (b (4, c, 0) 6)))))) (by decide) (by decide) rfl (by decide) (q_rb c (b (8, c, 0) (q_ix (b (4, c, 0) 6)))) (by have := q_lB (b (8, c, 0) (q_ix (b (4, c, 0) 6))); omega) (v8k 9 (q_lB (b (8, c, 0) (q_ix (b (4, c, 0) 6))))) (v8i (q_lB (b (8, c, 0) (q_ix (b (4, c, 0) 6))))) d_Model_stepped_310 ?_
      refine tk_aload_n X d_Model_stepped_311 rfl rfl ?_
      refine tk_get X (k := (12, 0, 0)) (dm := ks_dm P) (ks_d0 (by decide)) rfl hc_Model hi_Model 7 (by decide) m_Model_13 (v := .ref (tk_ad (ks_G P) (14, 0, 0))) rfl d_Model_stepped_312 ?_
      refine tk_iload X d_Model_stepped_315 rfl ?_
      refine kr_iald X (f := 14) (i' := (q_ix (q_C (b (8, c, 0) (q_ix (b (4, c, 0) 6)))))) (by decide) (by decide) rfl (by decide) (q_rc c (b (8, c, 0) (q_ix (b (4, c, 0) 6)))) (by have := q_lC (b (8, c, 0) (q_ix (b (4, c, 0) 6))); omega) (v8k 9 (q_lC (b (8, c, 0) (q_ix (b (4, c, 0) 6))))) (v8i (q_lC (b (8, c, 0) (q_ix (b (4, c, 0) 6))))) d_Model_stepped_317 ?_
      refine tk_iand X d_Model_stepped_318 ?_
      refine kr_iast X hP (f := 14) (i' := (q_ix (q_A (b (8, c, 0) (q_ix (b (4, c, 0) 6)))))) (by decide) (by decide) rfl (by decide) (q_ra c (b (8, c, 0) (q_ix (b (4, c, 0) 6)))) (by have := q_lA (b (8, c, 0) (q_ix (b (4, c, 0) 6))); omega) (v8k 9 (q_lA (b (8, c, 0) (q_ix (b (4, c, 0) 6))))) (v8i (q_lA (b (8, c, 0) (q_ix (b (4, c, 0) 6))))) d_Model_stepped_319 ?_
      refine tk_goto (tgt := 425) X d_Model_stepped_320 (by decide) ?_
      refine tk_iconst (v := 4) X d_Model_stepped_425 (by decide) ?_
      have e1 : k_do (ks_n P) (ks_S P) (ks_W P) (k_next b c) c (k_word b c) (b (4, c, 0) 6) = _ := ((((((((((((if_neg (fun z => absurd (hkw.symm.trans z) (by decide))).trans (if_neg (fun z => absurd (hkw.symm.trans z) (by decide)))).trans (if_neg (fun z => absurd (hkw.symm.trans z) (by decide)))).trans (if_neg (fun z => absurd (hkw.symm.trans z) (by decide)))).trans (if_neg (fun z => absurd (hkw.symm.trans z) (by decide)))).trans (if_neg (fun z => absurd (hkw.symm.trans z) (by decide)))).trans (if_neg (fun z => absurd (hkw.symm.trans z) (by decide)))).trans (if_neg (fun z => absurd (hkw.symm.trans z) (by decide)))).trans (if_neg (fun z => absurd (hkw.symm.trans z) (by decide)))).trans (if_neg (fun z => absurd (hkw.symm.trans z) (by decide)))).trans (if_neg (fun z => absurd (hkw.symm.trans z) (by decide)))).trans (if_pos hkw))
      exact tk_iret X hlk hr d_Model_stepped_426 (by rw [e0, e1]; try rfl) (fun _ h => h) (Or.inr rfl) (kw_st rfl (by rw [e0, e1]; unfold k_reckon; rw [if_neg (fun z => absurd (hkw.symm.trans z) (by decide)), if_neg (fun z => absurd (hkw.symm.trans z) (by decide)), if_neg (fun z => absurd (hkw.symm.trans z) (by decide)), if_pos hkw]; rfl) rfl)
    · have hk : (b (8, c, 0) (q_ix (b (4, c, 0) 6))) &&& 15 = 5 := hk0
      have hkw : (k_word b c) &&& 15 = 5 := hk0
      refine tk_iload X d_Model_stepped_75 rfl ?_
      refine tk_if_ne (tgt := 82) X d_Model_stepped_77 (by decide) (fun _ => ?_) (fun h => absurd h (fun z => absurd (hk.symm.trans z) (by decide)))
      refine tk_aload_n X d_Model_stepped_82 rfl rfl ?_
      refine tk_get X (k := (12, 0, 0)) (dm := ks_dm P) (ks_d0 (by decide)) rfl hc_Model hi_Model 10 (by decide) m_Model_22 (v := .ref (tk_ad (ks_G P) (17, 0, 0))) rfl d_Model_stepped_83 ?_
      refine tk_iload_n X d_Model_stepped_86 rfl rfl ?_
      refine tk_aload_n X d_Model_stepped_87 rfl rfl ?_
      refine tk_get X (k := (12, 0, 0)) (dm := ks_dm P) (ks_d0 (by decide)) rfl hc_Model hi_Model 10 (by decide) m_Model_22 (v := .ref (tk_ad (ks_G P) (17, 0, 0))) rfl d_Model_stepped_88 ?_
      refine tk_iload_n X d_Model_stepped_91 rfl rfl ?_
      refine kr_iald X (f := 17) (i' := 6) (k' := (4, c, 0)) (by decide) (by decide) rfl (by decide) rfl hc3 rfl rfl d_Model_stepped_92 ?_
      refine tk_iconst (v := 1) X d_Model_stepped_93 (by decide) ?_
      refine tk_iadd X d_Model_stepped_94 ?_
      refine tk_bipush (v := 15) X d_Model_stepped_95 (by decide) ?_
      refine tk_iand X d_Model_stepped_97 ?_
      refine kr_iast X hP (f := 17) (i' := 6) (k' := (4, c, 0)) (by decide) (by decide) rfl (by decide) rfl hc3 rfl rfl d_Model_stepped_98 ?_
      refine tk_iload X d_Model_stepped_99 rfl ?_
      refine tk_iconst (v := 5) X d_Model_stepped_101 (by decide) ?_
      refine tk_icmp_eq (tgt := 112) X d_Model_stepped_102 (by decide) (fun _ => ?_) (fun h => absurd hk h)
      refine tk_aload_n X d_Model_stepped_112 rfl rfl ?_
      refine tk_iload_n X d_Model_stepped_113 rfl rfl ?_
      refine tk_iload X d_Model_stepped_114 rfl ?_
      refine tk_aload_n X d_Model_stepped_116 rfl rfl ?_
      refine tk_get X (k := (12, 0, 0)) (dm := ks_dm P) (ks_d0 (by decide)) rfl hc_Model hi_Model 7 (by decide) m_Model_13 (v := .ref (tk_ad (ks_G P) (14, 0, 0))) rfl d_Model_stepped_117 ?_
      refine tk_iload X d_Model_stepped_120 rfl ?_
      refine kr_iald X (f := 14) (i' := (q_ix (q_B (b (8, c, 0) (q_ix (b (4, c, 0) 6)))))) (by decide) (by decide) rfl (by decide) (q_rb c (b (8, c, 0) (q_ix (b (4, c, 0) 6)))) (by have := q_lB (b (8, c, 0) (q_ix (b (4, c, 0) 6))); omega) (v8k 9 (q_lB (b (8, c, 0) (q_ix (b (4, c, 0) 6))))) (v8i (q_lB (b (8, c, 0) (q_ix (b (4, c, 0) 6))))) d_Model_stepped_122 ?_
      refine tk_iload X d_Model_stepped_123 rfl ?_
      refine tk_iadd X d_Model_stepped_125 ?_
      refine tk_iload X d_Model_stepped_126 rfl ?_
      refine tk_bipush (v := 6) X d_Model_stepped_128 (by decide) ?_
      refine tk_icmp_ne (tgt := 137) X d_Model_stepped_130 (by decide) (fun _ => ?_) (fun h => absurd h (fun z => absurd (hk.symm.trans z) (by decide)))
      refine tk_iconst (v := 0) X d_Model_stepped_137 (by decide) ?_
      have ea := q_ra c (b (8, c, 0) (q_ix (b (4, c, 0) 6)))
      unfold q_A at ea
      rw [ea]
      refine tk_callV X (kb := (12, 0, 0)) (ks_d0 (by decide)) rfl hc_Model (c_Model_moved l P hP c (q_ix (q_A (b (8, c, 0) (q_ix (b (4, c, 0) 6))))) hc (q_lA (b (8, c, 0) (q_ix (b (4, c, 0) 6)))) (k_addr (k_next b c) c (b (8, c, 0) (q_ix (b (4, c, 0) 6)))) false a (k_next b c) o (fun i hi => r_Vc_eq (hV i hi) (fun _ _ => ks_up_nk _ _ (by simp)))) (ks_site (n := 4) mc_Model_moved mi_Model (by decide +kernel) (by decide) (by decide)) m_Model_102 ms_Model_moved mv_Model_moved rfl (Nat.le_of_ble_eq_true rfl) ⟨Nat.le_of_ble_eq_true rfl, Nat.le_of_ble_eq_true rfl⟩ rfl d_Model_stepped_138 ?_
      have e1 : k_do (ks_n P) (ks_S P) (ks_W P) (k_next b c) c (k_word b c) (b (4, c, 0) 6) = _ := ((if_neg (fun z => absurd (hkw.symm.trans z) (by decide))).trans (if_pos hkw))
      exact tk_iret X hlk hr d_Model_stepped_141 (by rw [e0, e1, k_load_mv]; try rfl) (fun _ h => h) (Or.inr rfl) (kw_st rfl (by rw [e0, e1, k_load_mv]; rfl) rfl)
    · have hk : (b (8, c, 0) (q_ix (b (4, c, 0) 6))) &&& 15 = 6 := hk0
      have hkw : (k_word b c) &&& 15 = 6 := hk0
      refine tk_iload X d_Model_stepped_75 rfl ?_
      refine tk_if_ne (tgt := 82) X d_Model_stepped_77 (by decide) (fun _ => ?_) (fun h => absurd h (fun z => absurd (hk.symm.trans z) (by decide)))
      refine tk_aload_n X d_Model_stepped_82 rfl rfl ?_
      refine tk_get X (k := (12, 0, 0)) (dm := ks_dm P) (ks_d0 (by decide)) rfl hc_Model hi_Model 10 (by decide) m_Model_22 (v := .ref (tk_ad (ks_G P) (17, 0, 0))) rfl d_Model_stepped_83 ?_
      refine tk_iload_n X d_Model_stepped_86 rfl rfl ?_
      refine tk_aload_n X d_Model_stepped_87 rfl rfl ?_
      refine tk_get X (k := (12, 0, 0)) (dm := ks_dm P) (ks_d0 (by decide)) rfl hc_Model hi_Model 10 (by decide) m_Model_22 (v := .ref (tk_ad (ks_G P) (17, 0, 0))) rfl d_Model_stepped_88 ?_
      refine tk_iload_n X d_Model_stepped_91 rfl rfl ?_
      refine kr_iald X (f := 17) (i' := 6) (k' := (4, c, 0)) (by decide) (by decide) rfl (by decide) rfl hc3 rfl rfl d_Model_stepped_92 ?_
      refine tk_iconst (v := 1) X d_Model_stepped_93 (by decide) ?_
      refine tk_iadd X d_Model_stepped_94 ?_
      refine tk_bipush (v := 15) X d_Model_stepped_95 (by decide) ?_
      refine tk_iand X d_Model_stepped_97 ?_
      refine kr_iast X hP (f := 17) (i' := 6) (k' := (4, c, 0)) (by decide) (by decide) rfl (by decide) rfl hc3 rfl rfl d_Model_stepped_98 ?_
      refine tk_iload X d_Model_stepped_99 rfl ?_
      refine tk_iconst (v := 5) X d_Model_stepped_101 (by decide) ?_
      refine tk_icmp_eq (tgt := 112) X d_Model_stepped_102 (by decide) (fun h => absurd h (fun z => absurd (hk.symm.trans z) (by decide))) (fun _ => ?_)
      refine tk_iload X d_Model_stepped_105 rfl ?_
      refine tk_bipush (v := 6) X d_Model_stepped_107 (by decide) ?_
      refine tk_icmp_ne (tgt := 142) X d_Model_stepped_109 (by decide) (fun h => absurd hk h) (fun _ => ?_)
      refine tk_aload_n X d_Model_stepped_112 rfl rfl ?_
      refine tk_iload_n X d_Model_stepped_113 rfl rfl ?_
      refine tk_iload X d_Model_stepped_114 rfl ?_
      refine tk_aload_n X d_Model_stepped_116 rfl rfl ?_
      refine tk_get X (k := (12, 0, 0)) (dm := ks_dm P) (ks_d0 (by decide)) rfl hc_Model hi_Model 7 (by decide) m_Model_13 (v := .ref (tk_ad (ks_G P) (14, 0, 0))) rfl d_Model_stepped_117 ?_
      refine tk_iload X d_Model_stepped_120 rfl ?_
      refine kr_iald X (f := 14) (i' := (q_ix (q_B (b (8, c, 0) (q_ix (b (4, c, 0) 6)))))) (by decide) (by decide) rfl (by decide) (q_rb c (b (8, c, 0) (q_ix (b (4, c, 0) 6)))) (by have := q_lB (b (8, c, 0) (q_ix (b (4, c, 0) 6))); omega) (v8k 9 (q_lB (b (8, c, 0) (q_ix (b (4, c, 0) 6))))) (v8i (q_lB (b (8, c, 0) (q_ix (b (4, c, 0) 6))))) d_Model_stepped_122 ?_
      refine tk_iload X d_Model_stepped_123 rfl ?_
      refine tk_iadd X d_Model_stepped_125 ?_
      refine tk_iload X d_Model_stepped_126 rfl ?_
      refine tk_bipush (v := 6) X d_Model_stepped_128 (by decide) ?_
      refine tk_icmp_ne (tgt := 137) X d_Model_stepped_130 (by decide) (fun h => absurd hk h) (fun _ => ?_)
      refine tk_iconst (v := 1) X d_Model_stepped_133 (by decide) ?_
      refine tk_goto (tgt := 138) X d_Model_stepped_134 (by decide) ?_
      have ea := q_ra c (b (8, c, 0) (q_ix (b (4, c, 0) 6)))
      unfold q_A at ea
      rw [ea]
      refine tk_callV X (kb := (12, 0, 0)) (ks_d0 (by decide)) rfl hc_Model (c_Model_moved l P hP c (q_ix (q_A (b (8, c, 0) (q_ix (b (4, c, 0) 6))))) hc (q_lA (b (8, c, 0) (q_ix (b (4, c, 0) 6)))) (k_addr (k_next b c) c (b (8, c, 0) (q_ix (b (4, c, 0) 6)))) true a (k_next b c) o (fun i hi => r_Vc_eq (hV i hi) (fun _ _ => ks_up_nk _ _ (by simp)))) (ks_site (n := 4) mc_Model_moved mi_Model (by decide +kernel) (by decide) (by decide)) m_Model_102 ms_Model_moved mv_Model_moved rfl (Nat.le_of_ble_eq_true rfl) ⟨Nat.le_of_ble_eq_true rfl, Nat.le_of_ble_eq_true rfl⟩ rfl d_Model_stepped_138 ?_
      have e1 : k_do (ks_n P) (ks_S P) (ks_W P) (k_next b c) c (k_word b c) (b (4, c, 0) 6) = _ := (((if_neg (fun z => absurd (hkw.symm.trans z) (by decide))).trans (if_neg (fun z => absurd (hkw.symm.trans z) (by decide)))).trans (if_pos hkw))
      exact tk_iret X hlk hr d_Model_stepped_141 (by rw [e0, e1, k_save_mv]; try rfl) (fun _ h => h) (Or.inr rfl) (kw_st rfl (by rw [e0, e1, k_save_mv]; rfl) rfl)
    · have hk : (b (8, c, 0) (q_ix (b (4, c, 0) 6))) &&& 15 = 7 := hk0
      have hkw : (k_word b c) &&& 15 = 7 := hk0
      refine tk_iload X d_Model_stepped_75 rfl ?_
      refine tk_if_ne (tgt := 82) X d_Model_stepped_77 (by decide) (fun _ => ?_) (fun h => absurd h (fun z => absurd (hk.symm.trans z) (by decide)))
      refine tk_aload_n X d_Model_stepped_82 rfl rfl ?_
      refine tk_get X (k := (12, 0, 0)) (dm := ks_dm P) (ks_d0 (by decide)) rfl hc_Model hi_Model 10 (by decide) m_Model_22 (v := .ref (tk_ad (ks_G P) (17, 0, 0))) rfl d_Model_stepped_83 ?_
      refine tk_iload_n X d_Model_stepped_86 rfl rfl ?_
      refine tk_aload_n X d_Model_stepped_87 rfl rfl ?_
      refine tk_get X (k := (12, 0, 0)) (dm := ks_dm P) (ks_d0 (by decide)) rfl hc_Model hi_Model 10 (by decide) m_Model_22 (v := .ref (tk_ad (ks_G P) (17, 0, 0))) rfl d_Model_stepped_88 ?_
      refine tk_iload_n X d_Model_stepped_91 rfl rfl ?_
      refine kr_iald X (f := 17) (i' := 6) (k' := (4, c, 0)) (by decide) (by decide) rfl (by decide) rfl hc3 rfl rfl d_Model_stepped_92 ?_
      refine tk_iconst (v := 1) X d_Model_stepped_93 (by decide) ?_
      refine tk_iadd X d_Model_stepped_94 ?_
      refine tk_bipush (v := 15) X d_Model_stepped_95 (by decide) ?_
      refine tk_iand X d_Model_stepped_97 ?_
      refine kr_iast X hP (f := 17) (i' := 6) (k' := (4, c, 0)) (by decide) (by decide) rfl (by decide) rfl hc3 rfl rfl d_Model_stepped_98 ?_
      refine tk_iload X d_Model_stepped_99 rfl ?_
      refine tk_iconst (v := 5) X d_Model_stepped_101 (by decide) ?_
      refine tk_icmp_eq (tgt := 112) X d_Model_stepped_102 (by decide) (fun h => absurd h (fun z => absurd (hk.symm.trans z) (by decide))) (fun _ => ?_)
      refine tk_iload X d_Model_stepped_105 rfl ?_
      refine tk_bipush (v := 6) X d_Model_stepped_107 (by decide) ?_
      refine tk_icmp_ne (tgt := 142) X d_Model_stepped_109 (by decide) (fun _ => ?_) (fun h => absurd h (fun z => absurd (hk.symm.trans z) (by decide)))
      refine tk_iload X d_Model_stepped_142 rfl ?_
      refine tk_bipush (v := 8) X d_Model_stepped_144 (by decide) ?_
      refine tk_icmp_le (tgt := 166) X d_Model_stepped_146 (by decide) (fun _ => ?_) (fun h => absurd (by rw [hk]; decide) h)
      refine tk_iload X d_Model_stepped_166 rfl ?_
      refine tk_tableAt (K := 7) (tgt := 323) X hk d_Model_stepped_168 (by decide) (by decide) rfl (by decide) ?_
      refine tk_aload_n X d_Model_stepped_323 rfl rfl ?_
      refine tk_get X (k := (12, 0, 0)) (dm := ks_dm P) (ks_d0 (by decide)) rfl hc_Model hi_Model 7 (by decide) m_Model_13 (v := .ref (tk_ad (ks_G P) (14, 0, 0))) rfl d_Model_stepped_324 ?_
      refine tk_iload X d_Model_stepped_327 rfl ?_
      refine kr_iald X (f := 14) (i' := (q_ix (q_A (b (8, c, 0) (q_ix (b (4, c, 0) 6)))))) (by decide) (by decide) rfl (by decide) (q_ra c (b (8, c, 0) (q_ix (b (4, c, 0) 6)))) (by have := q_lA (b (8, c, 0) (q_ix (b (4, c, 0) 6))); omega) (v8k 9 (q_lA (b (8, c, 0) (q_ix (b (4, c, 0) 6))))) (v8i (q_lA (b (8, c, 0) (q_ix (b (4, c, 0) 6))))) d_Model_stepped_329 ?_
      refine tk_if_ne (tgt := 425) X d_Model_stepped_330 (by decide) (fun h1 => ?_) (fun h1 => ?_)
      · skip
        refine tk_iconst (v := 4) X d_Model_stepped_425 (by decide) ?_
        have e1 : k_do (ks_n P) (ks_S P) (ks_W P) (k_next b c) c (k_word b c) (b (4, c, 0) 6) = _ := ((((if_neg (fun z => absurd (hkw.symm.trans z) (by decide))).trans (if_neg (fun z => absurd (hkw.symm.trans z) (by decide)))).trans (if_neg (fun z => absurd (hkw.symm.trans z) (by decide)))).trans (if_pos hkw))
        have e2 : k_branch (k_next b c) c (k_word b c) = _ := (if_pos hkw).trans (if_neg h1)
        exact tk_iret X hlk hr d_Model_stepped_426 (by rw [e0, e1]; try rfl) (fun _ h => h) (Or.inr rfl) (kw_st rfl (by rw [e0, e1, e2]; try rfl) rfl)
      · skip
        refine tk_aload_n X d_Model_stepped_333 rfl rfl ?_
        refine tk_get X (k := (12, 0, 0)) (dm := ks_dm P) (ks_d0 (by decide)) rfl hc_Model hi_Model 10 (by decide) m_Model_22 (v := .ref (tk_ad (ks_G P) (17, 0, 0))) rfl d_Model_stepped_334 ?_
        refine tk_iload_n X d_Model_stepped_337 rfl rfl ?_
        refine tk_aload_n X d_Model_stepped_338 rfl rfl ?_
        refine tk_get X (k := (12, 0, 0)) (dm := ks_dm P) (ks_d0 (by decide)) rfl hc_Model hi_Model 10 (by decide) m_Model_22 (v := .ref (tk_ad (ks_G P) (17, 0, 0))) rfl d_Model_stepped_339 ?_
        refine tk_iload_n X d_Model_stepped_342 rfl rfl ?_
        refine kr_iald X (f := 17) (i' := 6) (k' := (4, c, 0)) (by decide) (by decide) rfl (by decide) rfl hc3 rfl rfl d_Model_stepped_343 ?_
        refine tk_iload X d_Model_stepped_344 rfl ?_
        refine tk_iadd X d_Model_stepped_346 ?_
        refine tk_bipush (v := 15) X d_Model_stepped_347 (by decide) ?_
        refine tk_iand X d_Model_stepped_349 ?_
        refine kr_iast X hP (f := 17) (i' := 6) (k' := (4, c, 0)) (by decide) (by decide) rfl (by decide) rfl hc3 rfl rfl d_Model_stepped_350 ?_
        refine tk_goto (tgt := 425) X d_Model_stepped_351 (by decide) ?_
        refine tk_iconst (v := 4) X d_Model_stepped_425 (by decide) ?_
        have e1 : k_do (ks_n P) (ks_S P) (ks_W P) (k_next b c) c (k_word b c) (b (4, c, 0) 6) = _ := ((((if_neg (fun z => absurd (hkw.symm.trans z) (by decide))).trans (if_neg (fun z => absurd (hkw.symm.trans z) (by decide)))).trans (if_neg (fun z => absurd (hkw.symm.trans z) (by decide)))).trans (if_pos hkw))
        have e2 : k_branch (k_next b c) c (k_word b c) = _ := (if_pos hkw).trans (if_pos h1)
        exact tk_iret X hlk hr d_Model_stepped_426 (by rw [e0, e1]; try rfl) (fun _ h => h) (Or.inr rfl) (kw_st rfl (by rw [e0, e1, e2]; try rfl) rfl)
    · have hk : (b (8, c, 0) (q_ix (b (4, c, 0) 6))) &&& 15 = 8 := hk0
      have hkw : (k_word b c) &&& 15 = 8 := hk0
      refine tk_iload X d_Model_stepped_75 rfl ?_
      refine tk_if_ne (tgt := 82) X d_Model_stepped_77 (by decide) (fun _ => ?_) (fun h => absurd h (fun z => absurd (hk.symm.trans z) (by decide)))
      refine tk_aload_n X d_Model_stepped_82 rfl rfl ?_
      refine tk_get X (k := (12, 0, 0)) (dm := ks_dm P) (ks_d0 (by decide)) rfl hc_Model hi_Model 10 (by decide) m_Model_22 (v := .ref (tk_ad (ks_G P) (17, 0, 0))) rfl d_Model_stepped_83 ?_
      refine tk_iload_n X d_Model_stepped_86 rfl rfl ?_
      refine tk_aload_n X d_Model_stepped_87 rfl rfl ?_
      refine tk_get X (k := (12, 0, 0)) (dm := ks_dm P) (ks_d0 (by decide)) rfl hc_Model hi_Model 10 (by decide) m_Model_22 (v := .ref (tk_ad (ks_G P) (17, 0, 0))) rfl d_Model_stepped_88 ?_
      refine tk_iload_n X d_Model_stepped_91 rfl rfl ?_
      refine kr_iald X (f := 17) (i' := 6) (k' := (4, c, 0)) (by decide) (by decide) rfl (by decide) rfl hc3 rfl rfl d_Model_stepped_92 ?_
      refine tk_iconst (v := 1) X d_Model_stepped_93 (by decide) ?_
      refine tk_iadd X d_Model_stepped_94 ?_
      refine tk_bipush (v := 15) X d_Model_stepped_95 (by decide) ?_
      refine tk_iand X d_Model_stepped_97 ?_
      refine kr_iast X hP (f := 17) (i' := 6) (k' := (4, c, 0)) (by decide) (by decide) rfl (by decide) rfl hc3 rfl rfl d_Model_stepped_98 ?_
      refine tk_iload X d_Model_stepped_99 rfl ?_
      refine tk_iconst (v := 5) X d_Model_stepped_101 (by decide) ?_
      refine tk_icmp_eq (tgt := 112) X d_Model_stepped_102 (by decide) (fun h => absurd h (fun z => absurd (hk.symm.trans z) (by decide))) (fun _ => ?_)
      refine tk_iload X d_Model_stepped_105 rfl ?_
      refine tk_bipush (v := 6) X d_Model_stepped_107 (by decide) ?_
      refine tk_icmp_ne (tgt := 142) X d_Model_stepped_109 (by decide) (fun _ => ?_) (fun h => absurd h (fun z => absurd (hk.symm.trans z) (by decide)))
      refine tk_iload X d_Model_stepped_142 rfl ?_
      refine tk_bipush (v := 8) X d_Model_stepped_144 (by decide) ?_
      refine tk_icmp_le (tgt := 166) X d_Model_stepped_146 (by decide) (fun _ => ?_) (fun h => absurd (by rw [hk]; decide) h)
      refine tk_iload X d_Model_stepped_166 rfl ?_
      refine tk_tableAt (K := 8) (tgt := 354) X hk d_Model_stepped_168 (by decide) (by decide) rfl (by decide) ?_
      refine tk_aload_n X d_Model_stepped_354 rfl rfl ?_
      refine tk_get X (k := (12, 0, 0)) (dm := ks_dm P) (ks_d0 (by decide)) rfl hc_Model hi_Model 7 (by decide) m_Model_13 (v := .ref (tk_ad (ks_G P) (14, 0, 0))) rfl d_Model_stepped_355 ?_
      refine tk_iload X d_Model_stepped_358 rfl ?_
      refine kr_iald X (f := 14) (i' := (q_ix (q_A (b (8, c, 0) (q_ix (b (4, c, 0) 6)))))) (by decide) (by decide) rfl (by decide) (q_ra c (b (8, c, 0) (q_ix (b (4, c, 0) 6)))) (by have := q_lA (b (8, c, 0) (q_ix (b (4, c, 0) 6))); omega) (v8k 9 (q_lA (b (8, c, 0) (q_ix (b (4, c, 0) 6))))) (v8i (q_lA (b (8, c, 0) (q_ix (b (4, c, 0) 6))))) d_Model_stepped_360 ?_
      refine tk_aload_n X d_Model_stepped_361 rfl rfl ?_
      refine tk_get X (k := (12, 0, 0)) (dm := ks_dm P) (ks_d0 (by decide)) rfl hc_Model hi_Model 7 (by decide) m_Model_13 (v := .ref (tk_ad (ks_G P) (14, 0, 0))) rfl d_Model_stepped_362 ?_
      refine tk_iload X d_Model_stepped_365 rfl ?_
      refine kr_iald X (f := 14) (i' := (q_ix (q_B (b (8, c, 0) (q_ix (b (4, c, 0) 6)))))) (by decide) (by decide) rfl (by decide) (q_rb c (b (8, c, 0) (q_ix (b (4, c, 0) 6)))) (by have := q_lB (b (8, c, 0) (q_ix (b (4, c, 0) 6))); omega) (v8k 9 (q_lB (b (8, c, 0) (q_ix (b (4, c, 0) 6))))) (v8i (q_lB (b (8, c, 0) (q_ix (b (4, c, 0) 6))))) d_Model_stepped_367 ?_
      refine tk_icmp_ge (tgt := 425) X d_Model_stepped_368 (by decide) (fun h1 => ?_) (fun h1 => ?_)
      · skip
        refine tk_iconst (v := 4) X d_Model_stepped_425 (by decide) ?_
        have e1 : k_do (ks_n P) (ks_S P) (ks_W P) (k_next b c) c (k_word b c) (b (4, c, 0) 6) = _ := (((((if_neg (fun z => absurd (hkw.symm.trans z) (by decide))).trans (if_neg (fun z => absurd (hkw.symm.trans z) (by decide)))).trans (if_neg (fun z => absurd (hkw.symm.trans z) (by decide)))).trans (if_neg (fun z => absurd (hkw.symm.trans z) (by decide)))).trans (if_pos hkw))
        have e2 : k_branch (k_next b c) c (k_word b c) = _ := (if_neg (fun z => absurd (hkw.symm.trans z) (by decide))).trans (if_pos h1)
        exact tk_iret X hlk hr d_Model_stepped_426 (by rw [e0, e1]; try rfl) (fun _ h => h) (Or.inr rfl) (kw_st rfl (by rw [e0, e1, e2]; try rfl) rfl)
      · skip
        refine tk_aload_n X d_Model_stepped_371 rfl rfl ?_
        refine tk_get X (k := (12, 0, 0)) (dm := ks_dm P) (ks_d0 (by decide)) rfl hc_Model hi_Model 10 (by decide) m_Model_22 (v := .ref (tk_ad (ks_G P) (17, 0, 0))) rfl d_Model_stepped_372 ?_
        refine tk_iload_n X d_Model_stepped_375 rfl rfl ?_
        refine tk_aload_n X d_Model_stepped_376 rfl rfl ?_
        refine tk_get X (k := (12, 0, 0)) (dm := ks_dm P) (ks_d0 (by decide)) rfl hc_Model hi_Model 10 (by decide) m_Model_22 (v := .ref (tk_ad (ks_G P) (17, 0, 0))) rfl d_Model_stepped_377 ?_
        refine tk_iload_n X d_Model_stepped_380 rfl rfl ?_
        refine kr_iald X (f := 17) (i' := 6) (k' := (4, c, 0)) (by decide) (by decide) rfl (by decide) rfl hc3 rfl rfl d_Model_stepped_381 ?_
        refine tk_iload X d_Model_stepped_382 rfl ?_
        refine tk_iadd X d_Model_stepped_384 ?_
        refine tk_bipush (v := 15) X d_Model_stepped_385 (by decide) ?_
        refine tk_iand X d_Model_stepped_387 ?_
        refine kr_iast X hP (f := 17) (i' := 6) (k' := (4, c, 0)) (by decide) (by decide) rfl (by decide) rfl hc3 rfl rfl d_Model_stepped_388 ?_
        refine tk_goto (tgt := 425) X d_Model_stepped_389 (by decide) ?_
        refine tk_iconst (v := 4) X d_Model_stepped_425 (by decide) ?_
        have e1 : k_do (ks_n P) (ks_S P) (ks_W P) (k_next b c) c (k_word b c) (b (4, c, 0) 6) = _ := (((((if_neg (fun z => absurd (hkw.symm.trans z) (by decide))).trans (if_neg (fun z => absurd (hkw.symm.trans z) (by decide)))).trans (if_neg (fun z => absurd (hkw.symm.trans z) (by decide)))).trans (if_neg (fun z => absurd (hkw.symm.trans z) (by decide)))).trans (if_pos hkw))
        have e2 : k_branch (k_next b c) c (k_word b c) = _ := (if_neg (fun z => absurd (hkw.symm.trans z) (by decide))).trans (if_neg h1)
        exact tk_iret X hlk hr d_Model_stepped_426 (by rw [e0, e1]; try rfl) (fun _ h => h) (Or.inr rfl) (kw_st rfl (by rw [e0, e1, e2]; try rfl) rfl)
    · have hk : (b (8, c, 0) (q_ix (b (4, c, 0) 6))) &&& 15 = 9 := hk0
      have hkw : (k_word b c) &&& 15 = 9 := hk0
      refine tk_iload X d_Model_stepped_75 rfl ?_
      refine tk_if_ne (tgt := 82) X d_Model_stepped_77 (by decide) (fun _ => ?_) (fun h => absurd h (fun z => absurd (hk.symm.trans z) (by decide)))
      refine tk_aload_n X d_Model_stepped_82 rfl rfl ?_
      refine tk_get X (k := (12, 0, 0)) (dm := ks_dm P) (ks_d0 (by decide)) rfl hc_Model hi_Model 10 (by decide) m_Model_22 (v := .ref (tk_ad (ks_G P) (17, 0, 0))) rfl d_Model_stepped_83 ?_
      refine tk_iload_n X d_Model_stepped_86 rfl rfl ?_
      refine tk_aload_n X d_Model_stepped_87 rfl rfl ?_
      refine tk_get X (k := (12, 0, 0)) (dm := ks_dm P) (ks_d0 (by decide)) rfl hc_Model hi_Model 10 (by decide) m_Model_22 (v := .ref (tk_ad (ks_G P) (17, 0, 0))) rfl d_Model_stepped_88 ?_
      refine tk_iload_n X d_Model_stepped_91 rfl rfl ?_
      refine kr_iald X (f := 17) (i' := 6) (k' := (4, c, 0)) (by decide) (by decide) rfl (by decide) rfl hc3 rfl rfl d_Model_stepped_92 ?_
      refine tk_iconst (v := 1) X d_Model_stepped_93 (by decide) ?_
      refine tk_iadd X d_Model_stepped_94 ?_
      refine tk_bipush (v := 15) X d_Model_stepped_95 (by decide) ?_
      refine tk_iand X d_Model_stepped_97 ?_
      refine kr_iast X hP (f := 17) (i' := 6) (k' := (4, c, 0)) (by decide) (by decide) rfl (by decide) rfl hc3 rfl rfl d_Model_stepped_98 ?_
      refine tk_iload X d_Model_stepped_99 rfl ?_
      refine tk_iconst (v := 5) X d_Model_stepped_101 (by decide) ?_
      refine tk_icmp_eq (tgt := 112) X d_Model_stepped_102 (by decide) (fun h => absurd h (fun z => absurd (hk.symm.trans z) (by decide))) (fun _ => ?_)
      refine tk_iload X d_Model_stepped_105 rfl ?_
      refine tk_bipush (v := 6) X d_Model_stepped_107 (by decide) ?_
      refine tk_icmp_ne (tgt := 142) X d_Model_stepped_109 (by decide) (fun _ => ?_) (fun h => absurd h (fun z => absurd (hk.symm.trans z) (by decide)))
      refine tk_iload X d_Model_stepped_142 rfl ?_
      refine tk_bipush (v := 8) X d_Model_stepped_144 (by decide) ?_
      refine tk_icmp_le (tgt := 166) X d_Model_stepped_146 (by decide) (fun h => absurd h (by rw [hk]; decide)) (fun _ => ?_)
      refine tk_iload X d_Model_stepped_149 rfl ?_
      refine tk_bipush (v := 12) X d_Model_stepped_151 (by decide) ?_
      refine tk_icmp_ge (tgt := 166) X d_Model_stepped_153 (by decide) (fun h => absurd h (by rw [hk]; decide)) (fun _ => ?_)
      refine tk_aload_n X d_Model_stepped_156 rfl rfl ?_
      refine tk_iload_n X d_Model_stepped_157 rfl rfl ?_
      refine tk_iload X d_Model_stepped_158 rfl ?_
      refine tk_iload X d_Model_stepped_160 rfl ?_
      rw [hk]
      refine tk_callV X (kb := (12, 0, 0)) (ks_d0 (by decide)) rfl hc_Model (c_Model_ruled9 l P hP c hc (q_imm (b (8, c, 0) (q_ix (b (4, c, 0) 6)))) a (k_next b c) o (fun j hj => by unfold k_next; rw [ks_up_nk _ _ (by simp)]; exact (hV c hc).2.1 j hj)) (ks_site (n := 3) mc_Model_ruled mi_Model (by decide +kernel) (by decide) (by decide)) m_Model_106 ms_Model_ruled mv_Model_ruled rfl (Nat.le_of_ble_eq_true rfl) ⟨Nat.le_of_ble_eq_true rfl, Nat.le_of_ble_eq_true rfl⟩ rfl d_Model_stepped_162 ?_
      have e1 : k_do (ks_n P) (ks_S P) (ks_W P) (k_next b c) c (k_word b c) (b (4, c, 0) 6) = _ := ((((((if_neg (fun z => absurd (hkw.symm.trans z) (by decide))).trans (if_neg (fun z => absurd (hkw.symm.trans z) (by decide)))).trans (if_neg (fun z => absurd (hkw.symm.trans z) (by decide)))).trans (if_neg (fun z => absurd (hkw.symm.trans z) (by decide)))).trans (if_neg (fun z => absurd (hkw.symm.trans z) (by decide)))).trans (if_pos hkw))
      exact tk_iret X hlk hr d_Model_stepped_165 (by rw [e0, e1]; try rfl) (fun _ h => h) (Or.inr rfl) (kw_st rfl (by rw [e0, e1]; try rfl) rfl)
    · have hk : (b (8, c, 0) (q_ix (b (4, c, 0) 6))) &&& 15 = 10 := hk0
      have hkw : (k_word b c) &&& 15 = 10 := hk0
      refine tk_iload X d_Model_stepped_75 rfl ?_
      refine tk_if_ne (tgt := 82) X d_Model_stepped_77 (by decide) (fun _ => ?_) (fun h => absurd h (fun z => absurd (hk.symm.trans z) (by decide)))
      refine tk_aload_n X d_Model_stepped_82 rfl rfl ?_
      refine tk_get X (k := (12, 0, 0)) (dm := ks_dm P) (ks_d0 (by decide)) rfl hc_Model hi_Model 10 (by decide) m_Model_22 (v := .ref (tk_ad (ks_G P) (17, 0, 0))) rfl d_Model_stepped_83 ?_
      refine tk_iload_n X d_Model_stepped_86 rfl rfl ?_
      refine tk_aload_n X d_Model_stepped_87 rfl rfl ?_
      refine tk_get X (k := (12, 0, 0)) (dm := ks_dm P) (ks_d0 (by decide)) rfl hc_Model hi_Model 10 (by decide) m_Model_22 (v := .ref (tk_ad (ks_G P) (17, 0, 0))) rfl d_Model_stepped_88 ?_
      refine tk_iload_n X d_Model_stepped_91 rfl rfl ?_
      refine kr_iald X (f := 17) (i' := 6) (k' := (4, c, 0)) (by decide) (by decide) rfl (by decide) rfl hc3 rfl rfl d_Model_stepped_92 ?_
      refine tk_iconst (v := 1) X d_Model_stepped_93 (by decide) ?_
      refine tk_iadd X d_Model_stepped_94 ?_
      refine tk_bipush (v := 15) X d_Model_stepped_95 (by decide) ?_
      refine tk_iand X d_Model_stepped_97 ?_
      refine kr_iast X hP (f := 17) (i' := 6) (k' := (4, c, 0)) (by decide) (by decide) rfl (by decide) rfl hc3 rfl rfl d_Model_stepped_98 ?_
      refine tk_iload X d_Model_stepped_99 rfl ?_
      refine tk_iconst (v := 5) X d_Model_stepped_101 (by decide) ?_
      refine tk_icmp_eq (tgt := 112) X d_Model_stepped_102 (by decide) (fun h => absurd h (fun z => absurd (hk.symm.trans z) (by decide))) (fun _ => ?_)
      refine tk_iload X d_Model_stepped_105 rfl ?_
      refine tk_bipush (v := 6) X d_Model_stepped_107 (by decide) ?_
      refine tk_icmp_ne (tgt := 142) X d_Model_stepped_109 (by decide) (fun _ => ?_) (fun h => absurd h (fun z => absurd (hk.symm.trans z) (by decide)))
      refine tk_iload X d_Model_stepped_142 rfl ?_
      refine tk_bipush (v := 8) X d_Model_stepped_144 (by decide) ?_
      refine tk_icmp_le (tgt := 166) X d_Model_stepped_146 (by decide) (fun h => absurd h (by rw [hk]; decide)) (fun _ => ?_)
      refine tk_iload X d_Model_stepped_149 rfl ?_
      refine tk_bipush (v := 12) X d_Model_stepped_151 (by decide) ?_
      refine tk_icmp_ge (tgt := 166) X d_Model_stepped_153 (by decide) (fun h => absurd h (by rw [hk]; decide)) (fun _ => ?_)
      refine tk_aload_n X d_Model_stepped_156 rfl rfl ?_
      refine tk_iload_n X d_Model_stepped_157 rfl rfl ?_
      refine tk_iload X d_Model_stepped_158 rfl ?_
      refine tk_iload X d_Model_stepped_160 rfl ?_
      rw [hk]
      refine tk_callV X (kb := (12, 0, 0)) (ks_d0 (by decide)) rfl hc_Model (c_Model_ruled10 l P hP c hc (q_imm (b (8, c, 0) (q_ix (b (4, c, 0) 6)))) a (k_next b c) o (fun j hj => by unfold k_next; rw [ks_up_nk _ _ (by simp)]; exact (hV c hc).2.1 j hj) (b (4, c, 0) 6) (by unfold k_next; rw [ks_up_eq]; exact q_back hp)) (ks_site (n := 3) mc_Model_ruled mi_Model (by decide +kernel) (by decide) (by decide)) m_Model_106 ms_Model_ruled mv_Model_ruled rfl (Nat.le_of_ble_eq_true rfl) ⟨Nat.le_of_ble_eq_true rfl, Nat.le_of_ble_eq_true rfl⟩ rfl d_Model_stepped_162 ?_
      have e1 : k_do (ks_n P) (ks_S P) (ks_W P) (k_next b c) c (k_word b c) (b (4, c, 0) 6) = _ := (((((((if_neg (fun z => absurd (hkw.symm.trans z) (by decide))).trans (if_neg (fun z => absurd (hkw.symm.trans z) (by decide)))).trans (if_neg (fun z => absurd (hkw.symm.trans z) (by decide)))).trans (if_neg (fun z => absurd (hkw.symm.trans z) (by decide)))).trans (if_neg (fun z => absurd (hkw.symm.trans z) (by decide)))).trans (if_neg (fun z => absurd (hkw.symm.trans z) (by decide)))).trans (if_pos hkw))
      exact tk_iret X hlk hr d_Model_stepped_165 (by rw [e0, e1]; try rfl) (fun _ h => h) (Or.inr rfl) (kw_st rfl (by rw [e0, e1]; try rfl) rfl)
    · have hk : (b (8, c, 0) (q_ix (b (4, c, 0) 6))) &&& 15 = 11 := hk0
      have hkw : (k_word b c) &&& 15 = 11 := hk0
      refine tk_iload X d_Model_stepped_75 rfl ?_
      refine tk_if_ne (tgt := 82) X d_Model_stepped_77 (by decide) (fun _ => ?_) (fun h => absurd h (fun z => absurd (hk.symm.trans z) (by decide)))
      refine tk_aload_n X d_Model_stepped_82 rfl rfl ?_
      refine tk_get X (k := (12, 0, 0)) (dm := ks_dm P) (ks_d0 (by decide)) rfl hc_Model hi_Model 10 (by decide) m_Model_22 (v := .ref (tk_ad (ks_G P) (17, 0, 0))) rfl d_Model_stepped_83 ?_
      refine tk_iload_n X d_Model_stepped_86 rfl rfl ?_
      refine tk_aload_n X d_Model_stepped_87 rfl rfl ?_
      refine tk_get X (k := (12, 0, 0)) (dm := ks_dm P) (ks_d0 (by decide)) rfl hc_Model hi_Model 10 (by decide) m_Model_22 (v := .ref (tk_ad (ks_G P) (17, 0, 0))) rfl d_Model_stepped_88 ?_
      refine tk_iload_n X d_Model_stepped_91 rfl rfl ?_
      refine kr_iald X (f := 17) (i' := 6) (k' := (4, c, 0)) (by decide) (by decide) rfl (by decide) rfl hc3 rfl rfl d_Model_stepped_92 ?_
      refine tk_iconst (v := 1) X d_Model_stepped_93 (by decide) ?_
      refine tk_iadd X d_Model_stepped_94 ?_
      refine tk_bipush (v := 15) X d_Model_stepped_95 (by decide) ?_
      refine tk_iand X d_Model_stepped_97 ?_
      refine kr_iast X hP (f := 17) (i' := 6) (k' := (4, c, 0)) (by decide) (by decide) rfl (by decide) rfl hc3 rfl rfl d_Model_stepped_98 ?_
      refine tk_iload X d_Model_stepped_99 rfl ?_
      refine tk_iconst (v := 5) X d_Model_stepped_101 (by decide) ?_
      refine tk_icmp_eq (tgt := 112) X d_Model_stepped_102 (by decide) (fun h => absurd h (fun z => absurd (hk.symm.trans z) (by decide))) (fun _ => ?_)
      refine tk_iload X d_Model_stepped_105 rfl ?_
      refine tk_bipush (v := 6) X d_Model_stepped_107 (by decide) ?_
      refine tk_icmp_ne (tgt := 142) X d_Model_stepped_109 (by decide) (fun _ => ?_) (fun h => absurd h (fun z => absurd (hk.symm.trans z) (by decide)))
      refine tk_iload X d_Model_stepped_142 rfl ?_
      refine tk_bipush (v := 8) X d_Model_stepped_144 (by decide) ?_
      refine tk_icmp_le (tgt := 166) X d_Model_stepped_146 (by decide) (fun h => absurd h (by rw [hk]; decide)) (fun _ => ?_)
      refine tk_iload X d_Model_stepped_149 rfl ?_
      refine tk_bipush (v := 12) X d_Model_stepped_151 (by decide) ?_
      refine tk_icmp_ge (tgt := 166) X d_Model_stepped_153 (by decide) (fun h => absurd h (by rw [hk]; decide)) (fun _ => ?_)
      refine tk_aload_n X d_Model_stepped_156 rfl rfl ?_
      refine tk_iload_n X d_Model_stepped_157 rfl rfl ?_
      refine tk_iload X d_Model_stepped_158 rfl ?_
      refine tk_iload X d_Model_stepped_160 rfl ?_
      rw [hk]
      refine tk_callV X (kb := (12, 0, 0)) (ks_d0 (by decide)) rfl hc_Model (c_Model_ruled11 l P hP c hc (q_imm (b (8, c, 0) (q_ix (b (4, c, 0) 6)))) a (k_next b c) o (fun j hj => by unfold k_next; rw [ks_up_nk _ _ (by simp)]; exact (hV c hc).2.1 j hj)) (ks_site (n := 3) mc_Model_ruled mi_Model (by decide +kernel) (by decide) (by decide)) m_Model_106 ms_Model_ruled mv_Model_ruled rfl (Nat.le_of_ble_eq_true rfl) ⟨Nat.le_of_ble_eq_true rfl, Nat.le_of_ble_eq_true rfl⟩ rfl d_Model_stepped_162 ?_
      have e1 : k_do (ks_n P) (ks_S P) (ks_W P) (k_next b c) c (k_word b c) (b (4, c, 0) 6) = _ := ((((((((if_neg (fun z => absurd (hkw.symm.trans z) (by decide))).trans (if_neg (fun z => absurd (hkw.symm.trans z) (by decide)))).trans (if_neg (fun z => absurd (hkw.symm.trans z) (by decide)))).trans (if_neg (fun z => absurd (hkw.symm.trans z) (by decide)))).trans (if_neg (fun z => absurd (hkw.symm.trans z) (by decide)))).trans (if_neg (fun z => absurd (hkw.symm.trans z) (by decide)))).trans (if_neg (fun z => absurd (hkw.symm.trans z) (by decide)))).trans (if_pos hkw))
      exact tk_iret X hlk hr d_Model_stepped_165 (by rw [e0, e1]; try rfl) (fun _ h => h) (Or.inr rfl) (kw_st rfl (by rw [e0, e1]; try rfl) rfl)
    · have hk : (b (8, c, 0) (q_ix (b (4, c, 0) 6))) &&& 15 = 12 := hk0
      have hkw : (k_word b c) &&& 15 = 12 := hk0
      refine tk_iload X d_Model_stepped_75 rfl ?_
      refine tk_if_ne (tgt := 82) X d_Model_stepped_77 (by decide) (fun _ => ?_) (fun h => absurd h (fun z => absurd (hk.symm.trans z) (by decide)))
      refine tk_aload_n X d_Model_stepped_82 rfl rfl ?_
      refine tk_get X (k := (12, 0, 0)) (dm := ks_dm P) (ks_d0 (by decide)) rfl hc_Model hi_Model 10 (by decide) m_Model_22 (v := .ref (tk_ad (ks_G P) (17, 0, 0))) rfl d_Model_stepped_83 ?_
      refine tk_iload_n X d_Model_stepped_86 rfl rfl ?_
      refine tk_aload_n X d_Model_stepped_87 rfl rfl ?_
      refine tk_get X (k := (12, 0, 0)) (dm := ks_dm P) (ks_d0 (by decide)) rfl hc_Model hi_Model 10 (by decide) m_Model_22 (v := .ref (tk_ad (ks_G P) (17, 0, 0))) rfl d_Model_stepped_88 ?_
      refine tk_iload_n X d_Model_stepped_91 rfl rfl ?_
      refine kr_iald X (f := 17) (i' := 6) (k' := (4, c, 0)) (by decide) (by decide) rfl (by decide) rfl hc3 rfl rfl d_Model_stepped_92 ?_
      refine tk_iconst (v := 1) X d_Model_stepped_93 (by decide) ?_
      refine tk_iadd X d_Model_stepped_94 ?_
      refine tk_bipush (v := 15) X d_Model_stepped_95 (by decide) ?_
      refine tk_iand X d_Model_stepped_97 ?_
      refine kr_iast X hP (f := 17) (i' := 6) (k' := (4, c, 0)) (by decide) (by decide) rfl (by decide) rfl hc3 rfl rfl d_Model_stepped_98 ?_
      refine tk_iload X d_Model_stepped_99 rfl ?_
      refine tk_iconst (v := 5) X d_Model_stepped_101 (by decide) ?_
      refine tk_icmp_eq (tgt := 112) X d_Model_stepped_102 (by decide) (fun h => absurd h (fun z => absurd (hk.symm.trans z) (by decide))) (fun _ => ?_)
      refine tk_iload X d_Model_stepped_105 rfl ?_
      refine tk_bipush (v := 6) X d_Model_stepped_107 (by decide) ?_
      refine tk_icmp_ne (tgt := 142) X d_Model_stepped_109 (by decide) (fun _ => ?_) (fun h => absurd h (fun z => absurd (hk.symm.trans z) (by decide)))
      refine tk_iload X d_Model_stepped_142 rfl ?_
      refine tk_bipush (v := 8) X d_Model_stepped_144 (by decide) ?_
      refine tk_icmp_le (tgt := 166) X d_Model_stepped_146 (by decide) (fun h => absurd h (by rw [hk]; decide)) (fun _ => ?_)
      refine tk_iload X d_Model_stepped_149 rfl ?_
      refine tk_bipush (v := 12) X d_Model_stepped_151 (by decide) ?_
      refine tk_icmp_ge (tgt := 166) X d_Model_stepped_153 (by decide) (fun _ => ?_) (fun h => absurd (by rw [hk]; decide) h)
      refine tk_iload X d_Model_stepped_166 rfl ?_
      refine tk_tableAt (K := 12) (tgt := 392) X hk d_Model_stepped_168 (by decide) (by decide) rfl (by decide) ?_
      refine tk_aload_n X d_Model_stepped_392 rfl rfl ?_
      refine tk_get X (k := (12, 0, 0)) (dm := ks_dm P) (ks_d0 (by decide)) rfl hc_Model hi_Model 7 (by decide) m_Model_13 (v := .ref (tk_ad (ks_G P) (14, 0, 0))) rfl d_Model_stepped_393 ?_
      refine tk_iload X d_Model_stepped_396 rfl ?_
      refine tk_aload_n X d_Model_stepped_398 rfl rfl ?_
      refine tk_get X (k := (12, 0, 0)) (dm := ks_dm P) (ks_d0 (by decide)) rfl hc_Model hi_Model 11 (by decide) m_Model_25 (v := .ref (tk_ad (ks_G P) (18, 0, 0))) rfl d_Model_stepped_399 ?_
      refine tk_iload_n X d_Model_stepped_402 rfl rfl ?_
      refine kr_iald X (f := 18) (i' := 8) (k' := (4, c, 0)) (by decide) (by decide) rfl (by decide) rfl hc3 rfl rfl d_Model_stepped_403 ?_
      refine kr_iast X hP (f := 14) (i' := (q_ix (q_A (b (8, c, 0) (q_ix (b (4, c, 0) 6)))))) (by decide) (by decide) rfl (by decide) (q_ra c (b (8, c, 0) (q_ix (b (4, c, 0) 6)))) (by have := q_lA (b (8, c, 0) (q_ix (b (4, c, 0) 6))); omega) (v8k 9 (q_lA (b (8, c, 0) (q_ix (b (4, c, 0) 6))))) (v8i (q_lA (b (8, c, 0) (q_ix (b (4, c, 0) 6))))) d_Model_stepped_404 ?_
      refine tk_goto (tgt := 425) X d_Model_stepped_405 (by decide) ?_
      refine tk_iconst (v := 4) X d_Model_stepped_425 (by decide) ?_
      have e1 : k_do (ks_n P) (ks_S P) (ks_W P) (k_next b c) c (k_word b c) (b (4, c, 0) 6) = _ := (((((((((((((if_neg (fun z => absurd (hkw.symm.trans z) (by decide))).trans (if_neg (fun z => absurd (hkw.symm.trans z) (by decide)))).trans (if_neg (fun z => absurd (hkw.symm.trans z) (by decide)))).trans (if_neg (fun z => absurd (hkw.symm.trans z) (by decide)))).trans (if_neg (fun z => absurd (hkw.symm.trans z) (by decide)))).trans (if_neg (fun z => absurd (hkw.symm.trans z) (by decide)))).trans (if_neg (fun z => absurd (hkw.symm.trans z) (by decide)))).trans (if_neg (fun z => absurd (hkw.symm.trans z) (by decide)))).trans (if_neg (fun z => absurd (hkw.symm.trans z) (by decide)))).trans (if_neg (fun z => absurd (hkw.symm.trans z) (by decide)))).trans (if_neg (fun z => absurd (hkw.symm.trans z) (by decide)))).trans (if_neg (fun z => absurd (hkw.symm.trans z) (by decide)))).trans (if_pos hkw))
      exact tk_iret X hlk hr d_Model_stepped_426 (by rw [e0, e1]; try rfl) (fun _ h => h) (Or.inr rfl) (kw_st rfl (by rw [e0, e1]; unfold k_reckon; rw [if_neg (fun z => absurd (hkw.symm.trans z) (by decide)), if_neg (fun z => absurd (hkw.symm.trans z) (by decide)), if_neg (fun z => absurd (hkw.symm.trans z) (by decide)), if_neg (fun z => absurd (hkw.symm.trans z) (by decide)), if_pos hkw]; rfl) rfl)
    · have hk : (b (8, c, 0) (q_ix (b (4, c, 0) 6))) &&& 15 = 13 := hk0
      have hkw : (k_word b c) &&& 15 = 13 := hk0
      refine tk_iload X d_Model_stepped_75 rfl ?_
      refine tk_if_ne (tgt := 82) X d_Model_stepped_77 (by decide) (fun _ => ?_) (fun h => absurd h (fun z => absurd (hk.symm.trans z) (by decide)))
      refine tk_aload_n X d_Model_stepped_82 rfl rfl ?_
      refine tk_get X (k := (12, 0, 0)) (dm := ks_dm P) (ks_d0 (by decide)) rfl hc_Model hi_Model 10 (by decide) m_Model_22 (v := .ref (tk_ad (ks_G P) (17, 0, 0))) rfl d_Model_stepped_83 ?_
      refine tk_iload_n X d_Model_stepped_86 rfl rfl ?_
      refine tk_aload_n X d_Model_stepped_87 rfl rfl ?_
      refine tk_get X (k := (12, 0, 0)) (dm := ks_dm P) (ks_d0 (by decide)) rfl hc_Model hi_Model 10 (by decide) m_Model_22 (v := .ref (tk_ad (ks_G P) (17, 0, 0))) rfl d_Model_stepped_88 ?_
      refine tk_iload_n X d_Model_stepped_91 rfl rfl ?_
      refine kr_iald X (f := 17) (i' := 6) (k' := (4, c, 0)) (by decide) (by decide) rfl (by decide) rfl hc3 rfl rfl d_Model_stepped_92 ?_
      refine tk_iconst (v := 1) X d_Model_stepped_93 (by decide) ?_
      refine tk_iadd X d_Model_stepped_94 ?_
      refine tk_bipush (v := 15) X d_Model_stepped_95 (by decide) ?_
      refine tk_iand X d_Model_stepped_97 ?_
      refine kr_iast X hP (f := 17) (i' := 6) (k' := (4, c, 0)) (by decide) (by decide) rfl (by decide) rfl hc3 rfl rfl d_Model_stepped_98 ?_
      refine tk_iload X d_Model_stepped_99 rfl ?_
      refine tk_iconst (v := 5) X d_Model_stepped_101 (by decide) ?_
      refine tk_icmp_eq (tgt := 112) X d_Model_stepped_102 (by decide) (fun h => absurd h (fun z => absurd (hk.symm.trans z) (by decide))) (fun _ => ?_)
      refine tk_iload X d_Model_stepped_105 rfl ?_
      refine tk_bipush (v := 6) X d_Model_stepped_107 (by decide) ?_
      refine tk_icmp_ne (tgt := 142) X d_Model_stepped_109 (by decide) (fun _ => ?_) (fun h => absurd h (fun z => absurd (hk.symm.trans z) (by decide)))
      refine tk_iload X d_Model_stepped_142 rfl ?_
      refine tk_bipush (v := 8) X d_Model_stepped_144 (by decide) ?_
      refine tk_icmp_le (tgt := 166) X d_Model_stepped_146 (by decide) (fun h => absurd h (by rw [hk]; decide)) (fun _ => ?_)
      refine tk_iload X d_Model_stepped_149 rfl ?_
      refine tk_bipush (v := 12) X d_Model_stepped_151 (by decide) ?_
      refine tk_icmp_ge (tgt := 166) X d_Model_stepped_153 (by decide) (fun _ => ?_) (fun h => absurd (by rw [hk]; decide) h)
      refine tk_iload X d_Model_stepped_166 rfl ?_
      refine tk_tableAt (K := 13) (tgt := 408) X hk d_Model_stepped_168 (by decide) (by decide) rfl (by decide) ?_
      refine tk_aload_n X d_Model_stepped_408 rfl rfl ?_
      refine tk_get X (k := (12, 0, 0)) (dm := ks_dm P) (ks_d0 (by decide)) rfl hc_Model hi_Model 7 (by decide) m_Model_13 (v := .ref (tk_ad (ks_G P) (14, 0, 0))) rfl d_Model_stepped_409 ?_
      refine tk_iload X d_Model_stepped_412 rfl ?_
      refine tk_iload_n X d_Model_stepped_414 rfl rfl ?_
      refine kr_iast X hP (f := 14) (i' := (q_ix (q_A (b (8, c, 0) (q_ix (b (4, c, 0) 6)))))) (by decide) (by decide) rfl (by decide) (q_ra c (b (8, c, 0) (q_ix (b (4, c, 0) 6)))) (by have := q_lA (b (8, c, 0) (q_ix (b (4, c, 0) 6))); omega) (v8k 9 (q_lA (b (8, c, 0) (q_ix (b (4, c, 0) 6))))) (v8i (q_lA (b (8, c, 0) (q_ix (b (4, c, 0) 6))))) d_Model_stepped_415 ?_
      refine tk_goto (tgt := 425) X d_Model_stepped_416 (by decide) ?_
      refine tk_iconst (v := 4) X d_Model_stepped_425 (by decide) ?_
      have e1 : k_do (ks_n P) (ks_S P) (ks_W P) (k_next b c) c (k_word b c) (b (4, c, 0) 6) = _ := ((((((((((((((if_neg (fun z => absurd (hkw.symm.trans z) (by decide))).trans (if_neg (fun z => absurd (hkw.symm.trans z) (by decide)))).trans (if_neg (fun z => absurd (hkw.symm.trans z) (by decide)))).trans (if_neg (fun z => absurd (hkw.symm.trans z) (by decide)))).trans (if_neg (fun z => absurd (hkw.symm.trans z) (by decide)))).trans (if_neg (fun z => absurd (hkw.symm.trans z) (by decide)))).trans (if_neg (fun z => absurd (hkw.symm.trans z) (by decide)))).trans (if_neg (fun z => absurd (hkw.symm.trans z) (by decide)))).trans (if_neg (fun z => absurd (hkw.symm.trans z) (by decide)))).trans (if_neg (fun z => absurd (hkw.symm.trans z) (by decide)))).trans (if_neg (fun z => absurd (hkw.symm.trans z) (by decide)))).trans (if_neg (fun z => absurd (hkw.symm.trans z) (by decide)))).trans (if_neg (fun z => absurd (hkw.symm.trans z) (by decide)))).trans (if_pos hkw))
      exact tk_iret X hlk hr d_Model_stepped_426 (by rw [e0, e1]; try rfl) (fun _ h => h) (Or.inr rfl) (kw_st rfl (by rw [e0, e1]; unfold k_reckon; rw [if_neg (fun z => absurd (hkw.symm.trans z) (by decide)), if_neg (fun z => absurd (hkw.symm.trans z) (by decide)), if_neg (fun z => absurd (hkw.symm.trans z) (by decide)), if_neg (fun z => absurd (hkw.symm.trans z) (by decide)), if_neg (fun z => absurd (hkw.symm.trans z) (by decide))]; rfl) rfl)
    · have hk : (b (8, c, 0) (q_ix (b (4, c, 0) 6))) &&& 15 = 14 := hk0
      have hkw : (k_word b c) &&& 15 = 14 := hk0
      refine tk_iload X d_Model_stepped_75 rfl ?_
      refine tk_if_ne (tgt := 82) X d_Model_stepped_77 (by decide) (fun _ => ?_) (fun h => absurd h (fun z => absurd (hk.symm.trans z) (by decide)))
      refine tk_aload_n X d_Model_stepped_82 rfl rfl ?_
      refine tk_get X (k := (12, 0, 0)) (dm := ks_dm P) (ks_d0 (by decide)) rfl hc_Model hi_Model 10 (by decide) m_Model_22 (v := .ref (tk_ad (ks_G P) (17, 0, 0))) rfl d_Model_stepped_83 ?_
      refine tk_iload_n X d_Model_stepped_86 rfl rfl ?_
      refine tk_aload_n X d_Model_stepped_87 rfl rfl ?_
      refine tk_get X (k := (12, 0, 0)) (dm := ks_dm P) (ks_d0 (by decide)) rfl hc_Model hi_Model 10 (by decide) m_Model_22 (v := .ref (tk_ad (ks_G P) (17, 0, 0))) rfl d_Model_stepped_88 ?_
      refine tk_iload_n X d_Model_stepped_91 rfl rfl ?_
      refine kr_iald X (f := 17) (i' := 6) (k' := (4, c, 0)) (by decide) (by decide) rfl (by decide) rfl hc3 rfl rfl d_Model_stepped_92 ?_
      refine tk_iconst (v := 1) X d_Model_stepped_93 (by decide) ?_
      refine tk_iadd X d_Model_stepped_94 ?_
      refine tk_bipush (v := 15) X d_Model_stepped_95 (by decide) ?_
      refine tk_iand X d_Model_stepped_97 ?_
      refine kr_iast X hP (f := 17) (i' := 6) (k' := (4, c, 0)) (by decide) (by decide) rfl (by decide) rfl hc3 rfl rfl d_Model_stepped_98 ?_
      refine tk_iload X d_Model_stepped_99 rfl ?_
      refine tk_iconst (v := 5) X d_Model_stepped_101 (by decide) ?_
      refine tk_icmp_eq (tgt := 112) X d_Model_stepped_102 (by decide) (fun h => absurd h (fun z => absurd (hk.symm.trans z) (by decide))) (fun _ => ?_)
      refine tk_iload X d_Model_stepped_105 rfl ?_
      refine tk_bipush (v := 6) X d_Model_stepped_107 (by decide) ?_
      refine tk_icmp_ne (tgt := 142) X d_Model_stepped_109 (by decide) (fun _ => ?_) (fun h => absurd h (fun z => absurd (hk.symm.trans z) (by decide)))
      refine tk_iload X d_Model_stepped_142 rfl ?_
      refine tk_bipush (v := 8) X d_Model_stepped_144 (by decide) ?_
      refine tk_icmp_le (tgt := 166) X d_Model_stepped_146 (by decide) (fun h => absurd h (by rw [hk]; decide)) (fun _ => ?_)
      refine tk_iload X d_Model_stepped_149 rfl ?_
      refine tk_bipush (v := 12) X d_Model_stepped_151 (by decide) ?_
      refine tk_icmp_ge (tgt := 166) X d_Model_stepped_153 (by decide) (fun _ => ?_) (fun h => absurd (by rw [hk]; decide) h)
      refine tk_iload X d_Model_stepped_166 rfl ?_
      refine tk_tableOut (tgt := 419) X d_Model_stepped_168 (by rw [hk]; decide) (by decide) ?_
      refine tk_aload_n X d_Model_stepped_419 rfl rfl ?_
      refine tk_iload_n X d_Model_stepped_420 rfl rfl ?_
      refine tk_callV X (kb := (12, 0, 0)) (ks_d0 (by decide)) rfl hc_Model (c_Model_fault l P hP c hc (b (4, c, 0) 6) a (k_next b c) o (fun j hj => by unfold k_next; rw [ks_up_nk _ _ (by simp)]; exact (hV c hc).2.1 j hj) (by unfold k_next; rw [ks_up_eq]; exact q_back hp)) (ks_site (n := 1) mc_Model_fault mi_Model (by decide +kernel) (by decide) (by decide)) m_Model_109 ms_Model_fault mv_Model_fault rfl (Nat.le_of_ble_eq_true rfl) ⟨Nat.le_of_ble_eq_true rfl, Nat.le_of_ble_eq_true rfl⟩ rfl d_Model_stepped_421 ?_
      have e1 : k_do (ks_n P) (ks_S P) (ks_W P) (k_next b c) c (k_word b c) (b (4, c, 0) 6) = _ := ((((((((((((((if_neg (fun z => absurd (hkw.symm.trans z) (by decide))).trans (if_neg (fun z => absurd (hkw.symm.trans z) (by decide)))).trans (if_neg (fun z => absurd (hkw.symm.trans z) (by decide)))).trans (if_neg (fun z => absurd (hkw.symm.trans z) (by decide)))).trans (if_neg (fun z => absurd (hkw.symm.trans z) (by decide)))).trans (if_neg (fun z => absurd (hkw.symm.trans z) (by decide)))).trans (if_neg (fun z => absurd (hkw.symm.trans z) (by decide)))).trans (if_neg (fun z => absurd (hkw.symm.trans z) (by decide)))).trans (if_neg (fun z => absurd (hkw.symm.trans z) (by decide)))).trans (if_neg (fun z => absurd (hkw.symm.trans z) (by decide)))).trans (if_neg (fun z => absurd (hkw.symm.trans z) (by decide)))).trans (if_neg (fun z => absurd (hkw.symm.trans z) (by decide)))).trans (if_neg (fun z => absurd (hkw.symm.trans z) (by decide)))).trans (if_neg (fun z => absurd (hkw.symm.trans z) (by decide))))
      exact tk_iret X hlk hr d_Model_stepped_424 (by rw [e0, e1]; try rfl) (fun _ h => h) (Or.inr rfl) (kw_st rfl (by rw [e0, e1]; try rfl) rfl)
    · have hk : (b (8, c, 0) (q_ix (b (4, c, 0) 6))) &&& 15 = 15 := hk0
      have hkw : (k_word b c) &&& 15 = 15 := hk0
      refine tk_iload X d_Model_stepped_75 rfl ?_
      refine tk_if_ne (tgt := 82) X d_Model_stepped_77 (by decide) (fun _ => ?_) (fun h => absurd h (fun z => absurd (hk.symm.trans z) (by decide)))
      refine tk_aload_n X d_Model_stepped_82 rfl rfl ?_
      refine tk_get X (k := (12, 0, 0)) (dm := ks_dm P) (ks_d0 (by decide)) rfl hc_Model hi_Model 10 (by decide) m_Model_22 (v := .ref (tk_ad (ks_G P) (17, 0, 0))) rfl d_Model_stepped_83 ?_
      refine tk_iload_n X d_Model_stepped_86 rfl rfl ?_
      refine tk_aload_n X d_Model_stepped_87 rfl rfl ?_
      refine tk_get X (k := (12, 0, 0)) (dm := ks_dm P) (ks_d0 (by decide)) rfl hc_Model hi_Model 10 (by decide) m_Model_22 (v := .ref (tk_ad (ks_G P) (17, 0, 0))) rfl d_Model_stepped_88 ?_
      refine tk_iload_n X d_Model_stepped_91 rfl rfl ?_
      refine kr_iald X (f := 17) (i' := 6) (k' := (4, c, 0)) (by decide) (by decide) rfl (by decide) rfl hc3 rfl rfl d_Model_stepped_92 ?_
      refine tk_iconst (v := 1) X d_Model_stepped_93 (by decide) ?_
      refine tk_iadd X d_Model_stepped_94 ?_
      refine tk_bipush (v := 15) X d_Model_stepped_95 (by decide) ?_
      refine tk_iand X d_Model_stepped_97 ?_
      refine kr_iast X hP (f := 17) (i' := 6) (k' := (4, c, 0)) (by decide) (by decide) rfl (by decide) rfl hc3 rfl rfl d_Model_stepped_98 ?_
      refine tk_iload X d_Model_stepped_99 rfl ?_
      refine tk_iconst (v := 5) X d_Model_stepped_101 (by decide) ?_
      refine tk_icmp_eq (tgt := 112) X d_Model_stepped_102 (by decide) (fun h => absurd h (fun z => absurd (hk.symm.trans z) (by decide))) (fun _ => ?_)
      refine tk_iload X d_Model_stepped_105 rfl ?_
      refine tk_bipush (v := 6) X d_Model_stepped_107 (by decide) ?_
      refine tk_icmp_ne (tgt := 142) X d_Model_stepped_109 (by decide) (fun _ => ?_) (fun h => absurd h (fun z => absurd (hk.symm.trans z) (by decide)))
      refine tk_iload X d_Model_stepped_142 rfl ?_
      refine tk_bipush (v := 8) X d_Model_stepped_144 (by decide) ?_
      refine tk_icmp_le (tgt := 166) X d_Model_stepped_146 (by decide) (fun h => absurd h (by rw [hk]; decide)) (fun _ => ?_)
      refine tk_iload X d_Model_stepped_149 rfl ?_
      refine tk_bipush (v := 12) X d_Model_stepped_151 (by decide) ?_
      refine tk_icmp_ge (tgt := 166) X d_Model_stepped_153 (by decide) (fun _ => ?_) (fun h => absurd (by rw [hk]; decide) h)
      refine tk_iload X d_Model_stepped_166 rfl ?_
      refine tk_tableOut (tgt := 419) X d_Model_stepped_168 (by rw [hk]; decide) (by decide) ?_
      refine tk_aload_n X d_Model_stepped_419 rfl rfl ?_
      refine tk_iload_n X d_Model_stepped_420 rfl rfl ?_
      refine tk_callV X (kb := (12, 0, 0)) (ks_d0 (by decide)) rfl hc_Model (c_Model_fault l P hP c hc (b (4, c, 0) 6) a (k_next b c) o (fun j hj => by unfold k_next; rw [ks_up_nk _ _ (by simp)]; exact (hV c hc).2.1 j hj) (by unfold k_next; rw [ks_up_eq]; exact q_back hp)) (ks_site (n := 1) mc_Model_fault mi_Model (by decide +kernel) (by decide) (by decide)) m_Model_109 ms_Model_fault mv_Model_fault rfl (Nat.le_of_ble_eq_true rfl) ⟨Nat.le_of_ble_eq_true rfl, Nat.le_of_ble_eq_true rfl⟩ rfl d_Model_stepped_421 ?_
      have e1 : k_do (ks_n P) (ks_S P) (ks_W P) (k_next b c) c (k_word b c) (b (4, c, 0) 6) = _ := ((((((((((((((if_neg (fun z => absurd (hkw.symm.trans z) (by decide))).trans (if_neg (fun z => absurd (hkw.symm.trans z) (by decide)))).trans (if_neg (fun z => absurd (hkw.symm.trans z) (by decide)))).trans (if_neg (fun z => absurd (hkw.symm.trans z) (by decide)))).trans (if_neg (fun z => absurd (hkw.symm.trans z) (by decide)))).trans (if_neg (fun z => absurd (hkw.symm.trans z) (by decide)))).trans (if_neg (fun z => absurd (hkw.symm.trans z) (by decide)))).trans (if_neg (fun z => absurd (hkw.symm.trans z) (by decide)))).trans (if_neg (fun z => absurd (hkw.symm.trans z) (by decide)))).trans (if_neg (fun z => absurd (hkw.symm.trans z) (by decide)))).trans (if_neg (fun z => absurd (hkw.symm.trans z) (by decide)))).trans (if_neg (fun z => absurd (hkw.symm.trans z) (by decide)))).trans (if_neg (fun z => absurd (hkw.symm.trans z) (by decide)))).trans (if_neg (fun z => absurd (hkw.symm.trans z) (by decide))))
      exact tk_iret X hlk hr d_Model_stepped_424 (by rw [e0, e1]; try rfl) (fun _ h => h) (Or.inr rfl) (kw_st rfl (by rw [e0, e1]; try rfl) rfl)
  · skip
    refine tk_iconst (v := 0) X d_Model_stepped_9 (by decide) ?_
    have e1 : k_step (ks_n P) (ks_S P) (ks_W P) b c = (0, b) := if_neg h1
    exact tk_iret X hlk hr d_Model_stepped_10 (by rw [e1]) (fun _ h => h) (Or.inr rfl) (kw_st rfl (by rw [e1]) rfl)
