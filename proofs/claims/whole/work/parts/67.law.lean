theorem cn_l1 {P : ks_P} {S : tk_K → Nat → Bool} : ∀ j, j < 1 → defaultValue FieldType.long = cn_sl P S (28, 0, 0) j := fun j hj => by
  have e : j = 0 := by omega
  subst e
  exact cn_sam rfl rfl
theorem cn_c4 : ∀ j, j < 4 → cn_dft (0, 0, 0) j = defaultValue (t_TC j) := by decide +kernel
theorem cn_m0 {P : ks_P} (j : Nat) : cn_cr cn_s1 (ks_T P) (ks_n P) (12, 0, 0) j = false := by
  rw [cn_cr_nk (by simp) _ (fun c _ => ⟨by simp, by simp, by simp⟩)]
  unfold cn_s1
  rw [cn_set_nk (by simp), cn_set_nk (by simp), cn_set_nk (by simp)]
set_option maxRecDepth 100000 in
set_option maxHeartbeats 4000000 in
theorem law_in {p : Program} {l : Launch} {e : Env} {s : State} {m : MethodId} {args : Array Value} {below : List Frame} {meth : Method} {c0 : Code} {P : ks_P} {Q : State → Prop} (X : tk_X p m c0 s args (ks_G P) R_Law b_Law_law 7 WS) (hP : ks_ok P) (hO : cn_ok P) {b0 Ln : Nat} {xs : Nat → Int32} (hX : va_X b0 Ln xs s (tk_h0 (ks_G P))) (hbl : b0 < (tk_h0 (ks_G P)).size) (hLn : Ln ≤ 2563) (hn : ks_n P = q_n3 (cl_v Ln xs 0)) (hs : ks_S P = q_s4 (cl_v Ln xs 1)) (hw : ks_W P = q_n3 (cl_v Ln xs 2))
    (kend : tk_go p l e room_1 s m args below meth c0 (ks_G P) (ks_dm P) 7 1000 10000 Q (ks_sl P (fun _ _ => 0) (fun _ _ => 0) (0, 0)) 53 [some (.ref b0), some (.ref (tk_ad (ks_G P) (0, 0, 0))), some (.ref (tk_ad (ks_G P) (12, 0, 0))), some (.ref (tk_ad (ks_G P) (28, 0, 0))), some (.int (nI 3)), none, none] []) :
    tk_go p l e room_1 s m args below meth c0 (ks_G P) (cn_dm P 0) 7 0 0 Q (cn_sl P (fun _ _ => false)) 0 [some (.ref b0), none, none, none, none, none, none] [] := by
  refine cn_new X hO (k := (0, 0, 0)) (z := 0) (ks_d0 (P := P) (f := 0) (by decide)) rfl rfl hc_TC hi_TC t_TC t_TC_ok m_Law_8 mt_TC mi_TC (fun j hj => (cn_c4 j hj).symm.trans (cn_unv rfl rfl)) (Nat.le_of_ble_eq_true rfl) (Nat.le_of_ble_eq_true rfl) d_Law_law_0 ?_
  refine tk_dup X rfl d_Law_law_3 ?_
  refine tk_aload_n X d_Law_law_4 rfl rfl ?_
  refine tk_iconst (v := 0) X d_Law_law_5 (by decide) ?_
  refine cl_call X hX hbl hLn (k := 0) (by decide) rfl (Nat.le_of_ble_eq_true rfl) (Nat.le_of_ble_eq_true rfl) (Nat.le_of_ble_eq_true rfl) ⟨(Nat.le_of_ble_eq_true rfl), (Nat.le_of_ble_eq_true rfl)⟩ d_Law_law_6 ?_
  refine tk_aload_n X d_Law_law_9 rfl rfl ?_
  refine tk_iconst (v := 1) X d_Law_law_10 (by decide) ?_
  refine cl_call X hX hbl hLn (k := 1) (by decide) rfl (Nat.le_of_ble_eq_true rfl) (Nat.le_of_ble_eq_true rfl) (Nat.le_of_ble_eq_true rfl) ⟨(Nat.le_of_ble_eq_true rfl), (Nat.le_of_ble_eq_true rfl)⟩ d_Law_law_11 ?_
  refine tk_aload_n X d_Law_law_14 rfl rfl ?_
  refine tk_iconst (v := 2) X d_Law_law_15 (by decide) ?_
  refine cl_call X hX hbl hLn (k := 2) (by decide) rfl (Nat.le_of_ble_eq_true rfl) (Nat.le_of_ble_eq_true rfl) (Nat.le_of_ble_eq_true rfl) ⟨(Nat.le_of_ble_eq_true rfl), (Nat.le_of_ble_eq_true rfl)⟩ d_Law_law_16 ?_
  refine tk_callI X (c_TC_init l P hP hO (fun _ _ => false) _ _ _ hn hs hw (fun _ => rfl) (fun _ => rfl) (fun _ _ => rfl) (fun _ _ => rfl) (fun _ _ => rfl)) (cn_site (n := 3) mc_TC_init mi_TC (by decide +kernel) (Nat.le_of_ble_eq_true rfl) (Nat.le_of_ble_eq_true rfl)) rfl m_Law_47 ms_TC_init rfl (Nat.le_of_ble_eq_true rfl) ⟨(Nat.le_of_ble_eq_true rfl), (Nat.le_of_ble_eq_true rfl)⟩ rfl d_Law_law_19 ?_
  refine tk_astore_n X d_Law_law_22 rfl (by decide) rfl ?_
  refine cn_new X hO (S := cn_cr cn_s1 (ks_T P) (ks_n P)) (k := (12, 0, 0)) (z := 4 + (cn_q (ks_T P) * ks_n P + 0)) (ks_d0 (P := P) (f := 12) (by decide)) (by show 4 + cn_q (ks_T P) * ks_n P + (12 - 12) = _; omega) rfl hc_Model hi_Model t_Model t_Model_ok m_Law_49 mt_Model mi_Model (fun j hj => (cn_c21 j hj).symm.trans (cn_unv (cn_m0 j) rfl)) (Nat.le_of_ble_eq_true rfl) (Nat.le_of_ble_eq_true rfl) d_Law_law_23 ?_
  refine tk_dup X rfl d_Law_law_26 ?_
  refine tk_aload_n X d_Law_law_27 rfl rfl ?_
  refine tk_iconst (v := 0) X d_Law_law_28 (by decide) ?_
  refine cl_call X hX hbl hLn (k := 0) (by decide) rfl (Nat.le_of_ble_eq_true rfl) (Nat.le_of_ble_eq_true rfl) (Nat.le_of_ble_eq_true rfl) ⟨(Nat.le_of_ble_eq_true rfl), (Nat.le_of_ble_eq_true rfl)⟩ d_Law_law_29 ?_
  refine tk_aload_n X d_Law_law_32 rfl rfl ?_
  refine tk_iconst (v := 1) X d_Law_law_33 (by decide) ?_
  refine cl_call X hX hbl hLn (k := 1) (by decide) rfl (Nat.le_of_ble_eq_true rfl) (Nat.le_of_ble_eq_true rfl) (Nat.le_of_ble_eq_true rfl) ⟨(Nat.le_of_ble_eq_true rfl), (Nat.le_of_ble_eq_true rfl)⟩ d_Law_law_34 ?_
  refine tk_aload_n X d_Law_law_37 rfl rfl ?_
  refine tk_iconst (v := 2) X d_Law_law_38 (by decide) ?_
  refine cl_call X hX hbl hLn (k := 2) (by decide) rfl (Nat.le_of_ble_eq_true rfl) (Nat.le_of_ble_eq_true rfl) (Nat.le_of_ble_eq_true rfl) ⟨(Nat.le_of_ble_eq_true rfl), (Nat.le_of_ble_eq_true rfl)⟩ d_Law_law_39 ?_
  refine tk_callI X (c_Model_init l P hP hO (cn_cr cn_s1 (ks_T P) (ks_n P)) _ _ _ hn hs hw) (cn_site (n := 3) mc_Model_init mi_Model (by decide +kernel) (Nat.le_of_ble_eq_true rfl) (Nat.le_of_ble_eq_true rfl)) rfl m_Law_51 ms_Model_init rfl (Nat.le_of_ble_eq_true rfl) ⟨(Nat.le_of_ble_eq_true rfl), (Nat.le_of_ble_eq_true rfl)⟩ rfl d_Law_law_42 ?_
  refine tk_astore_n X d_Law_law_45 rfl (by decide) rfl ?_
  refine tk_iconst (v := 1) X d_Law_law_46 (by decide) ?_
  refine cn_newa X hO (S := cn_sf P) (k := (28, 0, 0)) (z := 4 + (cn_q (ks_T P) * ks_n P + 0) + 1 + 1 + 1 + 1 + 1 + 1 + 1 + 1 + 1 + 1 + 1 + 1 + 1 + 1 + 1 + 1) (ks_d0 (P := P) (f := 28) (by decide)) (by show 4 + cn_q (ks_T P) * ks_n P + (28 - 12) = _; omega) rfl rfl rfl m_ac_long (n := 1) (by decide) rfl (Nat.le_of_ble_eq_true rfl) cn_l1 (Nat.le_of_ble_eq_true rfl) (Nat.le_of_ble_eq_true rfl) d_Law_law_47 ?_
  refine tk_astore_n X d_Law_law_49 rfl (by decide) rfl ?_
  refine tk_iconst (v := 3) X d_Law_law_50 (by decide) ?_
  refine tk_istore X d_Law_law_51 (by decide) rfl ?_
  refine tk_dom (dm' := ks_dm P) (fun k hk => ⟨hk, cn_all k hk⟩) (Or.inl rfl) ?_
  refine tk_widen (k := 1000) (n := 10000) (Nat.le_of_ble_eq_true rfl) (Nat.le_of_ble_eq_true rfl) ?_
  exact tk_ext (fun k hk j hj => cn_end k hk j hj) kend
