theorem s4_1 {y : Int32} (h : ¬ 2 ≤ y) : q_s4 y = 1 := if_pos (by
  rw [Int32.le_iff_toInt_le] at h ⊢
  have e1 : (1 : Int32).toInt = 1 := by decide
  have e2 : (2 : Int32).toInt = 2 := by decide
  omega)
theorem s4_2 {y : Int32} (h : 2 ≤ y) (h4 : ¬ 4 ≤ y) : q_s4 y = 2 := (if_neg (fun z => absurd (Int32.le_trans h z) (by decide))).trans (if_pos (by
  rw [Int32.le_iff_toInt_le] at h4 ⊢
  have e1 : (3 : Int32).toInt = 3 := by decide
  have e2 : (4 : Int32).toInt = 4 := by decide
  omega))
theorem s4_4 {y : Int32} (h : 4 ≤ y) : q_s4 y = 4 := (if_neg (fun z => absurd (Int32.le_trans h z) (by decide))).trans (if_neg (fun z => absurd (Int32.le_trans h z) (by decide)))
theorem n3_1 {x : Int32} (h : ¬ 1 ≤ x) : q_n3 x = 1 := if_pos (Int32.not_le.mp h)
theorem n3_3 {x : Int32} (h : 1 ≤ x) (h3 : ¬ x ≤ 3) : q_n3 x = 3 := (if_neg (Int32.not_lt.mpr h)).trans (if_pos (Int32.not_le.mp h3))
theorem n3_x {x : Int32} (h : 1 ≤ x) (h3 : x ≤ 3) : x = nI (q_n3 x) := by
  rcases q_n3_in (Int32.not_lt.mpr h) (Int32.not_lt.mpr h3) with rfl | rfl | rfl <;> decide
theorem cn_c21 : ∀ j, j < 21 → cn_dft (12, 0, 0) j = defaultValue (t_Model j) := by decide +kernel

theorem tk_mrg {p : Program} {l : Launch} {e : Env} {R : Room} {s : State} {m : MethodId} {args : Array Value} {below : List Frame} {meth : Method} {c : Code} {G : tk_G} {dm : tk_W} {nL cells slots : Nat} {Q : State → Prop} {sl : tk_L} {pc : Nat} {L : List (Option Value)} {x y : Value} {st : List Value} (pc1 : Nat) (v : Value) (k : tk_go p l e R s m args below meth c G dm nL cells slots Q sl pc1 L (v :: st) → tk_go p l e R s m args below meth c G dm nL cells slots Q sl pc L (x :: y :: st)) (h : tk_go p l e R s m args below meth c G dm nL cells slots Q sl pc1 L (v :: st)) : tk_go p l e R s m args below meth c G dm nL cells slots Q sl pc L (x :: y :: st) := k h

set_option maxRecDepth 100000 in
set_option maxHeartbeats 4000000 in
theorem c_Model_init (l : Launch) (P : ks_P) (hP : ks_ok P) (hO : cn_ok P) (S : tk_K → Nat → Bool) (x y w : Int32) (hn : ks_n P = q_n3 x) (hs : ks_S P = q_s4 y) (hw : ks_W P = q_n3 w) : cn_M l P y_Model_init b_Model_init 4 1 15 406 [.ref (ks_ad P (12, 0, 0)), .int x, .int y, .int w] (4 + (cn_q (ks_T P) * ks_n P + 0) + 1) (4 + (cn_q (ks_T P) * ks_n P + 0) + 1 + 1 + 1 + 1 + 1 + 1 + 1 + 1 + 1 + 1 + 1 + 1 + 1 + 1 + 1 + 1) S (cn_set (cn_set (cn_set (cn_set (cn_set (cn_set (cn_set (cn_set (cn_set (cn_set (cn_set (cn_set (cn_set (cn_set (cn_set (cn_set (cn_set (cn_set S (12, 0, 0) 6) (12, 0, 0) 7) (12, 0, 0) 8) (12, 0, 0) 9) (12, 0, 0) 10) (12, 0, 0) 11) (12, 0, 0) 12) (12, 0, 0) 13) (12, 0, 0) 14) (12, 0, 0) 15) (12, 0, 0) 16) (12, 0, 0) 17) (12, 0, 0) 18) (12, 0, 0) 19) (12, 0, 0) 20) (12, 0, 0) 0) (12, 0, 0) 1) (12, 0, 0) 2) := by
  refine tk_of hP.2.2.2.2.2 (by decide) rfl (Nat.le_of_ble_eq_true rfl) ?_
  intro p e s m below meth c0 X hlk hr hnm
  refine tk_aload_n X d_Model_init_0 rfl rfl ?_
  refine tk_objInit X m_Model_1 m_oi m_oc (Nat.le_of_ble_eq_true rfl) (Nat.le_of_ble_eq_true rfl) d_Model_init_1 ?_
  refine tk_aload_n X d_Model_init_4 rfl rfl ?_
  refine tk_bipush (v := 64) X d_Model_init_5 (by decide) ?_
  refine cn_newa X hO (k := (13, 0, 0)) (z := 4 + (cn_q (ks_T P) * ks_n P + 0) + 1) (ks_d0 (P := P) (f := 13) (by decide)) (by show 4 + cn_q (ks_T P) * ks_n P + (13 - 12) = _; omega) rfl rfl rfl m_ac_int (by decide) rfl (Nat.le_of_ble_eq_true rfl) (fun j _ => cn_sam rfl rfl) (Nat.le_of_ble_eq_true rfl) (Nat.le_of_ble_eq_true rfl) d_Model_init_7 ?_
  refine cn_putF X hnm (k := (12, 0, 0)) (z := 4 + (cn_q (ks_T P) * ks_n P + 0) + 1 + 1) ⟨ks_d0 (P := P) (f := 12) (by decide), by show 4 + cn_q (ks_T P) * ks_n P + (12 - 12) < _; omega⟩ rfl hc_Model hi_Model t_Model t_Model_ok n_Model 6 (by decide) m_Model_7 rfl rfl (v := .ref (ks_ad P (13, 0, 0))) rfl rfl rfl d_Model_init_9 ?_
  refine tk_aload_n X d_Model_init_12 rfl rfl ?_
  refine tk_bipush (v := 24) X d_Model_init_13 (by decide) ?_
  refine cn_newa X hO (k := (14, 0, 0)) (z := 4 + (cn_q (ks_T P) * ks_n P + 0) + 1 + 1) (ks_d0 (P := P) (f := 14) (by decide)) (by show 4 + cn_q (ks_T P) * ks_n P + (14 - 12) = _; omega) rfl rfl rfl m_ac_int (by decide) rfl (Nat.le_of_ble_eq_true rfl) (fun j _ => cn_sam rfl rfl) (Nat.le_of_ble_eq_true rfl) (Nat.le_of_ble_eq_true rfl) d_Model_init_15 ?_
  refine cn_putF X hnm (k := (12, 0, 0)) (z := 4 + (cn_q (ks_T P) * ks_n P + 0) + 1 + 1 + 1) ⟨ks_d0 (P := P) (f := 12) (by decide), by show 4 + cn_q (ks_T P) * ks_n P + (12 - 12) < _; omega⟩ rfl hc_Model hi_Model t_Model t_Model_ok n_Model 7 (by decide) m_Model_13 rfl rfl (v := .ref (ks_ad P (14, 0, 0))) rfl rfl rfl d_Model_init_17 ?_
  refine tk_aload_n X d_Model_init_20 rfl rfl ?_
  refine tk_bipush (v := 24) X d_Model_init_21 (by decide) ?_
  refine cn_newa X hO (k := (15, 0, 0)) (z := 4 + (cn_q (ks_T P) * ks_n P + 0) + 1 + 1 + 1) (ks_d0 (P := P) (f := 15) (by decide)) (by show 4 + cn_q (ks_T P) * ks_n P + (15 - 12) = _; omega) rfl rfl rfl m_ac_int (by decide) rfl (Nat.le_of_ble_eq_true rfl) (fun j _ => cn_sam rfl rfl) (Nat.le_of_ble_eq_true rfl) (Nat.le_of_ble_eq_true rfl) d_Model_init_23 ?_
  refine cn_putF X hnm (k := (12, 0, 0)) (z := 4 + (cn_q (ks_T P) * ks_n P + 0) + 1 + 1 + 1 + 1) ⟨ks_d0 (P := P) (f := 12) (by decide), by show 4 + cn_q (ks_T P) * ks_n P + (12 - 12) < _; omega⟩ rfl hc_Model hi_Model t_Model t_Model_ok n_Model 8 (by decide) m_Model_16 rfl rfl (v := .ref (ks_ad P (15, 0, 0))) rfl rfl rfl d_Model_init_25 ?_
  refine tk_aload_n X d_Model_init_28 rfl rfl ?_
  refine tk_bipush (v := 48) X d_Model_init_29 (by decide) ?_
  refine cn_newa X hO (k := (16, 0, 0)) (z := 4 + (cn_q (ks_T P) * ks_n P + 0) + 1 + 1 + 1 + 1) (ks_d0 (P := P) (f := 16) (by decide)) (by show 4 + cn_q (ks_T P) * ks_n P + (16 - 12) = _; omega) rfl rfl rfl m_ac_int (by decide) rfl (Nat.le_of_ble_eq_true rfl) (fun j _ => cn_sam rfl rfl) (Nat.le_of_ble_eq_true rfl) (Nat.le_of_ble_eq_true rfl) d_Model_init_31 ?_
  refine cn_putF X hnm (k := (12, 0, 0)) (z := 4 + (cn_q (ks_T P) * ks_n P + 0) + 1 + 1 + 1 + 1 + 1) ⟨ks_d0 (P := P) (f := 12) (by decide), by show 4 + cn_q (ks_T P) * ks_n P + (12 - 12) < _; omega⟩ rfl hc_Model hi_Model t_Model t_Model_ok n_Model 9 (by decide) m_Model_19 rfl rfl (v := .ref (ks_ad P (16, 0, 0))) rfl rfl rfl d_Model_init_33 ?_
  refine tk_aload_n X d_Model_init_36 rfl rfl ?_
  refine tk_iconst (v := 3) X d_Model_init_37 (by decide) ?_
  refine cn_newa X hO (k := (17, 0, 0)) (z := 4 + (cn_q (ks_T P) * ks_n P + 0) + 1 + 1 + 1 + 1 + 1) (ks_d0 (P := P) (f := 17) (by decide)) (by show 4 + cn_q (ks_T P) * ks_n P + (17 - 12) = _; omega) rfl rfl rfl m_ac_int (by decide) rfl (Nat.le_of_ble_eq_true rfl) (fun j _ => cn_sam rfl rfl) (Nat.le_of_ble_eq_true rfl) (Nat.le_of_ble_eq_true rfl) d_Model_init_38 ?_
  refine cn_putF X hnm (k := (12, 0, 0)) (z := 4 + (cn_q (ks_T P) * ks_n P + 0) + 1 + 1 + 1 + 1 + 1 + 1) ⟨ks_d0 (P := P) (f := 12) (by decide), by show 4 + cn_q (ks_T P) * ks_n P + (12 - 12) < _; omega⟩ rfl hc_Model hi_Model t_Model t_Model_ok n_Model 10 (by decide) m_Model_22 rfl rfl (v := .ref (ks_ad P (17, 0, 0))) rfl rfl rfl d_Model_init_40 ?_
  refine tk_aload_n X d_Model_init_43 rfl rfl ?_
  refine tk_iconst (v := 3) X d_Model_init_44 (by decide) ?_
  refine cn_newa X hO (k := (18, 0, 0)) (z := 4 + (cn_q (ks_T P) * ks_n P + 0) + 1 + 1 + 1 + 1 + 1 + 1) (ks_d0 (P := P) (f := 18) (by decide)) (by show 4 + cn_q (ks_T P) * ks_n P + (18 - 12) = _; omega) rfl rfl rfl m_ac_int (by decide) rfl (Nat.le_of_ble_eq_true rfl) (fun j _ => cn_sam rfl rfl) (Nat.le_of_ble_eq_true rfl) (Nat.le_of_ble_eq_true rfl) d_Model_init_45 ?_
  refine cn_putF X hnm (k := (12, 0, 0)) (z := 4 + (cn_q (ks_T P) * ks_n P + 0) + 1 + 1 + 1 + 1 + 1 + 1 + 1) ⟨ks_d0 (P := P) (f := 12) (by decide), by show 4 + cn_q (ks_T P) * ks_n P + (12 - 12) < _; omega⟩ rfl hc_Model hi_Model t_Model t_Model_ok n_Model 11 (by decide) m_Model_25 rfl rfl (v := .ref (ks_ad P (18, 0, 0))) rfl rfl rfl d_Model_init_47 ?_
  refine tk_aload_n X d_Model_init_50 rfl rfl ?_
  refine tk_iconst (v := 3) X d_Model_init_51 (by decide) ?_
  refine cn_newa X hO (k := (19, 0, 0)) (z := 4 + (cn_q (ks_T P) * ks_n P + 0) + 1 + 1 + 1 + 1 + 1 + 1 + 1) (ks_d0 (P := P) (f := 19) (by decide)) (by show 4 + cn_q (ks_T P) * ks_n P + (19 - 12) = _; omega) rfl rfl rfl m_ac_int (by decide) rfl (Nat.le_of_ble_eq_true rfl) (fun j _ => cn_sam rfl rfl) (Nat.le_of_ble_eq_true rfl) (Nat.le_of_ble_eq_true rfl) d_Model_init_52 ?_
  refine cn_putF X hnm (k := (12, 0, 0)) (z := 4 + (cn_q (ks_T P) * ks_n P + 0) + 1 + 1 + 1 + 1 + 1 + 1 + 1 + 1) ⟨ks_d0 (P := P) (f := 12) (by decide), by show 4 + cn_q (ks_T P) * ks_n P + (12 - 12) < _; omega⟩ rfl hc_Model hi_Model t_Model t_Model_ok n_Model 12 (by decide) m_Model_28 rfl rfl (v := .ref (ks_ad P (19, 0, 0))) rfl rfl rfl d_Model_init_54 ?_
  refine tk_aload_n X d_Model_init_57 rfl rfl ?_
  refine tk_iconst (v := 3) X d_Model_init_58 (by decide) ?_
  refine cn_newa X hO (k := (20, 0, 0)) (z := 4 + (cn_q (ks_T P) * ks_n P + 0) + 1 + 1 + 1 + 1 + 1 + 1 + 1 + 1) (ks_d0 (P := P) (f := 20) (by decide)) (by show 4 + cn_q (ks_T P) * ks_n P + (20 - 12) = _; omega) rfl rfl rfl m_ac_boolean (by decide) rfl (Nat.le_of_ble_eq_true rfl) (fun j _ => cn_sam rfl rfl) (Nat.le_of_ble_eq_true rfl) (Nat.le_of_ble_eq_true rfl) d_Model_init_59 ?_
  refine cn_putF X hnm (k := (12, 0, 0)) (z := 4 + (cn_q (ks_T P) * ks_n P + 0) + 1 + 1 + 1 + 1 + 1 + 1 + 1 + 1 + 1) ⟨ks_d0 (P := P) (f := 12) (by decide), by show 4 + cn_q (ks_T P) * ks_n P + (12 - 12) < _; omega⟩ rfl hc_Model hi_Model t_Model t_Model_ok n_Model 13 (by decide) m_Model_31 rfl rfl (v := .ref (ks_ad P (20, 0, 0))) rfl rfl rfl d_Model_init_61 ?_
  refine tk_aload_n X d_Model_init_64 rfl rfl ?_
  refine tk_bipush (v := 18) X d_Model_init_65 (by decide) ?_
  refine cn_newa X hO (k := (21, 0, 0)) (z := 4 + (cn_q (ks_T P) * ks_n P + 0) + 1 + 1 + 1 + 1 + 1 + 1 + 1 + 1 + 1) (ks_d0 (P := P) (f := 21) (by decide)) (by show 4 + cn_q (ks_T P) * ks_n P + (21 - 12) = _; omega) rfl rfl rfl m_ac_int (by decide) rfl (Nat.le_of_ble_eq_true rfl) (fun j _ => cn_sam rfl rfl) (Nat.le_of_ble_eq_true rfl) (Nat.le_of_ble_eq_true rfl) d_Model_init_67 ?_
  refine cn_putF X hnm (k := (12, 0, 0)) (z := 4 + (cn_q (ks_T P) * ks_n P + 0) + 1 + 1 + 1 + 1 + 1 + 1 + 1 + 1 + 1 + 1) ⟨ks_d0 (P := P) (f := 12) (by decide), by show 4 + cn_q (ks_T P) * ks_n P + (12 - 12) < _; omega⟩ rfl hc_Model hi_Model t_Model t_Model_ok n_Model 14 (by decide) m_Model_35 rfl rfl (v := .ref (ks_ad P (21, 0, 0))) rfl rfl rfl d_Model_init_69 ?_
  refine tk_aload_n X d_Model_init_72 rfl rfl ?_
  refine tk_bipush (v := 36) X d_Model_init_73 (by decide) ?_
  refine cn_newa X hO (k := (22, 0, 0)) (z := 4 + (cn_q (ks_T P) * ks_n P + 0) + 1 + 1 + 1 + 1 + 1 + 1 + 1 + 1 + 1 + 1) (ks_d0 (P := P) (f := 22) (by decide)) (by show 4 + cn_q (ks_T P) * ks_n P + (22 - 12) = _; omega) rfl rfl rfl m_ac_int (by decide) rfl (Nat.le_of_ble_eq_true rfl) (fun j _ => cn_sam rfl rfl) (Nat.le_of_ble_eq_true rfl) (Nat.le_of_ble_eq_true rfl) d_Model_init_75 ?_
  refine cn_putF X hnm (k := (12, 0, 0)) (z := 4 + (cn_q (ks_T P) * ks_n P + 0) + 1 + 1 + 1 + 1 + 1 + 1 + 1 + 1 + 1 + 1 + 1) ⟨ks_d0 (P := P) (f := 12) (by decide), by show 4 + cn_q (ks_T P) * ks_n P + (12 - 12) < _; omega⟩ rfl hc_Model hi_Model t_Model t_Model_ok n_Model 15 (by decide) m_Model_38 rfl rfl (v := .ref (ks_ad P (22, 0, 0))) rfl rfl rfl d_Model_init_77 ?_
  refine tk_aload_n X d_Model_init_80 rfl rfl ?_
  refine tk_bipush (v := 36) X d_Model_init_81 (by decide) ?_
  refine cn_newa X hO (k := (23, 0, 0)) (z := 4 + (cn_q (ks_T P) * ks_n P + 0) + 1 + 1 + 1 + 1 + 1 + 1 + 1 + 1 + 1 + 1 + 1) (ks_d0 (P := P) (f := 23) (by decide)) (by show 4 + cn_q (ks_T P) * ks_n P + (23 - 12) = _; omega) rfl rfl rfl m_ac_int (by decide) rfl (Nat.le_of_ble_eq_true rfl) (fun j _ => cn_sam rfl rfl) (Nat.le_of_ble_eq_true rfl) (Nat.le_of_ble_eq_true rfl) d_Model_init_83 ?_
  refine cn_putF X hnm (k := (12, 0, 0)) (z := 4 + (cn_q (ks_T P) * ks_n P + 0) + 1 + 1 + 1 + 1 + 1 + 1 + 1 + 1 + 1 + 1 + 1 + 1) ⟨ks_d0 (P := P) (f := 12) (by decide), by show 4 + cn_q (ks_T P) * ks_n P + (12 - 12) < _; omega⟩ rfl hc_Model hi_Model t_Model t_Model_ok n_Model 16 (by decide) m_Model_41 rfl rfl (v := .ref (ks_ad P (23, 0, 0))) rfl rfl rfl d_Model_init_85 ?_
  refine tk_aload_n X d_Model_init_88 rfl rfl ?_
  refine tk_bipush (v := 36) X d_Model_init_89 (by decide) ?_
  refine cn_newa X hO (k := (24, 0, 0)) (z := 4 + (cn_q (ks_T P) * ks_n P + 0) + 1 + 1 + 1 + 1 + 1 + 1 + 1 + 1 + 1 + 1 + 1 + 1) (ks_d0 (P := P) (f := 24) (by decide)) (by show 4 + cn_q (ks_T P) * ks_n P + (24 - 12) = _; omega) rfl rfl rfl m_ac_int (by decide) rfl (Nat.le_of_ble_eq_true rfl) (fun j _ => cn_sam rfl rfl) (Nat.le_of_ble_eq_true rfl) (Nat.le_of_ble_eq_true rfl) d_Model_init_91 ?_
  refine cn_putF X hnm (k := (12, 0, 0)) (z := 4 + (cn_q (ks_T P) * ks_n P + 0) + 1 + 1 + 1 + 1 + 1 + 1 + 1 + 1 + 1 + 1 + 1 + 1 + 1) ⟨ks_d0 (P := P) (f := 12) (by decide), by show 4 + cn_q (ks_T P) * ks_n P + (12 - 12) < _; omega⟩ rfl hc_Model hi_Model t_Model t_Model_ok n_Model 17 (by decide) m_Model_44 rfl rfl (v := .ref (ks_ad P (24, 0, 0))) rfl rfl rfl d_Model_init_93 ?_
  refine tk_aload_n X d_Model_init_96 rfl rfl ?_
  refine tk_bipush (v := 36) X d_Model_init_97 (by decide) ?_
  refine cn_newa X hO (k := (25, 0, 0)) (z := 4 + (cn_q (ks_T P) * ks_n P + 0) + 1 + 1 + 1 + 1 + 1 + 1 + 1 + 1 + 1 + 1 + 1 + 1 + 1) (ks_d0 (P := P) (f := 25) (by decide)) (by show 4 + cn_q (ks_T P) * ks_n P + (25 - 12) = _; omega) rfl rfl rfl m_ac_int (by decide) rfl (Nat.le_of_ble_eq_true rfl) (fun j _ => cn_sam rfl rfl) (Nat.le_of_ble_eq_true rfl) (Nat.le_of_ble_eq_true rfl) d_Model_init_99 ?_
  refine cn_putF X hnm (k := (12, 0, 0)) (z := 4 + (cn_q (ks_T P) * ks_n P + 0) + 1 + 1 + 1 + 1 + 1 + 1 + 1 + 1 + 1 + 1 + 1 + 1 + 1 + 1) ⟨ks_d0 (P := P) (f := 12) (by decide), by show 4 + cn_q (ks_T P) * ks_n P + (12 - 12) < _; omega⟩ rfl hc_Model hi_Model t_Model t_Model_ok n_Model 18 (by decide) m_Model_47 rfl rfl (v := .ref (ks_ad P (25, 0, 0))) rfl rfl rfl d_Model_init_101 ?_
  refine tk_aload_n X d_Model_init_104 rfl rfl ?_
  refine tk_bipush (v := 36) X d_Model_init_105 (by decide) ?_
  refine cn_newa X hO (k := (26, 0, 0)) (z := 4 + (cn_q (ks_T P) * ks_n P + 0) + 1 + 1 + 1 + 1 + 1 + 1 + 1 + 1 + 1 + 1 + 1 + 1 + 1 + 1) (ks_d0 (P := P) (f := 26) (by decide)) (by show 4 + cn_q (ks_T P) * ks_n P + (26 - 12) = _; omega) rfl rfl rfl m_ac_int (by decide) rfl (Nat.le_of_ble_eq_true rfl) (fun j _ => cn_sam rfl rfl) (Nat.le_of_ble_eq_true rfl) (Nat.le_of_ble_eq_true rfl) d_Model_init_107 ?_
  refine cn_putF X hnm (k := (12, 0, 0)) (z := 4 + (cn_q (ks_T P) * ks_n P + 0) + 1 + 1 + 1 + 1 + 1 + 1 + 1 + 1 + 1 + 1 + 1 + 1 + 1 + 1 + 1) ⟨ks_d0 (P := P) (f := 12) (by decide), by show 4 + cn_q (ks_T P) * ks_n P + (12 - 12) < _; omega⟩ rfl hc_Model hi_Model t_Model t_Model_ok n_Model 19 (by decide) m_Model_50 rfl rfl (v := .ref (ks_ad P (26, 0, 0))) rfl rfl rfl d_Model_init_109 ?_
  refine tk_aload_n X d_Model_init_112 rfl rfl ?_
  refine tk_bipush (v := 36) X d_Model_init_113 (by decide) ?_
  refine cn_newa X hO (k := (27, 0, 0)) (z := 4 + (cn_q (ks_T P) * ks_n P + 0) + 1 + 1 + 1 + 1 + 1 + 1 + 1 + 1 + 1 + 1 + 1 + 1 + 1 + 1 + 1) (ks_d0 (P := P) (f := 27) (by decide)) (by show 4 + cn_q (ks_T P) * ks_n P + (27 - 12) = _; omega) rfl rfl rfl m_ac_int (by decide) rfl (Nat.le_of_ble_eq_true rfl) (fun j _ => cn_sam rfl rfl) (Nat.le_of_ble_eq_true rfl) (Nat.le_of_ble_eq_true rfl) d_Model_init_115 ?_
  refine cn_putF X hnm (k := (12, 0, 0)) (z := 4 + (cn_q (ks_T P) * ks_n P + 0) + 1 + 1 + 1 + 1 + 1 + 1 + 1 + 1 + 1 + 1 + 1 + 1 + 1 + 1 + 1 + 1) ⟨ks_d0 (P := P) (f := 12) (by decide), by show 4 + cn_q (ks_T P) * ks_n P + (12 - 12) < _; omega⟩ rfl hc_Model hi_Model t_Model t_Model_ok n_Model 20 (by decide) m_Model_53 rfl rfl (v := .ref (ks_ad P (27, 0, 0))) rfl rfl rfl d_Model_init_117 ?_
  refine tk_aload_n X d_Model_init_120 rfl rfl ?_
  refine tk_iload_n X d_Model_init_121 rfl rfl ?_
  refine tk_iconst (v := 1) X d_Model_init_122 (by decide) ?_
  refine tk_mrg (pc1 := 140) (v := .int (nI (ks_n P))) (fun key => ?_) ?_
  · refine tk_icmp_ge (tgt := 130) X d_Model_init_123 (by decide) (fun g1 => ?_) (fun g1 => ?_)
    · refine tk_iload_n X d_Model_init_130 rfl rfl ?_
      refine tk_iconst (v := 3) X d_Model_init_131 (by decide) ?_
      refine tk_icmp_le (tgt := 139) X d_Model_init_132 (by decide) (fun g3 => ?_) (fun g3 => ?_)
      · refine tk_iload_n X d_Model_init_139 rfl rfl ?_
        exact tk_eq rfl rfl rfl (by rw [hn, ← n3_x g1 g3]) key
      · refine tk_iconst (v := 3) X d_Model_init_135 (by decide) ?_
        refine tk_goto (tgt := 140) X d_Model_init_136 (by decide) ?_
        exact tk_eq rfl rfl rfl (by rw [hn, n3_3 g1 g3]; rfl) key
    · refine tk_iconst (v := 1) X d_Model_init_126 (by decide) ?_
      refine tk_goto (tgt := 140) X d_Model_init_127 (by decide) ?_
      exact tk_eq rfl rfl rfl (by rw [hn, n3_1 g1]; rfl) key
  refine cn_putF X hnm (k := (12, 0, 0)) (z := 4 + (cn_q (ks_T P) * ks_n P + 0) + 1 + 1 + 1 + 1 + 1 + 1 + 1 + 1 + 1 + 1 + 1 + 1 + 1 + 1 + 1 + 1) ⟨ks_d0 (P := P) (f := 12) (by decide), by show 4 + cn_q (ks_T P) * ks_n P + (12 - 12) < _; omega⟩ rfl hc_Model hi_Model t_Model t_Model_ok n_Model 0 (by decide) m_Model_56 rfl rfl (v := .int (nI (ks_n P))) rfl rfl rfl d_Model_init_140 ?_
  refine tk_aload_n X d_Model_init_143 rfl rfl ?_
  refine tk_iload_n X d_Model_init_144 rfl rfl ?_
  refine tk_iconst (v := 2) X d_Model_init_145 (by decide) ?_
  refine tk_mrg (pc1 := 163) (v := .int (nI (ks_S P))) (fun key => ?_) ?_
  · refine tk_icmp_ge (tgt := 153) X d_Model_init_146 (by decide) (fun g1 => ?_) (fun g1 => ?_)
    · refine tk_iload_n X d_Model_init_153 rfl rfl ?_
      refine tk_iconst (v := 4) X d_Model_init_154 (by decide) ?_
      refine tk_icmp_ge (tgt := 162) X d_Model_init_155 (by decide) (fun g3 => ?_) (fun g3 => ?_)
      · refine tk_iconst (v := 4) X d_Model_init_162 (by decide) ?_
        exact tk_eq rfl rfl rfl (by rw [hs, s4_4 g3]; rfl) key
      · refine tk_iconst (v := 2) X d_Model_init_158 (by decide) ?_
        refine tk_goto (tgt := 163) X d_Model_init_159 (by decide) ?_
        exact tk_eq rfl rfl rfl (by rw [hs, s4_2 g1 g3]; rfl) key
    · refine tk_iconst (v := 1) X d_Model_init_149 (by decide) ?_
      refine tk_goto (tgt := 163) X d_Model_init_150 (by decide) ?_
      exact tk_eq rfl rfl rfl (by rw [hs, s4_1 g1]; rfl) key
  refine cn_putF X hnm (k := (12, 0, 0)) (z := 4 + (cn_q (ks_T P) * ks_n P + 0) + 1 + 1 + 1 + 1 + 1 + 1 + 1 + 1 + 1 + 1 + 1 + 1 + 1 + 1 + 1 + 1) ⟨ks_d0 (P := P) (f := 12) (by decide), by show 4 + cn_q (ks_T P) * ks_n P + (12 - 12) < _; omega⟩ rfl hc_Model hi_Model t_Model t_Model_ok n_Model 1 (by decide) m_Model_60 rfl rfl (v := .int (nI (ks_S P))) rfl rfl rfl d_Model_init_163 ?_
  refine tk_aload_n X d_Model_init_166 rfl rfl ?_
  refine tk_iload_n X d_Model_init_167 rfl rfl ?_
  refine tk_iconst (v := 1) X d_Model_init_168 (by decide) ?_
  refine tk_mrg (pc1 := 186) (v := .int (nI (ks_W P))) (fun key => ?_) ?_
  · refine tk_icmp_ge (tgt := 176) X d_Model_init_169 (by decide) (fun g1 => ?_) (fun g1 => ?_)
    · refine tk_iload_n X d_Model_init_176 rfl rfl ?_
      refine tk_iconst (v := 3) X d_Model_init_177 (by decide) ?_
      refine tk_icmp_le (tgt := 185) X d_Model_init_178 (by decide) (fun g3 => ?_) (fun g3 => ?_)
      · refine tk_iload_n X d_Model_init_185 rfl rfl ?_
        exact tk_eq rfl rfl rfl (by rw [hw, ← n3_x g1 g3]) key
      · refine tk_iconst (v := 3) X d_Model_init_181 (by decide) ?_
        refine tk_goto (tgt := 186) X d_Model_init_182 (by decide) ?_
        exact tk_eq rfl rfl rfl (by rw [hw, n3_3 g1 g3]; rfl) key
    · refine tk_iconst (v := 1) X d_Model_init_172 (by decide) ?_
      refine tk_goto (tgt := 186) X d_Model_init_173 (by decide) ?_
      exact tk_eq rfl rfl rfl (by rw [hw, n3_1 g1]; rfl) key
  refine cn_putF X hnm (k := (12, 0, 0)) (z := 4 + (cn_q (ks_T P) * ks_n P + 0) + 1 + 1 + 1 + 1 + 1 + 1 + 1 + 1 + 1 + 1 + 1 + 1 + 1 + 1 + 1 + 1) ⟨ks_d0 (P := P) (f := 12) (by decide), by show 4 + cn_q (ks_T P) * ks_n P + (12 - 12) < _; omega⟩ rfl hc_Model hi_Model t_Model t_Model_ok n_Model 2 (by decide) m_Model_63 rfl rfl (v := .int (nI (ks_W P))) rfl rfl rfl d_Model_init_186 ?_
  exact tk_vret X hlk hr d_Model_init_189 rfl (fun _ h => h) (Or.inr rfl) (fun _ _ => rfl)
