theorem c_TC_run (l : Launch) (P : ks_P) (hP : ks_ok P) (N : Nat) (hN : N ≤ 16) (x : Int32) (a b : ks_M) (o : ks_O) (hJ : j_J (ks_n P) (ks_S P) (ks_W P) a) : kc l P y_TC_run b_TC_run 6 (some .int) 7 [.ref (tk_ad (ks_G P) (0, 0, 0)), .int x, .int (nI N)] a b o (some (.int (k_run (ks_n P) (ks_S P) (ks_W P) x N 0 0 a).1)) (k_run (ks_n P) (ks_S P) (ks_W P) x N 0 0 a).2 b o :=
  c_TC_run_open l P hP N hN x (j_J (ks_n P) (ks_S P) (ks_W P)) (fun _ h => h.2) (fun a c hc h => j_step h (by have := hP.2.1; omega) hc hP.2.2.2.1 (k_first_le hP)) a b o hJ
theorem mw_code : Cond.codeWith y_Law_code b_Law_code 5 (some .int) [(0, 7, 10, 13)] ∈ WS := by decide +kernel
theorem mw_step : Cond.codeWith y_Law_step b_Law_step 4 (some .int) [(0, 9, 12, 13)] ∈ WS := by decide +kernel
theorem mw_run : Cond.codeWith y_Law_run b_Law_run 5 (some .int) [(0, 10, 13, 23)] ∈ WS := by decide +kernel
theorem mw_jump : Cond.codeWith y_Law_jump b_Law_jump 4 (some .int) [(0, 6, 9, 13), (0, 6, 12, 29)] ∈ WS := by decide +kernel
theorem mw_register : Cond.codeWith y_Law_register b_Law_register 5 (some .int) [(0, 10, 13, 13)] ∈ WS := by decide +kernel
theorem mw_fate : Cond.codeWith y_Law_fate b_Law_fate 5 (some .int) [(0, 10, 13, 13)] ∈ WS := by decide +kernel
theorem mw_way : Cond.codeWith y_Law_way b_Law_way 7 (some .int) [(0, 14, 17, 13)] ∈ WS := by decide +kernel
set_option maxRecDepth 100000 in
set_option maxHeartbeats 4000000 in
theorem w_code (l : Launch) (hst : l.stackTraces = false) (P : ks_P) (hP : ks_ok P) (c : Nat) (hc : c < ks_n P) (i : Nat) (hi : i < 16) (v : Int32) (a b : ks_M) (o : ks_O)  : kq l P y_Law_code b_Law_code 5 [(0, 7, 10, 13)] [.ref (tk_ad (ks_G P) (0, 0, 0)), .int (nI c), .int (nI i), .int v] a b o 0 (ks_up a (8, c, 0) i v) o := by
  have hn64 := ks_n64 hP
  have hT64 := ks_T64 hP
  refine xw_of hP.2.2.2.2.2 (by decide) rfl (Nat.le_of_ble_eq_true rfl) ?_
  intro p e s m below meth c0 X hZ htb hlk hr
  refine tk_aload_n X d_Law_code_0 rfl rfl ?_
  refine tk_iload_n X d_Law_code_1 rfl rfl ?_
  refine tk_iload_n X d_Law_code_2 rfl rfl ?_
  refine tk_iload_n X d_Law_code_3 rfl rfl ?_
  refine tk_callV X (kb := (0, 0, 0)) (ks_d0 (by decide)) rfl hc_TC (c_TC_code l P hP c hc i hi v a b o) (xk_site (n := 3) mc_TC_code mi_TC (by decide +kernel) (by decide) (by decide)) m_Law_7 ms_TC_code mv_TC_code rfl (Nat.le_of_ble_eq_true rfl) ⟨Nat.le_of_ble_eq_true rfl, Nat.le_of_ble_eq_true rfl⟩ rfl d_Law_code_4 ?_
  refine tk_goto (tgt := 14) X d_Law_code_7 (by decide) ?_
  refine tk_iconst (v := 0) X d_Law_code_14 (by decide) ?_
  refine xt_ret ?_
  refine tk_widen (k := 1) (n := 6) (Nat.le_of_ble_eq_true rfl) (Nat.le_of_ble_eq_true rfl) ?_
  exact tk_iret X hlk hr d_Law_code_15 rfl (fun _ h => h) (Or.inr rfl) (fun _ _ => rfl)

set_option maxRecDepth 100000 in
set_option maxHeartbeats 4000000 in
theorem w_codeX (l : Launch) (hst : l.stackTraces = false) (P : ks_P) (hP : ks_ok P) (x : Int32) (hx : x < 0 ∨ nI (ks_n P) ≤ x) (y v : Int32) (a b : ks_M) (o : ks_O)  : kq l P y_Law_code b_Law_code 5 [(0, 7, 10, 13)] [.ref (tk_ad (ks_G P) (0, 0, 0)), .int x, .int y, .int v] a b o 1 a o := by
  have hn64 := ks_n64 hP
  have hT64 := ks_T64 hP
  refine xw_of hP.2.2.2.2.2 (by decide) rfl (Nat.le_of_ble_eq_true rfl) ?_
  intro p e s m below meth c0 X hZ htb hlk hr
  refine tk_aload_n X d_Law_code_0 rfl rfl ?_
  refine tk_iload_n X d_Law_code_1 rfl rfl ?_
  refine tk_iload_n X d_Law_code_2 rfl rfl ?_
  refine tk_iload_n X d_Law_code_3 rfl rfl ?_
  refine xt_catchV X hZ (kb := (0, 0, 0)) (ks_d0 (by decide)) rfl hc_TC (hM := (x_TC_codeX l hst P hP x hx y v a b o)) (xs_site (n := 3) mc_TC_code mi_TC (by decide +kernel) (by decide) (by decide)) m_Law_7 ms_TC_code mv_TC_code rfl (Nat.le_of_ble_eq_true rfl) ⟨Nat.le_of_ble_eq_true rfl, Nat.le_of_ble_eq_true rfl⟩ rfl d_Law_code_4 [] ⟨0, 7, 10, 13⟩ [] htb (fun z hz => by cases hz) rfl (by decide) m_Law_13 (hZ.1 _ (List.Mem.head _)) (fun q => ?_)
  refine tk_astore X d_Law_code_10 (by decide) rfl ?_
  refine tk_iconst (v := 1) X d_Law_code_12 (by decide) ?_
  refine xt_ret ?_
  refine tk_widen (k := 1) (n := 6) (Nat.le_of_ble_eq_true rfl) (Nat.le_of_ble_eq_true rfl) ?_
  exact tk_iret X hlk hr d_Law_code_13 rfl (fun _ h => h) (Or.inr rfl) (fun _ _ => rfl)

set_option maxRecDepth 100000 in
set_option maxHeartbeats 4000000 in
theorem w_codeY (l : Launch) (hst : l.stackTraces = false) (P : ks_P) (hP : ks_ok P) (c : Nat) (hc : c < ks_n P) (y : Int32) (hy : y < 0 ∨ 16 ≤ y) (v : Int32) (a b : ks_M) (o : ks_O)  : kq l P y_Law_code b_Law_code 5 [(0, 7, 10, 13)] [.ref (tk_ad (ks_G P) (0, 0, 0)), .int (nI c), .int y, .int v] a b o 1 a o := by
  have hn64 := ks_n64 hP
  have hT64 := ks_T64 hP
  refine xw_of hP.2.2.2.2.2 (by decide) rfl (Nat.le_of_ble_eq_true rfl) ?_
  intro p e s m below meth c0 X hZ htb hlk hr
  refine tk_aload_n X d_Law_code_0 rfl rfl ?_
  refine tk_iload_n X d_Law_code_1 rfl rfl ?_
  refine tk_iload_n X d_Law_code_2 rfl rfl ?_
  refine tk_iload_n X d_Law_code_3 rfl rfl ?_
  refine xt_catchV X hZ (kb := (0, 0, 0)) (ks_d0 (by decide)) rfl hc_TC (hM := (x_TC_codeY l hst P hP c hc y hy v a b o)) (xs_site (n := 3) mc_TC_code mi_TC (by decide +kernel) (by decide) (by decide)) m_Law_7 ms_TC_code mv_TC_code rfl (Nat.le_of_ble_eq_true rfl) ⟨Nat.le_of_ble_eq_true rfl, Nat.le_of_ble_eq_true rfl⟩ rfl d_Law_code_4 [] ⟨0, 7, 10, 13⟩ [] htb (fun z hz => by cases hz) rfl (by decide) m_Law_13 (hZ.1 _ (List.Mem.head _)) (fun q => ?_)
  refine tk_astore X d_Law_code_10 (by decide) rfl ?_
  refine tk_iconst (v := 1) X d_Law_code_12 (by decide) ?_
  refine xt_ret ?_
  refine tk_widen (k := 1) (n := 6) (Nat.le_of_ble_eq_true rfl) (Nat.le_of_ble_eq_true rfl) ?_
  exact tk_iret X hlk hr d_Law_code_13 rfl (fun _ h => h) (Or.inr rfl) (fun _ _ => rfl)

set_option maxRecDepth 100000 in
set_option maxHeartbeats 4000000 in
theorem w_step (l : Launch) (hst : l.stackTraces = false) (P : ks_P) (hP : ks_ok P) (c : Nat) (hc : c < ks_n P) (a b : ks_M) (o : ks_O) (hp : q_pc (a (4, c, 0) 6)) : kq l P y_Law_step b_Law_step 4 [(0, 9, 12, 13)] [.ref (tk_ad (ks_G P) (0, 0, 0)), .int (nI c), .ref (tk_ad (ks_G P) (28, 0, 0))] a b o 0 (k_step (ks_n P) (ks_S P) (ks_W P) a c).2 ((k_step (ks_n P) (ks_S P) (ks_W P) a c).1.toInt64, o.2) := by
  have hn64 := ks_n64 hP
  have hT64 := ks_T64 hP
  refine xw_of hP.2.2.2.2.2 (by decide) rfl (Nat.le_of_ble_eq_true rfl) ?_
  intro p e s m below meth c0 X hZ htb hlk hr
  refine tk_aload_n X d_Law_step_0 rfl rfl ?_
  refine tk_iconst (v := 0) X d_Law_step_1 (by decide) ?_
  refine tk_aload_n X d_Law_step_2 rfl rfl ?_
  refine tk_iload_n X d_Law_step_3 rfl rfl ?_
  refine tk_callV X (kb := (0, 0, 0)) (ks_d0 (by decide)) rfl hc_TC (c_TC_step l P hP c hc a b o hp) (xk_site (n := 1) mc_TC_step mi_TC (by decide +kernel) (by decide) (by decide)) m_Law_15 ms_TC_step mv_TC_step rfl (Nat.le_of_ble_eq_true rfl) ⟨Nat.le_of_ble_eq_true rfl, Nat.le_of_ble_eq_true rfl⟩ rfl d_Law_step_4 ?_
  refine tk_i2l X d_Law_step_7 rfl ?_
  refine kx_last X d_Law_step_8 ?_
  refine tk_goto (tgt := 15) X d_Law_step_9 (by decide) ?_
  refine tk_iconst (v := 0) X d_Law_step_15 (by decide) ?_
  refine xt_ret ?_
  refine tk_widen (k := 1) (n := 6) (Nat.le_of_ble_eq_true rfl) (Nat.le_of_ble_eq_true rfl) ?_
  exact tk_iret X hlk hr d_Law_step_16 rfl (fun _ h => h) (Or.inr rfl) (fun _ _ => rfl)

set_option maxRecDepth 100000 in
set_option maxHeartbeats 4000000 in
theorem w_stepX (l : Launch) (hst : l.stackTraces = false) (P : ks_P) (hP : ks_ok P) (x : Int32) (hx : x < 0 ∨ nI (ks_n P) ≤ x) (a b : ks_M) (o : ks_O)  : kq l P y_Law_step b_Law_step 4 [(0, 9, 12, 13)] [.ref (tk_ad (ks_G P) (0, 0, 0)), .int x, .ref (tk_ad (ks_G P) (28, 0, 0))] a b o 1 a o := by
  have hn64 := ks_n64 hP
  have hT64 := ks_T64 hP
  refine xw_of hP.2.2.2.2.2 (by decide) rfl (Nat.le_of_ble_eq_true rfl) ?_
  intro p e s m below meth c0 X hZ htb hlk hr
  refine tk_aload_n X d_Law_step_0 rfl rfl ?_
  refine tk_iconst (v := 0) X d_Law_step_1 (by decide) ?_
  refine tk_aload_n X d_Law_step_2 rfl rfl ?_
  refine tk_iload_n X d_Law_step_3 rfl rfl ?_
  refine xt_catchV X hZ (kb := (0, 0, 0)) (ks_d0 (by decide)) rfl hc_TC (hM := (x_TC_stepX l hst P hP x hx  a b o)) (xs_site (n := 1) mc_TC_step mi_TC (by decide +kernel) (by decide) (by decide)) m_Law_15 ms_TC_step mv_TC_step rfl (Nat.le_of_ble_eq_true rfl) ⟨Nat.le_of_ble_eq_true rfl, Nat.le_of_ble_eq_true rfl⟩ rfl d_Law_step_4 [] ⟨0, 9, 12, 13⟩ [] htb (fun z hz => by cases hz) rfl (by decide) m_Law_13 (hZ.1 _ (List.Mem.head _)) (fun q => ?_)
  refine tk_astore_n X d_Law_step_12 rfl (by decide) rfl ?_
  refine tk_iconst (v := 1) X d_Law_step_13 (by decide) ?_
  refine xt_ret ?_
  refine tk_widen (k := 1) (n := 6) (Nat.le_of_ble_eq_true rfl) (Nat.le_of_ble_eq_true rfl) ?_
  exact tk_iret X hlk hr d_Law_step_14 rfl (fun _ h => h) (Or.inr rfl) (fun _ _ => rfl)

set_option maxRecDepth 100000 in
set_option maxHeartbeats 4000000 in
theorem w_run (l : Launch) (hst : l.stackTraces = false) (P : ks_P) (hP : ks_ok P) (N : Nat) (hN : N ≤ 16) (x : Int32) (a b : ks_M) (o : ks_O) (hJ : j_J (ks_n P) (ks_S P) (ks_W P) a) : kq l P y_Law_run b_Law_run 5 [(0, 10, 13, 23)] [.ref (tk_ad (ks_G P) (0, 0, 0)), .int x, .int (nI N), .ref (tk_ad (ks_G P) (28, 0, 0))] a b o 0 (k_run (ks_n P) (ks_S P) (ks_W P) x N 0 0 a).2 ((k_run (ks_n P) (ks_S P) (ks_W P) x N 0 0 a).1.toInt64, o.2) := by
  have hn64 := ks_n64 hP
  have hT64 := ks_T64 hP
  refine xw_of hP.2.2.2.2.2 (by decide) rfl (Nat.le_of_ble_eq_true rfl) ?_
  intro p e s m below meth c0 X hZ htb hlk hr
  refine tk_aload_n X d_Law_run_0 rfl rfl ?_
  refine tk_iconst (v := 0) X d_Law_run_1 (by decide) ?_
  refine tk_aload_n X d_Law_run_2 rfl rfl ?_
  refine tk_iload_n X d_Law_run_3 rfl rfl ?_
  refine tk_iload_n X d_Law_run_4 rfl rfl ?_
  refine tk_callV X (kb := (0, 0, 0)) (ks_d0 (by decide)) rfl hc_TC (c_TC_run l P hP N hN x a b o hJ) (xk_site (n := 2) mc_TC_run mi_TC (by decide +kernel) (by decide) (by decide)) m_Law_19 ms_TC_run mv_TC_run rfl (Nat.le_of_ble_eq_true rfl) ⟨Nat.le_of_ble_eq_true rfl, Nat.le_of_ble_eq_true rfl⟩ rfl d_Law_run_5 ?_
  refine tk_i2l X d_Law_run_8 rfl ?_
  refine kx_last X d_Law_run_9 ?_
  refine tk_goto (tgt := 17) X d_Law_run_10 (by decide) ?_
  refine tk_iconst (v := 0) X d_Law_run_17 (by decide) ?_
  refine xt_ret ?_
  refine tk_widen (k := 1) (n := 6) (Nat.le_of_ble_eq_true rfl) (Nat.le_of_ble_eq_true rfl) ?_
  exact tk_iret X hlk hr d_Law_run_18 rfl (fun _ h => h) (Or.inr rfl) (fun _ _ => rfl)

set_option maxRecDepth 100000 in
set_option maxHeartbeats 4000000 in
theorem w_runX (l : Launch) (hst : l.stackTraces = false) (P : ks_P) (hP : ks_ok P) (x y : Int32) (hy : y < 0 ∨ ¬ y ≤ 16) (a b : ks_M) (o : ks_O)  : kq l P y_Law_run b_Law_run 5 [(0, 10, 13, 23)] [.ref (tk_ad (ks_G P) (0, 0, 0)), .int x, .int y, .ref (tk_ad (ks_G P) (28, 0, 0))] a b o 1 a o := by
  have hn64 := ks_n64 hP
  have hT64 := ks_T64 hP
  refine xw_of hP.2.2.2.2.2 (by decide) rfl (Nat.le_of_ble_eq_true rfl) ?_
  intro p e s m below meth c0 X hZ htb hlk hr
  refine tk_aload_n X d_Law_run_0 rfl rfl ?_
  refine tk_iconst (v := 0) X d_Law_run_1 (by decide) ?_
  refine tk_aload_n X d_Law_run_2 rfl rfl ?_
  refine tk_iload_n X d_Law_run_3 rfl rfl ?_
  refine tk_iload_n X d_Law_run_4 rfl rfl ?_
  refine xt_catchV X hZ (kb := (0, 0, 0)) (ks_d0 (by decide)) rfl hc_TC (hM := (x_TC_runX l hst P hP x y hy a b o)) (xs_site (n := 2) mc_TC_run mi_TC (by decide +kernel) (by decide) (by decide)) m_Law_19 ms_TC_run mv_TC_run rfl (Nat.le_of_ble_eq_true rfl) ⟨Nat.le_of_ble_eq_true rfl, Nat.le_of_ble_eq_true rfl⟩ rfl d_Law_run_5 [] ⟨0, 10, 13, 23⟩ [] htb (fun z hz => by cases hz) rfl (by decide) m_Law_23 (hZ.1 _ (List.Mem.tail _ (List.Mem.head _))) (fun q => ?_)
  refine tk_astore X d_Law_run_13 (by decide) rfl ?_
  refine tk_iconst (v := 1) X d_Law_run_15 (by decide) ?_
  refine xt_ret ?_
  refine tk_widen (k := 1) (n := 6) (Nat.le_of_ble_eq_true rfl) (Nat.le_of_ble_eq_true rfl) ?_
  exact tk_iret X hlk hr d_Law_run_16 rfl (fun _ h => h) (Or.inr rfl) (fun _ _ => rfl)

set_option maxRecDepth 100000 in
set_option maxHeartbeats 4000000 in
theorem w_jump (l : Launch) (hst : l.stackTraces = false) (P : ks_P) (hP : ks_ok P) (c : Nat) (hc : c < ks_n P) (y : Int32) (a b : ks_M) (o : ks_O) (hd : a (4, c, 0) 8 ≤ 0) : kq l P y_Law_jump b_Law_jump 4 [(0, 6, 9, 13), (0, 6, 12, 29)] [.ref (tk_ad (ks_G P) (0, 0, 0)), .int (nI c), .int y] a b o 0 (k_jumpto a c y) o := by
  have hn64 := ks_n64 hP
  have hT64 := ks_T64 hP
  refine xw_of hP.2.2.2.2.2 (by decide) rfl (Nat.le_of_ble_eq_true rfl) ?_
  intro p e s m below meth c0 X hZ htb hlk hr
  refine tk_aload_n X d_Law_jump_0 rfl rfl ?_
  refine tk_iload_n X d_Law_jump_1 rfl rfl ?_
  refine tk_iload_n X d_Law_jump_2 rfl rfl ?_
  refine tk_callV X (kb := (0, 0, 0)) (ks_d0 (by decide)) rfl hc_TC (c_TC_jump l P hP c hc y a b o hd) (xk_site (n := 2) mc_TC_jump mi_TC (by decide +kernel) (by decide) (by decide)) m_Law_25 ms_TC_jump mv_TC_jump rfl (Nat.le_of_ble_eq_true rfl) ⟨Nat.le_of_ble_eq_true rfl, Nat.le_of_ble_eq_true rfl⟩ rfl d_Law_jump_3 ?_
  refine tk_goto (tgt := 15) X d_Law_jump_6 (by decide) ?_
  refine tk_iconst (v := 0) X d_Law_jump_15 (by decide) ?_
  refine xt_ret ?_
  refine tk_widen (k := 1) (n := 6) (Nat.le_of_ble_eq_true rfl) (Nat.le_of_ble_eq_true rfl) ?_
  exact tk_iret X hlk hr d_Law_jump_16 rfl (fun _ h => h) (Or.inr rfl) (fun _ _ => rfl)

set_option maxRecDepth 100000 in
set_option maxHeartbeats 4000000 in
theorem w_jumpX (l : Launch) (hst : l.stackTraces = false) (P : ks_P) (hP : ks_ok P) (x : Int32) (hx : x < 0 ∨ nI (ks_n P) ≤ x) (y : Int32) (a b : ks_M) (o : ks_O)  : kq l P y_Law_jump b_Law_jump 4 [(0, 6, 9, 13), (0, 6, 12, 29)] [.ref (tk_ad (ks_G P) (0, 0, 0)), .int x, .int y] a b o 1 a o := by
  have hn64 := ks_n64 hP
  have hT64 := ks_T64 hP
  refine xw_of hP.2.2.2.2.2 (by decide) rfl (Nat.le_of_ble_eq_true rfl) ?_
  intro p e s m below meth c0 X hZ htb hlk hr
  refine tk_aload_n X d_Law_jump_0 rfl rfl ?_
  refine tk_iload_n X d_Law_jump_1 rfl rfl ?_
  refine tk_iload_n X d_Law_jump_2 rfl rfl ?_
  refine xt_catchV X hZ (kb := (0, 0, 0)) (ks_d0 (by decide)) rfl hc_TC (hM := (x_TC_jumpX l hst P hP x hx y a b o)) (xs_site (n := 2) mc_TC_jump mi_TC (by decide +kernel) (by decide) (by decide)) m_Law_25 ms_TC_jump mv_TC_jump rfl (Nat.le_of_ble_eq_true rfl) ⟨Nat.le_of_ble_eq_true rfl, Nat.le_of_ble_eq_true rfl⟩ rfl d_Law_jump_3 [] ⟨0, 6, 9, 13⟩ [⟨0, 6, 12, 29⟩] htb (fun z hz => by cases hz) rfl (by decide) m_Law_13 (hZ.1 _ (List.Mem.head _)) (fun q => ?_)
  refine tk_astore_n X d_Law_jump_9 rfl (by decide) rfl ?_
  refine tk_iconst (v := 1) X d_Law_jump_10 (by decide) ?_
  refine xt_ret ?_
  refine tk_widen (k := 1) (n := 6) (Nat.le_of_ble_eq_true rfl) (Nat.le_of_ble_eq_true rfl) ?_
  exact tk_iret X hlk hr d_Law_jump_11 rfl (fun _ h => h) (Or.inr rfl) (fun _ _ => rfl)

set_option maxRecDepth 100000 in
set_option maxHeartbeats 4000000 in
theorem w_jumpD (l : Launch) (hst : l.stackTraces = false) (P : ks_P) (hP : ks_ok P) (c : Nat) (hc : c < ks_n P) (y : Int32) (a b : ks_M) (o : ks_O) (hd : ¬ a (4, c, 0) 8 ≤ 0) : kq l P y_Law_jump b_Law_jump 4 [(0, 6, 9, 13), (0, 6, 12, 29)] [.ref (tk_ad (ks_G P) (0, 0, 0)), .int (nI c), .int y] a b o 2 a o := by
  have hn64 := ks_n64 hP
  have hT64 := ks_T64 hP
  refine xw_of hP.2.2.2.2.2 (by decide) rfl (Nat.le_of_ble_eq_true rfl) ?_
  intro p e s m below meth c0 X hZ htb hlk hr
  refine tk_aload_n X d_Law_jump_0 rfl rfl ?_
  refine tk_iload_n X d_Law_jump_1 rfl rfl ?_
  refine tk_iload_n X d_Law_jump_2 rfl rfl ?_
  refine xt_catchV X hZ (kb := (0, 0, 0)) (ks_d0 (by decide)) rfl hc_TC (hM := (x_TC_jumpD l hst P hP c hc y a b o hd)) (xs_site (n := 2) mc_TC_jump mi_TC (by decide +kernel) (by decide) (by decide)) m_Law_25 ms_TC_jump mv_TC_jump rfl (Nat.le_of_ble_eq_true rfl) ⟨Nat.le_of_ble_eq_true rfl, Nat.le_of_ble_eq_true rfl⟩ rfl d_Law_jump_3 [⟨0, 6, 9, 13⟩] ⟨0, 6, 12, 29⟩ [] htb (fun z hz => by rcases List.mem_singleton.mp hz with rfl; exact Or.inr ⟨by decide, xe_I, X.1.2.2.2.2 _ m_Law_13, hZ.2.1⟩) rfl (by decide) m_Law_29 (hZ.1 _ (List.Mem.tail _ (List.Mem.tail _ (List.Mem.head _)))) (fun q => ?_)
  refine tk_astore_n X d_Law_jump_12 rfl (by decide) rfl ?_
  refine tk_iconst (v := 2) X d_Law_jump_13 (by decide) ?_
  refine xt_ret ?_
  refine tk_widen (k := 1) (n := 6) (Nat.le_of_ble_eq_true rfl) (Nat.le_of_ble_eq_true rfl) ?_
  exact tk_iret X hlk hr d_Law_jump_14 rfl (fun _ h => h) (Or.inr rfl) (fun _ _ => rfl)

set_option maxRecDepth 100000 in
set_option maxHeartbeats 4000000 in
theorem w_register (l : Launch) (hst : l.stackTraces = false) (P : ks_P) (hP : ks_ok P) (c : Nat) (hc : c < ks_n P) (r : Nat) (hr0 : r < 11) (a b : ks_M) (o : ks_O)  : kq l P y_Law_register b_Law_register 5 [(0, 10, 13, 13)] [.ref (tk_ad (ks_G P) (0, 0, 0)), .int (nI c), .int (nI r), .ref (tk_ad (ks_G P) (28, 0, 0))] a b o 0 a ((k_regq a c r).toInt64, o.2) := by
  have hn64 := ks_n64 hP
  have hT64 := ks_T64 hP
  refine xw_of hP.2.2.2.2.2 (by decide) rfl (Nat.le_of_ble_eq_true rfl) ?_
  intro p e s m below meth c0 X hZ htb hlk hr
  refine tk_aload_n X d_Law_register_0 rfl rfl ?_
  refine tk_iconst (v := 0) X d_Law_register_1 (by decide) ?_
  refine tk_aload_n X d_Law_register_2 rfl rfl ?_
  refine tk_iload_n X d_Law_register_3 rfl rfl ?_
  refine tk_iload_n X d_Law_register_4 rfl rfl ?_
  refine tk_callV X (kb := (0, 0, 0)) (ks_d0 (by decide)) rfl hc_TC (c_TC_register l P hP c hc r hr0 a b o) (xk_site (n := 2) mc_TC_register mi_TC (by decide +kernel) (by decide) (by decide)) m_Law_31 ms_TC_register mv_TC_register rfl (Nat.le_of_ble_eq_true rfl) ⟨Nat.le_of_ble_eq_true rfl, Nat.le_of_ble_eq_true rfl⟩ rfl d_Law_register_5 ?_
  refine tk_i2l X d_Law_register_8 rfl ?_
  refine kx_last X d_Law_register_9 ?_
  refine tk_goto (tgt := 17) X d_Law_register_10 (by decide) ?_
  refine tk_iconst (v := 0) X d_Law_register_17 (by decide) ?_
  refine xt_ret ?_
  refine tk_widen (k := 1) (n := 6) (Nat.le_of_ble_eq_true rfl) (Nat.le_of_ble_eq_true rfl) ?_
  exact tk_iret X hlk hr d_Law_register_18 rfl (fun _ h => h) (Or.inr rfl) (fun _ _ => rfl)

set_option maxRecDepth 100000 in
set_option maxHeartbeats 4000000 in
theorem w_registerX (l : Launch) (hst : l.stackTraces = false) (P : ks_P) (hP : ks_ok P) (x : Int32) (hx : x < 0 ∨ nI (ks_n P) ≤ x) (y : Int32) (a b : ks_M) (o : ks_O)  : kq l P y_Law_register b_Law_register 5 [(0, 10, 13, 13)] [.ref (tk_ad (ks_G P) (0, 0, 0)), .int x, .int y, .ref (tk_ad (ks_G P) (28, 0, 0))] a b o 1 a o := by
  have hn64 := ks_n64 hP
  have hT64 := ks_T64 hP
  refine xw_of hP.2.2.2.2.2 (by decide) rfl (Nat.le_of_ble_eq_true rfl) ?_
  intro p e s m below meth c0 X hZ htb hlk hr
  refine tk_aload_n X d_Law_register_0 rfl rfl ?_
  refine tk_iconst (v := 0) X d_Law_register_1 (by decide) ?_
  refine tk_aload_n X d_Law_register_2 rfl rfl ?_
  refine tk_iload_n X d_Law_register_3 rfl rfl ?_
  refine tk_iload_n X d_Law_register_4 rfl rfl ?_
  refine xt_catchV X hZ (kb := (0, 0, 0)) (ks_d0 (by decide)) rfl hc_TC (hM := (x_TC_registerX l hst P hP x hx y a b o)) (xs_site (n := 2) mc_TC_register mi_TC (by decide +kernel) (by decide) (by decide)) m_Law_31 ms_TC_register mv_TC_register rfl (Nat.le_of_ble_eq_true rfl) ⟨Nat.le_of_ble_eq_true rfl, Nat.le_of_ble_eq_true rfl⟩ rfl d_Law_register_5 [] ⟨0, 10, 13, 13⟩ [] htb (fun z hz => by cases hz) rfl (by decide) m_Law_13 (hZ.1 _ (List.Mem.head _)) (fun q => ?_)
  refine tk_astore X d_Law_register_13 (by decide) rfl ?_
  refine tk_iconst (v := 1) X d_Law_register_15 (by decide) ?_
  refine xt_ret ?_
  refine tk_widen (k := 1) (n := 6) (Nat.le_of_ble_eq_true rfl) (Nat.le_of_ble_eq_true rfl) ?_
  exact tk_iret X hlk hr d_Law_register_16 rfl (fun _ h => h) (Or.inr rfl) (fun _ _ => rfl)

set_option maxRecDepth 100000 in
set_option maxHeartbeats 4000000 in
theorem w_registerY (l : Launch) (hst : l.stackTraces = false) (P : ks_P) (hP : ks_ok P) (c : Nat) (hc : c < ks_n P) (y : Int32) (hy : y < 0 ∨ 11 ≤ y) (a b : ks_M) (o : ks_O)  : kq l P y_Law_register b_Law_register 5 [(0, 10, 13, 13)] [.ref (tk_ad (ks_G P) (0, 0, 0)), .int (nI c), .int y, .ref (tk_ad (ks_G P) (28, 0, 0))] a b o 1 a o := by
  have hn64 := ks_n64 hP
  have hT64 := ks_T64 hP
  refine xw_of hP.2.2.2.2.2 (by decide) rfl (Nat.le_of_ble_eq_true rfl) ?_
  intro p e s m below meth c0 X hZ htb hlk hr
  refine tk_aload_n X d_Law_register_0 rfl rfl ?_
  refine tk_iconst (v := 0) X d_Law_register_1 (by decide) ?_
  refine tk_aload_n X d_Law_register_2 rfl rfl ?_
  refine tk_iload_n X d_Law_register_3 rfl rfl ?_
  refine tk_iload_n X d_Law_register_4 rfl rfl ?_
  refine xt_catchV X hZ (kb := (0, 0, 0)) (ks_d0 (by decide)) rfl hc_TC (hM := (x_TC_registerY l hst P hP c hc y hy  a b o)) (xs_site (n := 2) mc_TC_register mi_TC (by decide +kernel) (by decide) (by decide)) m_Law_31 ms_TC_register mv_TC_register rfl (Nat.le_of_ble_eq_true rfl) ⟨Nat.le_of_ble_eq_true rfl, Nat.le_of_ble_eq_true rfl⟩ rfl d_Law_register_5 [] ⟨0, 10, 13, 13⟩ [] htb (fun z hz => by cases hz) rfl (by decide) m_Law_13 (hZ.1 _ (List.Mem.head _)) (fun q => ?_)
  refine tk_astore X d_Law_register_13 (by decide) rfl ?_
  refine tk_iconst (v := 1) X d_Law_register_15 (by decide) ?_
  refine xt_ret ?_
  refine tk_widen (k := 1) (n := 6) (Nat.le_of_ble_eq_true rfl) (Nat.le_of_ble_eq_true rfl) ?_
  exact tk_iret X hlk hr d_Law_register_16 rfl (fun _ h => h) (Or.inr rfl) (fun _ _ => rfl)

set_option maxRecDepth 100000 in
set_option maxHeartbeats 4000000 in
theorem w_fate (l : Launch) (hst : l.stackTraces = false) (P : ks_P) (hP : ks_ok P) (c : Nat) (hc : c < ks_n P) (i : Nat) (hi : i < 6) (a b : ks_M) (o : ks_O)  : kq l P y_Law_fate b_Law_fate 5 [(0, 10, 13, 13)] [.ref (tk_ad (ks_G P) (0, 0, 0)), .int (nI c), .int (nI i), .ref (tk_ad (ks_G P) (28, 0, 0))] a b o 0 a ((a (11, c, 0) i).toInt64, o.2) := by
  have hn64 := ks_n64 hP
  have hT64 := ks_T64 hP
  refine xw_of hP.2.2.2.2.2 (by decide) rfl (Nat.le_of_ble_eq_true rfl) ?_
  intro p e s m below meth c0 X hZ htb hlk hr
  refine tk_aload_n X d_Law_fate_0 rfl rfl ?_
  refine tk_iconst (v := 0) X d_Law_fate_1 (by decide) ?_
  refine tk_aload_n X d_Law_fate_2 rfl rfl ?_
  refine tk_iload_n X d_Law_fate_3 rfl rfl ?_
  refine tk_iload_n X d_Law_fate_4 rfl rfl ?_
  refine tk_callV X (kb := (0, 0, 0)) (ks_d0 (by decide)) rfl hc_TC (c_TC_fate l P hP c hc i hi a b o) (xk_site (n := 2) mc_TC_fate mi_TC (by decide +kernel) (by decide) (by decide)) m_Law_34 ms_TC_fate mv_TC_fate rfl (Nat.le_of_ble_eq_true rfl) ⟨Nat.le_of_ble_eq_true rfl, Nat.le_of_ble_eq_true rfl⟩ rfl d_Law_fate_5 ?_
  refine tk_i2l X d_Law_fate_8 rfl ?_
  refine kx_last X d_Law_fate_9 ?_
  refine tk_goto (tgt := 17) X d_Law_fate_10 (by decide) ?_
  refine tk_iconst (v := 0) X d_Law_fate_17 (by decide) ?_
  refine xt_ret ?_
  refine tk_widen (k := 1) (n := 6) (Nat.le_of_ble_eq_true rfl) (Nat.le_of_ble_eq_true rfl) ?_
  exact tk_iret X hlk hr d_Law_fate_18 rfl (fun _ h => h) (Or.inr rfl) (fun _ _ => rfl)

set_option maxRecDepth 100000 in
set_option maxHeartbeats 4000000 in
theorem w_fateX (l : Launch) (hst : l.stackTraces = false) (P : ks_P) (hP : ks_ok P) (x : Int32) (hx : x < 0 ∨ nI (ks_n P) ≤ x) (y : Int32) (a b : ks_M) (o : ks_O)  : kq l P y_Law_fate b_Law_fate 5 [(0, 10, 13, 13)] [.ref (tk_ad (ks_G P) (0, 0, 0)), .int x, .int y, .ref (tk_ad (ks_G P) (28, 0, 0))] a b o 1 a o := by
  have hn64 := ks_n64 hP
  have hT64 := ks_T64 hP
  refine xw_of hP.2.2.2.2.2 (by decide) rfl (Nat.le_of_ble_eq_true rfl) ?_
  intro p e s m below meth c0 X hZ htb hlk hr
  refine tk_aload_n X d_Law_fate_0 rfl rfl ?_
  refine tk_iconst (v := 0) X d_Law_fate_1 (by decide) ?_
  refine tk_aload_n X d_Law_fate_2 rfl rfl ?_
  refine tk_iload_n X d_Law_fate_3 rfl rfl ?_
  refine tk_iload_n X d_Law_fate_4 rfl rfl ?_
  refine xt_catchV X hZ (kb := (0, 0, 0)) (ks_d0 (by decide)) rfl hc_TC (hM := (x_TC_fateX l hst P hP x hx y a b o)) (xs_site (n := 2) mc_TC_fate mi_TC (by decide +kernel) (by decide) (by decide)) m_Law_34 ms_TC_fate mv_TC_fate rfl (Nat.le_of_ble_eq_true rfl) ⟨Nat.le_of_ble_eq_true rfl, Nat.le_of_ble_eq_true rfl⟩ rfl d_Law_fate_5 [] ⟨0, 10, 13, 13⟩ [] htb (fun z hz => by cases hz) rfl (by decide) m_Law_13 (hZ.1 _ (List.Mem.head _)) (fun q => ?_)
  refine tk_astore X d_Law_fate_13 (by decide) rfl ?_
  refine tk_iconst (v := 1) X d_Law_fate_15 (by decide) ?_
  refine xt_ret ?_
  refine tk_widen (k := 1) (n := 6) (Nat.le_of_ble_eq_true rfl) (Nat.le_of_ble_eq_true rfl) ?_
  exact tk_iret X hlk hr d_Law_fate_16 rfl (fun _ h => h) (Or.inr rfl) (fun _ _ => rfl)

set_option maxRecDepth 100000 in
set_option maxHeartbeats 4000000 in
theorem w_fateY (l : Launch) (hst : l.stackTraces = false) (P : ks_P) (hP : ks_ok P) (c : Nat) (hc : c < ks_n P) (y : Int32) (hy : y < 0 ∨ 6 ≤ y) (a b : ks_M) (o : ks_O)  : kq l P y_Law_fate b_Law_fate 5 [(0, 10, 13, 13)] [.ref (tk_ad (ks_G P) (0, 0, 0)), .int (nI c), .int y, .ref (tk_ad (ks_G P) (28, 0, 0))] a b o 1 a o := by
  have hn64 := ks_n64 hP
  have hT64 := ks_T64 hP
  refine xw_of hP.2.2.2.2.2 (by decide) rfl (Nat.le_of_ble_eq_true rfl) ?_
  intro p e s m below meth c0 X hZ htb hlk hr
  refine tk_aload_n X d_Law_fate_0 rfl rfl ?_
  refine tk_iconst (v := 0) X d_Law_fate_1 (by decide) ?_
  refine tk_aload_n X d_Law_fate_2 rfl rfl ?_
  refine tk_iload_n X d_Law_fate_3 rfl rfl ?_
  refine tk_iload_n X d_Law_fate_4 rfl rfl ?_
  refine xt_catchV X hZ (kb := (0, 0, 0)) (ks_d0 (by decide)) rfl hc_TC (hM := (x_TC_fateY l hst P hP c hc y hy  a b o)) (xs_site (n := 2) mc_TC_fate mi_TC (by decide +kernel) (by decide) (by decide)) m_Law_34 ms_TC_fate mv_TC_fate rfl (Nat.le_of_ble_eq_true rfl) ⟨Nat.le_of_ble_eq_true rfl, Nat.le_of_ble_eq_true rfl⟩ rfl d_Law_fate_5 [] ⟨0, 10, 13, 13⟩ [] htb (fun z hz => by cases hz) rfl (by decide) m_Law_13 (hZ.1 _ (List.Mem.head _)) (fun q => ?_)
  refine tk_astore X d_Law_fate_13 (by decide) rfl ?_
  refine tk_iconst (v := 1) X d_Law_fate_15 (by decide) ?_
  refine xt_ret ?_
  refine tk_widen (k := 1) (n := 6) (Nat.le_of_ble_eq_true rfl) (Nat.le_of_ble_eq_true rfl) ?_
  exact tk_iret X hlk hr d_Law_fate_16 rfl (fun _ h => h) (Or.inr rfl) (fun _ _ => rfl)

set_option maxRecDepth 100000 in
set_option maxHeartbeats 4000000 in
theorem w_way (l : Launch) (hst : l.stackTraces = false) (P : ks_P) (hP : ks_ok P) (c : Nat) (hc : c < ks_n P) (t u v : Nat) (ht : t < ks_S P) (hu : u < ks_W P) (hv : v < 5) (hj : t * ks_W P + u < ks_T P) (a b : ks_M) (o : ks_O)  : kq l P y_Law_way b_Law_way 7 [(0, 14, 17, 13)] [.ref (tk_ad (ks_G P) (0, 0, 0)), .int (nI c), .int (nI t), .int (nI u), .int (nI v), .ref (tk_ad (ks_G P) (28, 0, 0))] a b o 0 a ((k_wayq a c (t * ks_W P + u) (nI v)).toInt64, o.2) := by
  have hn64 := ks_n64 hP
  have hT64 := ks_T64 hP
  refine xw_of hP.2.2.2.2.2 (by decide) rfl (Nat.le_of_ble_eq_true rfl) ?_
  intro p e s m below meth c0 X hZ htb hlk hr
  refine tk_aload X d_Law_way_0 rfl ?_
  refine tk_iconst (v := 0) X d_Law_way_2 (by decide) ?_
  refine tk_aload_n X d_Law_way_3 rfl rfl ?_
  refine tk_iload_n X d_Law_way_4 rfl rfl ?_
  refine tk_iload_n X d_Law_way_5 rfl rfl ?_
  refine tk_iload_n X d_Law_way_6 rfl rfl ?_
  refine tk_iload X d_Law_way_7 rfl ?_
  refine tk_callV X (kb := (0, 0, 0)) (ks_d0 (by decide)) rfl hc_TC (c_TC_way l P hP c hc t u v ht hu hv hj a b o) (xk_site (n := 4) mc_TC_way mi_TC (by decide +kernel) (by decide) (by decide)) m_Law_37 ms_TC_way mv_TC_way rfl (Nat.le_of_ble_eq_true rfl) ⟨Nat.le_of_ble_eq_true rfl, Nat.le_of_ble_eq_true rfl⟩ rfl d_Law_way_9 ?_
  refine tk_i2l X d_Law_way_12 rfl ?_
  refine kx_last X d_Law_way_13 ?_
  refine tk_goto (tgt := 21) X d_Law_way_14 (by decide) ?_
  refine tk_iconst (v := 0) X d_Law_way_21 (by decide) ?_
  refine xt_ret ?_
  refine tk_widen (k := 1) (n := 6) (Nat.le_of_ble_eq_true rfl) (Nat.le_of_ble_eq_true rfl) ?_
  exact tk_iret X hlk hr d_Law_way_22 rfl (fun _ h => h) (Or.inr rfl) (fun _ _ => rfl)

set_option maxRecDepth 100000 in
set_option maxHeartbeats 4000000 in
theorem w_wayX (l : Launch) (hst : l.stackTraces = false) (P : ks_P) (hP : ks_ok P) (x : Int32) (hx : x < 0 ∨ nI (ks_n P) ≤ x) (t u v : Int32) (a b : ks_M) (o : ks_O)  : kq l P y_Law_way b_Law_way 7 [(0, 14, 17, 13)] [.ref (tk_ad (ks_G P) (0, 0, 0)), .int x, .int t, .int u, .int v, .ref (tk_ad (ks_G P) (28, 0, 0))] a b o 1 a o := by
  have hn64 := ks_n64 hP
  have hT64 := ks_T64 hP
  refine xw_of hP.2.2.2.2.2 (by decide) rfl (Nat.le_of_ble_eq_true rfl) ?_
  intro p e s m below meth c0 X hZ htb hlk hr
  refine tk_aload X d_Law_way_0 rfl ?_
  refine tk_iconst (v := 0) X d_Law_way_2 (by decide) ?_
  refine tk_aload_n X d_Law_way_3 rfl rfl ?_
  refine tk_iload_n X d_Law_way_4 rfl rfl ?_
  refine tk_iload_n X d_Law_way_5 rfl rfl ?_
  refine tk_iload_n X d_Law_way_6 rfl rfl ?_
  refine tk_iload X d_Law_way_7 rfl ?_
  refine xt_catchV X hZ (kb := (0, 0, 0)) (ks_d0 (by decide)) rfl hc_TC (hM := (x_TC_wayX l hst P hP x hx t u v a b o)) (xs_site (n := 4) mc_TC_way mi_TC (by decide +kernel) (by decide) (by decide)) m_Law_37 ms_TC_way mv_TC_way rfl (Nat.le_of_ble_eq_true rfl) ⟨Nat.le_of_ble_eq_true rfl, Nat.le_of_ble_eq_true rfl⟩ rfl d_Law_way_9 [] ⟨0, 14, 17, 13⟩ [] htb (fun z hz => by cases hz) rfl (by decide) m_Law_13 (hZ.1 _ (List.Mem.head _)) (fun q => ?_)
  refine tk_astore X d_Law_way_17 (by decide) rfl ?_
  refine tk_iconst (v := 1) X d_Law_way_19 (by decide) ?_
  refine xt_ret ?_
  refine tk_widen (k := 1) (n := 6) (Nat.le_of_ble_eq_true rfl) (Nat.le_of_ble_eq_true rfl) ?_
  exact tk_iret X hlk hr d_Law_way_20 rfl (fun _ h => h) (Or.inr rfl) (fun _ _ => rfl)

set_option maxRecDepth 100000 in
set_option maxHeartbeats 4000000 in
theorem w_wayT (l : Launch) (hst : l.stackTraces = false) (P : ks_P) (hP : ks_ok P) (c : Nat) (hc : c < ks_n P) (t : Int32) (ht : t < 0 ∨ nI (ks_S P) ≤ t) (u v : Int32) (a b : ks_M) (o : ks_O)  : kq l P y_Law_way b_Law_way 7 [(0, 14, 17, 13)] [.ref (tk_ad (ks_G P) (0, 0, 0)), .int (nI c), .int t, .int u, .int v, .ref (tk_ad (ks_G P) (28, 0, 0))] a b o 1 a o := by
  have hn64 := ks_n64 hP
  have hT64 := ks_T64 hP
  refine xw_of hP.2.2.2.2.2 (by decide) rfl (Nat.le_of_ble_eq_true rfl) ?_
  intro p e s m below meth c0 X hZ htb hlk hr
  refine tk_aload X d_Law_way_0 rfl ?_
  refine tk_iconst (v := 0) X d_Law_way_2 (by decide) ?_
  refine tk_aload_n X d_Law_way_3 rfl rfl ?_
  refine tk_iload_n X d_Law_way_4 rfl rfl ?_
  refine tk_iload_n X d_Law_way_5 rfl rfl ?_
  refine tk_iload_n X d_Law_way_6 rfl rfl ?_
  refine tk_iload X d_Law_way_7 rfl ?_
  refine xt_catchV X hZ (kb := (0, 0, 0)) (ks_d0 (by decide)) rfl hc_TC (hM := (x_TC_wayT l hst P hP c hc t ht u v a b o)) (xs_site (n := 4) mc_TC_way mi_TC (by decide +kernel) (by decide) (by decide)) m_Law_37 ms_TC_way mv_TC_way rfl (Nat.le_of_ble_eq_true rfl) ⟨Nat.le_of_ble_eq_true rfl, Nat.le_of_ble_eq_true rfl⟩ rfl d_Law_way_9 [] ⟨0, 14, 17, 13⟩ [] htb (fun z hz => by cases hz) rfl (by decide) m_Law_13 (hZ.1 _ (List.Mem.head _)) (fun q => ?_)
  refine tk_astore X d_Law_way_17 (by decide) rfl ?_
  refine tk_iconst (v := 1) X d_Law_way_19 (by decide) ?_
  refine xt_ret ?_
  refine tk_widen (k := 1) (n := 6) (Nat.le_of_ble_eq_true rfl) (Nat.le_of_ble_eq_true rfl) ?_
  exact tk_iret X hlk hr d_Law_way_20 rfl (fun _ h => h) (Or.inr rfl) (fun _ _ => rfl)

set_option maxRecDepth 100000 in
set_option maxHeartbeats 4000000 in
theorem w_wayU (l : Launch) (hst : l.stackTraces = false) (P : ks_P) (hP : ks_ok P) (c : Nat) (hc : c < ks_n P) (t : Nat) (ht : t < ks_S P) (u : Int32) (hu : u < 0 ∨ nI (ks_W P) ≤ u) (v : Int32) (a b : ks_M) (o : ks_O)  : kq l P y_Law_way b_Law_way 7 [(0, 14, 17, 13)] [.ref (tk_ad (ks_G P) (0, 0, 0)), .int (nI c), .int (nI t), .int u, .int v, .ref (tk_ad (ks_G P) (28, 0, 0))] a b o 1 a o := by
  have hn64 := ks_n64 hP
  have hT64 := ks_T64 hP
  refine xw_of hP.2.2.2.2.2 (by decide) rfl (Nat.le_of_ble_eq_true rfl) ?_
  intro p e s m below meth c0 X hZ htb hlk hr
  refine tk_aload X d_Law_way_0 rfl ?_
  refine tk_iconst (v := 0) X d_Law_way_2 (by decide) ?_
  refine tk_aload_n X d_Law_way_3 rfl rfl ?_
  refine tk_iload_n X d_Law_way_4 rfl rfl ?_
  refine tk_iload_n X d_Law_way_5 rfl rfl ?_
  refine tk_iload_n X d_Law_way_6 rfl rfl ?_
  refine tk_iload X d_Law_way_7 rfl ?_
  refine xt_catchV X hZ (kb := (0, 0, 0)) (ks_d0 (by decide)) rfl hc_TC (hM := (x_TC_wayU l hst P hP c hc t ht u hu v a b o)) (xs_site (n := 4) mc_TC_way mi_TC (by decide +kernel) (by decide) (by decide)) m_Law_37 ms_TC_way mv_TC_way rfl (Nat.le_of_ble_eq_true rfl) ⟨Nat.le_of_ble_eq_true rfl, Nat.le_of_ble_eq_true rfl⟩ rfl d_Law_way_9 [] ⟨0, 14, 17, 13⟩ [] htb (fun z hz => by cases hz) rfl (by decide) m_Law_13 (hZ.1 _ (List.Mem.head _)) (fun q => ?_)
  refine tk_astore X d_Law_way_17 (by decide) rfl ?_
  refine tk_iconst (v := 1) X d_Law_way_19 (by decide) ?_
  refine xt_ret ?_
  refine tk_widen (k := 1) (n := 6) (Nat.le_of_ble_eq_true rfl) (Nat.le_of_ble_eq_true rfl) ?_
  exact tk_iret X hlk hr d_Law_way_20 rfl (fun _ h => h) (Or.inr rfl) (fun _ _ => rfl)

set_option maxRecDepth 100000 in
set_option maxHeartbeats 4000000 in
theorem w_wayY (l : Launch) (hst : l.stackTraces = false) (P : ks_P) (hP : ks_ok P) (c : Nat) (hc : c < ks_n P) (t u : Nat) (ht : t < ks_S P) (hu : u < ks_W P) (v : Int32) (hv : v < 0 ∨ 5 ≤ v) (a b : ks_M) (o : ks_O)  : kq l P y_Law_way b_Law_way 7 [(0, 14, 17, 13)] [.ref (tk_ad (ks_G P) (0, 0, 0)), .int (nI c), .int (nI t), .int (nI u), .int v, .ref (tk_ad (ks_G P) (28, 0, 0))] a b o 1 a o := by
  have hn64 := ks_n64 hP
  have hT64 := ks_T64 hP
  refine xw_of hP.2.2.2.2.2 (by decide) rfl (Nat.le_of_ble_eq_true rfl) ?_
  intro p e s m below meth c0 X hZ htb hlk hr
  refine tk_aload X d_Law_way_0 rfl ?_
  refine tk_iconst (v := 0) X d_Law_way_2 (by decide) ?_
  refine tk_aload_n X d_Law_way_3 rfl rfl ?_
  refine tk_iload_n X d_Law_way_4 rfl rfl ?_
  refine tk_iload_n X d_Law_way_5 rfl rfl ?_
  refine tk_iload_n X d_Law_way_6 rfl rfl ?_
  refine tk_iload X d_Law_way_7 rfl ?_
  refine xt_catchV X hZ (kb := (0, 0, 0)) (ks_d0 (by decide)) rfl hc_TC (hM := (x_TC_wayY l hst P hP c hc t u ht hu v hv a b o)) (xs_site (n := 4) mc_TC_way mi_TC (by decide +kernel) (by decide) (by decide)) m_Law_37 ms_TC_way mv_TC_way rfl (Nat.le_of_ble_eq_true rfl) ⟨Nat.le_of_ble_eq_true rfl, Nat.le_of_ble_eq_true rfl⟩ rfl d_Law_way_9 [] ⟨0, 14, 17, 13⟩ [] htb (fun z hz => by cases hz) rfl (by decide) m_Law_13 (hZ.1 _ (List.Mem.head _)) (fun q => ?_)
  refine tk_astore X d_Law_way_17 (by decide) rfl ?_
  refine tk_iconst (v := 1) X d_Law_way_19 (by decide) ?_
  refine xt_ret ?_
  refine tk_widen (k := 1) (n := 6) (Nat.le_of_ble_eq_true rfl) (Nat.le_of_ble_eq_true rfl) ?_
  exact tk_iret X hlk hr d_Law_way_20 rfl (fun _ h => h) (Or.inr rfl) (fun _ _ => rfl)
