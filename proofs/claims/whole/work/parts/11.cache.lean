set_option maxRecDepth 100000 in
set_option maxHeartbeats 4000000 in
theorem c_Cache_firstOfSet (l : Launch) (P : ks_P) (hP : ks_ok P) (c x : Nat) (hc : c < ks_n P) (hx : x < 32) (a b : ks_M) (o : Int64) : kc l P y_Cache_firstOfSet b_Cache_firstOfSet 2 (some .int) 0 [.ref (tk_ad (ks_G P) (5, c, 0)), .int (nI x)] a b o (some (.int (nI (k_first (ks_S P) (ks_W P) x)))) a b o := by
  have hn64 := ks_n64 hP
  have hT64 := ks_T64 hP
  refine tk_of hP.2.2.2.2.2 (by decide) rfl (Nat.le_of_ble_eq_true rfl) ?_
  intro p e s m below meth c0 X hlk hr hnm
  refine tk_iload_n X d_Cache_firstOfSet_0 rfl rfl ?_
  refine tk_aload_n X d_Cache_firstOfSet_1 rfl rfl ?_
  refine tk_get X (k := (5, c, 0)) (dm := ks_dm P) (ks_d5 hc) rfl hc_Cache hi_Cache 0 (by decide) m_Cache_9 (v := .int _) rfl d_Cache_firstOfSet_2 ?_
  refine tk_iconst (v := 1) X d_Cache_firstOfSet_5 (by decide) ?_
  refine tk_isub X d_Cache_firstOfSet_6 ?_
  refine tk_iand X d_Cache_firstOfSet_7 ?_
  refine tk_aload_n X d_Cache_firstOfSet_8 rfl rfl ?_
  refine tk_get X (k := (5, c, 0)) (dm := ks_dm P) (ks_d5 hc) rfl hc_Cache hi_Cache 1 (by decide) m_Cache_15 (v := .int _) rfl d_Cache_firstOfSet_9 ?_
  refine tk_imul X d_Cache_firstOfSet_12 ?_
  exact tk_iret X hlk hr d_Cache_firstOfSet_13 (by rw [q_first hP hx]) (fun _ h => h) (Or.inr rfl) (fun _ _ => rfl)

section LP
variable {p : Program} {l : Launch} {e : Env} {R : Room} {s : State} {m : MethodId} {args : Array Value} {below : List Frame} {meth : Method} {c0 : Code} {P : ks_P} {cells slots : Nat} {Q : State → Prop}
set_option maxRecDepth 100000 in
set_option maxHeartbeats 4000000 in
theorem lp_Cache_dropMarks (X : tk_X p m c0 s args (ks_G P) R_Cache b_Cache_dropMarks 2 WS) (hP : ks_ok P) {c : Nat} (hc : c < ks_n P) (a b : ks_M) (o : Int64) (kend : tk_go p l e R s m args below meth c0 (ks_G P) (ks_dm P) 2 cells slots Q (ks_sl P (k_dm a c (ks_T P)) b o) 27 [some (.ref (tk_ad (ks_G P) (5, c, 0))), some (.int (nI (ks_T P)))] []) : ∀ (k j : Nat), j + k = ks_T P → tk_go p l e R s m args below meth c0 (ks_G P) (ks_dm P) 2 cells slots Q (ks_sl P (k_dm a c j) b o) 2 [some (.ref (tk_ad (ks_G P) (5, c, 0))), some (.int (nI j))] [] := by
  have hn64 := ks_n64 hP
  have hT64 := ks_T64 hP
  intro k
  induction k with
  | zero =>
    intro j hj
    have hjT : j = ks_T P := by omega
    subst hjT
    refine tk_iload_n X d_Cache_dropMarks_2 rfl rfl ?_
    refine tk_aload_n X d_Cache_dropMarks_3 rfl rfl ?_
    refine tk_get X (k := (5, c, 0)) (dm := ks_dm P) (ks_d5 hc) rfl hc_Cache hi_Cache 2 (by decide) m_Cache_20 (v := .ref (tk_ad (ks_G P) (6, c, 0))) rfl d_Cache_dropMarks_4 ?_
    refine tk_alen X (k := (6, c, 0)) (dm := ks_dm P) (ks_d6 hc) rfl rfl (v := nI _) rfl d_Cache_dropMarks_7 ?_
    refine tk_icmp_ge (tgt := 27) X d_Cache_dropMarks_8 (by decide) (fun _ => ?_) (fun h => absurd (nI_le (Nat.le_refl _) (by omega)) h)
    exact kend
  | succ k ih =>
    intro j hj
    have hj2 : j < ks_T P := by omega
    refine tk_iload_n X d_Cache_dropMarks_2 rfl rfl ?_
    refine tk_aload_n X d_Cache_dropMarks_3 rfl rfl ?_
    refine tk_get X (k := (5, c, 0)) (dm := ks_dm P) (ks_d5 hc) rfl hc_Cache hi_Cache 2 (by decide) m_Cache_20 (v := .ref (tk_ad (ks_G P) (6, c, 0))) rfl d_Cache_dropMarks_4 ?_
    refine tk_alen X (k := (6, c, 0)) (dm := ks_dm P) (ks_d6 hc) rfl rfl (v := nI _) rfl d_Cache_dropMarks_7 ?_
    refine tk_icmp_ge (tgt := 27) X d_Cache_dropMarks_8 (by decide) (fun h => absurd h (nI_ge hj2 (by omega))) (fun _ => ?_)
    refine tk_aload_n X d_Cache_dropMarks_11 rfl rfl ?_
    refine tk_get X (k := (5, c, 0)) (dm := ks_dm P) (ks_d5 hc) rfl hc_Cache hi_Cache 2 (by decide) m_Cache_20 (v := .ref (tk_ad (ks_G P) (6, c, 0))) rfl d_Cache_dropMarks_12 ?_
    refine tk_iload_n X d_Cache_dropMarks_15 rfl rfl ?_
    refine kw_way X hc (i := j) rfl hj2 hT64 d_Cache_dropMarks_16 ?_
    refine tk_iconst (v := 0) X d_Cache_dropMarks_17 (by decide) ?_
    refine kw_putN X (k := (7, c, j)) (ks_d7 hc hj2) rfl hc_Way hi_Way t_Way t_Way_ok n_Way 2 (by decide) rfl n_Cache_35 rfl rfl rfl d_Cache_dropMarks_18 ?_
    refine tk_iinc (v := nI (j + 1)) X d_Cache_dropMarks_21 rfl (q_inc j) (by decide) rfl ?_
    refine tk_goto (tgt := 2) X d_Cache_dropMarks_24 (by decide) ?_
    exact ih (j + 1) (by omega)
end LP

set_option maxRecDepth 100000 in
set_option maxHeartbeats 4000000 in
theorem c_Cache_dropMarks (l : Launch) (P : ks_P) (hP : ks_ok P) (c : Nat) (hc : c < ks_n P) (a b : ks_M) (o : Int64) : kc l P y_Cache_dropMarks b_Cache_dropMarks 2 none 0 [.ref (tk_ad (ks_G P) (5, c, 0))] a b o (none) (k_dm a c (ks_T P)) b o := by
  have hn64 := ks_n64 hP
  have hT64 := ks_T64 hP
  refine tk_of hP.2.2.2.2.2 (by decide) rfl (Nat.le_of_ble_eq_true rfl) ?_
  intro p e s m below meth c0 X hlk hr hnm
  refine tk_iconst (v := 0) X d_Cache_dropMarks_0 (by decide) ?_
  refine tk_istore_n X d_Cache_dropMarks_1 rfl (by decide) rfl ?_
  refine lp_Cache_dropMarks X hP hc a b o ?_ (ks_T P) 0 (by omega)
  exact tk_vret X hlk hr d_Cache_dropMarks_27 rfl (fun _ h => h) (Or.inr rfl) (fun _ _ => rfl)

section LP
variable {p : Program} {l : Launch} {e : Env} {R : Room} {s : State} {m : MethodId} {args : Array Value} {below : List Frame} {meth : Method} {c0 : Code} {P : ks_P} {cells slots : Nat} {Q : State → Prop}
set_option maxRecDepth 100000 in
set_option maxHeartbeats 4000000 in
theorem lp_Cache_dropWritten (X : tk_X p m c0 s args (ks_G P) R_Cache b_Cache_dropWritten 2 WS) (hP : ks_ok P) {c : Nat} (hc : c < ks_n P) (a b : ks_M) (o : Int64) (kend : tk_go p l e R s m args below meth c0 (ks_G P) (ks_dm P) 2 cells slots Q (ks_sl P (k_dw a c (ks_T P)) b o) 41 [some (.ref (tk_ad (ks_G P) (5, c, 0))), some (.int (nI (ks_T P)))] []) : ∀ (k j : Nat), j + k = ks_T P → tk_go p l e R s m args below meth c0 (ks_G P) (ks_dm P) 2 cells slots Q (ks_sl P (k_dw a c j) b o) 2 [some (.ref (tk_ad (ks_G P) (5, c, 0))), some (.int (nI j))] [] := by
  have hn64 := ks_n64 hP
  have hT64 := ks_T64 hP
  intro k
  induction k with
  | zero =>
    intro j hj
    have hjT : j = ks_T P := by omega
    subst hjT
    refine tk_iload_n X d_Cache_dropWritten_2 rfl rfl ?_
    refine tk_aload_n X d_Cache_dropWritten_3 rfl rfl ?_
    refine tk_get X (k := (5, c, 0)) (dm := ks_dm P) (ks_d5 hc) rfl hc_Cache hi_Cache 2 (by decide) m_Cache_20 (v := .ref (tk_ad (ks_G P) (6, c, 0))) rfl d_Cache_dropWritten_4 ?_
    refine tk_alen X (k := (6, c, 0)) (dm := ks_dm P) (ks_d6 hc) rfl rfl (v := nI _) rfl d_Cache_dropWritten_7 ?_
    refine tk_icmp_ge (tgt := 41) X d_Cache_dropWritten_8 (by decide) (fun _ => ?_) (fun h => absurd (nI_le (Nat.le_refl _) (by omega)) h)
    exact kend
  | succ k ih =>
    intro j hj
    have hj2 : j < ks_T P := by omega
    refine tk_iload_n X d_Cache_dropWritten_2 rfl rfl ?_
    refine tk_aload_n X d_Cache_dropWritten_3 rfl rfl ?_
    refine tk_get X (k := (5, c, 0)) (dm := ks_dm P) (ks_d5 hc) rfl hc_Cache hi_Cache 2 (by decide) m_Cache_20 (v := .ref (tk_ad (ks_G P) (6, c, 0))) rfl d_Cache_dropWritten_4 ?_
    refine tk_alen X (k := (6, c, 0)) (dm := ks_dm P) (ks_d6 hc) rfl rfl (v := nI _) rfl d_Cache_dropWritten_7 ?_
    refine tk_icmp_ge (tgt := 41) X d_Cache_dropWritten_8 (by decide) (fun h => absurd h (nI_ge hj2 (by omega))) (fun _ => ?_)
    refine tk_aload_n X d_Cache_dropWritten_11 rfl rfl ?_
    refine tk_get X (k := (5, c, 0)) (dm := ks_dm P) (ks_d5 hc) rfl hc_Cache hi_Cache 2 (by decide) m_Cache_20 (v := .ref (tk_ad (ks_G P) (6, c, 0))) rfl d_Cache_dropWritten_12 ?_
    refine tk_iload_n X d_Cache_dropWritten_15 rfl rfl ?_
    refine kw_way X hc (i := j) rfl hj2 hT64 d_Cache_dropWritten_16 ?_
    refine tk_getN X (k := (7, c, j)) (dm := ks_dm P) (ks_d7 hc hj2) rfl hc_Way hi_Way 2 (by decide) n_Cache_35 (v := .int _) rfl d_Cache_dropWritten_17 ?_
    refine tk_iconst (v := 2) X d_Cache_dropWritten_20 (by decide) ?_
    refine tk_iand X d_Cache_dropWritten_21 ?_
    refine tk_if_eq (tgt := 35) X d_Cache_dropWritten_22 (by decide) (fun h1 => ?_) (fun h1 => ?_)
    · skip
      refine tk_iinc (v := nI (j + 1)) X d_Cache_dropWritten_35 rfl (q_inc j) (by decide) rfl ?_
      refine tk_goto (tgt := 2) X d_Cache_dropWritten_38 (by decide) ?_
      have ih2 := ih (j + 1) (by omega)
      rw [show k_dw a c (j + 1) = _ from by rw [k_dw, if_neg (not_not_intro h1)]] at ih2
      exact ih2
    · skip
      refine tk_aload_n X d_Cache_dropWritten_25 rfl rfl ?_
      refine tk_get X (k := (5, c, 0)) (dm := ks_dm P) (ks_d5 hc) rfl hc_Cache hi_Cache 2 (by decide) m_Cache_20 (v := .ref (tk_ad (ks_G P) (6, c, 0))) rfl d_Cache_dropWritten_26 ?_
      refine tk_iload_n X d_Cache_dropWritten_29 rfl rfl ?_
      refine kw_way X hc (i := j) rfl hj2 hT64 d_Cache_dropWritten_30 ?_
      refine tk_iconst (v := 0) X d_Cache_dropWritten_31 (by decide) ?_
      refine kw_putN X (k := (7, c, j)) (ks_d7 hc hj2) rfl hc_Way hi_Way t_Way t_Way_ok n_Way 0 (by decide) rfl n_Cache_29 rfl rfl rfl d_Cache_dropWritten_32 ?_
      refine tk_iinc (v := nI (j + 1)) X d_Cache_dropWritten_35 rfl (q_inc j) (by decide) rfl ?_
      refine tk_goto (tgt := 2) X d_Cache_dropWritten_38 (by decide) ?_
      have ih2 := ih (j + 1) (by omega)
      rw [show k_dw a c (j + 1) = _ from by rw [k_dw, if_pos h1]] at ih2
      exact ih2
end LP

set_option maxRecDepth 100000 in
set_option maxHeartbeats 4000000 in
theorem c_Cache_dropWritten (l : Launch) (P : ks_P) (hP : ks_ok P) (c : Nat) (hc : c < ks_n P) (a b : ks_M) (o : Int64) : kc l P y_Cache_dropWritten b_Cache_dropWritten 2 none 0 [.ref (tk_ad (ks_G P) (5, c, 0))] a b o (none) (k_dw a c (ks_T P)) b o := by
  have hn64 := ks_n64 hP
  have hT64 := ks_T64 hP
  refine tk_of hP.2.2.2.2.2 (by decide) rfl (Nat.le_of_ble_eq_true rfl) ?_
  intro p e s m below meth c0 X hlk hr hnm
  refine tk_iconst (v := 0) X d_Cache_dropWritten_0 (by decide) ?_
  refine tk_istore_n X d_Cache_dropWritten_1 rfl (by decide) rfl ?_
  refine lp_Cache_dropWritten X hP hc a b o ?_ (ks_T P) 0 (by omega)
  exact tk_vret X hlk hr d_Cache_dropWritten_41 rfl (fun _ h => h) (Or.inr rfl) (fun _ _ => rfl)
