set_option maxRecDepth 100000 in
set_option maxHeartbeats 4000000 in
theorem c_Cache_firstOfSet (l : Launch) (P : ks_P) (hP : ks_ok P) (c x : Nat) (hc : c < ks_n P) (hx : x < 32) (a b : ks_M) (o : ks_O) : kc l P y_Cache_firstOfSet b_Cache_firstOfSet 2 (some .int) 0 [.ref (tk_ad (ks_G P) (5, c, 0)), .int (nI x)] a b o (some (.int (nI (k_first (ks_S P) (ks_W P) x)))) a b o := by
  have hn64 := ks_n64 hP
  have hT64 := ks_T64 hP
  refine tk_of hP.2.2.2.2.2 (by decide) rfl (Nat.le_of_ble_eq_true rfl) ?_
  intro p e s m below meth c0 X hlk hr hnm
  refine tk_iload_n X d_Cache_firstOfSet_0 rfl rfl ?_
  refine tk_aload_n X d_Cache_firstOfSet_1 rfl rfl ?_
  refine tk_get X (k := (5, c, 0)) (dm := ks_dm P) (ks_d5 hc) rfl hc_Cache hi_Cache 0 (by decide) m_Cache_9 (v := .int _) rfl d_Cache_firstOfSet_2 ?_
  refine tk_iconst (v := 1) X d_Cache_firstOfSet_5 (by decide) ?_
  refine tk_isub X d_Cache_firstOfSet_6 ?_
  refine tk_iand X d_Cache_firstOfSet_7 ?_
  refine tk_aload_n X d_Cache_firstOfSet_8 rfl rfl ?_
  refine tk_get X (k := (5, c, 0)) (dm := ks_dm P) (ks_d5 hc) rfl hc_Cache hi_Cache 1 (by decide) m_Cache_15 (v := .int _) rfl d_Cache_firstOfSet_9 ?_
  refine tk_imul X d_Cache_firstOfSet_12 ?_
  exact tk_iret X hlk hr d_Cache_firstOfSet_13 (by rw [q_first hP hx]) (fun _ h => h) (Or.inr rfl) (fun _ _ => rfl)

section LP
variable {p : Program} {l : Launch} {e : Env} {R : Room} {s : State} {m : MethodId} {args : Array Value} {below : List Frame} {meth : Method} {c0 : Code} {P : ks_P} {cells slots : Nat} {Q : State → Prop}
set_option maxRecDepth 100000 in
set_option maxHeartbeats 4000000 in
theorem lp_Cache_dropMarks (X : tk_X p m c0 s args (ks_G P) R_Cache b_Cache_dropMarks 2 WS) (hP : ks_ok P) {c : Nat} (hc : c < ks_n P) (a b : ks_M) (o : ks_O) (kend : tk_go p l e R s m args below meth c0 (ks_G P) (ks_dm P) 2 cells slots Q (ks_sl P (k_dm a c (ks_T P)) b o) 27 [some (.ref (tk_ad (ks_G P) (5, c, 0))), some (.int (nI (ks_T P)))] []) : ∀ (k j : Nat), j + k = ks_T P → tk_go p l e R s m args below meth c0 (ks_G P) (ks_dm P) 2 cells slots Q (ks_sl P (k_dm a c j) b o) 2 [some (.ref (tk_ad (ks_G P) (5, c, 0))), some (.int (nI j))] [] := by
  have hn64 := ks_n64 hP
  have hT64 := ks_T64 hP
  intro k
  induction k with
  | zero =>
    intro j hj
    have hjT : j = ks_T P := by omega
    subst hjT
    refine tk_iload_n X d_Cache_dropMarks_2 rfl rfl ?_
    refine tk_aload_n X d_Cache_dropMarks_3 rfl rfl ?_
    refine tk_get X (k := (5, c, 0)) (dm := ks_dm P) (ks_d5 hc) rfl hc_Cache hi_Cache 2 (by decide) m_Cache_20 (v := .ref (tk_ad (ks_G P) (6, c, 0))) rfl d_Cache_dropMarks_4 ?_
    refine tk_alen X (k := (6, c, 0)) (dm := ks_dm P) (ks_d6 hc) rfl rfl (v := nI _) rfl d_Cache_dropMarks_7 ?_
    refine tk_icmp_ge (tgt := 27) X d_Cache_dropMarks_8 (by decide) (fun _ => ?_) (fun h => absurd (nI_le (Nat.le_refl _) (by omega)) h)
    exact kend
  | succ k ih =>
    intro j hj
    have hj2 : j < ks_T P := by omega
    refine tk_iload_n X d_Cache_dropMarks_2 rfl rfl ?_
    refine tk_aload_n X d_Cache_dropMarks_3 rfl rfl ?_
    refine tk_get X (k := (5, c, 0)) (dm := ks_dm P) (ks_d5 hc) rfl hc_Cache hi_Cache 2 (by decide) m_Cache_20 (v := .ref (tk_ad (ks_G P) (6, c, 0))) rfl d_Cache_dropMarks_4 ?_
    refine tk_alen X (k := (6, c, 0)) (dm := ks_dm P) (ks_d6 hc) rfl rfl (v := nI _) rfl d_Cache_dropMarks_7 ?_
    refine tk_icmp_ge (tgt := 27) X d_Cache_dropMarks_8 (by decide) (fun h => absurd h (nI_ge hj2 (by omega))) (fun _ => ?_)
    refine tk_aload_n X d_Cache_dropMarks_11 rfl rfl ?_
    refine tk_get X (k := (5, c, 0)) (dm := ks_dm P) (ks_d5 hc) rfl hc_Cache hi_Cache 2 (by decide) m_Cache_20 (v := .ref (tk_ad (ks_G P) (6, c, 0))) rfl d_Cache_dropMarks_12 ?_
    refine tk_iload_n X d_Cache_dropMarks_15 rfl rfl ?_
    refine kw_way X hc (i := j) rfl hj2 hT64 d_Cache_dropMarks_16 ?_
    refine tk_iconst (v := 0) X d_Cache_dropMarks_17 (by decide) ?_
    refine kw_putN X (k := (7, c, j)) (ks_d7 hc hj2) rfl hc_Way hi_Way t_Way t_Way_ok n_Way 2 (by decide) rfl n_Cache_35 rfl rfl rfl d_Cache_dropMarks_18 ?_
    refine tk_iinc (v := nI (j + 1)) X d_Cache_dropMarks_21 rfl (q_inc j) (by decide) rfl ?_
    refine tk_goto (tgt := 2) X d_Cache_dropMarks_24 (by decide) ?_
    exact ih (j + 1) (by omega)
end LP

set_option maxRecDepth 100000 in
set_option maxHeartbeats 4000000 in
theorem c_Cache_dropMarks (l : Launch) (P : ks_P) (hP : ks_ok P) (c : Nat) (hc : c < ks_n P) (a b : ks_M) (o : ks_O) : kc l P y_Cache_dropMarks b_Cache_dropMarks 2 none 0 [.ref (tk_ad (ks_G P) (5, c, 0))] a b o (none) (k_dm a c (ks_T P)) b o := by
  have hn64 := ks_n64 hP
  have hT64 := ks_T64 hP
  refine tk_of hP.2.2.2.2.2 (by decide) rfl (Nat.le_of_ble_eq_true rfl) ?_
  intro p e s m below meth c0 X hlk hr hnm
  refine tk_iconst (v := 0) X d_Cache_dropMarks_0 (by decide) ?_
  refine tk_istore_n X d_Cache_dropMarks_1 rfl (by decide) rfl ?_
  refine lp_Cache_dropMarks X hP hc a b o ?_ (ks_T P) 0 (by omega)
  exact tk_vret X hlk hr d_Cache_dropMarks_27 rfl (fun _ h => h) (Or.inr rfl) (fun _ _ => rfl)

section LP
variable {p : Program} {l : Launch} {e : Env} {R : Room} {s : State} {m : MethodId} {args : Array Value} {below : List Frame} {meth : Method} {c0 : Code} {P : ks_P} {cells slots : Nat} {Q : State → Prop}
set_option maxRecDepth 100000 in
set_option maxHeartbeats 4000000 in
theorem lp_Cache_dropWritten (X : tk_X p m c0 s args (ks_G P) R_Cache b_Cache_dropWritten 2 WS) (hP : ks_ok P) {c : Nat} (hc : c < ks_n P) (a b : ks_M) (o : ks_O) (kend : tk_go p l e R s m args below meth c0 (ks_G P) (ks_dm P) 2 cells slots Q (ks_sl P (k_dw a c (ks_T P)) b o) 41 [some (.ref (tk_ad (ks_G P) (5, c, 0))), some (.int (nI (ks_T P)))] []) : ∀ (k j : Nat), j + k = ks_T P → tk_go p l e R s m args below meth c0 (ks_G P) (ks_dm P) 2 cells slots Q (ks_sl P (k_dw a c j) b o) 2 [some (.ref (tk_ad (ks_G P) (5, c, 0))), some (.int (nI j))] [] := by
  have hn64 := ks_n64 hP
  have hT64 := ks_T64 hP
  intro k
  induction k with
  | zero =>
    intro j hj
    have hjT : j = ks_T P := by omega
    subst hjT
    refine tk_iload_n X d_Cache_dropWritten_2 rfl rfl ?_
    refine tk_aload_n X d_Cache_dropWritten_3 rfl rfl ?_
    refine tk_get X (k := (5, c, 0)) (dm := ks_dm P) (ks_d5 hc) rfl hc_Cache hi_Cache 2 (by decide) m_Cache_20 (v := .ref (tk_ad (ks_G P) (6, c, 0))) rfl d_Cache_dropWritten_4 ?_
    refine tk_alen X (k := (6, c, 0)) (dm := ks_dm P) (ks_d6 hc) rfl rfl (v := nI _) rfl d_Cache_dropWritten_7 ?_
    refine tk_icmp_ge (tgt := 41) X d_Cache_dropWritten_8 (by decide) (fun _ => ?_) (fun h => absurd (nI_le (Nat.le_refl _) (by omega)) h)
    exact kend
  | succ k ih =>
    intro j hj
    have hj2 : j < ks_T P := by omega
    refine tk_iload_n X d_Cache_dropWritten_2 rfl rfl ?_
    refine tk_aload_n X d_Cache_dropWritten_3 rfl rfl ?_
    refine tk_get X (k := (5, c, 0)) (dm := ks_dm P) (ks_d5 hc) rfl hc_Cache hi_Cache 2 (by decide) m_Cache_20 (v := .ref (tk_ad (ks_G P) (6, c, 0))) rfl d_Cache_dropWritten_4 ?_
    refine tk_alen X (k := (6, c, 0)) (dm := ks_dm P) (ks_d6 hc) rfl rfl (v := nI _) rfl d_Cache_dropWritten_7 ?_
    refine tk_icmp_ge (tgt := 41) X d_Cache_dropWritten_8 (by decide) (fun h => absurd h (nI_ge hj2 (by omega))) (fun _ => ?_)
    refine tk_aload_n X d_Cache_dropWritten_11 rfl rfl ?_
    refine tk_get X (k := (5, c, 0)) (dm := ks_dm P) (ks_d5 hc) rfl hc_Cache hi_Cache 2 (by decide) m_Cache_20 (v := .ref (tk_ad (ks_G P) (6, c, 0))) rfl d_Cache_dropWritten_12 ?_
    refine tk_iload_n X d_Cache_dropWritten_15 rfl rfl ?_
    refine kw_way X hc (i := j) rfl hj2 hT64 d_Cache_dropWritten_16 ?_
    refine tk_getN X (k := (7, c, j)) (dm := ks_dm P) (ks_d7 hc hj2) rfl hc_Way hi_Way 2 (by decide) n_Cache_35 (v := .int _) rfl d_Cache_dropWritten_17 ?_
    refine tk_iconst (v := 2) X d_Cache_dropWritten_20 (by decide) ?_
    refine tk_iand X d_Cache_dropWritten_21 ?_
    refine tk_if_eq (tgt := 35) X d_Cache_dropWritten_22 (by decide) (fun h1 => ?_) (fun h1 => ?_)
    · skip
      refine tk_iinc (v := nI (j + 1)) X d_Cache_dropWritten_35 rfl (q_inc j) (by decide) rfl ?_
      refine tk_goto (tgt := 2) X d_Cache_dropWritten_38 (by decide) ?_
      have ih2 := ih (j + 1) (by omega)
      rw [show k_dw a c (j + 1) = _ from by rw [k_dw, if_neg (not_not_intro h1)]] at ih2
      exact ih2
    · skip
      refine tk_aload_n X d_Cache_dropWritten_25 rfl rfl ?_
      refine tk_get X (k := (5, c, 0)) (dm := ks_dm P) (ks_d5 hc) rfl hc_Cache hi_Cache 2 (by decide) m_Cache_20 (v := .ref (tk_ad (ks_G P) (6, c, 0))) rfl d_Cache_dropWritten_26 ?_
      refine tk_iload_n X d_Cache_dropWritten_29 rfl rfl ?_
      refine kw_way X hc (i := j) rfl hj2 hT64 d_Cache_dropWritten_30 ?_
      refine tk_iconst (v := 0) X d_Cache_dropWritten_31 (by decide) ?_
      refine kw_putN X (k := (7, c, j)) (ks_d7 hc hj2) rfl hc_Way hi_Way t_Way t_Way_ok n_Way 0 (by decide) rfl n_Cache_29 rfl rfl rfl d_Cache_dropWritten_32 ?_
      refine tk_iinc (v := nI (j + 1)) X d_Cache_dropWritten_35 rfl (q_inc j) (by decide) rfl ?_
      refine tk_goto (tgt := 2) X d_Cache_dropWritten_38 (by decide) ?_
      have ih2 := ih (j + 1) (by omega)
      rw [show k_dw a c (j + 1) = _ from by rw [k_dw, if_pos h1]] at ih2
      exact ih2
end LP

set_option maxRecDepth 100000 in
set_option maxHeartbeats 4000000 in
theorem c_Cache_dropWritten (l : Launch) (P : ks_P) (hP : ks_ok P) (c : Nat) (hc : c < ks_n P) (a b : ks_M) (o : ks_O) : kc l P y_Cache_dropWritten b_Cache_dropWritten 2 none 0 [.ref (tk_ad (ks_G P) (5, c, 0))] a b o (none) (k_dw a c (ks_T P)) b o := by
  have hn64 := ks_n64 hP
  have hT64 := ks_T64 hP
  refine tk_of hP.2.2.2.2.2 (by decide) rfl (Nat.le_of_ble_eq_true rfl) ?_
  intro p e s m below meth c0 X hlk hr hnm
  refine tk_iconst (v := 0) X d_Cache_dropWritten_0 (by decide) ?_
  refine tk_istore_n X d_Cache_dropWritten_1 rfl (by decide) rfl ?_
  refine lp_Cache_dropWritten X hP hc a b o ?_ (ks_T P) 0 (by omega)
  exact tk_vret X hlk hr d_Cache_dropWritten_41 rfl (fun _ h => h) (Or.inr rfl) (fun _ _ => rfl)

section LP
variable {p : Program} {l : Launch} {e : Env} {R : Room} {s : State} {m : MethodId} {args : Array Value} {below : List Frame} {meth : Method} {c0 : Code} {P : ks_P} {cells slots : Nat} {Q : State → Prop}
set_option maxRecDepth 100000 in
set_option maxHeartbeats 4000000 in
theorem lp_Cache_find (X : tk_X p m c0 s args (ks_G P) R_Cache b_Cache_find 4 WS) (hP : ks_ok P) {c x F : Nat} (hc : c < ks_n P) (hF : F + ks_W P ≤ ks_T P) (a b : ks_M) (o : ks_O) (k1 : ∀ j, j < ks_T P → k_find a c x (ks_W P) F = some j → tk_go p l e R s m args below meth c0 (ks_G P) (ks_dm P) 4 cells slots Q (ks_sl P a b o) 49 [some (.ref (tk_ad (ks_G P) (5, c, 0))), some (.int (nI x)), some (.int (nI F)), some (.int (nI j))] [.ref (tk_ad (ks_G P) (7, c, j))]) (k0 : k_find a c x (ks_W P) F = none → tk_go p l e R s m args below meth c0 (ks_G P) (ks_dm P) 4 cells slots Q (ks_sl P a b o) 57 [some (.ref (tk_ad (ks_G P) (5, c, 0))), some (.int (nI x)), some (.int (nI F)), some (.int (nI (F + ks_W P)))] [.null]) : ∀ (k j : Nat), j + k = F + ks_W P → k_find a c x (ks_W P) F = k_find a c x k j → tk_go p l e R s m args below meth c0 (ks_G P) (ks_dm P) 4 cells slots Q (ks_sl P a b o) 8 [some (.ref (tk_ad (ks_G P) (5, c, 0))), some (.int (nI x)), some (.int (nI F)), some (.int (nI j))] [] := by
  have hn64 := ks_n64 hP
  have hT64 := ks_T64 hP
  intro k
  induction k with
  | zero =>
    intro j hj hk
    have hjT : j = F + ks_W P := by omega
    subst hjT
    refine tk_iload_n X d_Cache_find_8 rfl rfl ?_
    refine tk_iload_n X d_Cache_find_9 rfl rfl ?_
    refine tk_aload_n X d_Cache_find_10 rfl rfl ?_
    refine tk_get X (k := (5, c, 0)) (dm := ks_dm P) (ks_d5 hc) rfl hc_Cache hi_Cache 1 (by decide) m_Cache_15 (v := .int _) rfl d_Cache_find_11 ?_
    refine tk_iadd X d_Cache_find_14 ?_
    refine tk_icmp_ge (tgt := 56) X d_Cache_find_15 (by decide) (fun _ => ?_) (fun h => absurd (by rw [nI_add]; exact nI_le (by omega) (by omega)) h)
    refine tk_null X d_Cache_find_56 ?_
    exact k0 hk
  | succ k ih =>
    intro j hj hk
    have hj2 : j < ks_T P := by omega
    refine tk_iload_n X d_Cache_find_8 rfl rfl ?_
    refine tk_iload_n X d_Cache_find_9 rfl rfl ?_
    refine tk_aload_n X d_Cache_find_10 rfl rfl ?_
    refine tk_get X (k := (5, c, 0)) (dm := ks_dm P) (ks_d5 hc) rfl hc_Cache hi_Cache 1 (by decide) m_Cache_15 (v := .int _) rfl d_Cache_find_11 ?_
    refine tk_iadd X d_Cache_find_14 ?_
    refine tk_icmp_ge (tgt := 56) X d_Cache_find_15 (by decide) (fun h => absurd h (by rw [nI_add]; exact nI_ge (by omega) (by omega))) (fun _ => ?_)
    refine tk_aload_n X d_Cache_find_18 rfl rfl ?_
    refine tk_get X (k := (5, c, 0)) (dm := ks_dm P) (ks_d5 hc) rfl hc_Cache hi_Cache 2 (by decide) m_Cache_20 (v := .ref (tk_ad (ks_G P) (6, c, 0))) rfl d_Cache_find_19 ?_
    refine tk_iload_n X d_Cache_find_22 rfl rfl ?_
    refine kw_way X hc (i := j) rfl hj2 hT64 d_Cache_find_23 ?_
    refine tk_getN X (k := (7, c, j)) (dm := ks_dm P) (ks_d7 hc hj2) rfl hc_Way hi_Way 0 (by decide) n_Cache_29 (v := .int _) rfl d_Cache_find_24 ?_
    refine tk_if_eq (tgt := 50) X d_Cache_find_27 (by decide) (fun h1 => ?_) (fun h1 => ?_)
    · skip
      refine tk_iinc (v := nI (j + 1)) X d_Cache_find_50 rfl (q_inc j) (by decide) rfl ?_
      refine tk_goto (tgt := 8) X d_Cache_find_53 (by decide) ?_
      exact ih (j + 1) (by omega) (hk.trans (by rw [k_find, if_neg (fun q => q.1 h1)]))
    · skip
      refine tk_aload_n X d_Cache_find_30 rfl rfl ?_
      refine tk_get X (k := (5, c, 0)) (dm := ks_dm P) (ks_d5 hc) rfl hc_Cache hi_Cache 2 (by decide) m_Cache_20 (v := .ref (tk_ad (ks_G P) (6, c, 0))) rfl d_Cache_find_31 ?_
      refine tk_iload_n X d_Cache_find_34 rfl rfl ?_
      refine kw_way X hc (i := j) rfl hj2 hT64 d_Cache_find_35 ?_
      refine tk_getN X (k := (7, c, j)) (dm := ks_dm P) (ks_d7 hc hj2) rfl hc_Way hi_Way 1 (by decide) n_Cache_32 (v := .int _) rfl d_Cache_find_36 ?_
      refine tk_iload_n X d_Cache_find_39 rfl rfl ?_
      refine tk_icmp_ne (tgt := 50) X d_Cache_find_40 (by decide) (fun h2 => ?_) (fun h2 => ?_)
      · skip
        refine tk_iinc (v := nI (j + 1)) X d_Cache_find_50 rfl (q_inc j) (by decide) rfl ?_
        refine tk_goto (tgt := 8) X d_Cache_find_53 (by decide) ?_
        exact ih (j + 1) (by omega) (hk.trans (by rw [k_find, if_neg (fun q => h2 q.2)]))
      · skip
        refine tk_aload_n X d_Cache_find_43 rfl rfl ?_
        refine tk_get X (k := (5, c, 0)) (dm := ks_dm P) (ks_d5 hc) rfl hc_Cache hi_Cache 2 (by decide) m_Cache_20 (v := .ref (tk_ad (ks_G P) (6, c, 0))) rfl d_Cache_find_44 ?_
        refine tk_iload_n X d_Cache_find_47 rfl rfl ?_
        refine kw_way X hc (i := j) rfl hj2 hT64 d_Cache_find_48 ?_
        exact k1 j hj2 (hk.trans (by rw [k_find, if_pos ⟨h1, h2⟩]))
end LP

set_option maxRecDepth 100000 in
set_option maxHeartbeats 4000000 in
theorem c_Cache_find (l : Launch) (P : ks_P) (hP : ks_ok P) (c x : Nat) (hc : c < ks_n P) (hx : x < 32) (a b : ks_M) (o : ks_O) : kc l P y_Cache_find b_Cache_find 4 (some (.object "TransactionCores$Way")) 1 [.ref (tk_ad (ks_G P) (5, c, 0)), .int (nI x)] a b o (some (k_ref P c (k_find a c x (ks_W P) (k_first (ks_S P) (ks_W P) x)))) a b o := by
  have hn64 := ks_n64 hP
  have hT64 := ks_T64 hP
  refine tk_of hP.2.2.2.2.2 (by decide) rfl (Nat.le_of_ble_eq_true rfl) ?_
  intro p e s m below meth c0 X hlk hr hnm
  refine tk_aload_n X d_Cache_find_0 rfl rfl ?_
  refine tk_iload_n X d_Cache_find_1 rfl rfl ?_
  refine tk_callV X (kb := (5, c, 0)) (ks_d5 hc) rfl hc_Cache (c_Cache_firstOfSet l P hP c x hc hx a b o) (ks_site (n := 1) mc_Cache_firstOfSet mi_Cache (by decide +kernel) (by decide) (by decide)) m_Cache_25 ms_Cache_firstOfSet mv_Cache_firstOfSet rfl (Nat.le_of_ble_eq_true rfl) ⟨Nat.le_of_ble_eq_true rfl, Nat.le_of_ble_eq_true rfl⟩ rfl d_Cache_find_2 ?_
  refine tk_istore_n X d_Cache_find_5 rfl (by decide) rfl ?_
  refine tk_iload_n X d_Cache_find_6 rfl rfl ?_
  refine tk_istore_n X d_Cache_find_7 rfl (by decide) rfl ?_
  refine lp_Cache_find X hP hc (k_first_le hP x) a b o (fun j hj h => ?_) (fun h => ?_) (ks_W P) _ rfl rfl
  · exact tk_aret X hlk hr (Or.inl ⟨_, rfl⟩) (Or.inr ⟨_, rfl⟩) d_Cache_find_49 (by rw [h]; rfl) (fun _ h => h) (Or.inr rfl) (fun _ _ => rfl)
  · exact tk_aret X hlk hr (Or.inl ⟨_, rfl⟩) (Or.inl rfl) d_Cache_find_57 (by rw [h]; rfl) (fun _ h => h) (Or.inr rfl) (fun _ _ => rfl)

section LP
variable {p : Program} {l : Launch} {e : Env} {R : Room} {s : State} {m : MethodId} {args : Array Value} {below : List Frame} {meth : Method} {c0 : Code} {P : ks_P} {cells slots : Nat} {Q : State → Prop}
set_option maxRecDepth 100000 in
set_option maxHeartbeats 4000000 in
theorem lp_Cache_room (X : tk_X p m c0 s args (ks_G P) R_Cache b_Cache_room 6 WS) (hP : ks_ok P) {c x F : Nat} (hc : c < ks_n P) (hF : F + ks_W P ≤ ks_T P) (a b : ks_M) (o : ks_O) (k1 : ∀ (j : Nat) (v3 : Value), j < ks_T P → k_room a c (ks_W P) F none = some j → tk_go p l e R s m args below meth c0 (ks_G P) (ks_dm P) 6 cells slots Q (ks_sl P a b o) 41 [some (.ref (tk_ad (ks_G P) (5, c, 0))), some (.int (nI x)), some (.int (nI F)), some (v3), some (.int (nI j)), some (.ref (tk_ad (ks_G P) (7, c, j)))] [.ref (tk_ad (ks_G P) (7, c, j))]) (k0 : ∀ (q : Option Nat) (t5 : Option Value), (∀ i, q = some i → i < ks_T P) → k_room a c (ks_W P) F none = q → tk_go p l e R s m args below meth c0 (ks_G P) (ks_dm P) 6 cells slots Q (ks_sl P a b o) 76 [some (.ref (tk_ad (ks_G P) (5, c, 0))), some (.int (nI x)), some (.int (nI F)), some (k_ref P c q), some (.int (nI (F + ks_W P))), t5] [k_ref P c q]) : ∀ (k j : Nat) (q : Option Nat) (t5 : Option Value), (∀ i, q = some i → i < ks_T P) → j + k = F + ks_W P → k_room a c (ks_W P) F none = k_room a c k j q → tk_go p l e R s m args below meth c0 (ks_G P) (ks_dm P) 6 cells slots Q (ks_sl P a b o) 11 [some (.ref (tk_ad (ks_G P) (5, c, 0))), some (.int (nI x)), some (.int (nI F)), some (k_ref P c q), some (.int (nI j)), t5] [] := by
  have hn64 := ks_n64 hP
  have hT64 := ks_T64 hP
  intro k
  induction k with
  | zero =>
    intro j q t5 hq hj hk
    have hjT : j = F + ks_W P := by omega
    subst hjT
    cases q with
    | none =>
      refine tk_iload X d_Cache_room_11 rfl ?_
      refine tk_iload_n X d_Cache_room_13 rfl rfl ?_
      refine tk_aload_n X d_Cache_room_14 rfl rfl ?_
      refine tk_get X (k := (5, c, 0)) (dm := ks_dm P) (ks_d5 hc) rfl hc_Cache hi_Cache 1 (by decide) m_Cache_15 (v := .int _) rfl d_Cache_room_15 ?_
      refine tk_iadd X d_Cache_room_18 ?_
      refine tk_icmp_ge (tgt := 75) X d_Cache_room_19 (by decide) (fun _ => ?_) (fun h => absurd (by rw [nI_add]; exact nI_le (by omega) (by omega)) h)
      refine tk_aload_nN X d_Cache_room_75 rfl rfl ?_
      exact k0 _ t5 hq hk
    | some i =>
      refine tk_iload X d_Cache_room_11 rfl ?_
      refine tk_iload_n X d_Cache_room_13 rfl rfl ?_
      refine tk_aload_n X d_Cache_room_14 rfl rfl ?_
      refine tk_get X (k := (5, c, 0)) (dm := ks_dm P) (ks_d5 hc) rfl hc_Cache hi_Cache 1 (by decide) m_Cache_15 (v := .int _) rfl d_Cache_room_15 ?_
      refine tk_iadd X d_Cache_room_18 ?_
      refine tk_icmp_ge (tgt := 75) X d_Cache_room_19 (by decide) (fun _ => ?_) (fun h => absurd (by rw [nI_add]; exact nI_le (by omega) (by omega)) h)
      refine tk_aload_n X d_Cache_room_75 rfl rfl ?_
      exact k0 _ t5 hq hk
  | succ k ih =>
    intro j q t5 hq hj hk
    have hj2 : j < ks_T P := by omega
    cases q with
    | none =>
      refine tk_iload X d_Cache_room_11 rfl ?_
      refine tk_iload_n X d_Cache_room_13 rfl rfl ?_
      refine tk_aload_n X d_Cache_room_14 rfl rfl ?_
      refine tk_get X (k := (5, c, 0)) (dm := ks_dm P) (ks_d5 hc) rfl hc_Cache hi_Cache 1 (by decide) m_Cache_15 (v := .int _) rfl d_Cache_room_15 ?_
      refine tk_iadd X d_Cache_room_18 ?_
      refine tk_icmp_ge (tgt := 75) X d_Cache_room_19 (by decide) (fun h => absurd h (by rw [nI_add]; exact nI_ge (by omega) (by omega))) (fun _ => ?_)
      refine tk_aload_n X d_Cache_room_22 rfl rfl ?_
      refine tk_get X (k := (5, c, 0)) (dm := ks_dm P) (ks_d5 hc) rfl hc_Cache hi_Cache 2 (by decide) m_Cache_20 (v := .ref (tk_ad (ks_G P) (6, c, 0))) rfl d_Cache_room_23 ?_
      refine tk_iload X d_Cache_room_26 rfl ?_
      refine kw_way X hc (i := j) rfl hj2 hT64 d_Cache_room_28 ?_
      refine tk_astore X d_Cache_room_29 (by decide) rfl ?_
      refine tk_aload X d_Cache_room_31 rfl ?_
      refine tk_getN X (k := (7, c, j)) (dm := ks_dm P) (ks_d7 hc hj2) rfl hc_Way hi_Way 0 (by decide) n_Cache_29 (v := .int _) rfl d_Cache_room_33 ?_
      refine tk_if_ne (tgt := 42) X d_Cache_room_36 (by decide) (fun h1 => ?_) (fun h1 => ?_)
      · skip
        refine tk_aload X d_Cache_room_42 rfl ?_
        refine tk_getN X (k := (7, c, j)) (dm := ks_dm P) (ks_d7 hc hj2) rfl hc_Way hi_Way 2 (by decide) n_Cache_35 (v := .int _) rfl d_Cache_room_44 ?_
        refine tk_if_ne (tgt := 69) X d_Cache_room_47 (by decide) (fun h2 => ?_) (fun h2 => ?_)
        · skip
          refine tk_iinc (v := nI (j + 1)) X d_Cache_room_69 rfl (q_inc j) (by decide) rfl ?_
          refine tk_goto (tgt := 11) X d_Cache_room_72 (by decide) ?_
          exact ih (j + 1) none _ hq (by omega) (hk.trans (by rw [k_room, if_neg h1, if_neg (fun z => h2 z.1)]))
        · skip
          refine tk_aload_nN X d_Cache_room_50 rfl rfl ?_
          refine tk_ifnullN (tgt := 66) X d_Cache_room_51 (by decide) ?_
          refine tk_aload X d_Cache_room_66 rfl ?_
          refine tk_astore_n X d_Cache_room_68 rfl (by decide) rfl ?_
          refine tk_iinc (v := nI (j + 1)) X d_Cache_room_69 rfl (q_inc j) (by decide) rfl ?_
          refine tk_goto (tgt := 11) X d_Cache_room_72 (by decide) ?_
          exact ih (j + 1) (some j) _ (fun i2 e2 => by cases e2; exact hj2) (by omega) (hk.trans (by rw [k_room, if_neg h1, if_pos ⟨h2, rfl⟩]))
      · skip
        refine tk_aload X d_Cache_room_39 rfl ?_
        exact k1 j _ hj2 (hk.trans (by rw [k_room, if_pos h1]))
    | some i =>
      have hi : i < ks_T P := hq i rfl
      refine tk_iload X d_Cache_room_11 rfl ?_
      refine tk_iload_n X d_Cache_room_13 rfl rfl ?_
      refine tk_aload_n X d_Cache_room_14 rfl rfl ?_
      refine tk_get X (k := (5, c, 0)) (dm := ks_dm P) (ks_d5 hc) rfl hc_Cache hi_Cache 1 (by decide) m_Cache_15 (v := .int _) rfl d_Cache_room_15 ?_
      refine tk_iadd X d_Cache_room_18 ?_
      refine tk_icmp_ge (tgt := 75) X d_Cache_room_19 (by decide) (fun h => absurd h (by rw [nI_add]; exact nI_ge (by omega) (by omega))) (fun _ => ?_)
      refine tk_aload_n X d_Cache_room_22 rfl rfl ?_
      refine tk_get X (k := (5, c, 0)) (dm := ks_dm P) (ks_d5 hc) rfl hc_Cache hi_Cache 2 (by decide) m_Cache_20 (v := .ref (tk_ad (ks_G P) (6, c, 0))) rfl d_Cache_room_23 ?_
      refine tk_iload X d_Cache_room_26 rfl ?_
      refine kw_way X hc (i := j) rfl hj2 hT64 d_Cache_room_28 ?_
      refine tk_astore X d_Cache_room_29 (by decide) rfl ?_
      refine tk_aload X d_Cache_room_31 rfl ?_
      refine tk_getN X (k := (7, c, j)) (dm := ks_dm P) (ks_d7 hc hj2) rfl hc_Way hi_Way 0 (by decide) n_Cache_29 (v := .int _) rfl d_Cache_room_33 ?_
      refine tk_if_ne (tgt := 42) X d_Cache_room_36 (by decide) (fun h1 => ?_) (fun h1 => ?_)
      · skip
        refine tk_aload X d_Cache_room_42 rfl ?_
        refine tk_getN X (k := (7, c, j)) (dm := ks_dm P) (ks_d7 hc hj2) rfl hc_Way hi_Way 2 (by decide) n_Cache_35 (v := .int _) rfl d_Cache_room_44 ?_
        refine tk_if_ne (tgt := 69) X d_Cache_room_47 (by decide) (fun h2 => ?_) (fun h2 => ?_)
        · skip
          refine tk_iinc (v := nI (j + 1)) X d_Cache_room_69 rfl (q_inc j) (by decide) rfl ?_
          refine tk_goto (tgt := 11) X d_Cache_room_72 (by decide) ?_
          exact ih (j + 1) (some i) _ hq (by omega) (hk.trans (by rw [k_room, if_neg h1, if_neg (fun z => h2 z.1)]))
        · skip
          refine tk_aload_n X d_Cache_room_50 rfl rfl ?_
          refine tk_ifnull X d_Cache_room_51 ?_
          refine tk_aload X d_Cache_room_54 rfl ?_
          refine tk_getN X (k := (7, c, j)) (dm := ks_dm P) (ks_d7 hc hj2) rfl hc_Way hi_Way 5 (by decide) n_Cache_38 (v := .int _) rfl d_Cache_room_56 ?_
          refine tk_aload_n X d_Cache_room_59 rfl rfl ?_
          refine tk_getN X (k := (7, c, i)) (dm := ks_dm P) (ks_d7 hc hi) rfl hc_Way hi_Way 5 (by decide) n_Cache_38 (v := .int _) rfl d_Cache_room_60 ?_
          refine tk_icmp_ge (tgt := 69) X d_Cache_room_63 (by decide) (fun h3 => ?_) (fun h3 => ?_)
          · skip
            refine tk_iinc (v := nI (j + 1)) X d_Cache_room_69 rfl (q_inc j) (by decide) rfl ?_
            refine tk_goto (tgt := 11) X d_Cache_room_72 (by decide) ?_
            exact ih (j + 1) (some i) _ hq (by omega) (hk.trans (by rw [k_room, if_neg h1, if_neg (fun z => absurd (of_decide_eq_true z.2) (Int32.not_lt.mpr h3))]))
          · skip
            refine tk_aload X d_Cache_room_66 rfl ?_
            refine tk_astore_n X d_Cache_room_68 rfl (by decide) rfl ?_
            refine tk_iinc (v := nI (j + 1)) X d_Cache_room_69 rfl (q_inc j) (by decide) rfl ?_
            refine tk_goto (tgt := 11) X d_Cache_room_72 (by decide) ?_
            exact ih (j + 1) (some j) _ (fun i2 e2 => by cases e2; exact hj2) (by omega) (hk.trans (by rw [k_room, if_neg h1, if_pos ⟨h2, decide_eq_true (Int32.not_le.mp h3)⟩]))
      · skip
        refine tk_aload X d_Cache_room_39 rfl ?_
        exact k1 j _ hj2 (hk.trans (by rw [k_room, if_pos h1]))
end LP

set_option maxRecDepth 100000 in
set_option maxHeartbeats 4000000 in
theorem c_Cache_room (l : Launch) (P : ks_P) (hP : ks_ok P) (c x : Nat) (hc : c < ks_n P) (hx : x < 32) (a b : ks_M) (o : ks_O) : kc l P y_Cache_room b_Cache_room 6 (some (.object "TransactionCores$Way")) 1 [.ref (tk_ad (ks_G P) (5, c, 0)), .int (nI x)] a b o (some (k_ref P c (k_room a c (ks_W P) (k_first (ks_S P) (ks_W P) x) none))) a b o := by
  have hn64 := ks_n64 hP
  have hT64 := ks_T64 hP
  refine tk_of hP.2.2.2.2.2 (by decide) rfl (Nat.le_of_ble_eq_true rfl) ?_
  intro p e s m below meth c0 X hlk hr hnm
  refine tk_aload_n X d_Cache_room_0 rfl rfl ?_
  refine tk_iload_n X d_Cache_room_1 rfl rfl ?_
  refine tk_callV X (kb := (5, c, 0)) (ks_d5 hc) rfl hc_Cache (c_Cache_firstOfSet l P hP c x hc hx a b o) (ks_site (n := 1) mc_Cache_firstOfSet mi_Cache (by decide +kernel) (by decide) (by decide)) m_Cache_25 ms_Cache_firstOfSet mv_Cache_firstOfSet rfl (Nat.le_of_ble_eq_true rfl) ⟨Nat.le_of_ble_eq_true rfl, Nat.le_of_ble_eq_true rfl⟩ rfl d_Cache_room_2 ?_
  refine tk_istore_n X d_Cache_room_5 rfl (by decide) rfl ?_
  refine tk_null X d_Cache_room_6 ?_
  refine tk_astore_nN X d_Cache_room_7 rfl (by decide) rfl ?_
  refine tk_iload_n X d_Cache_room_8 rfl rfl ?_
  refine tk_istore X d_Cache_room_9 (by decide) rfl ?_
  refine lp_Cache_room X hP hc (k_first_le hP x) a b o (fun j v3 hj h => ?_) (fun q t5 hq h => ?_) (ks_W P) _ none none (fun i h => by cases h) rfl rfl
  · exact tk_aret X hlk hr (Or.inl ⟨_, rfl⟩) (Or.inr ⟨_, rfl⟩) d_Cache_room_41 (by rw [h]; rfl) (fun _ h => h) (Or.inr rfl) (fun _ _ => rfl)
  · exact tk_aret X hlk hr (Or.inl ⟨_, rfl⟩) (by cases q with | none => exact Or.inl rfl | some i => exact Or.inr ⟨_, rfl⟩) d_Cache_room_76 (by rw [h]) (fun _ h => h) (Or.inr rfl) (fun _ _ => rfl)
