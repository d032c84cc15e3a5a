section LQ
variable {p : Program} {l : Launch} {e : Env} {s : State} {m : MethodId} {args : Array Value} {below : List Frame} {meth : Method} {c0 : Code} {P : ks_P} {cells slots : Nat} {Q : State → Prop}
set_option maxRecDepth 100000 in
set_option maxHeartbeats 4000000 in
theorem la_code (X : tk_X p m c0 s args (ks_G P) R_Law b_Law_law 7 WS) (hZ : xt_Z (ks_G P) s) (hst : l.stackTraces = false) (hP : ks_ok P) {b0 Ln : Nat} {xs : Nat → Int32} (hX : va_X b0 Ln xs s (tk_h0 (ks_G P))) (hbl : b0 < (tk_h0 (ks_G P)).size) (hq0 : cells ≤ room_1.cells ∧ slots ≤ room_1.slots) (hq1 : cells + 1 ≤ room_1.cells ∧ slots + 6 ≤ room_1.slots) {i : Nat} {c : Nat} (hc : c < ks_n P) {k : Nat} (hk : k < 16) {x3 x4 : Int32} (hS : la_S xs Ln i (nI c) (nI k) x3 x4) (a : ks_M) (o : ks_O) (hJ : j_J (ks_n P) (ks_S P) (ks_W P) a)  (t5 t6 : Option Value) (kend : ∀ (a : ks_M) (o : ks_O) (t5 t6 : Option Value), j_J (ks_n P) (ks_S P) (ks_W P) a → tk_go p l e room_1 s m args below meth c0 (ks_G P) (ks_dm P) 7 (cells + 1) (slots + 6) Q (ks_sl P a a o) 686 [some (.ref b0), some (.ref (tk_ad (ks_G P) (0, 0, 0))), some (.ref (tk_ad (ks_G P) (12, 0, 0))), some (.ref (tk_ad (ks_G P) (28, 0, 0))), some (.int (nI i)), t5, t6] []) : tk_go p l e room_1 s m args below meth c0 (ks_G P) (ks_dm P) 7 cells slots Q (ks_sl P a a o) 128 [some (.ref b0), some (.ref (tk_ad (ks_G P) (0, 0, 0))), some (.ref (tk_ad (ks_G P) (12, 0, 0))), some (.ref (tk_ad (ks_G P) (28, 0, 0))), some (.int (nI i)), t5, t6] [] := by
  have hn64 := ks_n64 hP
  have hT64 := ks_T64 hP
  refine tk_aload_n X d_Law_law_128 rfl rfl ?_
  refine tk_aload_n X d_Law_law_129 rfl rfl ?_
  refine tk_iload X d_Law_law_130 rfl ?_
  refine tk_iconst (v := 1) X d_Law_law_132 (by decide) ?_
  refine tk_iadd X d_Law_law_133 ?_
  refine kx_sld X hX hbl hS.1.1 hS.1.2 d_Law_law_134 ?_
  refine tk_aload_n X d_Law_law_135 rfl rfl ?_
  refine tk_iload X d_Law_law_136 rfl ?_
  refine tk_iconst (v := 2) X d_Law_law_138 (by decide) ?_
  refine tk_iadd X d_Law_law_139 ?_
  refine kx_sld X hX hbl hS.2.1.1 hS.2.1.2 d_Law_law_140 ?_
  refine tk_aload_n X d_Law_law_141 rfl rfl ?_
  refine tk_iload X d_Law_law_142 rfl ?_
  refine tk_iconst (v := 3) X d_Law_law_144 (by decide) ?_
  refine tk_iadd X d_Law_law_145 ?_
  refine kx_sld X hX hbl hS.2.2.1.1 hS.2.2.1.2 d_Law_law_146 ?_
  refine xw_call X hZ (n := 4) (w_code l hst P hP c hc k hk x3 a a o) mw_code mi_Law m_Law_52 ms_Law_code (by decide +kernel) ⟨by decide, by decide⟩ rfl (Nat.le_of_ble_eq_true rfl) hq1 rfl d_Law_law_147 ?_
  refine tk_istore X d_Law_law_150 (by decide) rfl ?_
  refine tk_aload_n X d_Law_law_152 rfl rfl ?_
  refine tk_aload_n X d_Law_law_153 rfl rfl ?_
  refine tk_iload X d_Law_law_154 rfl ?_
  refine tk_iconst (v := 1) X d_Law_law_156 (by decide) ?_
  refine tk_iadd X d_Law_law_157 ?_
  refine kx_sld X hX hbl hS.1.1 hS.1.2 d_Law_law_158 ?_
  refine tk_aload_n X d_Law_law_159 rfl rfl ?_
  refine tk_iload X d_Law_law_160 rfl ?_
  refine tk_iconst (v := 2) X d_Law_law_162 (by decide) ?_
  refine tk_iadd X d_Law_law_163 ?_
  refine kx_sld X hX hbl hS.2.1.1 hS.2.1.2 d_Law_law_164 ?_
  refine tk_aload_n X d_Law_law_165 rfl rfl ?_
  refine tk_iload X d_Law_law_166 rfl ?_
  refine tk_iconst (v := 3) X d_Law_law_168 (by decide) ?_
  refine tk_iadd X d_Law_law_169 ?_
  refine kx_sld X hX hbl hS.2.2.1.1 hS.2.2.1.2 d_Law_law_170 ?_
  refine tk_callV X (kb := (12, 0, 0)) (ks_d0 (by decide)) rfl hc_Model (c_Model_code l P hP c hc k hk x3 (ks_up a (8, c, 0) k x3) a o) (lk_site (n := 3) mc_Model_code mi_Model (by decide +kernel) (by decide) (by decide)) m_Law_55 ms_Model_code mv_Model_code rfl (Nat.le_of_ble_eq_true rfl) (by first | exact hq1 | exact hq0) rfl d_Law_law_171 ?_
  refine tk_aload_n X d_Law_law_174 rfl rfl ?_
  refine tk_callV X (kb := (12, 0, 0)) (ks_d0 (by decide)) rfl hc_Model (c_Model_thrown l P hP (ks_up a (8, c, 0) k x3) (ks_up a (8, c, 0) k x3) (o.1, 0)) (lk_site (n := 0) mc_Model_thrown mi_Model (by decide +kernel) (by decide) (by decide)) m_Law_56 ms_Model_thrown mv_Model_thrown rfl (Nat.le_of_ble_eq_true rfl) (by first | exact hq1 | exact hq0) rfl d_Law_law_175 ?_
  refine tk_iload X d_Law_law_178 rfl ?_
  refine tk_icmp_eq (tgt := 185) X d_Law_law_180 (by decide) (fun _ => ?_) (fun h => absurd rfl h)
  refine tk_goto (tgt := 686) X d_Law_law_185 (by decide) ?_
  refine tk_widen (k := cells + 1) (n := slots + 6) (by first | exact Nat.le_refl _ | exact Nat.le_add_right _ _) (by first | exact Nat.le_refl _ | exact Nat.le_add_right _ _) ?_
  exact kend _ _ _ _ (j_code hJ c k x3)
end LQ

section LQ
variable {p : Program} {l : Launch} {e : Env} {s : State} {m : MethodId} {args : Array Value} {below : List Frame} {meth : Method} {c0 : Code} {P : ks_P} {cells slots : Nat} {Q : State → Prop}
set_option maxRecDepth 100000 in
set_option maxHeartbeats 4000000 in
theorem la_codeX (X : tk_X p m c0 s args (ks_G P) R_Law b_Law_law 7 WS) (hZ : xt_Z (ks_G P) s) (hst : l.stackTraces = false) (hP : ks_ok P) {b0 Ln : Nat} {xs : Nat → Int32} (hX : va_X b0 Ln xs s (tk_h0 (ks_G P))) (hbl : b0 < (tk_h0 (ks_G P)).size) (hq0 : cells ≤ room_1.cells ∧ slots ≤ room_1.slots) (hq1 : cells + 1 ≤ room_1.cells ∧ slots + 6 ≤ room_1.slots) {i : Nat} {x1 : Int32} (hx : x1 < 0 ∨ nI (ks_n P) ≤ x1) {x2 x3 x4 : Int32} (hS : la_S xs Ln i x1 x2 x3 x4) (a : ks_M) (o : ks_O) (hJ : j_J (ks_n P) (ks_S P) (ks_W P) a)  (t5 t6 : Option Value) (kend : ∀ (a : ks_M) (o : ks_O) (t5 t6 : Option Value), j_J (ks_n P) (ks_S P) (ks_W P) a → tk_go p l e room_1 s m args below meth c0 (ks_G P) (ks_dm P) 7 (cells + 1) (slots + 6) Q (ks_sl P a a o) 686 [some (.ref b0), some (.ref (tk_ad (ks_G P) (0, 0, 0))), some (.ref (tk_ad (ks_G P) (12, 0, 0))), some (.ref (tk_ad (ks_G P) (28, 0, 0))), some (.int (nI i)), t5, t6] []) : tk_go p l e room_1 s m args below meth c0 (ks_G P) (ks_dm P) 7 cells slots Q (ks_sl P a a o) 128 [some (.ref b0), some (.ref (tk_ad (ks_G P) (0, 0, 0))), some (.ref (tk_ad (ks_G P) (12, 0, 0))), some (.ref (tk_ad (ks_G P) (28, 0, 0))), some (.int (nI i)), t5, t6] [] := by
  have hn64 := ks_n64 hP
  have hT64 := ks_T64 hP
  refine tk_aload_n X d_Law_law_128 rfl rfl ?_
  refine tk_aload_n X d_Law_law_129 rfl rfl ?_
  refine tk_iload X d_Law_law_130 rfl ?_
  refine tk_iconst (v := 1) X d_Law_law_132 (by decide) ?_
  refine tk_iadd X d_Law_law_133 ?_
  refine kx_sld X hX hbl hS.1.1 hS.1.2 d_Law_law_134 ?_
  refine tk_aload_n X d_Law_law_135 rfl rfl ?_
  refine tk_iload X d_Law_law_136 rfl ?_
  refine tk_iconst (v := 2) X d_Law_law_138 (by decide) ?_
  refine tk_iadd X d_Law_law_139 ?_
  refine kx_sld X hX hbl hS.2.1.1 hS.2.1.2 d_Law_law_140 ?_
  refine tk_aload_n X d_Law_law_141 rfl rfl ?_
  refine tk_iload X d_Law_law_142 rfl ?_
  refine tk_iconst (v := 3) X d_Law_law_144 (by decide) ?_
  refine tk_iadd X d_Law_law_145 ?_
  refine kx_sld X hX hbl hS.2.2.1.1 hS.2.2.1.2 d_Law_law_146 ?_
  refine xw_call X hZ (n := 4) (w_codeX l hst P hP x1 hx x2 x3 a a o) mw_code mi_Law m_Law_52 ms_Law_code (by decide +kernel) ⟨by decide, by decide⟩ rfl (Nat.le_of_ble_eq_true rfl) hq1 rfl d_Law_law_147 ?_
  refine tk_istore X d_Law_law_150 (by decide) rfl ?_
  refine tk_aload_n X d_Law_law_152 rfl rfl ?_
  refine tk_aload_n X d_Law_law_153 rfl rfl ?_
  refine tk_iload X d_Law_law_154 rfl ?_
  refine tk_iconst (v := 1) X d_Law_law_156 (by decide) ?_
  refine tk_iadd X d_Law_law_157 ?_
  refine kx_sld X hX hbl hS.1.1 hS.1.2 d_Law_law_158 ?_
  refine tk_aload_n X d_Law_law_159 rfl rfl ?_
  refine tk_iload X d_Law_law_160 rfl ?_
  refine tk_iconst (v := 2) X d_Law_law_162 (by decide) ?_
  refine tk_iadd X d_Law_law_163 ?_
  refine kx_sld X hX hbl hS.2.1.1 hS.2.1.2 d_Law_law_164 ?_
  refine tk_aload_n X d_Law_law_165 rfl rfl ?_
  refine tk_iload X d_Law_law_166 rfl ?_
  refine tk_iconst (v := 3) X d_Law_law_168 (by decide) ?_
  refine tk_iadd X d_Law_law_169 ?_
  refine kx_sld X hX hbl hS.2.2.1.1 hS.2.2.1.2 d_Law_law_170 ?_
  refine tk_callV X (kb := (12, 0, 0)) (ks_d0 (by decide)) rfl hc_Model (c_Model_codeX l P hP x1 hx x2 x3 a a o) (lk_site (n := 3) mc_Model_code mi_Model (by decide +kernel) (by decide) (by decide)) m_Law_55 ms_Model_code mv_Model_code rfl (Nat.le_of_ble_eq_true rfl) (by first | exact hq1 | exact hq0) rfl d_Law_law_171 ?_
  refine tk_aload_n X d_Law_law_174 rfl rfl ?_
  refine tk_callV X (kb := (12, 0, 0)) (ks_d0 (by decide)) rfl hc_Model (c_Model_thrown l P hP a a (o.1, 1)) (lk_site (n := 0) mc_Model_thrown mi_Model (by decide +kernel) (by decide) (by decide)) m_Law_56 ms_Model_thrown mv_Model_thrown rfl (Nat.le_of_ble_eq_true rfl) (by first | exact hq1 | exact hq0) rfl d_Law_law_175 ?_
  refine tk_iload X d_Law_law_178 rfl ?_
  refine tk_icmp_eq (tgt := 185) X d_Law_law_180 (by decide) (fun _ => ?_) (fun h => absurd rfl h)
  refine tk_goto (tgt := 686) X d_Law_law_185 (by decide) ?_
  refine tk_widen (k := cells + 1) (n := slots + 6) (by first | exact Nat.le_refl _ | exact Nat.le_add_right _ _) (by first | exact Nat.le_refl _ | exact Nat.le_add_right _ _) ?_
  exact kend _ _ _ _ hJ
end LQ

section LQ
variable {p : Program} {l : Launch} {e : Env} {s : State} {m : MethodId} {args : Array Value} {below : List Frame} {meth : Method} {c0 : Code} {P : ks_P} {cells slots : Nat} {Q : State → Prop}
set_option maxRecDepth 100000 in
set_option maxHeartbeats 4000000 in
theorem la_codeY (X : tk_X p m c0 s args (ks_G P) R_Law b_Law_law 7 WS) (hZ : xt_Z (ks_G P) s) (hst : l.stackTraces = false) (hP : ks_ok P) {b0 Ln : Nat} {xs : Nat → Int32} (hX : va_X b0 Ln xs s (tk_h0 (ks_G P))) (hbl : b0 < (tk_h0 (ks_G P)).size) (hq0 : cells ≤ room_1.cells ∧ slots ≤ room_1.slots) (hq1 : cells + 1 ≤ room_1.cells ∧ slots + 6 ≤ room_1.slots) {i : Nat} {c : Nat} (hc : c < ks_n P) {x2 : Int32} (hy : x2 < 0 ∨ 16 ≤ x2) {x3 x4 : Int32} (hS : la_S xs Ln i (nI c) x2 x3 x4) (a : ks_M) (o : ks_O) (hJ : j_J (ks_n P) (ks_S P) (ks_W P) a)  (t5 t6 : Option Value) (kend : ∀ (a : ks_M) (o : ks_O) (t5 t6 : Option Value), j_J (ks_n P) (ks_S P) (ks_W P) a → tk_go p l e room_1 s m args below meth c0 (ks_G P) (ks_dm P) 7 (cells + 1) (slots + 6) Q (ks_sl P a a o) 686 [some (.ref b0), some (.ref (tk_ad (ks_G P) (0, 0, 0))), some (.ref (tk_ad (ks_G P) (12, 0, 0))), some (.ref (tk_ad (ks_G P) (28, 0, 0))), some (.int (nI i)), t5, t6] []) : tk_go p l e room_1 s m args below meth c0 (ks_G P) (ks_dm P) 7 cells slots Q (ks_sl P a a o) 128 [some (.ref b0), some (.ref (tk_ad (ks_G P) (0, 0, 0))), some (.ref (tk_ad (ks_G P) (12, 0, 0))), some (.ref (tk_ad (ks_G P) (28, 0, 0))), some (.int (nI i)), t5, t6] [] := by
  have hn64 := ks_n64 hP
  have hT64 := ks_T64 hP
  refine tk_aload_n X d_Law_law_128 rfl rfl ?_
  refine tk_aload_n X d_Law_law_129 rfl rfl ?_
  refine tk_iload X d_Law_law_130 rfl ?_
  refine tk_iconst (v := 1) X d_Law_law_132 (by decide) ?_
  refine tk_iadd X d_Law_law_133 ?_
  refine kx_sld X hX hbl hS.1.1 hS.1.2 d_Law_law_134 ?_
  refine tk_aload_n X d_Law_law_135 rfl rfl ?_
  refine tk_iload X d_Law_law_136 rfl ?_
  refine tk_iconst (v := 2) X d_Law_law_138 (by decide) ?_
  refine tk_iadd X d_Law_law_139 ?_
  refine kx_sld X hX hbl hS.2.1.1 hS.2.1.2 d_Law_law_140 ?_
  refine tk_aload_n X d_Law_law_141 rfl rfl ?_
  refine tk_iload X d_Law_law_142 rfl ?_
  refine tk_iconst (v := 3) X d_Law_law_144 (by decide) ?_
  refine tk_iadd X d_Law_law_145 ?_
  refine kx_sld X hX hbl hS.2.2.1.1 hS.2.2.1.2 d_Law_law_146 ?_
  refine xw_call X hZ (n := 4) (w_codeY l hst P hP c hc x2 hy x3 a a o) mw_code mi_Law m_Law_52 ms_Law_code (by decide +kernel) ⟨by decide, by decide⟩ rfl (Nat.le_of_ble_eq_true rfl) hq1 rfl d_Law_law_147 ?_
  refine tk_istore X d_Law_law_150 (by decide) rfl ?_
  refine tk_aload_n X d_Law_law_152 rfl rfl ?_
  refine tk_aload_n X d_Law_law_153 rfl rfl ?_
  refine tk_iload X d_Law_law_154 rfl ?_
  refine tk_iconst (v := 1) X d_Law_law_156 (by decide) ?_
  refine tk_iadd X d_Law_law_157 ?_
  refine kx_sld X hX hbl hS.1.1 hS.1.2 d_Law_law_158 ?_
  refine tk_aload_n X d_Law_law_159 rfl rfl ?_
  refine tk_iload X d_Law_law_160 rfl ?_
  refine tk_iconst (v := 2) X d_Law_law_162 (by decide) ?_
  refine tk_iadd X d_Law_law_163 ?_
  refine kx_sld X hX hbl hS.2.1.1 hS.2.1.2 d_Law_law_164 ?_
  refine tk_aload_n X d_Law_law_165 rfl rfl ?_
  refine tk_iload X d_Law_law_166 rfl ?_
  refine tk_iconst (v := 3) X d_Law_law_168 (by decide) ?_
  refine tk_iadd X d_Law_law_169 ?_
  refine kx_sld X hX hbl hS.2.2.1.1 hS.2.2.1.2 d_Law_law_170 ?_
  refine tk_callV X (kb := (12, 0, 0)) (ks_d0 (by decide)) rfl hc_Model (c_Model_codeY l P hP c hc x2 x3 (i_16 hy) a a o) (lk_site (n := 3) mc_Model_code mi_Model (by decide +kernel) (by decide) (by decide)) m_Law_55 ms_Model_code mv_Model_code rfl (Nat.le_of_ble_eq_true rfl) (by first | exact hq1 | exact hq0) rfl d_Law_law_171 ?_
  refine tk_aload_n X d_Law_law_174 rfl rfl ?_
  refine tk_callV X (kb := (12, 0, 0)) (ks_d0 (by decide)) rfl hc_Model (c_Model_thrown l P hP a a (o.1, 1)) (lk_site (n := 0) mc_Model_thrown mi_Model (by decide +kernel) (by decide) (by decide)) m_Law_56 ms_Model_thrown mv_Model_thrown rfl (Nat.le_of_ble_eq_true rfl) (by first | exact hq1 | exact hq0) rfl d_Law_law_175 ?_
  refine tk_iload X d_Law_law_178 rfl ?_
  refine tk_icmp_eq (tgt := 185) X d_Law_law_180 (by decide) (fun _ => ?_) (fun h => absurd rfl h)
  refine tk_goto (tgt := 686) X d_Law_law_185 (by decide) ?_
  refine tk_widen (k := cells + 1) (n := slots + 6) (by first | exact Nat.le_refl _ | exact Nat.le_add_right _ _) (by first | exact Nat.le_refl _ | exact Nat.le_add_right _ _) ?_
  exact kend _ _ _ _ hJ
end LQ

section LQ
variable {p : Program} {l : Launch} {e : Env} {s : State} {m : MethodId} {args : Array Value} {below : List Frame} {meth : Method} {c0 : Code} {P : ks_P} {cells slots : Nat} {Q : State → Prop}
set_option maxRecDepth 100000 in
set_option maxHeartbeats 4000000 in
theorem la_poke (X : tk_X p m c0 s args (ks_G P) R_Law b_Law_law 7 WS) (hZ : xt_Z (ks_G P) s) (hst : l.stackTraces = false) (hP : ks_ok P) {b0 Ln : Nat} {xs : Nat → Int32} (hX : va_X b0 Ln xs s (tk_h0 (ks_G P))) (hbl : b0 < (tk_h0 (ks_G P)).size) (hq0 : cells ≤ room_1.cells ∧ slots ≤ room_1.slots) (hq1 : cells + 1 ≤ room_1.cells ∧ slots + 6 ≤ room_1.slots) {i : Nat} {x1 x2 x3 x4 : Int32} (hS : la_S xs Ln i x1 x2 x3 x4) (a : ks_M) (o : ks_O) (hJ : j_J (ks_n P) (ks_S P) (ks_W P) a)  (t5 t6 : Option Value) (kend : ∀ (a : ks_M) (o : ks_O) (t5 t6 : Option Value), j_J (ks_n P) (ks_S P) (ks_W P) a → tk_go p l e room_1 s m args below meth c0 (ks_G P) (ks_dm P) 7 (cells + 1) (slots + 6) Q (ks_sl P a a o) 686 [some (.ref b0), some (.ref (tk_ad (ks_G P) (0, 0, 0))), some (.ref (tk_ad (ks_G P) (12, 0, 0))), some (.ref (tk_ad (ks_G P) (28, 0, 0))), some (.int (nI i)), t5, t6] []) : tk_go p l e room_1 s m args below meth c0 (ks_G P) (ks_dm P) 7 cells slots Q (ks_sl P a a o) 188 [some (.ref b0), some (.ref (tk_ad (ks_G P) (0, 0, 0))), some (.ref (tk_ad (ks_G P) (12, 0, 0))), some (.ref (tk_ad (ks_G P) (28, 0, 0))), some (.int (nI i)), t5, t6] [] := by
  have hn64 := ks_n64 hP
  have hT64 := ks_T64 hP
  refine tk_aload_n X d_Law_law_188 rfl rfl ?_
  refine tk_aload_n X d_Law_law_189 rfl rfl ?_
  refine tk_iload X d_Law_law_190 rfl ?_
  refine tk_iconst (v := 1) X d_Law_law_192 (by decide) ?_
  refine tk_iadd X d_Law_law_193 ?_
  refine kx_sld X hX hbl hS.1.1 hS.1.2 d_Law_law_194 ?_
  refine tk_aload_n X d_Law_law_195 rfl rfl ?_
  refine tk_iload X d_Law_law_196 rfl ?_
  refine tk_iconst (v := 2) X d_Law_law_198 (by decide) ?_
  refine tk_iadd X d_Law_law_199 ?_
  refine kx_sld X hX hbl hS.2.1.1 hS.2.1.2 d_Law_law_200 ?_
  refine tk_callV X (kb := (0, 0, 0)) (ks_d0 (by decide)) rfl hc_TC (c_TC_poke l P hP x1 x2 a a o) (lk_site (n := 2) mc_TC_poke mi_TC (by decide +kernel) (by decide) (by decide)) m_Law_60 ms_TC_poke mv_TC_poke rfl (Nat.le_of_ble_eq_true rfl) (by first | exact hq1 | exact hq0) rfl d_Law_law_201 ?_
  refine tk_aload_n X d_Law_law_204 rfl rfl ?_
  refine tk_aload_n X d_Law_law_205 rfl rfl ?_
  refine tk_iload X d_Law_law_206 rfl ?_
  refine tk_iconst (v := 1) X d_Law_law_208 (by decide) ?_
  refine tk_iadd X d_Law_law_209 ?_
  refine kx_sld X hX hbl hS.1.1 hS.1.2 d_Law_law_210 ?_
  refine tk_aload_n X d_Law_law_211 rfl rfl ?_
  refine tk_iload X d_Law_law_212 rfl ?_
  refine tk_iconst (v := 2) X d_Law_law_214 (by decide) ?_
  refine tk_iadd X d_Law_law_215 ?_
  refine kx_sld X hX hbl hS.2.1.1 hS.2.1.2 d_Law_law_216 ?_
  refine tk_callV X (kb := (12, 0, 0)) (ks_d0 (by decide)) rfl hc_Model (c_Model_poke l P hP x1 x2 (k_poke (ks_n P) (ks_S P) (ks_W P) a x1 x2) a o hJ.1.1) (lk_site (n := 2) mc_Model_poke mi_Model (by decide +kernel) (by decide) (by decide)) m_Law_63 ms_Model_poke mv_Model_poke rfl (Nat.le_of_ble_eq_true rfl) (by first | exact hq1 | exact hq0) rfl d_Law_law_217 ?_
  refine tk_goto (tgt := 686) X d_Law_law_220 (by decide) ?_
  refine tk_widen (k := cells + 1) (n := slots + 6) (by first | exact Nat.le_refl _ | exact Nat.le_add_right _ _) (by first | exact Nat.le_refl _ | exact Nat.le_add_right _ _) ?_
  exact kend _ _ _ _ (j_poke hJ (k_first_le hP) x1 x2)
end LQ

section LQ
variable {p : Program} {l : Launch} {e : Env} {s : State} {m : MethodId} {args : Array Value} {below : List Frame} {meth : Method} {c0 : Code} {P : ks_P} {cells slots : Nat} {Q : State → Prop}
set_option maxRecDepth 100000 in
set_option maxHeartbeats 4000000 in
theorem la_peek (X : tk_X p m c0 s args (ks_G P) R_Law b_Law_law 7 WS) (hZ : xt_Z (ks_G P) s) (hst : l.stackTraces = false) (hP : ks_ok P) {b0 Ln : Nat} {xs : Nat → Int32} (hX : va_X b0 Ln xs s (tk_h0 (ks_G P))) (hbl : b0 < (tk_h0 (ks_G P)).size) (hq0 : cells ≤ room_1.cells ∧ slots ≤ room_1.slots) (hq1 : cells + 1 ≤ room_1.cells ∧ slots + 6 ≤ room_1.slots) {i : Nat} {x1 x2 x3 x4 : Int32} (hS : la_S xs Ln i x1 x2 x3 x4) (a : ks_M) (o : ks_O) (hJ : j_J (ks_n P) (ks_S P) (ks_W P) a)  (t5 t6 : Option Value) (kend : ∀ (a : ks_M) (o : ks_O) (t5 t6 : Option Value), j_J (ks_n P) (ks_S P) (ks_W P) a → tk_go p l e room_1 s m args below meth c0 (ks_G P) (ks_dm P) 7 (cells + 1) (slots + 6) Q (ks_sl P a a o) 686 [some (.ref b0), some (.ref (tk_ad (ks_G P) (0, 0, 0))), some (.ref (tk_ad (ks_G P) (12, 0, 0))), some (.ref (tk_ad (ks_G P) (28, 0, 0))), some (.int (nI i)), t5, t6] []) : tk_go p l e room_1 s m args below meth c0 (ks_G P) (ks_dm P) 7 cells slots Q (ks_sl P a a o) 223 [some (.ref b0), some (.ref (tk_ad (ks_G P) (0, 0, 0))), some (.ref (tk_ad (ks_G P) (12, 0, 0))), some (.ref (tk_ad (ks_G P) (28, 0, 0))), some (.int (nI i)), t5, t6] [] := by
  have hn64 := ks_n64 hP
  have hT64 := ks_T64 hP
  refine tk_aload_n X d_Law_law_223 rfl rfl ?_
  refine tk_aload_n X d_Law_law_224 rfl rfl ?_
  refine tk_iload X d_Law_law_225 rfl ?_
  refine tk_iconst (v := 1) X d_Law_law_227 (by decide) ?_
  refine tk_iadd X d_Law_law_228 ?_
  refine kx_sld X hX hbl hS.1.1 hS.1.2 d_Law_law_229 ?_
  refine tk_callV X (kb := (0, 0, 0)) (ks_d0 (by decide)) rfl hc_TC (c_TC_peek l P hP x1 a a o) (lk_site (n := 1) mc_TC_peek mi_TC (by decide +kernel) (by decide) (by decide)) m_Law_64 ms_TC_peek mv_TC_peek rfl (Nat.le_of_ble_eq_true rfl) (by first | exact hq1 | exact hq0) rfl d_Law_law_230 ?_
  refine tk_aload_n X d_Law_law_233 rfl rfl ?_
  refine tk_aload_n X d_Law_law_234 rfl rfl ?_
  refine tk_iload X d_Law_law_235 rfl ?_
  refine tk_iconst (v := 1) X d_Law_law_237 (by decide) ?_
  refine tk_iadd X d_Law_law_238 ?_
  refine kx_sld X hX hbl hS.1.1 hS.1.2 d_Law_law_239 ?_
  refine tk_callV X (kb := (12, 0, 0)) (ks_d0 (by decide)) rfl hc_Model (c_Model_peek l P hP x1 a a o hJ.1.1) (lk_site (n := 1) mc_Model_peek mi_Model (by decide +kernel) (by decide) (by decide)) m_Law_67 ms_Model_peek mv_Model_peek rfl (Nat.le_of_ble_eq_true rfl) (by first | exact hq1 | exact hq0) rfl d_Law_law_240 ?_
  refine tk_icmp_eq (tgt := 686) X d_Law_law_243 (by decide) (fun _ => ?_) (fun h => absurd (j_peek hJ.1 (k_first_le hP _) x1).symm h)
  refine tk_widen (k := cells + 1) (n := slots + 6) (by first | exact Nat.le_refl _ | exact Nat.le_add_right _ _) (by first | exact Nat.le_refl _ | exact Nat.le_add_right _ _) ?_
  exact kend _ _ _ _ hJ
end LQ

section LQ
variable {p : Program} {l : Launch} {e : Env} {s : State} {m : MethodId} {args : Array Value} {below : List Frame} {meth : Method} {c0 : Code} {P : ks_P} {cells slots : Nat} {Q : State → Prop}
set_option maxRecDepth 100000 in
set_option maxHeartbeats 4000000 in
theorem la_step (X : tk_X p m c0 s args (ks_G P) R_Law b_Law_law 7 WS) (hZ : xt_Z (ks_G P) s) (hst : l.stackTraces = false) (hP : ks_ok P) {b0 Ln : Nat} {xs : Nat → Int32} (hX : va_X b0 Ln xs s (tk_h0 (ks_G P))) (hbl : b0 < (tk_h0 (ks_G P)).size) (hq0 : cells ≤ room_1.cells ∧ slots ≤ room_1.slots) (hq1 : cells + 1 ≤ room_1.cells ∧ slots + 6 ≤ room_1.slots) {i : Nat} {c : Nat} (hc : c < ks_n P) {x2 x3 x4 : Int32} (hS : la_S xs Ln i (nI c) x2 x3 x4) (a : ks_M) (o : ks_O) (hJ : j_J (ks_n P) (ks_S P) (ks_W P) a)  (t5 t6 : Option Value) (kend : ∀ (a : ks_M) (o : ks_O) (t5 t6 : Option Value), j_J (ks_n P) (ks_S P) (ks_W P) a → tk_go p l e room_1 s m args below meth c0 (ks_G P) (ks_dm P) 7 (cells + 1) (slots + 6) Q (ks_sl P a a o) 686 [some (.ref b0), some (.ref (tk_ad (ks_G P) (0, 0, 0))), some (.ref (tk_ad (ks_G P) (12, 0, 0))), some (.ref (tk_ad (ks_G P) (28, 0, 0))), some (.int (nI i)), t5, t6] []) : tk_go p l e room_1 s m args below meth c0 (ks_G P) (ks_dm P) 7 cells slots Q (ks_sl P a a o) 248 [some (.ref b0), some (.ref (tk_ad (ks_G P) (0, 0, 0))), some (.ref (tk_ad (ks_G P) (12, 0, 0))), some (.ref (tk_ad (ks_G P) (28, 0, 0))), some (.int (nI i)), t5, t6] [] := by
  have hn64 := ks_n64 hP
  have hT64 := ks_T64 hP
  refine tk_aload_n X d_Law_law_248 rfl rfl ?_
  refine tk_aload_n X d_Law_law_249 rfl rfl ?_
  refine tk_iload X d_Law_law_250 rfl ?_
  refine tk_iconst (v := 1) X d_Law_law_252 (by decide) ?_
  refine tk_iadd X d_Law_law_253 ?_
  refine kx_sld X hX hbl hS.1.1 hS.1.2 d_Law_law_254 ?_
  refine tk_aload_n X d_Law_law_255 rfl rfl ?_
  refine xw_call X hZ (n := 3) (w_step l hst P hP c hc a a o (hJ.2 c hc).1) mw_step mi_Law m_Law_68 ms_Law_step (by decide +kernel) ⟨by decide, by decide⟩ rfl (Nat.le_of_ble_eq_true rfl) hq1 rfl d_Law_law_256 ?_
  refine tk_istore X d_Law_law_259 (by decide) rfl ?_
  refine tk_aload_n X d_Law_law_261 rfl rfl ?_
  refine tk_aload_n X d_Law_law_262 rfl rfl ?_
  refine tk_iload X d_Law_law_263 rfl ?_
  refine tk_iconst (v := 1) X d_Law_law_265 (by decide) ?_
  refine tk_iadd X d_Law_law_266 ?_
  refine kx_sld X hX hbl hS.1.1 hS.1.2 d_Law_law_267 ?_
  refine tk_callV X (kb := (12, 0, 0)) (ks_d0 (by decide)) rfl hc_Model (c_Model_step l P hP c hc (k_step (ks_n P) (ks_S P) (ks_W P) a c).2 a ((k_step (ks_n P) (ks_S P) (ks_W P) a c).1.toInt64, o.2) hJ.1.1 (hJ.2 c hc).1) (lk_site (n := 1) mc_Model_step mi_Model (by decide +kernel) (by decide) (by decide)) m_Law_71 ms_Model_step mv_Model_step rfl (Nat.le_of_ble_eq_true rfl) (by first | exact hq1 | exact hq0) rfl d_Law_law_268 ?_
  refine tk_istore X d_Law_law_271 (by decide) rfl ?_
  refine tk_aload_n X d_Law_law_273 rfl rfl ?_
  refine tk_callV X (kb := (12, 0, 0)) (ks_d0 (by decide)) rfl hc_Model (c_Model_thrown l P hP (k_step (ks_n P) (ks_S P) (ks_W P) a c).2 (k_step (ks_n P) (ks_S P) (ks_W P) a c).2 (((k_step (ks_n P) (ks_S P) (ks_W P) a c).1).toInt64, (0 : Int32))) (lk_site (n := 0) mc_Model_thrown mi_Model (by decide +kernel) (by decide) (by decide)) m_Law_56 ms_Model_thrown mv_Model_thrown rfl (Nat.le_of_ble_eq_true rfl) (by first | exact hq1 | exact hq0) rfl d_Law_law_274 ?_
  refine tk_iload X d_Law_law_277 rfl ?_
  refine tk_icmp_eq (tgt := 284) X d_Law_law_279 (by decide) (fun _ => ?_) (fun h => absurd rfl h)
  refine tk_iload X d_Law_law_284 rfl ?_
  refine tk_if_ne (tgt := 301) X d_Law_law_286 (by decide) (fun h => absurd (rfl : (0 : Int32) = 0) h) (fun _ => ?_)
  refine tk_aload_n X d_Law_law_289 rfl rfl ?_
  refine tk_iconst (v := 0) X d_Law_law_290 (by decide) ?_
  refine kx_lald X d_Law_law_291 ?_
  refine tk_iload X d_Law_law_292 rfl ?_
  refine tk_i2l X d_Law_law_294 rfl ?_
  refine tk_lcmp X d_Law_law_295 rfl ?_
  refine tk_if_eq (tgt := 301) X d_Law_law_296 (by decide) (fun _ => ?_) (fun h => absurd (lg_cmp_self _) h)
  refine tk_goto (tgt := 686) X d_Law_law_301 (by decide) ?_
  refine tk_widen (k := cells + 1) (n := slots + 6) (by first | exact Nat.le_refl _ | exact Nat.le_add_right _ _) (by first | exact Nat.le_refl _ | exact Nat.le_add_right _ _) ?_
  exact kend _ _ _ _ (j_step hJ (by have := hP.2.1; omega) hc hP.2.2.2.1 (k_first_le hP))
end LQ

section LQ
variable {p : Program} {l : Launch} {e : Env} {s : State} {m : MethodId} {args : Array Value} {below : List Frame} {meth : Method} {c0 : Code} {P : ks_P} {cells slots : Nat} {Q : State → Prop}
set_option maxRecDepth 100000 in
set_option maxHeartbeats 4000000 in
theorem la_stepX (X : tk_X p m c0 s args (ks_G P) R_Law b_Law_law 7 WS) (hZ : xt_Z (ks_G P) s) (hst : l.stackTraces = false) (hP : ks_ok P) {b0 Ln : Nat} {xs : Nat → Int32} (hX : va_X b0 Ln xs s (tk_h0 (ks_G P))) (hbl : b0 < (tk_h0 (ks_G P)).size) (hq0 : cells ≤ room_1.cells ∧ slots ≤ room_1.slots) (hq1 : cells + 1 ≤ room_1.cells ∧ slots + 6 ≤ room_1.slots) {i : Nat} {x1 : Int32} (hx : x1 < 0 ∨ nI (ks_n P) ≤ x1) {x2 x3 x4 : Int32} (hS : la_S xs Ln i x1 x2 x3 x4) (a : ks_M) (o : ks_O) (hJ : j_J (ks_n P) (ks_S P) (ks_W P) a)  (t5 t6 : Option Value) (kend : ∀ (a : ks_M) (o : ks_O) (t5 t6 : Option Value), j_J (ks_n P) (ks_S P) (ks_W P) a → tk_go p l e room_1 s m args below meth c0 (ks_G P) (ks_dm P) 7 (cells + 1) (slots + 6) Q (ks_sl P a a o) 686 [some (.ref b0), some (.ref (tk_ad (ks_G P) (0, 0, 0))), some (.ref (tk_ad (ks_G P) (12, 0, 0))), some (.ref (tk_ad (ks_G P) (28, 0, 0))), some (.int (nI i)), t5, t6] []) : tk_go p l e room_1 s m args below meth c0 (ks_G P) (ks_dm P) 7 cells slots Q (ks_sl P a a o) 248 [some (.ref b0), some (.ref (tk_ad (ks_G P) (0, 0, 0))), some (.ref (tk_ad (ks_G P) (12, 0, 0))), some (.ref (tk_ad (ks_G P) (28, 0, 0))), some (.int (nI i)), t5, t6] [] := by
  have hn64 := ks_n64 hP
  have hT64 := ks_T64 hP
  refine tk_aload_n X d_Law_law_248 rfl rfl ?_
  refine tk_aload_n X d_Law_law_249 rfl rfl ?_
  refine tk_iload X d_Law_law_250 rfl ?_
  refine tk_iconst (v := 1) X d_Law_law_252 (by decide) ?_
  refine tk_iadd X d_Law_law_253 ?_
  refine kx_sld X hX hbl hS.1.1 hS.1.2 d_Law_law_254 ?_
  refine tk_aload_n X d_Law_law_255 rfl rfl ?_
  refine xw_call X hZ (n := 3) (w_stepX l hst P hP x1 hx a a o) mw_step mi_Law m_Law_68 ms_Law_step (by decide +kernel) ⟨by decide, by decide⟩ rfl (Nat.le_of_ble_eq_true rfl) hq1 rfl d_Law_law_256 ?_
  refine tk_istore X d_Law_law_259 (by decide) rfl ?_
  refine tk_aload_n X d_Law_law_261 rfl rfl ?_
  refine tk_aload_n X d_Law_law_262 rfl rfl ?_
  refine tk_iload X d_Law_law_263 rfl ?_
  refine tk_iconst (v := 1) X d_Law_law_265 (by decide) ?_
  refine tk_iadd X d_Law_law_266 ?_
  refine kx_sld X hX hbl hS.1.1 hS.1.2 d_Law_law_267 ?_
  refine tk_callV X (kb := (12, 0, 0)) (ks_d0 (by decide)) rfl hc_Model (c_Model_stepX l P hP x1 hx a a o) (lk_site (n := 1) mc_Model_step mi_Model (by decide +kernel) (by decide) (by decide)) m_Law_71 ms_Model_step mv_Model_step rfl (Nat.le_of_ble_eq_true rfl) (by first | exact hq1 | exact hq0) rfl d_Law_law_268 ?_
  refine tk_istore X d_Law_law_271 (by decide) rfl ?_
  refine tk_aload_n X d_Law_law_273 rfl rfl ?_
  refine tk_callV X (kb := (12, 0, 0)) (ks_d0 (by decide)) rfl hc_Model (c_Model_thrown l P hP a a (o.1, 1)) (lk_site (n := 0) mc_Model_thrown mi_Model (by decide +kernel) (by decide) (by decide)) m_Law_56 ms_Model_thrown mv_Model_thrown rfl (Nat.le_of_ble_eq_true rfl) (by first | exact hq1 | exact hq0) rfl d_Law_law_274 ?_
  refine tk_iload X d_Law_law_277 rfl ?_
  refine tk_icmp_eq (tgt := 284) X d_Law_law_279 (by decide) (fun _ => ?_) (fun h => absurd rfl h)
  refine tk_iload X d_Law_law_284 rfl ?_
  refine tk_if_ne (tgt := 301) X d_Law_law_286 (by decide) (fun _ => ?_) (fun h => absurd h (by decide : ¬ ((1 : Int32) = 0)))
  refine tk_goto (tgt := 686) X d_Law_law_301 (by decide) ?_
  refine tk_widen (k := cells + 1) (n := slots + 6) (by first | exact Nat.le_refl _ | exact Nat.le_add_right _ _) (by first | exact Nat.le_refl _ | exact Nat.le_add_right _ _) ?_
  exact kend _ _ _ _ hJ
end LQ

section LQ
variable {p : Program} {l : Launch} {e : Env} {s : State} {m : MethodId} {args : Array Value} {below : List Frame} {meth : Method} {c0 : Code} {P : ks_P} {cells slots : Nat} {Q : State → Prop}
set_option maxRecDepth 100000 in
set_option maxHeartbeats 4000000 in
theorem la_run (X : tk_X p m c0 s args (ks_G P) R_Law b_Law_law 7 WS) (hZ : xt_Z (ks_G P) s) (hst : l.stackTraces = false) (hP : ks_ok P) {b0 Ln : Nat} {xs : Nat → Int32} (hX : va_X b0 Ln xs s (tk_h0 (ks_G P))) (hbl : b0 < (tk_h0 (ks_G P)).size) (hq0 : cells ≤ room_1.cells ∧ slots ≤ room_1.slots) (hq1 : cells + 1 ≤ room_1.cells ∧ slots + 6 ≤ room_1.slots) {i : Nat} {x1 : Int32} {k : Nat} (hk : k ≤ 16) {x3 x4 : Int32} (hS : la_S xs Ln i x1 (nI k) x3 x4) (a : ks_M) (o : ks_O) (hJ : j_J (ks_n P) (ks_S P) (ks_W P) a)  (t5 t6 : Option Value) (kend : ∀ (a : ks_M) (o : ks_O) (t5 t6 : Option Value), j_J (ks_n P) (ks_S P) (ks_W P) a → tk_go p l e room_1 s m args below meth c0 (ks_G P) (ks_dm P) 7 (cells + 1) (slots + 6) Q (ks_sl P a a o) 686 [some (.ref b0), some (.ref (tk_ad (ks_G P) (0, 0, 0))), some (.ref (tk_ad (ks_G P) (12, 0, 0))), some (.ref (tk_ad (ks_G P) (28, 0, 0))), some (.int (nI i)), t5, t6] []) : tk_go p l e room_1 s m args below meth c0 (ks_G P) (ks_dm P) 7 cells slots Q (ks_sl P a a o) 304 [some (.ref b0), some (.ref (tk_ad (ks_G P) (0, 0, 0))), some (.ref (tk_ad (ks_G P) (12, 0, 0))), some (.ref (tk_ad (ks_G P) (28, 0, 0))), some (.int (nI i)), t5, t6] [] := by
  have hn64 := ks_n64 hP
  have hT64 := ks_T64 hP
  refine tk_aload_n X d_Law_law_304 rfl rfl ?_
  refine tk_aload_n X d_Law_law_305 rfl rfl ?_
  refine tk_iload X d_Law_law_306 rfl ?_
  refine tk_iconst (v := 1) X d_Law_law_308 (by decide) ?_
  refine tk_iadd X d_Law_law_309 ?_
  refine kx_sld X hX hbl hS.1.1 hS.1.2 d_Law_law_310 ?_
  refine tk_aload_n X d_Law_law_311 rfl rfl ?_
  refine tk_iload X d_Law_law_312 rfl ?_
  refine tk_iconst (v := 2) X d_Law_law_314 (by decide) ?_
  refine tk_iadd X d_Law_law_315 ?_
  refine kx_sld X hX hbl hS.2.1.1 hS.2.1.2 d_Law_law_316 ?_
  refine tk_aload_n X d_Law_law_317 rfl rfl ?_
  refine xw_call X hZ (n := 4) (w_run l hst P hP k hk x1 a a o hJ) mw_run mi_Law m_Law_72 ms_Law_run (by decide +kernel) ⟨by decide, by decide⟩ rfl (Nat.le_of_ble_eq_true rfl) hq1 rfl d_Law_law_318 ?_
  refine tk_istore X d_Law_law_321 (by decide) rfl ?_
  refine tk_aload_n X d_Law_law_323 rfl rfl ?_
  refine tk_aload_n X d_Law_law_324 rfl rfl ?_
  refine tk_iload X d_Law_law_325 rfl ?_
  refine tk_iconst (v := 1) X d_Law_law_327 (by decide) ?_
  refine tk_iadd X d_Law_law_328 ?_
  refine kx_sld X hX hbl hS.1.1 hS.1.2 d_Law_law_329 ?_
  refine tk_aload_n X d_Law_law_330 rfl rfl ?_
  refine tk_iload X d_Law_law_331 rfl ?_
  refine tk_iconst (v := 2) X d_Law_law_333 (by decide) ?_
  refine tk_iadd X d_Law_law_334 ?_
  refine kx_sld X hX hbl hS.2.1.1 hS.2.1.2 d_Law_law_335 ?_
  refine tk_callV X (kb := (12, 0, 0)) (ks_d0 (by decide)) rfl hc_Model (c_Model_run l P hP k hk x1 (j_J (ks_n P) (ks_S P) (ks_W P)) (fun _ h => ⟨h.1.1, h.2⟩) (fun b c hc h => j_step h (by have := hP.2.1; omega) hc hP.2.2.2.1 (k_first_le hP)) (k_run (ks_n P) (ks_S P) (ks_W P) x1 k 0 0 a).2 a ((k_run (ks_n P) (ks_S P) (ks_W P) x1 k 0 0 a).1.toInt64, o.2) hJ) (lk_site (n := 2) mc_Model_run mi_Model (by decide +kernel) (by decide) (by decide)) m_Law_75 ms_Model_run mv_Model_run rfl (Nat.le_of_ble_eq_true rfl) (by first | exact hq1 | exact hq0) rfl d_Law_law_336 ?_
  refine tk_istore X d_Law_law_339 (by decide) rfl ?_
  refine tk_aload_n X d_Law_law_341 rfl rfl ?_
  refine tk_callV X (kb := (12, 0, 0)) (ks_d0 (by decide)) rfl hc_Model (c_Model_thrown l P hP (k_run (ks_n P) (ks_S P) (ks_W P) x1 k 0 0 a).2 (k_run (ks_n P) (ks_S P) (ks_W P) x1 k 0 0 a).2 (((k_run (ks_n P) (ks_S P) (ks_W P) x1 k 0 0 a).1).toInt64, (0 : Int32))) (lk_site (n := 0) mc_Model_thrown mi_Model (by decide +kernel) (by decide) (by decide)) m_Law_56 ms_Model_thrown mv_Model_thrown rfl (Nat.le_of_ble_eq_true rfl) (by first | exact hq1 | exact hq0) rfl d_Law_law_342 ?_
  refine tk_iload X d_Law_law_345 rfl ?_
  refine tk_icmp_eq (tgt := 352) X d_Law_law_347 (by decide) (fun _ => ?_) (fun h => absurd rfl h)
  refine tk_iload X d_Law_law_352 rfl ?_
  refine tk_if_ne (tgt := 369) X d_Law_law_354 (by decide) (fun h => absurd (rfl : (0 : Int32) = 0) h) (fun _ => ?_)
  refine tk_aload_n X d_Law_law_357 rfl rfl ?_
  refine tk_iconst (v := 0) X d_Law_law_358 (by decide) ?_
  refine kx_lald X d_Law_law_359 ?_
  refine tk_iload X d_Law_law_360 rfl ?_
  refine tk_i2l X d_Law_law_362 rfl ?_
  refine tk_lcmp X d_Law_law_363 rfl ?_
  refine tk_if_eq (tgt := 369) X d_Law_law_364 (by decide) (fun _ => ?_) (fun h => absurd (lg_cmp_self _) h)
  refine tk_goto (tgt := 686) X d_Law_law_369 (by decide) ?_
  refine tk_widen (k := cells + 1) (n := slots + 6) (by first | exact Nat.le_refl _ | exact Nat.le_add_right _ _) (by first | exact Nat.le_refl _ | exact Nat.le_add_right _ _) ?_
  exact kend _ _ _ _ (j_run (by have := hP.2.1; omega) hP.1 hP.2.2.2.1 (k_first_le hP) x1 k 0 0 a hJ)
end LQ

section LQ
variable {p : Program} {l : Launch} {e : Env} {s : State} {m : MethodId} {args : Array Value} {below : List Frame} {meth : Method} {c0 : Code} {P : ks_P} {cells slots : Nat} {Q : State → Prop}
set_option maxRecDepth 100000 in
set_option maxHeartbeats 4000000 in
theorem la_runX (X : tk_X p m c0 s args (ks_G P) R_Law b_Law_law 7 WS) (hZ : xt_Z (ks_G P) s) (hst : l.stackTraces = false) (hP : ks_ok P) {b0 Ln : Nat} {xs : Nat → Int32} (hX : va_X b0 Ln xs s (tk_h0 (ks_G P))) (hbl : b0 < (tk_h0 (ks_G P)).size) (hq0 : cells ≤ room_1.cells ∧ slots ≤ room_1.slots) (hq1 : cells + 1 ≤ room_1.cells ∧ slots + 6 ≤ room_1.slots) {i : Nat} {x1 x2 : Int32} (hy : x2 < 0 ∨ ¬ x2 ≤ 16) {x3 x4 : Int32} (hS : la_S xs Ln i x1 x2 x3 x4) (a : ks_M) (o : ks_O) (hJ : j_J (ks_n P) (ks_S P) (ks_W P) a)  (t5 t6 : Option Value) (kend : ∀ (a : ks_M) (o : ks_O) (t5 t6 : Option Value), j_J (ks_n P) (ks_S P) (ks_W P) a → tk_go p l e room_1 s m args below meth c0 (ks_G P) (ks_dm P) 7 (cells + 1) (slots + 6) Q (ks_sl P a a o) 686 [some (.ref b0), some (.ref (tk_ad (ks_G P) (0, 0, 0))), some (.ref (tk_ad (ks_G P) (12, 0, 0))), some (.ref (tk_ad (ks_G P) (28, 0, 0))), some (.int (nI i)), t5, t6] []) : tk_go p l e room_1 s m args below meth c0 (ks_G P) (ks_dm P) 7 cells slots Q (ks_sl P a a o) 304 [some (.ref b0), some (.ref (tk_ad (ks_G P) (0, 0, 0))), some (.ref (tk_ad (ks_G P) (12, 0, 0))), some (.ref (tk_ad (ks_G P) (28, 0, 0))), some (.int (nI i)), t5, t6] [] := by
  have hn64 := ks_n64 hP
  have hT64 := ks_T64 hP
  refine tk_aload_n X d_Law_law_304 rfl rfl ?_
  refine tk_aload_n X d_Law_law_305 rfl rfl ?_
  refine tk_iload X d_Law_law_306 rfl ?_
  refine tk_iconst (v := 1) X d_Law_law_308 (by decide) ?_
  refine tk_iadd X d_Law_law_309 ?_
  refine kx_sld X hX hbl hS.1.1 hS.1.2 d_Law_law_310 ?_
  refine tk_aload_n X d_Law_law_311 rfl rfl ?_
  refine tk_iload X d_Law_law_312 rfl ?_
  refine tk_iconst (v := 2) X d_Law_law_314 (by decide) ?_
  refine tk_iadd X d_Law_law_315 ?_
  refine kx_sld X hX hbl hS.2.1.1 hS.2.1.2 d_Law_law_316 ?_
  refine tk_aload_n X d_Law_law_317 rfl rfl ?_
  refine xw_call X hZ (n := 4) (w_runX l hst P hP x1 x2 hy a a o) mw_run mi_Law m_Law_72 ms_Law_run (by decide +kernel) ⟨by decide, by decide⟩ rfl (Nat.le_of_ble_eq_true rfl) hq1 rfl d_Law_law_318 ?_
  refine tk_istore X d_Law_law_321 (by decide) rfl ?_
  refine tk_aload_n X d_Law_law_323 rfl rfl ?_
  refine tk_aload_n X d_Law_law_324 rfl rfl ?_
  refine tk_iload X d_Law_law_325 rfl ?_
  refine tk_iconst (v := 1) X d_Law_law_327 (by decide) ?_
  refine tk_iadd X d_Law_law_328 ?_
  refine kx_sld X hX hbl hS.1.1 hS.1.2 d_Law_law_329 ?_
  refine tk_aload_n X d_Law_law_330 rfl rfl ?_
  refine tk_iload X d_Law_law_331 rfl ?_
  refine tk_iconst (v := 2) X d_Law_law_333 (by decide) ?_
  refine tk_iadd X d_Law_law_334 ?_
  refine kx_sld X hX hbl hS.2.1.1 hS.2.1.2 d_Law_law_335 ?_
  refine tk_callV X (kb := (12, 0, 0)) (ks_d0 (by decide)) rfl hc_Model (c_Model_runX l P hP x2 hy x1 a a o) (lk_site (n := 2) mc_Model_run mi_Model (by decide +kernel) (by decide) (by decide)) m_Law_75 ms_Model_run mv_Model_run rfl (Nat.le_of_ble_eq_true rfl) (by first | exact hq1 | exact hq0) rfl d_Law_law_336 ?_
  refine tk_istore X d_Law_law_339 (by decide) rfl ?_
  refine tk_aload_n X d_Law_law_341 rfl rfl ?_
  refine tk_callV X (kb := (12, 0, 0)) (ks_d0 (by decide)) rfl hc_Model (c_Model_thrown l P hP a a (o.1, 1)) (lk_site (n := 0) mc_Model_thrown mi_Model (by decide +kernel) (by decide) (by decide)) m_Law_56 ms_Model_thrown mv_Model_thrown rfl (Nat.le_of_ble_eq_true rfl) (by first | exact hq1 | exact hq0) rfl d_Law_law_342 ?_
  refine tk_iload X d_Law_law_345 rfl ?_
  refine tk_icmp_eq (tgt := 352) X d_Law_law_347 (by decide) (fun _ => ?_) (fun h => absurd rfl h)
  refine tk_iload X d_Law_law_352 rfl ?_
  refine tk_if_ne (tgt := 369) X d_Law_law_354 (by decide) (fun _ => ?_) (fun h => absurd h (by decide : ¬ ((1 : Int32) = 0)))
  refine tk_goto (tgt := 686) X d_Law_law_369 (by decide) ?_
  refine tk_widen (k := cells + 1) (n := slots + 6) (by first | exact Nat.le_refl _ | exact Nat.le_add_right _ _) (by first | exact Nat.le_refl _ | exact Nat.le_add_right _ _) ?_
  exact kend _ _ _ _ hJ
end LQ

section LQ
variable {p : Program} {l : Launch} {e : Env} {s : State} {m : MethodId} {args : Array Value} {below : List Frame} {meth : Method} {c0 : Code} {P : ks_P} {cells slots : Nat} {Q : State → Prop}
set_option maxRecDepth 100000 in
set_option maxHeartbeats 4000000 in
theorem la_jump (X : tk_X p m c0 s args (ks_G P) R_Law b_Law_law 7 WS) (hZ : xt_Z (ks_G P) s) (hst : l.stackTraces = false) (hP : ks_ok P) {b0 Ln : Nat} {xs : Nat → Int32} (hX : va_X b0 Ln xs s (tk_h0 (ks_G P))) (hbl : b0 < (tk_h0 (ks_G P)).size) (hq0 : cells ≤ room_1.cells ∧ slots ≤ room_1.slots) (hq1 : cells + 1 ≤ room_1.cells ∧ slots + 6 ≤ room_1.slots) {i : Nat} {c : Nat} (hc : c < ks_n P) {x2 x3 x4 : Int32} (hS : la_S xs Ln i (nI c) x2 x3 x4) (a : ks_M) (o : ks_O) (hJ : j_J (ks_n P) (ks_S P) (ks_W P) a) (hd : a (4, c, 0) 8 ≤ 0) (t5 t6 : Option Value) (kend : ∀ (a : ks_M) (o : ks_O) (t5 t6 : Option Value), j_J (ks_n P) (ks_S P) (ks_W P) a → tk_go p l e room_1 s m args below meth c0 (ks_G P) (ks_dm P) 7 (cells + 1) (slots + 6) Q (ks_sl P a a o) 686 [some (.ref b0), some (.ref (tk_ad (ks_G P) (0, 0, 0))), some (.ref (tk_ad (ks_G P) (12, 0, 0))), some (.ref (tk_ad (ks_G P) (28, 0, 0))), some (.int (nI i)), t5, t6] []) : tk_go p l e room_1 s m args below meth c0 (ks_G P) (ks_dm P) 7 cells slots Q (ks_sl P a a o) 372 [some (.ref b0), some (.ref (tk_ad (ks_G P) (0, 0, 0))), some (.ref (tk_ad (ks_G P) (12, 0, 0))), some (.ref (tk_ad (ks_G P) (28, 0, 0))), some (.int (nI i)), t5, t6] [] := by
  have hn64 := ks_n64 hP
  have hT64 := ks_T64 hP
  refine tk_aload_n X d_Law_law_372 rfl rfl ?_
  refine tk_aload_n X d_Law_law_373 rfl rfl ?_
  refine tk_iload X d_Law_law_374 rfl ?_
  refine tk_iconst (v := 1) X d_Law_law_376 (by decide) ?_
  refine tk_iadd X d_Law_law_377 ?_
  refine kx_sld X hX hbl hS.1.1 hS.1.2 d_Law_law_378 ?_
  refine tk_aload_n X d_Law_law_379 rfl rfl ?_
  refine tk_iload X d_Law_law_380 rfl ?_
  refine tk_iconst (v := 2) X d_Law_law_382 (by decide) ?_
  refine tk_iadd X d_Law_law_383 ?_
  refine kx_sld X hX hbl hS.2.1.1 hS.2.1.2 d_Law_law_384 ?_
  refine xw_call X hZ (n := 3) (w_jump l hst P hP c hc x2 a a o hd) mw_jump mi_Law m_Law_76 ms_Law_jump (by decide +kernel) ⟨by decide, by decide⟩ rfl (Nat.le_of_ble_eq_true rfl) hq1 rfl d_Law_law_385 ?_
  refine tk_istore X d_Law_law_388 (by decide) rfl ?_
  refine tk_aload_n X d_Law_law_390 rfl rfl ?_
  refine tk_aload_n X d_Law_law_391 rfl rfl ?_
  refine tk_iload X d_Law_law_392 rfl ?_
  refine tk_iconst (v := 1) X d_Law_law_394 (by decide) ?_
  refine tk_iadd X d_Law_law_395 ?_
  refine kx_sld X hX hbl hS.1.1 hS.1.2 d_Law_law_396 ?_
  refine tk_aload_n X d_Law_law_397 rfl rfl ?_
  refine tk_iload X d_Law_law_398 rfl ?_
  refine tk_iconst (v := 2) X d_Law_law_400 (by decide) ?_
  refine tk_iadd X d_Law_law_401 ?_
  refine kx_sld X hX hbl hS.2.1.1 hS.2.1.2 d_Law_law_402 ?_
  refine tk_callV X (kb := (12, 0, 0)) (ks_d0 (by decide)) rfl hc_Model (c_Model_jump l P hP c hc x2 (k_jumpto a c x2) a o hd) (lk_site (n := 2) mc_Model_jump mi_Model (by decide +kernel) (by decide) (by decide)) m_Law_79 ms_Model_jump mv_Model_jump rfl (Nat.le_of_ble_eq_true rfl) (by first | exact hq1 | exact hq0) rfl d_Law_law_403 ?_
  refine tk_aload_n X d_Law_law_406 rfl rfl ?_
  refine tk_callV X (kb := (12, 0, 0)) (ks_d0 (by decide)) rfl hc_Model (c_Model_thrown l P hP (k_jumpto a c x2) (k_jumpto a c x2) (o.1, 0)) (lk_site (n := 0) mc_Model_thrown mi_Model (by decide +kernel) (by decide) (by decide)) m_Law_56 ms_Model_thrown mv_Model_thrown rfl (Nat.le_of_ble_eq_true rfl) (by first | exact hq1 | exact hq0) rfl d_Law_law_407 ?_
  refine tk_iload X d_Law_law_410 rfl ?_
  refine tk_icmp_eq (tgt := 417) X d_Law_law_412 (by decide) (fun _ => ?_) (fun h => absurd rfl h)
  refine tk_goto (tgt := 686) X d_Law_law_417 (by decide) ?_
  refine tk_widen (k := cells + 1) (n := slots + 6) (by first | exact Nat.le_refl _ | exact Nat.le_add_right _ _) (by first | exact Nat.le_refl _ | exact Nat.le_add_right _ _) ?_
  exact kend _ _ _ _ (j_jumpto hJ c x2)
end LQ

section LQ
variable {p : Program} {l : Launch} {e : Env} {s : State} {m : MethodId} {args : Array Value} {below : List Frame} {meth : Method} {c0 : Code} {P : ks_P} {cells slots : Nat} {Q : State → Prop}
set_option maxRecDepth 100000 in
set_option maxHeartbeats 4000000 in
theorem la_jumpD (X : tk_X p m c0 s args (ks_G P) R_Law b_Law_law 7 WS) (hZ : xt_Z (ks_G P) s) (hst : l.stackTraces = false) (hP : ks_ok P) {b0 Ln : Nat} {xs : Nat → Int32} (hX : va_X b0 Ln xs s (tk_h0 (ks_G P))) (hbl : b0 < (tk_h0 (ks_G P)).size) (hq0 : cells ≤ room_1.cells ∧ slots ≤ room_1.slots) (hq1 : cells + 1 ≤ room_1.cells ∧ slots + 6 ≤ room_1.slots) {i : Nat} {c : Nat} (hc : c < ks_n P) {x2 x3 x4 : Int32} (hS : la_S xs Ln i (nI c) x2 x3 x4) (a : ks_M) (o : ks_O) (hJ : j_J (ks_n P) (ks_S P) (ks_W P) a) (hd : ¬ a (4, c, 0) 8 ≤ 0) (t5 t6 : Option Value) (kend : ∀ (a : ks_M) (o : ks_O) (t5 t6 : Option Value), j_J (ks_n P) (ks_S P) (ks_W P) a → tk_go p l e room_1 s m args below meth c0 (ks_G P) (ks_dm P) 7 (cells + 1) (slots + 6) Q (ks_sl P a a o) 686 [some (.ref b0), some (.ref (tk_ad (ks_G P) (0, 0, 0))), some (.ref (tk_ad (ks_G P) (12, 0, 0))), some (.ref (tk_ad (ks_G P) (28, 0, 0))), some (.int (nI i)), t5, t6] []) : tk_go p l e room_1 s m args below meth c0 (ks_G P) (ks_dm P) 7 cells slots Q (ks_sl P a a o) 372 [some (.ref b0), some (.ref (tk_ad (ks_G P) (0, 0, 0))), some (.ref (tk_ad (ks_G P) (12, 0, 0))), some (.ref (tk_ad (ks_G P) (28, 0, 0))), some (.int (nI i)), t5, t6] [] := by
  have hn64 := ks_n64 hP
  have hT64 := ks_T64 hP
  refine tk_aload_n X d_Law_law_372 rfl rfl ?_
  refine tk_aload_n X d_Law_law_373 rfl rfl ?_
  refine tk_iload X d_Law_law_374 rfl ?_
  refine tk_iconst (v := 1) X d_Law_law_376 (by decide) ?_
  refine tk_iadd X d_Law_law_377 ?_
  refine kx_sld X hX hbl hS.1.1 hS.1.2 d_Law_law_378 ?_
  refine tk_aload_n X d_Law_law_379 rfl rfl ?_
  refine tk_iload X d_Law_law_380 rfl ?_
  refine tk_iconst (v := 2) X d_Law_law_382 (by decide) ?_
  refine tk_iadd X d_Law_law_383 ?_
  refine kx_sld X hX hbl hS.2.1.1 hS.2.1.2 d_Law_law_384 ?_
  refine xw_call X hZ (n := 3) (w_jumpD l hst P hP c hc x2 a a o hd) mw_jump mi_Law m_Law_76 ms_Law_jump (by decide +kernel) ⟨by decide, by decide⟩ rfl (Nat.le_of_ble_eq_true rfl) hq1 rfl d_Law_law_385 ?_
  refine tk_istore X d_Law_law_388 (by decide) rfl ?_
  refine tk_aload_n X d_Law_law_390 rfl rfl ?_
  refine tk_aload_n X d_Law_law_391 rfl rfl ?_
  refine tk_iload X d_Law_law_392 rfl ?_
  refine tk_iconst (v := 1) X d_Law_law_394 (by decide) ?_
  refine tk_iadd X d_Law_law_395 ?_
  refine kx_sld X hX hbl hS.1.1 hS.1.2 d_Law_law_396 ?_
  refine tk_aload_n X d_Law_law_397 rfl rfl ?_
  refine tk_iload X d_Law_law_398 rfl ?_
  refine tk_iconst (v := 2) X d_Law_law_400 (by decide) ?_
  refine tk_iadd X d_Law_law_401 ?_
  refine kx_sld X hX hbl hS.2.1.1 hS.2.1.2 d_Law_law_402 ?_
  refine tk_callV X (kb := (12, 0, 0)) (ks_d0 (by decide)) rfl hc_Model (c_Model_jumpD l P hP c hc x2 a a o hd) (lk_site (n := 2) mc_Model_jump mi_Model (by decide +kernel) (by decide) (by decide)) m_Law_79 ms_Model_jump mv_Model_jump rfl (Nat.le_of_ble_eq_true rfl) (by first | exact hq1 | exact hq0) rfl d_Law_law_403 ?_
  refine tk_aload_n X d_Law_law_406 rfl rfl ?_
  refine tk_callV X (kb := (12, 0, 0)) (ks_d0 (by decide)) rfl hc_Model (c_Model_thrown l P hP a a (o.1, 2)) (lk_site (n := 0) mc_Model_thrown mi_Model (by decide +kernel) (by decide) (by decide)) m_Law_56 ms_Model_thrown mv_Model_thrown rfl (Nat.le_of_ble_eq_true rfl) (by first | exact hq1 | exact hq0) rfl d_Law_law_407 ?_
  refine tk_iload X d_Law_law_410 rfl ?_
  refine tk_icmp_eq (tgt := 417) X d_Law_law_412 (by decide) (fun _ => ?_) (fun h => absurd rfl h)
  refine tk_goto (tgt := 686) X d_Law_law_417 (by decide) ?_
  refine tk_widen (k := cells + 1) (n := slots + 6) (by first | exact Nat.le_refl _ | exact Nat.le_add_right _ _) (by first | exact Nat.le_refl _ | exact Nat.le_add_right _ _) ?_
  exact kend _ _ _ _ hJ
end LQ

section LQ
variable {p : Program} {l : Launch} {e : Env} {s : State} {m : MethodId} {args : Array Value} {below : List Frame} {meth : Method} {c0 : Code} {P : ks_P} {cells slots : Nat} {Q : State → Prop}
set_option maxRecDepth 100000 in
set_option maxHeartbeats 4000000 in
theorem la_jumpX (X : tk_X p m c0 s args (ks_G P) R_Law b_Law_law 7 WS) (hZ : xt_Z (ks_G P) s) (hst : l.stackTraces = false) (hP : ks_ok P) {b0 Ln : Nat} {xs : Nat → Int32} (hX : va_X b0 Ln xs s (tk_h0 (ks_G P))) (hbl : b0 < (tk_h0 (ks_G P)).size) (hq0 : cells ≤ room_1.cells ∧ slots ≤ room_1.slots) (hq1 : cells + 1 ≤ room_1.cells ∧ slots + 6 ≤ room_1.slots) {i : Nat} {x1 : Int32} (hx : x1 < 0 ∨ nI (ks_n P) ≤ x1) {x2 x3 x4 : Int32} (hS : la_S xs Ln i x1 x2 x3 x4) (a : ks_M) (o : ks_O) (hJ : j_J (ks_n P) (ks_S P) (ks_W P) a)  (t5 t6 : Option Value) (kend : ∀ (a : ks_M) (o : ks_O) (t5 t6 : Option Value), j_J (ks_n P) (ks_S P) (ks_W P) a → tk_go p l e room_1 s m args below meth c0 (ks_G P) (ks_dm P) 7 (cells + 1) (slots + 6) Q (ks_sl P a a o) 686 [some (.ref b0), some (.ref (tk_ad (ks_G P) (0, 0, 0))), some (.ref (tk_ad (ks_G P) (12, 0, 0))), some (.ref (tk_ad (ks_G P) (28, 0, 0))), some (.int (nI i)), t5, t6] []) : tk_go p l e room_1 s m args below meth c0 (ks_G P) (ks_dm P) 7 cells slots Q (ks_sl P a a o) 372 [some (.ref b0), some (.ref (tk_ad (ks_G P) (0, 0, 0))), some (.ref (tk_ad (ks_G P) (12, 0, 0))), some (.ref (tk_ad (ks_G P) (28, 0, 0))), some (.int (nI i)), t5, t6] [] := by
  have hn64 := ks_n64 hP
  have hT64 := ks_T64 hP
  refine tk_aload_n X d_Law_law_372 rfl rfl ?_
  refine tk_aload_n X d_Law_law_373 rfl rfl ?_
  refine tk_iload X d_Law_law_374 rfl ?_
  refine tk_iconst (v := 1) X d_Law_law_376 (by decide) ?_
  refine tk_iadd X d_Law_law_377 ?_
  refine kx_sld X hX hbl hS.1.1 hS.1.2 d_Law_law_378 ?_
  refine tk_aload_n X d_Law_law_379 rfl rfl ?_
  refine tk_iload X d_Law_law_380 rfl ?_
  refine tk_iconst (v := 2) X d_Law_law_382 (by decide) ?_
  refine tk_iadd X d_Law_law_383 ?_
  refine kx_sld X hX hbl hS.2.1.1 hS.2.1.2 d_Law_law_384 ?_
  refine xw_call X hZ (n := 3) (w_jumpX l hst P hP x1 hx x2 a a o) mw_jump mi_Law m_Law_76 ms_Law_jump (by decide +kernel) ⟨by decide, by decide⟩ rfl (Nat.le_of_ble_eq_true rfl) hq1 rfl d_Law_law_385 ?_
  refine tk_istore X d_Law_law_388 (by decide) rfl ?_
  refine tk_aload_n X d_Law_law_390 rfl rfl ?_
  refine tk_aload_n X d_Law_law_391 rfl rfl ?_
  refine tk_iload X d_Law_law_392 rfl ?_
  refine tk_iconst (v := 1) X d_Law_law_394 (by decide) ?_
  refine tk_iadd X d_Law_law_395 ?_
  refine kx_sld X hX hbl hS.1.1 hS.1.2 d_Law_law_396 ?_
  refine tk_aload_n X d_Law_law_397 rfl rfl ?_
  refine tk_iload X d_Law_law_398 rfl ?_
  refine tk_iconst (v := 2) X d_Law_law_400 (by decide) ?_
  refine tk_iadd X d_Law_law_401 ?_
  refine kx_sld X hX hbl hS.2.1.1 hS.2.1.2 d_Law_law_402 ?_
  refine tk_callV X (kb := (12, 0, 0)) (ks_d0 (by decide)) rfl hc_Model (c_Model_jumpX l P hP x1 hx x2 a a o) (lk_site (n := 2) mc_Model_jump mi_Model (by decide +kernel) (by decide) (by decide)) m_Law_79 ms_Model_jump mv_Model_jump rfl (Nat.le_of_ble_eq_true rfl) (by first | exact hq1 | exact hq0) rfl d_Law_law_403 ?_
  refine tk_aload_n X d_Law_law_406 rfl rfl ?_
  refine tk_callV X (kb := (12, 0, 0)) (ks_d0 (by decide)) rfl hc_Model (c_Model_thrown l P hP a a (o.1, 1)) (lk_site (n := 0) mc_Model_thrown mi_Model (by decide +kernel) (by decide) (by decide)) m_Law_56 ms_Model_thrown mv_Model_thrown rfl (Nat.le_of_ble_eq_true rfl) (by first | exact hq1 | exact hq0) rfl d_Law_law_407 ?_
  refine tk_iload X d_Law_law_410 rfl ?_
  refine tk_icmp_eq (tgt := 417) X d_Law_law_412 (by decide) (fun _ => ?_) (fun h => absurd rfl h)
  refine tk_goto (tgt := 686) X d_Law_law_417 (by decide) ?_
  refine tk_widen (k := cells + 1) (n := slots + 6) (by first | exact Nat.le_refl _ | exact Nat.le_add_right _ _) (by first | exact Nat.le_refl _ | exact Nat.le_add_right _ _) ?_
  exact kend _ _ _ _ hJ
end LQ

section LQ
variable {p : Program} {l : Launch} {e : Env} {s : State} {m : MethodId} {args : Array Value} {below : List Frame} {meth : Method} {c0 : Code} {P : ks_P} {cells slots : Nat} {Q : State → Prop}
set_option maxRecDepth 100000 in
set_option maxHeartbeats 4000000 in
theorem la_register (X : tk_X p m c0 s args (ks_G P) R_Law b_Law_law 7 WS) (hZ : xt_Z (ks_G P) s) (hst : l.stackTraces = false) (hP : ks_ok P) {b0 Ln : Nat} {xs : Nat → Int32} (hX : va_X b0 Ln xs s (tk_h0 (ks_G P))) (hbl : b0 < (tk_h0 (ks_G P)).size) (hq0 : cells ≤ room_1.cells ∧ slots ≤ room_1.slots) (hq1 : cells + 1 ≤ room_1.cells ∧ slots + 6 ≤ room_1.slots) {i : Nat} {c : Nat} (hc : c < ks_n P) {k : Nat} (hk : k < 11) {x3 x4 : Int32} (hS : la_S xs Ln i (nI c) (nI k) x3 x4) (a : ks_M) (o : ks_O) (hJ : j_J (ks_n P) (ks_S P) (ks_W P) a)  (t5 t6 : Option Value) (kend : ∀ (a : ks_M) (o : ks_O) (t5 t6 : Option Value), j_J (ks_n P) (ks_S P) (ks_W P) a → tk_go p l e room_1 s m args below meth c0 (ks_G P) (ks_dm P) 7 (cells + 1) (slots + 6) Q (ks_sl P a a o) 686 [some (.ref b0), some (.ref (tk_ad (ks_G P) (0, 0, 0))), some (.ref (tk_ad (ks_G P) (12, 0, 0))), some (.ref (tk_ad (ks_G P) (28, 0, 0))), some (.int (nI i)), t5, t6] []) : tk_go p l e room_1 s m args below meth c0 (ks_G P) (ks_dm P) 7 cells slots Q (ks_sl P a a o) 420 [some (.ref b0), some (.ref (tk_ad (ks_G P) (0, 0, 0))), some (.ref (tk_ad (ks_G P) (12, 0, 0))), some (.ref (tk_ad (ks_G P) (28, 0, 0))), some (.int (nI i)), t5, t6] [] := by
  have hn64 := ks_n64 hP
  have hT64 := ks_T64 hP
  refine tk_aload_n X d_Law_law_420 rfl rfl ?_
  refine tk_aload_n X d_Law_law_421 rfl rfl ?_
  refine tk_iload X d_Law_law_422 rfl ?_
  refine tk_iconst (v := 1) X d_Law_law_424 (by decide) ?_
  refine tk_iadd X d_Law_law_425 ?_
  refine kx_sld X hX hbl hS.1.1 hS.1.2 d_Law_law_426 ?_
  refine tk_aload_n X d_Law_law_427 rfl rfl ?_
  refine tk_iload X d_Law_law_428 rfl ?_
  refine tk_iconst (v := 2) X d_Law_law_430 (by decide) ?_
  refine tk_iadd X d_Law_law_431 ?_
  refine kx_sld X hX hbl hS.2.1.1 hS.2.1.2 d_Law_law_432 ?_
  refine tk_aload_n X d_Law_law_433 rfl rfl ?_
  refine xw_call X hZ (n := 4) (w_register l hst P hP c hc k hk a a o) mw_register mi_Law m_Law_80 ms_Law_register (by decide +kernel) ⟨by decide, by decide⟩ rfl (Nat.le_of_ble_eq_true rfl) hq1 rfl d_Law_law_434 ?_
  refine tk_istore X d_Law_law_437 (by decide) rfl ?_
  refine tk_aload_n X d_Law_law_439 rfl rfl ?_
  refine tk_aload_n X d_Law_law_440 rfl rfl ?_
  refine tk_iload X d_Law_law_441 rfl ?_
  refine tk_iconst (v := 1) X d_Law_law_443 (by decide) ?_
  refine tk_iadd X d_Law_law_444 ?_
  refine kx_sld X hX hbl hS.1.1 hS.1.2 d_Law_law_445 ?_
  refine tk_aload_n X d_Law_law_446 rfl rfl ?_
  refine tk_iload X d_Law_law_447 rfl ?_
  refine tk_iconst (v := 2) X d_Law_law_449 (by decide) ?_
  refine tk_iadd X d_Law_law_450 ?_
  refine kx_sld X hX hbl hS.2.1.1 hS.2.1.2 d_Law_law_451 ?_
  refine tk_callV X (kb := (12, 0, 0)) (ks_d0 (by decide)) rfl hc_Model (c_Model_register l P hP c hc k hk a a ((k_regq a c k).toInt64, o.2)) (lk_site (n := 2) mc_Model_register mi_Model (by decide +kernel) (by decide) (by decide)) m_Law_82 ms_Model_register mv_Model_register rfl (Nat.le_of_ble_eq_true rfl) (by first | exact hq1 | exact hq0) rfl d_Law_law_452 ?_
  refine tk_istore X d_Law_law_455 (by decide) rfl ?_
  refine tk_aload_n X d_Law_law_457 rfl rfl ?_
  refine tk_callV X (kb := (12, 0, 0)) (ks_d0 (by decide)) rfl hc_Model (c_Model_thrown l P hP a a (((k_regq a c k)).toInt64, (0 : Int32))) (lk_site (n := 0) mc_Model_thrown mi_Model (by decide +kernel) (by decide) (by decide)) m_Law_56 ms_Model_thrown mv_Model_thrown rfl (Nat.le_of_ble_eq_true rfl) (by first | exact hq1 | exact hq0) rfl d_Law_law_458 ?_
  refine tk_iload X d_Law_law_461 rfl ?_
  refine tk_icmp_eq (tgt := 468) X d_Law_law_463 (by decide) (fun _ => ?_) (fun h => absurd rfl h)
  refine tk_iload X d_Law_law_468 rfl ?_
  refine tk_if_ne (tgt := 485) X d_Law_law_470 (by decide) (fun h => absurd (rfl : (0 : Int32) = 0) h) (fun _ => ?_)
  refine tk_aload_n X d_Law_law_473 rfl rfl ?_
  refine tk_iconst (v := 0) X d_Law_law_474 (by decide) ?_
  refine kx_lald X d_Law_law_475 ?_
  refine tk_iload X d_Law_law_476 rfl ?_
  refine tk_i2l X d_Law_law_478 rfl ?_
  refine tk_lcmp X d_Law_law_479 rfl ?_
  refine tk_if_eq (tgt := 485) X d_Law_law_480 (by decide) (fun _ => ?_) (fun h => absurd (lg_cmp_self _) h)
  refine tk_goto (tgt := 686) X d_Law_law_485 (by decide) ?_
  refine tk_widen (k := cells + 1) (n := slots + 6) (by first | exact Nat.le_refl _ | exact Nat.le_add_right _ _) (by first | exact Nat.le_refl _ | exact Nat.le_add_right _ _) ?_
  exact kend _ _ _ _ hJ
end LQ

section LQ
variable {p : Program} {l : Launch} {e : Env} {s : State} {m : MethodId} {args : Array Value} {below : List Frame} {meth : Method} {c0 : Code} {P : ks_P} {cells slots : Nat} {Q : State → Prop}
set_option maxRecDepth 100000 in
set_option maxHeartbeats 4000000 in
theorem la_registerX (X : tk_X p m c0 s args (ks_G P) R_Law b_Law_law 7 WS) (hZ : xt_Z (ks_G P) s) (hst : l.stackTraces = false) (hP : ks_ok P) {b0 Ln : Nat} {xs : Nat → Int32} (hX : va_X b0 Ln xs s (tk_h0 (ks_G P))) (hbl : b0 < (tk_h0 (ks_G P)).size) (hq0 : cells ≤ room_1.cells ∧ slots ≤ room_1.slots) (hq1 : cells + 1 ≤ room_1.cells ∧ slots + 6 ≤ room_1.slots) {i : Nat} {x1 : Int32} (hx : x1 < 0 ∨ nI (ks_n P) ≤ x1) {x2 x3 x4 : Int32} (hS : la_S xs Ln i x1 x2 x3 x4) (a : ks_M) (o : ks_O) (hJ : j_J (ks_n P) (ks_S P) (ks_W P) a)  (t5 t6 : Option Value) (kend : ∀ (a : ks_M) (o : ks_O) (t5 t6 : Option Value), j_J (ks_n P) (ks_S P) (ks_W P) a → tk_go p l e room_1 s m args below meth c0 (ks_G P) (ks_dm P) 7 (cells + 1) (slots + 6) Q (ks_sl P a a o) 686 [some (.ref b0), some (.ref (tk_ad (ks_G P) (0, 0, 0))), some (.ref (tk_ad (ks_G P) (12, 0, 0))), some (.ref (tk_ad (ks_G P) (28, 0, 0))), some (.int (nI i)), t5, t6] []) : tk_go p l e room_1 s m args below meth c0 (ks_G P) (ks_dm P) 7 cells slots Q (ks_sl P a a o) 420 [some (.ref b0), some (.ref (tk_ad (ks_G P) (0, 0, 0))), some (.ref (tk_ad (ks_G P) (12, 0, 0))), some (.ref (tk_ad (ks_G P) (28, 0, 0))), some (.int (nI i)), t5, t6] [] := by
  have hn64 := ks_n64 hP
  have hT64 := ks_T64 hP
  refine tk_aload_n X d_Law_law_420 rfl rfl ?_
  refine tk_aload_n X d_Law_law_421 rfl rfl ?_
  refine tk_iload X d_Law_law_422 rfl ?_
  refine tk_iconst (v := 1) X d_Law_law_424 (by decide) ?_
  refine tk_iadd X d_Law_law_425 ?_
  refine kx_sld X hX hbl hS.1.1 hS.1.2 d_Law_law_426 ?_
  refine tk_aload_n X d_Law_law_427 rfl rfl ?_
  refine tk_iload X d_Law_law_428 rfl ?_
  refine tk_iconst (v := 2) X d_Law_law_430 (by decide) ?_
  refine tk_iadd X d_Law_law_431 ?_
  refine kx_sld X hX hbl hS.2.1.1 hS.2.1.2 d_Law_law_432 ?_
  refine tk_aload_n X d_Law_law_433 rfl rfl ?_
  refine xw_call X hZ (n := 4) (w_registerX l hst P hP x1 hx x2 a a o) mw_register mi_Law m_Law_80 ms_Law_register (by decide +kernel) ⟨by decide, by decide⟩ rfl (Nat.le_of_ble_eq_true rfl) hq1 rfl d_Law_law_434 ?_
  refine tk_istore X d_Law_law_437 (by decide) rfl ?_
  refine tk_aload_n X d_Law_law_439 rfl rfl ?_
  refine tk_aload_n X d_Law_law_440 rfl rfl ?_
  refine tk_iload X d_Law_law_441 rfl ?_
  refine tk_iconst (v := 1) X d_Law_law_443 (by decide) ?_
  refine tk_iadd X d_Law_law_444 ?_
  refine kx_sld X hX hbl hS.1.1 hS.1.2 d_Law_law_445 ?_
  refine tk_aload_n X d_Law_law_446 rfl rfl ?_
  refine tk_iload X d_Law_law_447 rfl ?_
  refine tk_iconst (v := 2) X d_Law_law_449 (by decide) ?_
  refine tk_iadd X d_Law_law_450 ?_
  refine kx_sld X hX hbl hS.2.1.1 hS.2.1.2 d_Law_law_451 ?_
  refine tk_callV X (kb := (12, 0, 0)) (ks_d0 (by decide)) rfl hc_Model (c_Model_registerX l P hP x1 hx x2 a a o) (lk_site (n := 2) mc_Model_register mi_Model (by decide +kernel) (by decide) (by decide)) m_Law_82 ms_Model_register mv_Model_register rfl (Nat.le_of_ble_eq_true rfl) (by first | exact hq1 | exact hq0) rfl d_Law_law_452 ?_
  refine tk_istore X d_Law_law_455 (by decide) rfl ?_
  refine tk_aload_n X d_Law_law_457 rfl rfl ?_
  refine tk_callV X (kb := (12, 0, 0)) (ks_d0 (by decide)) rfl hc_Model (c_Model_thrown l P hP a a (o.1, 1)) (lk_site (n := 0) mc_Model_thrown mi_Model (by decide +kernel) (by decide) (by decide)) m_Law_56 ms_Model_thrown mv_Model_thrown rfl (Nat.le_of_ble_eq_true rfl) (by first | exact hq1 | exact hq0) rfl d_Law_law_458 ?_
  refine tk_iload X d_Law_law_461 rfl ?_
  refine tk_icmp_eq (tgt := 468) X d_Law_law_463 (by decide) (fun _ => ?_) (fun h => absurd rfl h)
  refine tk_iload X d_Law_law_468 rfl ?_
  refine tk_if_ne (tgt := 485) X d_Law_law_470 (by decide) (fun _ => ?_) (fun h => absurd h (by decide : ¬ ((1 : Int32) = 0)))
  refine tk_goto (tgt := 686) X d_Law_law_485 (by decide) ?_
  refine tk_widen (k := cells + 1) (n := slots + 6) (by first | exact Nat.le_refl _ | exact Nat.le_add_right _ _) (by first | exact Nat.le_refl _ | exact Nat.le_add_right _ _) ?_
  exact kend _ _ _ _ hJ
end LQ

section LQ
variable {p : Program} {l : Launch} {e : Env} {s : State} {m : MethodId} {args : Array Value} {below : List Frame} {meth : Method} {c0 : Code} {P : ks_P} {cells slots : Nat} {Q : State → Prop}
set_option maxRecDepth 100000 in
set_option maxHeartbeats 4000000 in
theorem la_registerY (X : tk_X p m c0 s args (ks_G P) R_Law b_Law_law 7 WS) (hZ : xt_Z (ks_G P) s) (hst : l.stackTraces = false) (hP : ks_ok P) {b0 Ln : Nat} {xs : Nat → Int32} (hX : va_X b0 Ln xs s (tk_h0 (ks_G P))) (hbl : b0 < (tk_h0 (ks_G P)).size) (hq0 : cells ≤ room_1.cells ∧ slots ≤ room_1.slots) (hq1 : cells + 1 ≤ room_1.cells ∧ slots + 6 ≤ room_1.slots) {i : Nat} {c : Nat} (hc : c < ks_n P) {x2 : Int32} (hy : x2 < 0 ∨ 11 ≤ x2) {x3 x4 : Int32} (hS : la_S xs Ln i (nI c) x2 x3 x4) (a : ks_M) (o : ks_O) (hJ : j_J (ks_n P) (ks_S P) (ks_W P) a)  (t5 t6 : Option Value) (kend : ∀ (a : ks_M) (o : ks_O) (t5 t6 : Option Value), j_J (ks_n P) (ks_S P) (ks_W P) a → tk_go p l e room_1 s m args below meth c0 (ks_G P) (ks_dm P) 7 (cells + 1) (slots + 6) Q (ks_sl P a a o) 686 [some (.ref b0), some (.ref (tk_ad (ks_G P) (0, 0, 0))), some (.ref (tk_ad (ks_G P) (12, 0, 0))), some (.ref (tk_ad (ks_G P) (28, 0, 0))), some (.int (nI i)), t5, t6] []) : tk_go p l e room_1 s m args below meth c0 (ks_G P) (ks_dm P) 7 cells slots Q (ks_sl P a a o) 420 [some (.ref b0), some (.ref (tk_ad (ks_G P) (0, 0, 0))), some (.ref (tk_ad (ks_G P) (12, 0, 0))), some (.ref (tk_ad (ks_G P) (28, 0, 0))), some (.int (nI i)), t5, t6] [] := by
  have hn64 := ks_n64 hP
  have hT64 := ks_T64 hP
  refine tk_aload_n X d_Law_law_420 rfl rfl ?_
  refine tk_aload_n X d_Law_law_421 rfl rfl ?_
  refine tk_iload X d_Law_law_422 rfl ?_
  refine tk_iconst (v := 1) X d_Law_law_424 (by decide) ?_
  refine tk_iadd X d_Law_law_425 ?_
  refine kx_sld X hX hbl hS.1.1 hS.1.2 d_Law_law_426 ?_
  refine tk_aload_n X d_Law_law_427 rfl rfl ?_
  refine tk_iload X d_Law_law_428 rfl ?_
  refine tk_iconst (v := 2) X d_Law_law_430 (by decide) ?_
  refine tk_iadd X d_Law_law_431 ?_
  refine kx_sld X hX hbl hS.2.1.1 hS.2.1.2 d_Law_law_432 ?_
  refine tk_aload_n X d_Law_law_433 rfl rfl ?_
  refine xw_call X hZ (n := 4) (w_registerY l hst P hP c hc x2 hy a a o) mw_register mi_Law m_Law_80 ms_Law_register (by decide +kernel) ⟨by decide, by decide⟩ rfl (Nat.le_of_ble_eq_true rfl) hq1 rfl d_Law_law_434 ?_
  refine tk_istore X d_Law_law_437 (by decide) rfl ?_
  refine tk_aload_n X d_Law_law_439 rfl rfl ?_
  refine tk_aload_n X d_Law_law_440 rfl rfl ?_
  refine tk_iload X d_Law_law_441 rfl ?_
  refine tk_iconst (v := 1) X d_Law_law_443 (by decide) ?_
  refine tk_iadd X d_Law_law_444 ?_
  refine kx_sld X hX hbl hS.1.1 hS.1.2 d_Law_law_445 ?_
  refine tk_aload_n X d_Law_law_446 rfl rfl ?_
  refine tk_iload X d_Law_law_447 rfl ?_
  refine tk_iconst (v := 2) X d_Law_law_449 (by decide) ?_
  refine tk_iadd X d_Law_law_450 ?_
  refine kx_sld X hX hbl hS.2.1.1 hS.2.1.2 d_Law_law_451 ?_
  refine tk_callV X (kb := (12, 0, 0)) (ks_d0 (by decide)) rfl hc_Model (c_Model_registerY l P hP c hc x2 (i_11 hy) a a o) (lk_site (n := 2) mc_Model_register mi_Model (by decide +kernel) (by decide) (by decide)) m_Law_82 ms_Model_register mv_Model_register rfl (Nat.le_of_ble_eq_true rfl) (by first | exact hq1 | exact hq0) rfl d_Law_law_452 ?_
  refine tk_istore X d_Law_law_455 (by decide) rfl ?_
  refine tk_aload_n X d_Law_law_457 rfl rfl ?_
  refine tk_callV X (kb := (12, 0, 0)) (ks_d0 (by decide)) rfl hc_Model (c_Model_thrown l P hP a a (o.1, 1)) (lk_site (n := 0) mc_Model_thrown mi_Model (by decide +kernel) (by decide) (by decide)) m_Law_56 ms_Model_thrown mv_Model_thrown rfl (Nat.le_of_ble_eq_true rfl) (by first | exact hq1 | exact hq0) rfl d_Law_law_458 ?_
  refine tk_iload X d_Law_law_461 rfl ?_
  refine tk_icmp_eq (tgt := 468) X d_Law_law_463 (by decide) (fun _ => ?_) (fun h => absurd rfl h)
  refine tk_iload X d_Law_law_468 rfl ?_
  refine tk_if_ne (tgt := 485) X d_Law_law_470 (by decide) (fun _ => ?_) (fun h => absurd h (by decide : ¬ ((1 : Int32) = 0)))
  refine tk_goto (tgt := 686) X d_Law_law_485 (by decide) ?_
  refine tk_widen (k := cells + 1) (n := slots + 6) (by first | exact Nat.le_refl _ | exact Nat.le_add_right _ _) (by first | exact Nat.le_refl _ | exact Nat.le_add_right _ _) ?_
  exact kend _ _ _ _ hJ
end LQ

section LQ
variable {p : Program} {l : Launch} {e : Env} {s : State} {m : MethodId} {args : Array Value} {below : List Frame} {meth : Method} {c0 : Code} {P : ks_P} {cells slots : Nat} {Q : State → Prop}
set_option maxRecDepth 100000 in
set_option maxHeartbeats 4000000 in
theorem la_fate (X : tk_X p m c0 s args (ks_G P) R_Law b_Law_law 7 WS) (hZ : xt_Z (ks_G P) s) (hst : l.stackTraces = false) (hP : ks_ok P) {b0 Ln : Nat} {xs : Nat → Int32} (hX : va_X b0 Ln xs s (tk_h0 (ks_G P))) (hbl : b0 < (tk_h0 (ks_G P)).size) (hq0 : cells ≤ room_1.cells ∧ slots ≤ room_1.slots) (hq1 : cells + 1 ≤ room_1.cells ∧ slots + 6 ≤ room_1.slots) {i : Nat} {c : Nat} (hc : c < ks_n P) {k : Nat} (hk : k < 6) {x3 x4 : Int32} (hS : la_S xs Ln i (nI c) (nI k) x3 x4) (a : ks_M) (o : ks_O) (hJ : j_J (ks_n P) (ks_S P) (ks_W P) a)  (t5 t6 : Option Value) (kend : ∀ (a : ks_M) (o : ks_O) (t5 t6 : Option Value), j_J (ks_n P) (ks_S P) (ks_W P) a → tk_go p l e room_1 s m args below meth c0 (ks_G P) (ks_dm P) 7 (cells + 1) (slots + 6) Q (ks_sl P a a o) 686 [some (.ref b0), some (.ref (tk_ad (ks_G P) (0, 0, 0))), some (.ref (tk_ad (ks_G P) (12, 0, 0))), some (.ref (tk_ad (ks_G P) (28, 0, 0))), some (.int (nI i)), t5, t6] []) : tk_go p l e room_1 s m args below meth c0 (ks_G P) (ks_dm P) 7 cells slots Q (ks_sl P a a o) 488 [some (.ref b0), some (.ref (tk_ad (ks_G P) (0, 0, 0))), some (.ref (tk_ad (ks_G P) (12, 0, 0))), some (.ref (tk_ad (ks_G P) (28, 0, 0))), some (.int (nI i)), t5, t6] [] := by
  have hn64 := ks_n64 hP
  have hT64 := ks_T64 hP
  refine tk_aload_n X d_Law_law_488 rfl rfl ?_
  refine tk_aload_n X d_Law_law_489 rfl rfl ?_
  refine tk_iload X d_Law_law_490 rfl ?_
  refine tk_iconst (v := 1) X d_Law_law_492 (by decide) ?_
  refine tk_iadd X d_Law_law_493 ?_
  refine kx_sld X hX hbl hS.1.1 hS.1.2 d_Law_law_494 ?_
  refine tk_aload_n X d_Law_law_495 rfl rfl ?_
  refine tk_iload X d_Law_law_496 rfl ?_
  refine tk_iconst (v := 2) X d_Law_law_498 (by decide) ?_
  refine tk_iadd X d_Law_law_499 ?_
  refine kx_sld X hX hbl hS.2.1.1 hS.2.1.2 d_Law_law_500 ?_
  refine tk_aload_n X d_Law_law_501 rfl rfl ?_
  refine xw_call X hZ (n := 4) (w_fate l hst P hP c hc k hk a a o) mw_fate mi_Law m_Law_83 ms_Law_fate (by decide +kernel) ⟨by decide, by decide⟩ rfl (Nat.le_of_ble_eq_true rfl) hq1 rfl d_Law_law_502 ?_
  refine tk_istore X d_Law_law_505 (by decide) rfl ?_
  refine tk_aload_n X d_Law_law_507 rfl rfl ?_
  refine tk_aload_n X d_Law_law_508 rfl rfl ?_
  refine tk_iload X d_Law_law_509 rfl ?_
  refine tk_iconst (v := 1) X d_Law_law_511 (by decide) ?_
  refine tk_iadd X d_Law_law_512 ?_
  refine kx_sld X hX hbl hS.1.1 hS.1.2 d_Law_law_513 ?_
  refine tk_aload_n X d_Law_law_514 rfl rfl ?_
  refine tk_iload X d_Law_law_515 rfl ?_
  refine tk_iconst (v := 2) X d_Law_law_517 (by decide) ?_
  refine tk_iadd X d_Law_law_518 ?_
  refine kx_sld X hX hbl hS.2.1.1 hS.2.1.2 d_Law_law_519 ?_
  refine tk_callV X (kb := (12, 0, 0)) (ks_d0 (by decide)) rfl hc_Model (c_Model_fate l P hP c hc k hk a a ((a (11, c, 0) k).toInt64, o.2)) (lk_site (n := 2) mc_Model_fate mi_Model (by decide +kernel) (by decide) (by decide)) m_Law_85 ms_Model_fate mv_Model_fate rfl (Nat.le_of_ble_eq_true rfl) (by first | exact hq1 | exact hq0) rfl d_Law_law_520 ?_
  refine tk_istore X d_Law_law_523 (by decide) rfl ?_
  refine tk_aload_n X d_Law_law_525 rfl rfl ?_
  refine tk_callV X (kb := (12, 0, 0)) (ks_d0 (by decide)) rfl hc_Model (c_Model_thrown l P hP a a (((a (11, c, 0) k)).toInt64, (0 : Int32))) (lk_site (n := 0) mc_Model_thrown mi_Model (by decide +kernel) (by decide) (by decide)) m_Law_56 ms_Model_thrown mv_Model_thrown rfl (Nat.le_of_ble_eq_true rfl) (by first | exact hq1 | exact hq0) rfl d_Law_law_526 ?_
  refine tk_iload X d_Law_law_529 rfl ?_
  refine tk_icmp_eq (tgt := 536) X d_Law_law_531 (by decide) (fun _ => ?_) (fun h => absurd rfl h)
  refine tk_iload X d_Law_law_536 rfl ?_
  refine tk_if_ne (tgt := 553) X d_Law_law_538 (by decide) (fun h => absurd (rfl : (0 : Int32) = 0) h) (fun _ => ?_)
  refine tk_aload_n X d_Law_law_541 rfl rfl ?_
  refine tk_iconst (v := 0) X d_Law_law_542 (by decide) ?_
  refine kx_lald X d_Law_law_543 ?_
  refine tk_iload X d_Law_law_544 rfl ?_
  refine tk_i2l X d_Law_law_546 rfl ?_
  refine tk_lcmp X d_Law_law_547 rfl ?_
  refine tk_if_eq (tgt := 553) X d_Law_law_548 (by decide) (fun _ => ?_) (fun h => absurd (lg_cmp_self _) h)
  refine tk_goto (tgt := 686) X d_Law_law_553 (by decide) ?_
  refine tk_widen (k := cells + 1) (n := slots + 6) (by first | exact Nat.le_refl _ | exact Nat.le_add_right _ _) (by first | exact Nat.le_refl _ | exact Nat.le_add_right _ _) ?_
  exact kend _ _ _ _ hJ
end LQ

section LQ
variable {p : Program} {l : Launch} {e : Env} {s : State} {m : MethodId} {args : Array Value} {below : List Frame} {meth : Method} {c0 : Code} {P : ks_P} {cells slots : Nat} {Q : State → Prop}
set_option maxRecDepth 100000 in
set_option maxHeartbeats 4000000 in
theorem la_fateX (X : tk_X p m c0 s args (ks_G P) R_Law b_Law_law 7 WS) (hZ : xt_Z (ks_G P) s) (hst : l.stackTraces = false) (hP : ks_ok P) {b0 Ln : Nat} {xs : Nat → Int32} (hX : va_X b0 Ln xs s (tk_h0 (ks_G P))) (hbl : b0 < (tk_h0 (ks_G P)).size) (hq0 : cells ≤ room_1.cells ∧ slots ≤ room_1.slots) (hq1 : cells + 1 ≤ room_1.cells ∧ slots + 6 ≤ room_1.slots) {i : Nat} {x1 : Int32} (hx : x1 < 0 ∨ nI (ks_n P) ≤ x1) {x2 x3 x4 : Int32} (hS : la_S xs Ln i x1 x2 x3 x4) (a : ks_M) (o : ks_O) (hJ : j_J (ks_n P) (ks_S P) (ks_W P) a)  (t5 t6 : Option Value) (kend : ∀ (a : ks_M) (o : ks_O) (t5 t6 : Option Value), j_J (ks_n P) (ks_S P) (ks_W P) a → tk_go p l e room_1 s m args below meth c0 (ks_G P) (ks_dm P) 7 (cells + 1) (slots + 6) Q (ks_sl P a a o) 686 [some (.ref b0), some (.ref (tk_ad (ks_G P) (0, 0, 0))), some (.ref (tk_ad (ks_G P) (12, 0, 0))), some (.ref (tk_ad (ks_G P) (28, 0, 0))), some (.int (nI i)), t5, t6] []) : tk_go p l e room_1 s m args below meth c0 (ks_G P) (ks_dm P) 7 cells slots Q (ks_sl P a a o) 488 [some (.ref b0), some (.ref (tk_ad (ks_G P) (0, 0, 0))), some (.ref (tk_ad (ks_G P) (12, 0, 0))), some (.ref (tk_ad (ks_G P) (28, 0, 0))), some (.int (nI i)), t5, t6] [] := by
  have hn64 := ks_n64 hP
  have hT64 := ks_T64 hP
  refine tk_aload_n X d_Law_law_488 rfl rfl ?_
  refine tk_aload_n X d_Law_law_489 rfl rfl ?_
  refine tk_iload X d_Law_law_490 rfl ?_
  refine tk_iconst (v := 1) X d_Law_law_492 (by decide) ?_
  refine tk_iadd X d_Law_law_493 ?_
  refine kx_sld X hX hbl hS.1.1 hS.1.2 d_Law_law_494 ?_
  refine tk_aload_n X d_Law_law_495 rfl rfl ?_
  refine tk_iload X d_Law_law_496 rfl ?_
  refine tk_iconst (v := 2) X d_Law_law_498 (by decide) ?_
  refine tk_iadd X d_Law_law_499 ?_
  refine kx_sld X hX hbl hS.2.1.1 hS.2.1.2 d_Law_law_500 ?_
  refine tk_aload_n X d_Law_law_501 rfl rfl ?_
  refine xw_call X hZ (n := 4) (w_fateX l hst P hP x1 hx x2 a a o) mw_fate mi_Law m_Law_83 ms_Law_fate (by decide +kernel) ⟨by decide, by decide⟩ rfl (Nat.le_of_ble_eq_true rfl) hq1 rfl d_Law_law_502 ?_
  refine tk_istore X d_Law_law_505 (by decide) rfl ?_
  refine tk_aload_n X d_Law_law_507 rfl rfl ?_
  refine tk_aload_n X d_Law_law_508 rfl rfl ?_
  refine tk_iload X d_Law_law_509 rfl ?_
  refine tk_iconst (v := 1) X d_Law_law_511 (by decide) ?_
  refine tk_iadd X d_Law_law_512 ?_
  refine kx_sld X hX hbl hS.1.1 hS.1.2 d_Law_law_513 ?_
  refine tk_aload_n X d_Law_law_514 rfl rfl ?_
  refine tk_iload X d_Law_law_515 rfl ?_
  refine tk_iconst (v := 2) X d_Law_law_517 (by decide) ?_
  refine tk_iadd X d_Law_law_518 ?_
  refine kx_sld X hX hbl hS.2.1.1 hS.2.1.2 d_Law_law_519 ?_
  refine tk_callV X (kb := (12, 0, 0)) (ks_d0 (by decide)) rfl hc_Model (c_Model_fateX l P hP x1 hx x2 a a o) (lk_site (n := 2) mc_Model_fate mi_Model (by decide +kernel) (by decide) (by decide)) m_Law_85 ms_Model_fate mv_Model_fate rfl (Nat.le_of_ble_eq_true rfl) (by first | exact hq1 | exact hq0) rfl d_Law_law_520 ?_
  refine tk_istore X d_Law_law_523 (by decide) rfl ?_
  refine tk_aload_n X d_Law_law_525 rfl rfl ?_
  refine tk_callV X (kb := (12, 0, 0)) (ks_d0 (by decide)) rfl hc_Model (c_Model_thrown l P hP a a (o.1, 1)) (lk_site (n := 0) mc_Model_thrown mi_Model (by decide +kernel) (by decide) (by decide)) m_Law_56 ms_Model_thrown mv_Model_thrown rfl (Nat.le_of_ble_eq_true rfl) (by first | exact hq1 | exact hq0) rfl d_Law_law_526 ?_
  refine tk_iload X d_Law_law_529 rfl ?_
  refine tk_icmp_eq (tgt := 536) X d_Law_law_531 (by decide) (fun _ => ?_) (fun h => absurd rfl h)
  refine tk_iload X d_Law_law_536 rfl ?_
  refine tk_if_ne (tgt := 553) X d_Law_law_538 (by decide) (fun _ => ?_) (fun h => absurd h (by decide : ¬ ((1 : Int32) = 0)))
  refine tk_goto (tgt := 686) X d_Law_law_553 (by decide) ?_
  refine tk_widen (k := cells + 1) (n := slots + 6) (by first | exact Nat.le_refl _ | exact Nat.le_add_right _ _) (by first | exact Nat.le_refl _ | exact Nat.le_add_right _ _) ?_
  exact kend _ _ _ _ hJ
end LQ

section LQ
variable {p : Program} {l : Launch} {e : Env} {s : State} {m : MethodId} {args : Array Value} {below : List Frame} {meth : Method} {c0 : Code} {P : ks_P} {cells slots : Nat} {Q : State → Prop}
set_option maxRecDepth 100000 in
set_option maxHeartbeats 4000000 in
theorem la_fateY (X : tk_X p m c0 s args (ks_G P) R_Law b_Law_law 7 WS) (hZ : xt_Z (ks_G P) s) (hst : l.stackTraces = false) (hP : ks_ok P) {b0 Ln : Nat} {xs : Nat → Int32} (hX : va_X b0 Ln xs s (tk_h0 (ks_G P))) (hbl : b0 < (tk_h0 (ks_G P)).size) (hq0 : cells ≤ room_1.cells ∧ slots ≤ room_1.slots) (hq1 : cells + 1 ≤ room_1.cells ∧ slots + 6 ≤ room_1.slots) {i : Nat} {c : Nat} (hc : c < ks_n P) {x2 : Int32} (hy : x2 < 0 ∨ 6 ≤ x2) {x3 x4 : Int32} (hS : la_S xs Ln i (nI c) x2 x3 x4) (a : ks_M) (o : ks_O) (hJ : j_J (ks_n P) (ks_S P) (ks_W P) a)  (t5 t6 : Option Value) (kend : ∀ (a : ks_M) (o : ks_O) (t5 t6 : Option Value), j_J (ks_n P) (ks_S P) (ks_W P) a → tk_go p l e room_1 s m args below meth c0 (ks_G P) (ks_dm P) 7 (cells + 1) (slots + 6) Q (ks_sl P a a o) 686 [some (.ref b0), some (.ref (tk_ad (ks_G P) (0, 0, 0))), some (.ref (tk_ad (ks_G P) (12, 0, 0))), some (.ref (tk_ad (ks_G P) (28, 0, 0))), some (.int (nI i)), t5, t6] []) : tk_go p l e room_1 s m args below meth c0 (ks_G P) (ks_dm P) 7 cells slots Q (ks_sl P a a o) 488 [some (.ref b0), some (.ref (tk_ad (ks_G P) (0, 0, 0))), some (.ref (tk_ad (ks_G P) (12, 0, 0))), some (.ref (tk_ad (ks_G P) (28, 0, 0))), some (.int (nI i)), t5, t6] [] := by
  have hn64 := ks_n64 hP
  have hT64 := ks_T64 hP
  refine tk_aload_n X d_Law_law_488 rfl rfl ?_
  refine tk_aload_n X d_Law_law_489 rfl rfl ?_
  refine tk_iload X d_Law_law_490 rfl ?_
  refine tk_iconst (v := 1) X d_Law_law_492 (by decide) ?_
  refine tk_iadd X d_Law_law_493 ?_
  refine kx_sld X hX hbl hS.1.1 hS.1.2 d_Law_law_494 ?_
  refine tk_aload_n X d_Law_law_495 rfl rfl ?_
  refine tk_iload X d_Law_law_496 rfl ?_
  refine tk_iconst (v := 2) X d_Law_law_498 (by decide) ?_
  refine tk_iadd X d_Law_law_499 ?_
  refine kx_sld X hX hbl hS.2.1.1 hS.2.1.2 d_Law_law_500 ?_
  refine tk_aload_n X d_Law_law_501 rfl rfl ?_
  refine xw_call X hZ (n := 4) (w_fateY l hst P hP c hc x2 hy a a o) mw_fate mi_Law m_Law_83 ms_Law_fate (by decide +kernel) ⟨by decide, by decide⟩ rfl (Nat.le_of_ble_eq_true rfl) hq1 rfl d_Law_law_502 ?_
  refine tk_istore X d_Law_law_505 (by decide) rfl ?_
  refine tk_aload_n X d_Law_law_507 rfl rfl ?_
  refine tk_aload_n X d_Law_law_508 rfl rfl ?_
  refine tk_iload X d_Law_law_509 rfl ?_
  refine tk_iconst (v := 1) X d_Law_law_511 (by decide) ?_
  refine tk_iadd X d_Law_law_512 ?_
  refine kx_sld X hX hbl hS.1.1 hS.1.2 d_Law_law_513 ?_
  refine tk_aload_n X d_Law_law_514 rfl rfl ?_
  refine tk_iload X d_Law_law_515 rfl ?_
  refine tk_iconst (v := 2) X d_Law_law_517 (by decide) ?_
  refine tk_iadd X d_Law_law_518 ?_
  refine kx_sld X hX hbl hS.2.1.1 hS.2.1.2 d_Law_law_519 ?_
  refine tk_callV X (kb := (12, 0, 0)) (ks_d0 (by decide)) rfl hc_Model (c_Model_fateY l P hP c hc x2 (i_6 hy) a a o) (lk_site (n := 2) mc_Model_fate mi_Model (by decide +kernel) (by decide) (by decide)) m_Law_85 ms_Model_fate mv_Model_fate rfl (Nat.le_of_ble_eq_true rfl) (by first | exact hq1 | exact hq0) rfl d_Law_law_520 ?_
  refine tk_istore X d_Law_law_523 (by decide) rfl ?_
  refine tk_aload_n X d_Law_law_525 rfl rfl ?_
  refine tk_callV X (kb := (12, 0, 0)) (ks_d0 (by decide)) rfl hc_Model (c_Model_thrown l P hP a a (o.1, 1)) (lk_site (n := 0) mc_Model_thrown mi_Model (by decide +kernel) (by decide) (by decide)) m_Law_56 ms_Model_thrown mv_Model_thrown rfl (Nat.le_of_ble_eq_true rfl) (by first | exact hq1 | exact hq0) rfl d_Law_law_526 ?_
  refine tk_iload X d_Law_law_529 rfl ?_
  refine tk_icmp_eq (tgt := 536) X d_Law_law_531 (by decide) (fun _ => ?_) (fun h => absurd rfl h)
  refine tk_iload X d_Law_law_536 rfl ?_
  refine tk_if_ne (tgt := 553) X d_Law_law_538 (by decide) (fun _ => ?_) (fun h => absurd h (by decide : ¬ ((1 : Int32) = 0)))
  refine tk_goto (tgt := 686) X d_Law_law_553 (by decide) ?_
  refine tk_widen (k := cells + 1) (n := slots + 6) (by first | exact Nat.le_refl _ | exact Nat.le_add_right _ _) (by first | exact Nat.le_refl _ | exact Nat.le_add_right _ _) ?_
  exact kend _ _ _ _ hJ
end LQ

section LQ
variable {p : Program} {l : Launch} {e : Env} {s : State} {m : MethodId} {args : Array Value} {below : List Frame} {meth : Method} {c0 : Code} {P : ks_P} {cells slots : Nat} {Q : State → Prop}
set_option maxRecDepth 100000 in
set_option maxHeartbeats 4000000 in
theorem la_way (X : tk_X p m c0 s args (ks_G P) R_Law b_Law_law 7 WS) (hZ : xt_Z (ks_G P) s) (hst : l.stackTraces = false) (hP : ks_ok P) {b0 Ln : Nat} {xs : Nat → Int32} (hX : va_X b0 Ln xs s (tk_h0 (ks_G P))) (hbl : b0 < (tk_h0 (ks_G P)).size) (hq0 : cells ≤ room_1.cells ∧ slots ≤ room_1.slots) (hq1 : cells + 1 ≤ room_1.cells ∧ slots + 6 ≤ room_1.slots) {i : Nat} {c : Nat} (hc : c < ks_n P) {t u : Nat} (ht : t < ks_S P) (hu : u < ks_W P) {v : Nat} (hv : v < 5) (hj : t * ks_W P + u < ks_T P) (hS : la_S xs Ln i (nI c) (nI t) (nI u) (nI v)) (a : ks_M) (o : ks_O) (hJ : j_J (ks_n P) (ks_S P) (ks_W P) a)  (t5 t6 : Option Value) (kend : ∀ (a : ks_M) (o : ks_O) (t5 t6 : Option Value), j_J (ks_n P) (ks_S P) (ks_W P) a → tk_go p l e room_1 s m args below meth c0 (ks_G P) (ks_dm P) 7 (cells + 1) (slots + 6) Q (ks_sl P a a o) 686 [some (.ref b0), some (.ref (tk_ad (ks_G P) (0, 0, 0))), some (.ref (tk_ad (ks_G P) (12, 0, 0))), some (.ref (tk_ad (ks_G P) (28, 0, 0))), some (.int (nI i)), t5, t6] []) : tk_go p l e room_1 s m args below meth c0 (ks_G P) (ks_dm P) 7 cells slots Q (ks_sl P a a o) 556 [some (.ref b0), some (.ref (tk_ad (ks_G P) (0, 0, 0))), some (.ref (tk_ad (ks_G P) (12, 0, 0))), some (.ref (tk_ad (ks_G P) (28, 0, 0))), some (.int (nI i)), t5, t6] [] := by
  have hn64 := ks_n64 hP
  have hT64 := ks_T64 hP
  refine tk_aload_n X d_Law_law_556 rfl rfl ?_
  refine tk_aload_n X d_Law_law_557 rfl rfl ?_
  refine tk_iload X d_Law_law_558 rfl ?_
  refine tk_iconst (v := 1) X d_Law_law_560 (by decide) ?_
  refine tk_iadd X d_Law_law_561 ?_
  refine kx_sld X hX hbl hS.1.1 hS.1.2 d_Law_law_562 ?_
  refine tk_aload_n X d_Law_law_563 rfl rfl ?_
  refine tk_iload X d_Law_law_564 rfl ?_
  refine tk_iconst (v := 2) X d_Law_law_566 (by decide) ?_
  refine tk_iadd X d_Law_law_567 ?_
  refine kx_sld X hX hbl hS.2.1.1 hS.2.1.2 d_Law_law_568 ?_
  refine tk_aload_n X d_Law_law_569 rfl rfl ?_
  refine tk_iload X d_Law_law_570 rfl ?_
  refine tk_iconst (v := 3) X d_Law_law_572 (by decide) ?_
  refine tk_iadd X d_Law_law_573 ?_
  refine kx_sld X hX hbl hS.2.2.1.1 hS.2.2.1.2 d_Law_law_574 ?_
  refine tk_aload_n X d_Law_law_575 rfl rfl ?_
  refine tk_iload X d_Law_law_576 rfl ?_
  refine tk_iconst (v := 4) X d_Law_law_578 (by decide) ?_
  refine tk_iadd X d_Law_law_579 ?_
  refine kx_sld X hX hbl hS.2.2.2.1 hS.2.2.2.2 d_Law_law_580 ?_
  refine tk_aload_n X d_Law_law_581 rfl rfl ?_
  refine xw_call X hZ (n := 6) (w_way l hst P hP c hc t u v ht hu hv hj a a o) mw_way mi_Law m_Law_86 ms_Law_way (by decide +kernel) ⟨by decide, by decide⟩ rfl (Nat.le_of_ble_eq_true rfl) hq1 rfl d_Law_law_582 ?_
  refine tk_istore X d_Law_law_585 (by decide) rfl ?_
  refine tk_aload_n X d_Law_law_587 rfl rfl ?_
  refine tk_aload_n X d_Law_law_588 rfl rfl ?_
  refine tk_iload X d_Law_law_589 rfl ?_
  refine tk_iconst (v := 1) X d_Law_law_591 (by decide) ?_
  refine tk_iadd X d_Law_law_592 ?_
  refine kx_sld X hX hbl hS.1.1 hS.1.2 d_Law_law_593 ?_
  refine tk_aload_n X d_Law_law_594 rfl rfl ?_
  refine tk_iload X d_Law_law_595 rfl ?_
  refine tk_iconst (v := 2) X d_Law_law_597 (by decide) ?_
  refine tk_iadd X d_Law_law_598 ?_
  refine kx_sld X hX hbl hS.2.1.1 hS.2.1.2 d_Law_law_599 ?_
  refine tk_aload_n X d_Law_law_600 rfl rfl ?_
  refine tk_iload X d_Law_law_601 rfl ?_
  refine tk_iconst (v := 3) X d_Law_law_603 (by decide) ?_
  refine tk_iadd X d_Law_law_604 ?_
  refine kx_sld X hX hbl hS.2.2.1.1 hS.2.2.1.2 d_Law_law_605 ?_
  refine tk_aload_n X d_Law_law_606 rfl rfl ?_
  refine tk_iload X d_Law_law_607 rfl ?_
  refine tk_iconst (v := 4) X d_Law_law_609 (by decide) ?_
  refine tk_iadd X d_Law_law_610 ?_
  refine kx_sld X hX hbl hS.2.2.2.1 hS.2.2.2.2 d_Law_law_611 ?_
  refine tk_callV X (kb := (12, 0, 0)) (ks_d0 (by decide)) rfl hc_Model (c_Model_way l P hP c hc t u v ht hu hv hj a a ((k_wayq a c (t * ks_W P + u) (nI v)).toInt64, o.2)) (lk_site (n := 4) mc_Model_way mi_Model (by decide +kernel) (by decide) (by decide)) m_Law_89 ms_Model_way mv_Model_way rfl (Nat.le_of_ble_eq_true rfl) (by first | exact hq1 | exact hq0) rfl d_Law_law_612 ?_
  refine tk_istore X d_Law_law_615 (by decide) rfl ?_
  refine tk_aload_n X d_Law_law_617 rfl rfl ?_
  refine tk_callV X (kb := (12, 0, 0)) (ks_d0 (by decide)) rfl hc_Model (c_Model_thrown l P hP a a (((k_wayq a c (t * ks_W P + u) (nI v))).toInt64, (0 : Int32))) (lk_site (n := 0) mc_Model_thrown mi_Model (by decide +kernel) (by decide) (by decide)) m_Law_56 ms_Model_thrown mv_Model_thrown rfl (Nat.le_of_ble_eq_true rfl) (by first | exact hq1 | exact hq0) rfl d_Law_law_618 ?_
  refine tk_iload X d_Law_law_621 rfl ?_
  refine tk_icmp_eq (tgt := 628) X d_Law_law_623 (by decide) (fun _ => ?_) (fun h => absurd rfl h)
  refine tk_iload X d_Law_law_628 rfl ?_
  refine tk_if_ne (tgt := 645) X d_Law_law_630 (by decide) (fun h => absurd (rfl : (0 : Int32) = 0) h) (fun _ => ?_)
  refine tk_aload_n X d_Law_law_633 rfl rfl ?_
  refine tk_iconst (v := 0) X d_Law_law_634 (by decide) ?_
  refine kx_lald X d_Law_law_635 ?_
  refine tk_iload X d_Law_law_636 rfl ?_
  refine tk_i2l X d_Law_law_638 rfl ?_
  refine tk_lcmp X d_Law_law_639 rfl ?_
  refine tk_if_eq (tgt := 645) X d_Law_law_640 (by decide) (fun _ => ?_) (fun h => absurd (lg_cmp_self _) h)
  refine tk_goto (tgt := 686) X d_Law_law_645 (by decide) ?_
  refine tk_widen (k := cells + 1) (n := slots + 6) (by first | exact Nat.le_refl _ | exact Nat.le_add_right _ _) (by first | exact Nat.le_refl _ | exact Nat.le_add_right _ _) ?_
  exact kend _ _ _ _ hJ
end LQ

section LQ
variable {p : Program} {l : Launch} {e : Env} {s : State} {m : MethodId} {args : Array Value} {below : List Frame} {meth : Method} {c0 : Code} {P : ks_P} {cells slots : Nat} {Q : State → Prop}
set_option maxRecDepth 100000 in
set_option maxHeartbeats 4000000 in
theorem la_wayX (X : tk_X p m c0 s args (ks_G P) R_Law b_Law_law 7 WS) (hZ : xt_Z (ks_G P) s) (hst : l.stackTraces = false) (hP : ks_ok P) {b0 Ln : Nat} {xs : Nat → Int32} (hX : va_X b0 Ln xs s (tk_h0 (ks_G P))) (hbl : b0 < (tk_h0 (ks_G P)).size) (hq0 : cells ≤ room_1.cells ∧ slots ≤ room_1.slots) (hq1 : cells + 1 ≤ room_1.cells ∧ slots + 6 ≤ room_1.slots) {i : Nat} {x1 : Int32} (hx : x1 < 0 ∨ nI (ks_n P) ≤ x1) {x2 x3 x4 : Int32} (hS : la_S xs Ln i x1 x2 x3 x4) (a : ks_M) (o : ks_O) (hJ : j_J (ks_n P) (ks_S P) (ks_W P) a)  (t5 t6 : Option Value) (kend : ∀ (a : ks_M) (o : ks_O) (t5 t6 : Option Value), j_J (ks_n P) (ks_S P) (ks_W P) a → tk_go p l e room_1 s m args below meth c0 (ks_G P) (ks_dm P) 7 (cells + 1) (slots + 6) Q (ks_sl P a a o) 686 [some (.ref b0), some (.ref (tk_ad (ks_G P) (0, 0, 0))), some (.ref (tk_ad (ks_G P) (12, 0, 0))), some (.ref (tk_ad (ks_G P) (28, 0, 0))), some (.int (nI i)), t5, t6] []) : tk_go p l e room_1 s m args below meth c0 (ks_G P) (ks_dm P) 7 cells slots Q (ks_sl P a a o) 556 [some (.ref b0), some (.ref (tk_ad (ks_G P) (0, 0, 0))), some (.ref (tk_ad (ks_G P) (12, 0, 0))), some (.ref (tk_ad (ks_G P) (28, 0, 0))), some (.int (nI i)), t5, t6] [] := by
  have hn64 := ks_n64 hP
  have hT64 := ks_T64 hP
  refine tk_aload_n X d_Law_law_556 rfl rfl ?_
  refine tk_aload_n X d_Law_law_557 rfl rfl ?_
  refine tk_iload X d_Law_law_558 rfl ?_
  refine tk_iconst (v := 1) X d_Law_law_560 (by decide) ?_
  refine tk_iadd X d_Law_law_561 ?_
  refine kx_sld X hX hbl hS.1.1 hS.1.2 d_Law_law_562 ?_
  refine tk_aload_n X d_Law_law_563 rfl rfl ?_
  refine tk_iload X d_Law_law_564 rfl ?_
  refine tk_iconst (v := 2) X d_Law_law_566 (by decide) ?_
  refine tk_iadd X d_Law_law_567 ?_
  refine kx_sld X hX hbl hS.2.1.1 hS.2.1.2 d_Law_law_568 ?_
  refine tk_aload_n X d_Law_law_569 rfl rfl ?_
  refine tk_iload X d_Law_law_570 rfl ?_
  refine tk_iconst (v := 3) X d_Law_law_572 (by decide) ?_
  refine tk_iadd X d_Law_law_573 ?_
  refine kx_sld X hX hbl hS.2.2.1.1 hS.2.2.1.2 d_Law_law_574 ?_
  refine tk_aload_n X d_Law_law_575 rfl rfl ?_
  refine tk_iload X d_Law_law_576 rfl ?_
  refine tk_iconst (v := 4) X d_Law_law_578 (by decide) ?_
  refine tk_iadd X d_Law_law_579 ?_
  refine kx_sld X hX hbl hS.2.2.2.1 hS.2.2.2.2 d_Law_law_580 ?_
  refine tk_aload_n X d_Law_law_581 rfl rfl ?_
  refine xw_call X hZ (n := 6) (w_wayX l hst P hP x1 hx x2 x3 x4 a a o) mw_way mi_Law m_Law_86 ms_Law_way (by decide +kernel) ⟨by decide, by decide⟩ rfl (Nat.le_of_ble_eq_true rfl) hq1 rfl d_Law_law_582 ?_
  refine tk_istore X d_Law_law_585 (by decide) rfl ?_
  refine tk_aload_n X d_Law_law_587 rfl rfl ?_
  refine tk_aload_n X d_Law_law_588 rfl rfl ?_
  refine tk_iload X d_Law_law_589 rfl ?_
  refine tk_iconst (v := 1) X d_Law_law_591 (by decide) ?_
  refine tk_iadd X d_Law_law_592 ?_
  refine kx_sld X hX hbl hS.1.1 hS.1.2 d_Law_law_593 ?_
  refine tk_aload_n X d_Law_law_594 rfl rfl ?_
  refine tk_iload X d_Law_law_595 rfl ?_
  refine tk_iconst (v := 2) X d_Law_law_597 (by decide) ?_
  refine tk_iadd X d_Law_law_598 ?_
  refine kx_sld X hX hbl hS.2.1.1 hS.2.1.2 d_Law_law_599 ?_
  refine tk_aload_n X d_Law_law_600 rfl rfl ?_
  refine tk_iload X d_Law_law_601 rfl ?_
  refine tk_iconst (v := 3) X d_Law_law_603 (by decide) ?_
  refine tk_iadd X d_Law_law_604 ?_
  refine kx_sld X hX hbl hS.2.2.1.1 hS.2.2.1.2 d_Law_law_605 ?_
  refine tk_aload_n X d_Law_law_606 rfl rfl ?_
  refine tk_iload X d_Law_law_607 rfl ?_
  refine tk_iconst (v := 4) X d_Law_law_609 (by decide) ?_
  refine tk_iadd X d_Law_law_610 ?_
  refine kx_sld X hX hbl hS.2.2.2.1 hS.2.2.2.2 d_Law_law_611 ?_
  refine tk_callV X (kb := (12, 0, 0)) (ks_d0 (by decide)) rfl hc_Model (c_Model_wayX l P hP x1 hx x2 x3 x4 a a o) (lk_site (n := 4) mc_Model_way mi_Model (by decide +kernel) (by decide) (by decide)) m_Law_89 ms_Model_way mv_Model_way rfl (Nat.le_of_ble_eq_true rfl) (by first | exact hq1 | exact hq0) rfl d_Law_law_612 ?_
  refine tk_istore X d_Law_law_615 (by decide) rfl ?_
  refine tk_aload_n X d_Law_law_617 rfl rfl ?_
  refine tk_callV X (kb := (12, 0, 0)) (ks_d0 (by decide)) rfl hc_Model (c_Model_thrown l P hP a a (o.1, 1)) (lk_site (n := 0) mc_Model_thrown mi_Model (by decide +kernel) (by decide) (by decide)) m_Law_56 ms_Model_thrown mv_Model_thrown rfl (Nat.le_of_ble_eq_true rfl) (by first | exact hq1 | exact hq0) rfl d_Law_law_618 ?_
  refine tk_iload X d_Law_law_621 rfl ?_
  refine tk_icmp_eq (tgt := 628) X d_Law_law_623 (by decide) (fun _ => ?_) (fun h => absurd rfl h)
  refine tk_iload X d_Law_law_628 rfl ?_
  refine tk_if_ne (tgt := 645) X d_Law_law_630 (by decide) (fun _ => ?_) (fun h => absurd h (by decide : ¬ ((1 : Int32) = 0)))
  refine tk_goto (tgt := 686) X d_Law_law_645 (by decide) ?_
  refine tk_widen (k := cells + 1) (n := slots + 6) (by first | exact Nat.le_refl _ | exact Nat.le_add_right _ _) (by first | exact Nat.le_refl _ | exact Nat.le_add_right _ _) ?_
  exact kend _ _ _ _ hJ
end LQ

section LQ
variable {p : Program} {l : Launch} {e : Env} {s : State} {m : MethodId} {args : Array Value} {below : List Frame} {meth : Method} {c0 : Code} {P : ks_P} {cells slots : Nat} {Q : State → Prop}
set_option maxRecDepth 100000 in
set_option maxHeartbeats 4000000 in
theorem la_wayT (X : tk_X p m c0 s args (ks_G P) R_Law b_Law_law 7 WS) (hZ : xt_Z (ks_G P) s) (hst : l.stackTraces = false) (hP : ks_ok P) {b0 Ln : Nat} {xs : Nat → Int32} (hX : va_X b0 Ln xs s (tk_h0 (ks_G P))) (hbl : b0 < (tk_h0 (ks_G P)).size) (hq0 : cells ≤ room_1.cells ∧ slots ≤ room_1.slots) (hq1 : cells + 1 ≤ room_1.cells ∧ slots + 6 ≤ room_1.slots) {i : Nat} {c : Nat} (hc : c < ks_n P) {x2 : Int32} (ht : x2 < 0 ∨ nI (ks_S P) ≤ x2) {x3 x4 : Int32} (hS : la_S xs Ln i (nI c) x2 x3 x4) (a : ks_M) (o : ks_O) (hJ : j_J (ks_n P) (ks_S P) (ks_W P) a)  (t5 t6 : Option Value) (kend : ∀ (a : ks_M) (o : ks_O) (t5 t6 : Option Value), j_J (ks_n P) (ks_S P) (ks_W P) a → tk_go p l e room_1 s m args below meth c0 (ks_G P) (ks_dm P) 7 (cells + 1) (slots + 6) Q (ks_sl P a a o) 686 [some (.ref b0), some (.ref (tk_ad (ks_G P) (0, 0, 0))), some (.ref (tk_ad (ks_G P) (12, 0, 0))), some (.ref (tk_ad (ks_G P) (28, 0, 0))), some (.int (nI i)), t5, t6] []) : tk_go p l e room_1 s m args below meth c0 (ks_G P) (ks_dm P) 7 cells slots Q (ks_sl P a a o) 556 [some (.ref b0), some (.ref (tk_ad (ks_G P) (0, 0, 0))), some (.ref (tk_ad (ks_G P) (12, 0, 0))), some (.ref (tk_ad (ks_G P) (28, 0, 0))), some (.int (nI i)), t5, t6] [] := by
  have hn64 := ks_n64 hP
  have hT64 := ks_T64 hP
  refine tk_aload_n X d_Law_law_556 rfl rfl ?_
  refine tk_aload_n X d_Law_law_557 rfl rfl ?_
  refine tk_iload X d_Law_law_558 rfl ?_
  refine tk_iconst (v := 1) X d_Law_law_560 (by decide) ?_
  refine tk_iadd X d_Law_law_561 ?_
  refine kx_sld X hX hbl hS.1.1 hS.1.2 d_Law_law_562 ?_
  refine tk_aload_n X d_Law_law_563 rfl rfl ?_
  refine tk_iload X d_Law_law_564 rfl ?_
  refine tk_iconst (v := 2) X d_Law_law_566 (by decide) ?_
  refine tk_iadd X d_Law_law_567 ?_
  refine kx_sld X hX hbl hS.2.1.1 hS.2.1.2 d_Law_law_568 ?_
  refine tk_aload_n X d_Law_law_569 rfl rfl ?_
  refine tk_iload X d_Law_law_570 rfl ?_
  refine tk_iconst (v := 3) X d_Law_law_572 (by decide) ?_
  refine tk_iadd X d_Law_law_573 ?_
  refine kx_sld X hX hbl hS.2.2.1.1 hS.2.2.1.2 d_Law_law_574 ?_
  refine tk_aload_n X d_Law_law_575 rfl rfl ?_
  refine tk_iload X d_Law_law_576 rfl ?_
  refine tk_iconst (v := 4) X d_Law_law_578 (by decide) ?_
  refine tk_iadd X d_Law_law_579 ?_
  refine kx_sld X hX hbl hS.2.2.2.1 hS.2.2.2.2 d_Law_law_580 ?_
  refine tk_aload_n X d_Law_law_581 rfl rfl ?_
  refine xw_call X hZ (n := 6) (w_wayT l hst P hP c hc x2 ht x3 x4 a a o) mw_way mi_Law m_Law_86 ms_Law_way (by decide +kernel) ⟨by decide, by decide⟩ rfl (Nat.le_of_ble_eq_true rfl) hq1 rfl d_Law_law_582 ?_
  refine tk_istore X d_Law_law_585 (by decide) rfl ?_
  refine tk_aload_n X d_Law_law_587 rfl rfl ?_
  refine tk_aload_n X d_Law_law_588 rfl rfl ?_
  refine tk_iload X d_Law_law_589 rfl ?_
  refine tk_iconst (v := 1) X d_Law_law_591 (by decide) ?_
  refine tk_iadd X d_Law_law_592 ?_
  refine kx_sld X hX hbl hS.1.1 hS.1.2 d_Law_law_593 ?_
  refine tk_aload_n X d_Law_law_594 rfl rfl ?_
  refine tk_iload X d_Law_law_595 rfl ?_
  refine tk_iconst (v := 2) X d_Law_law_597 (by decide) ?_
  refine tk_iadd X d_Law_law_598 ?_
  refine kx_sld X hX hbl hS.2.1.1 hS.2.1.2 d_Law_law_599 ?_
  refine tk_aload_n X d_Law_law_600 rfl rfl ?_
  refine tk_iload X d_Law_law_601 rfl ?_
  refine tk_iconst (v := 3) X d_Law_law_603 (by decide) ?_
  refine tk_iadd X d_Law_law_604 ?_
  refine kx_sld X hX hbl hS.2.2.1.1 hS.2.2.1.2 d_Law_law_605 ?_
  refine tk_aload_n X d_Law_law_606 rfl rfl ?_
  refine tk_iload X d_Law_law_607 rfl ?_
  refine tk_iconst (v := 4) X d_Law_law_609 (by decide) ?_
  refine tk_iadd X d_Law_law_610 ?_
  refine kx_sld X hX hbl hS.2.2.2.1 hS.2.2.2.2 d_Law_law_611 ?_
  refine tk_callV X (kb := (12, 0, 0)) (ks_d0 (by decide)) rfl hc_Model (c_Model_wayT l P hP c hc x2 x3 x4 ht a a o) (lk_site (n := 4) mc_Model_way mi_Model (by decide +kernel) (by decide) (by decide)) m_Law_89 ms_Model_way mv_Model_way rfl (Nat.le_of_ble_eq_true rfl) (by first | exact hq1 | exact hq0) rfl d_Law_law_612 ?_
  refine tk_istore X d_Law_law_615 (by decide) rfl ?_
  refine tk_aload_n X d_Law_law_617 rfl rfl ?_
  refine tk_callV X (kb := (12, 0, 0)) (ks_d0 (by decide)) rfl hc_Model (c_Model_thrown l P hP a a (o.1, 1)) (lk_site (n := 0) mc_Model_thrown mi_Model (by decide +kernel) (by decide) (by decide)) m_Law_56 ms_Model_thrown mv_Model_thrown rfl (Nat.le_of_ble_eq_true rfl) (by first | exact hq1 | exact hq0) rfl d_Law_law_618 ?_
  refine tk_iload X d_Law_law_621 rfl ?_
  refine tk_icmp_eq (tgt := 628) X d_Law_law_623 (by decide) (fun _ => ?_) (fun h => absurd rfl h)
  refine tk_iload X d_Law_law_628 rfl ?_
  refine tk_if_ne (tgt := 645) X d_Law_law_630 (by decide) (fun _ => ?_) (fun h => absurd h (by decide : ¬ ((1 : Int32) = 0)))
  refine tk_goto (tgt := 686) X d_Law_law_645 (by decide) ?_
  refine tk_widen (k := cells + 1) (n := slots + 6) (by first | exact Nat.le_refl _ | exact Nat.le_add_right _ _) (by first | exact Nat.le_refl _ | exact Nat.le_add_right _ _) ?_
  exact kend _ _ _ _ hJ
end LQ

section LQ
variable {p : Program} {l : Launch} {e : Env} {s : State} {m : MethodId} {args : Array Value} {below : List Frame} {meth : Method} {c0 : Code} {P : ks_P} {cells slots : Nat} {Q : State → Prop}
set_option maxRecDepth 100000 in
set_option maxHeartbeats 4000000 in
theorem la_wayU (X : tk_X p m c0 s args (ks_G P) R_Law b_Law_law 7 WS) (hZ : xt_Z (ks_G P) s) (hst : l.stackTraces = false) (hP : ks_ok P) {b0 Ln : Nat} {xs : Nat → Int32} (hX : va_X b0 Ln xs s (tk_h0 (ks_G P))) (hbl : b0 < (tk_h0 (ks_G P)).size) (hq0 : cells ≤ room_1.cells ∧ slots ≤ room_1.slots) (hq1 : cells + 1 ≤ room_1.cells ∧ slots + 6 ≤ room_1.slots) {i : Nat} {c : Nat} (hc : c < ks_n P) {t : Nat} (ht : t < ks_S P) {x3 : Int32} (hu : x3 < 0 ∨ nI (ks_W P) ≤ x3) {x4 : Int32} (hS : la_S xs Ln i (nI c) (nI t) x3 x4) (a : ks_M) (o : ks_O) (hJ : j_J (ks_n P) (ks_S P) (ks_W P) a)  (t5 t6 : Option Value) (kend : ∀ (a : ks_M) (o : ks_O) (t5 t6 : Option Value), j_J (ks_n P) (ks_S P) (ks_W P) a → tk_go p l e room_1 s m args below meth c0 (ks_G P) (ks_dm P) 7 (cells + 1) (slots + 6) Q (ks_sl P a a o) 686 [some (.ref b0), some (.ref (tk_ad (ks_G P) (0, 0, 0))), some (.ref (tk_ad (ks_G P) (12, 0, 0))), some (.ref (tk_ad (ks_G P) (28, 0, 0))), some (.int (nI i)), t5, t6] []) : tk_go p l e room_1 s m args below meth c0 (ks_G P) (ks_dm P) 7 cells slots Q (ks_sl P a a o) 556 [some (.ref b0), some (.ref (tk_ad (ks_G P) (0, 0, 0))), some (.ref (tk_ad (ks_G P) (12, 0, 0))), some (.ref (tk_ad (ks_G P) (28, 0, 0))), some (.int (nI i)), t5, t6] [] := by
  have hn64 := ks_n64 hP
  have hT64 := ks_T64 hP
  refine tk_aload_n X d_Law_law_556 rfl rfl ?_
  refine tk_aload_n X d_Law_law_557 rfl rfl ?_
  refine tk_iload X d_Law_law_558 rfl ?_
  refine tk_iconst (v := 1) X d_Law_law_560 (by decide) ?_
  refine tk_iadd X d_Law_law_561 ?_
  refine kx_sld X hX hbl hS.1.1 hS.1.2 d_Law_law_562 ?_
  refine tk_aload_n X d_Law_law_563 rfl rfl ?_
  refine tk_iload X d_Law_law_564 rfl ?_
  refine tk_iconst (v := 2) X d_Law_law_566 (by decide) ?_
  refine tk_iadd X d_Law_law_567 ?_
  refine kx_sld X hX hbl hS.2.1.1 hS.2.1.2 d_Law_law_568 ?_
  refine tk_aload_n X d_Law_law_569 rfl rfl ?_
  refine tk_iload X d_Law_law_570 rfl ?_
  refine tk_iconst (v := 3) X d_Law_law_572 (by decide) ?_
  refine tk_iadd X d_Law_law_573 ?_
  refine kx_sld X hX hbl hS.2.2.1.1 hS.2.2.1.2 d_Law_law_574 ?_
  refine tk_aload_n X d_Law_law_575 rfl rfl ?_
  refine tk_iload X d_Law_law_576 rfl ?_
  refine tk_iconst (v := 4) X d_Law_law_578 (by decide) ?_
  refine tk_iadd X d_Law_law_579 ?_
  refine kx_sld X hX hbl hS.2.2.2.1 hS.2.2.2.2 d_Law_law_580 ?_
  refine tk_aload_n X d_Law_law_581 rfl rfl ?_
  refine xw_call X hZ (n := 6) (w_wayU l hst P hP c hc t ht x3 hu x4 a a o) mw_way mi_Law m_Law_86 ms_Law_way (by decide +kernel) ⟨by decide, by decide⟩ rfl (Nat.le_of_ble_eq_true rfl) hq1 rfl d_Law_law_582 ?_
  refine tk_istore X d_Law_law_585 (by decide) rfl ?_
  refine tk_aload_n X d_Law_law_587 rfl rfl ?_
  refine tk_aload_n X d_Law_law_588 rfl rfl ?_
  refine tk_iload X d_Law_law_589 rfl ?_
  refine tk_iconst (v := 1) X d_Law_law_591 (by decide) ?_
  refine tk_iadd X d_Law_law_592 ?_
  refine kx_sld X hX hbl hS.1.1 hS.1.2 d_Law_law_593 ?_
  refine tk_aload_n X d_Law_law_594 rfl rfl ?_
  refine tk_iload X d_Law_law_595 rfl ?_
  refine tk_iconst (v := 2) X d_Law_law_597 (by decide) ?_
  refine tk_iadd X d_Law_law_598 ?_
  refine kx_sld X hX hbl hS.2.1.1 hS.2.1.2 d_Law_law_599 ?_
  refine tk_aload_n X d_Law_law_600 rfl rfl ?_
  refine tk_iload X d_Law_law_601 rfl ?_
  refine tk_iconst (v := 3) X d_Law_law_603 (by decide) ?_
  refine tk_iadd X d_Law_law_604 ?_
  refine kx_sld X hX hbl hS.2.2.1.1 hS.2.2.1.2 d_Law_law_605 ?_
  refine tk_aload_n X d_Law_law_606 rfl rfl ?_
  refine tk_iload X d_Law_law_607 rfl ?_
  refine tk_iconst (v := 4) X d_Law_law_609 (by decide) ?_
  refine tk_iadd X d_Law_law_610 ?_
  refine kx_sld X hX hbl hS.2.2.2.1 hS.2.2.2.2 d_Law_law_611 ?_
  refine tk_callV X (kb := (12, 0, 0)) (ks_d0 (by decide)) rfl hc_Model (c_Model_wayU l P hP c hc t ht x3 x4 hu a a o) (lk_site (n := 4) mc_Model_way mi_Model (by decide +kernel) (by decide) (by decide)) m_Law_89 ms_Model_way mv_Model_way rfl (Nat.le_of_ble_eq_true rfl) (by first | exact hq1 | exact hq0) rfl d_Law_law_612 ?_
  refine tk_istore X d_Law_law_615 (by decide) rfl ?_
  refine tk_aload_n X d_Law_law_617 rfl rfl ?_
  refine tk_callV X (kb := (12, 0, 0)) (ks_d0 (by decide)) rfl hc_Model (c_Model_thrown l P hP a a (o.1, 1)) (lk_site (n := 0) mc_Model_thrown mi_Model (by decide +kernel) (by decide) (by decide)) m_Law_56 ms_Model_thrown mv_Model_thrown rfl (Nat.le_of_ble_eq_true rfl) (by first | exact hq1 | exact hq0) rfl d_Law_law_618 ?_
  refine tk_iload X d_Law_law_621 rfl ?_
  refine tk_icmp_eq (tgt := 628) X d_Law_law_623 (by decide) (fun _ => ?_) (fun h => absurd rfl h)
  refine tk_iload X d_Law_law_628 rfl ?_
  refine tk_if_ne (tgt := 645) X d_Law_law_630 (by decide) (fun _ => ?_) (fun h => absurd h (by decide : ¬ ((1 : Int32) = 0)))
  refine tk_goto (tgt := 686) X d_Law_law_645 (by decide) ?_
  refine tk_widen (k := cells + 1) (n := slots + 6) (by first | exact Nat.le_refl _ | exact Nat.le_add_right _ _) (by first | exact Nat.le_refl _ | exact Nat.le_add_right _ _) ?_
  exact kend _ _ _ _ hJ
end LQ

section LQ
variable {p : Program} {l : Launch} {e : Env} {s : State} {m : MethodId} {args : Array Value} {below : List Frame} {meth : Method} {c0 : Code} {P : ks_P} {cells slots : Nat} {Q : State → Prop}
set_option maxRecDepth 100000 in
set_option maxHeartbeats 4000000 in
theorem la_wayY (X : tk_X p m c0 s args (ks_G P) R_Law b_Law_law 7 WS) (hZ : xt_Z (ks_G P) s) (hst : l.stackTraces = false) (hP : ks_ok P) {b0 Ln : Nat} {xs : Nat → Int32} (hX : va_X b0 Ln xs s (tk_h0 (ks_G P))) (hbl : b0 < (tk_h0 (ks_G P)).size) (hq0 : cells ≤ room_1.cells ∧ slots ≤ room_1.slots) (hq1 : cells + 1 ≤ room_1.cells ∧ slots + 6 ≤ room_1.slots) {i : Nat} {c : Nat} (hc : c < ks_n P) {t u : Nat} (ht : t < ks_S P) (hu : u < ks_W P) {x4 : Int32} (hv : x4 < 0 ∨ 5 ≤ x4) (hS : la_S xs Ln i (nI c) (nI t) (nI u) x4) (a : ks_M) (o : ks_O) (hJ : j_J (ks_n P) (ks_S P) (ks_W P) a)  (t5 t6 : Option Value) (kend : ∀ (a : ks_M) (o : ks_O) (t5 t6 : Option Value), j_J (ks_n P) (ks_S P) (ks_W P) a → tk_go p l e room_1 s m args below meth c0 (ks_G P) (ks_dm P) 7 (cells + 1) (slots + 6) Q (ks_sl P a a o) 686 [some (.ref b0), some (.ref (tk_ad (ks_G P) (0, 0, 0))), some (.ref (tk_ad (ks_G P) (12, 0, 0))), some (.ref (tk_ad (ks_G P) (28, 0, 0))), some (.int (nI i)), t5, t6] []) : tk_go p l e room_1 s m args below meth c0 (ks_G P) (ks_dm P) 7 cells slots Q (ks_sl P a a o) 556 [some (.ref b0), some (.ref (tk_ad (ks_G P) (0, 0, 0))), some (.ref (tk_ad (ks_G P) (12, 0, 0))), some (.ref (tk_ad (ks_G P) (28, 0, 0))), some (.int (nI i)), t5, t6] [] := by
  have hn64 := ks_n64 hP
  have hT64 := ks_T64 hP
  refine tk_aload_n X d_Law_law_556 rfl rfl ?_
  refine tk_aload_n X d_Law_law_557 rfl rfl ?_
  refine tk_iload X d_Law_law_558 rfl ?_
  refine tk_iconst (v := 1) X d_Law_law_560 (by decide) ?_
  refine tk_iadd X d_Law_law_561 ?_
  refine kx_sld X hX hbl hS.1.1 hS.1.2 d_Law_law_562 ?_
  refine tk_aload_n X d_Law_law_563 rfl rfl ?_
  refine tk_iload X d_Law_law_564 rfl ?_
  refine tk_iconst (v := 2) X d_Law_law_566 (by decide) ?_
  refine tk_iadd X d_Law_law_567 ?_
  refine kx_sld X hX hbl hS.2.1.1 hS.2.1.2 d_Law_law_568 ?_
  refine tk_aload_n X d_Law_law_569 rfl rfl ?_
  refine tk_iload X d_Law_law_570 rfl ?_
  refine tk_iconst (v := 3) X d_Law_law_572 (by decide) ?_
  refine tk_iadd X d_Law_law_573 ?_
  refine kx_sld X hX hbl hS.2.2.1.1 hS.2.2.1.2 d_Law_law_574 ?_
  refine tk_aload_n X d_Law_law_575 rfl rfl ?_
  refine tk_iload X d_Law_law_576 rfl ?_
  refine tk_iconst (v := 4) X d_Law_law_578 (by decide) ?_
  refine tk_iadd X d_Law_law_579 ?_
  refine kx_sld X hX hbl hS.2.2.2.1 hS.2.2.2.2 d_Law_law_580 ?_
  refine tk_aload_n X d_Law_law_581 rfl rfl ?_
  refine xw_call X hZ (n := 6) (w_wayY l hst P hP c hc t u ht hu x4 hv a a o) mw_way mi_Law m_Law_86 ms_Law_way (by decide +kernel) ⟨by decide, by decide⟩ rfl (Nat.le_of_ble_eq_true rfl) hq1 rfl d_Law_law_582 ?_
  refine tk_istore X d_Law_law_585 (by decide) rfl ?_
  refine tk_aload_n X d_Law_law_587 rfl rfl ?_
  refine tk_aload_n X d_Law_law_588 rfl rfl ?_
  refine tk_iload X d_Law_law_589 rfl ?_
  refine tk_iconst (v := 1) X d_Law_law_591 (by decide) ?_
  refine tk_iadd X d_Law_law_592 ?_
  refine kx_sld X hX hbl hS.1.1 hS.1.2 d_Law_law_593 ?_
  refine tk_aload_n X d_Law_law_594 rfl rfl ?_
  refine tk_iload X d_Law_law_595 rfl ?_
  refine tk_iconst (v := 2) X d_Law_law_597 (by decide) ?_
  refine tk_iadd X d_Law_law_598 ?_
  refine kx_sld X hX hbl hS.2.1.1 hS.2.1.2 d_Law_law_599 ?_
  refine tk_aload_n X d_Law_law_600 rfl rfl ?_
  refine tk_iload X d_Law_law_601 rfl ?_
  refine tk_iconst (v := 3) X d_Law_law_603 (by decide) ?_
  refine tk_iadd X d_Law_law_604 ?_
  refine kx_sld X hX hbl hS.2.2.1.1 hS.2.2.1.2 d_Law_law_605 ?_
  refine tk_aload_n X d_Law_law_606 rfl rfl ?_
  refine tk_iload X d_Law_law_607 rfl ?_
  refine tk_iconst (v := 4) X d_Law_law_609 (by decide) ?_
  refine tk_iadd X d_Law_law_610 ?_
  refine kx_sld X hX hbl hS.2.2.2.1 hS.2.2.2.2 d_Law_law_611 ?_
  refine tk_callV X (kb := (12, 0, 0)) (ks_d0 (by decide)) rfl hc_Model (c_Model_wayY l P hP c hc t u ht hu x4 (i_5 hv) a a o) (lk_site (n := 4) mc_Model_way mi_Model (by decide +kernel) (by decide) (by decide)) m_Law_89 ms_Model_way mv_Model_way rfl (Nat.le_of_ble_eq_true rfl) (by first | exact hq1 | exact hq0) rfl d_Law_law_612 ?_
  refine tk_istore X d_Law_law_615 (by decide) rfl ?_
  refine tk_aload_n X d_Law_law_617 rfl rfl ?_
  refine tk_callV X (kb := (12, 0, 0)) (ks_d0 (by decide)) rfl hc_Model (c_Model_thrown l P hP a a (o.1, 1)) (lk_site (n := 0) mc_Model_thrown mi_Model (by decide +kernel) (by decide) (by decide)) m_Law_56 ms_Model_thrown mv_Model_thrown rfl (Nat.le_of_ble_eq_true rfl) (by first | exact hq1 | exact hq0) rfl d_Law_law_618 ?_
  refine tk_iload X d_Law_law_621 rfl ?_
  refine tk_icmp_eq (tgt := 628) X d_Law_law_623 (by decide) (fun _ => ?_) (fun h => absurd rfl h)
  refine tk_iload X d_Law_law_628 rfl ?_
  refine tk_if_ne (tgt := 645) X d_Law_law_630 (by decide) (fun _ => ?_) (fun h => absurd h (by decide : ¬ ((1 : Int32) = 0)))
  refine tk_goto (tgt := 686) X d_Law_law_645 (by decide) ?_
  refine tk_widen (k := cells + 1) (n := slots + 6) (by first | exact Nat.le_refl _ | exact Nat.le_add_right _ _) (by first | exact Nat.le_refl _ | exact Nat.le_add_right _ _) ?_
  exact kend _ _ _ _ hJ
end LQ

section LQ
variable {p : Program} {l : Launch} {e : Env} {s : State} {m : MethodId} {args : Array Value} {below : List Frame} {meth : Method} {c0 : Code} {P : ks_P} {cells slots : Nat} {Q : State → Prop}
set_option maxRecDepth 100000 in
set_option maxHeartbeats 4000000 in
theorem la_memory (X : tk_X p m c0 s args (ks_G P) R_Law b_Law_law 7 WS) (hZ : xt_Z (ks_G P) s) (hst : l.stackTraces = false) (hP : ks_ok P) {b0 Ln : Nat} {xs : Nat → Int32} (hX : va_X b0 Ln xs s (tk_h0 (ks_G P))) (hbl : b0 < (tk_h0 (ks_G P)).size) (hq0 : cells ≤ room_1.cells ∧ slots ≤ room_1.slots) (hq1 : cells + 1 ≤ room_1.cells ∧ slots + 6 ≤ room_1.slots) {i : Nat} {x1 x2 x3 x4 : Int32} (hS : la_S xs Ln i x1 x2 x3 x4) (a : ks_M) (o : ks_O) (hJ : j_J (ks_n P) (ks_S P) (ks_W P) a)  (t5 t6 : Option Value) (kend : ∀ (a : ks_M) (o : ks_O) (t5 t6 : Option Value), j_J (ks_n P) (ks_S P) (ks_W P) a → tk_go p l e room_1 s m args below meth c0 (ks_G P) (ks_dm P) 7 (cells + 1) (slots + 6) Q (ks_sl P a a o) 686 [some (.ref b0), some (.ref (tk_ad (ks_G P) (0, 0, 0))), some (.ref (tk_ad (ks_G P) (12, 0, 0))), some (.ref (tk_ad (ks_G P) (28, 0, 0))), some (.int (nI i)), t5, t6] []) : tk_go p l e room_1 s m args below meth c0 (ks_G P) (ks_dm P) 7 cells slots Q (ks_sl P a a o) 648 [some (.ref b0), some (.ref (tk_ad (ks_G P) (0, 0, 0))), some (.ref (tk_ad (ks_G P) (12, 0, 0))), some (.ref (tk_ad (ks_G P) (28, 0, 0))), some (.int (nI i)), t5, t6] [] := by
  have hn64 := ks_n64 hP
  have hT64 := ks_T64 hP
  refine tk_aload_n X d_Law_law_648 rfl rfl ?_
  refine tk_aload_n X d_Law_law_649 rfl rfl ?_
  refine tk_iload X d_Law_law_650 rfl ?_
  refine tk_iconst (v := 1) X d_Law_law_652 (by decide) ?_
  refine tk_iadd X d_Law_law_653 ?_
  refine kx_sld X hX hbl hS.1.1 hS.1.2 d_Law_law_654 ?_
  refine tk_callV X (kb := (0, 0, 0)) (ks_d0 (by decide)) rfl hc_TC (c_TC_memory l P hP x1 a a o) (lk_site (n := 1) mc_TC_memory mi_TC (by decide +kernel) (by decide) (by decide)) m_Law_90 ms_TC_memory mv_TC_memory rfl (Nat.le_of_ble_eq_true rfl) (by first | exact hq1 | exact hq0) rfl d_Law_law_655 ?_
  refine tk_aload_n X d_Law_law_658 rfl rfl ?_
  refine tk_aload_n X d_Law_law_659 rfl rfl ?_
  refine tk_iload X d_Law_law_660 rfl ?_
  refine tk_iconst (v := 1) X d_Law_law_662 (by decide) ?_
  refine tk_iadd X d_Law_law_663 ?_
  refine kx_sld X hX hbl hS.1.1 hS.1.2 d_Law_law_664 ?_
  refine tk_callV X (kb := (12, 0, 0)) (ks_d0 (by decide)) rfl hc_Model (c_Model_memory l P hP x1 a a o) (lk_site (n := 1) mc_Model_memory mi_Model (by decide +kernel) (by decide) (by decide)) m_Law_93 ms_Model_memory mv_Model_memory rfl (Nat.le_of_ble_eq_true rfl) (by first | exact hq1 | exact hq0) rfl d_Law_law_665 ?_
  refine tk_icmp_eq (tgt := 686) X d_Law_law_668 (by decide) (fun _ => ?_) (fun h => absurd rfl h)
  refine tk_widen (k := cells + 1) (n := slots + 6) (by first | exact Nat.le_refl _ | exact Nat.le_add_right _ _) (by first | exact Nat.le_refl _ | exact Nat.le_add_right _ _) ?_
  exact kend _ _ _ _ hJ
end LQ

section LQ
variable {p : Program} {l : Launch} {e : Env} {s : State} {m : MethodId} {args : Array Value} {below : List Frame} {meth : Method} {c0 : Code} {P : ks_P} {cells slots : Nat} {Q : State → Prop}
set_option maxRecDepth 100000 in
set_option maxHeartbeats 4000000 in
theorem la_requests (X : tk_X p m c0 s args (ks_G P) R_Law b_Law_law 7 WS) (hZ : xt_Z (ks_G P) s) (hst : l.stackTraces = false) (hP : ks_ok P) {b0 Ln : Nat} {xs : Nat → Int32} (hX : va_X b0 Ln xs s (tk_h0 (ks_G P))) (hbl : b0 < (tk_h0 (ks_G P)).size) (hq0 : cells ≤ room_1.cells ∧ slots ≤ room_1.slots) (hq1 : cells + 1 ≤ room_1.cells ∧ slots + 6 ≤ room_1.slots) {i : Nat} {x1 x2 x3 x4 : Int32} (hS : la_S xs Ln i x1 x2 x3 x4) (a : ks_M) (o : ks_O) (hJ : j_J (ks_n P) (ks_S P) (ks_W P) a)  (t5 t6 : Option Value) (kend : ∀ (a : ks_M) (o : ks_O) (t5 t6 : Option Value), j_J (ks_n P) (ks_S P) (ks_W P) a → tk_go p l e room_1 s m args below meth c0 (ks_G P) (ks_dm P) 7 (cells + 1) (slots + 6) Q (ks_sl P a a o) 686 [some (.ref b0), some (.ref (tk_ad (ks_G P) (0, 0, 0))), some (.ref (tk_ad (ks_G P) (12, 0, 0))), some (.ref (tk_ad (ks_G P) (28, 0, 0))), some (.int (nI i)), t5, t6] []) : tk_go p l e room_1 s m args below meth c0 (ks_G P) (ks_dm P) 7 cells slots Q (ks_sl P a a o) 673 [some (.ref b0), some (.ref (tk_ad (ks_G P) (0, 0, 0))), some (.ref (tk_ad (ks_G P) (12, 0, 0))), some (.ref (tk_ad (ks_G P) (28, 0, 0))), some (.int (nI i)), t5, t6] [] := by
  have hn64 := ks_n64 hP
  have hT64 := ks_T64 hP
  refine tk_aload_n X d_Law_law_673 rfl rfl ?_
  refine tk_callV X (kb := (0, 0, 0)) (ks_d0 (by decide)) rfl hc_TC (c_TC_requests l P hP a a o) (lk_site (n := 0) mc_TC_requests mi_TC (by decide +kernel) (by decide) (by decide)) m_Law_94 ms_TC_requests mv_TC_requests rfl (Nat.le_of_ble_eq_true rfl) (by first | exact hq1 | exact hq0) rfl d_Law_law_674 ?_
  refine tk_aload_n X d_Law_law_677 rfl rfl ?_
  refine tk_callV X (kb := (12, 0, 0)) (ks_d0 (by decide)) rfl hc_Model (c_Model_requests l P hP a a o) (lk_site (n := 0) mc_Model_requests mi_Model (by decide +kernel) (by decide) (by decide)) m_Law_97 ms_Model_requests mv_Model_requests rfl (Nat.le_of_ble_eq_true rfl) (by first | exact hq1 | exact hq0) rfl d_Law_law_678 ?_
  refine tk_icmp_eq (tgt := 686) X d_Law_law_681 (by decide) (fun _ => ?_) (fun h => absurd rfl h)
  refine tk_widen (k := cells + 1) (n := slots + 6) (by first | exact Nat.le_refl _ | exact Nat.le_add_right _ _) (by first | exact Nat.le_refl _ | exact Nat.le_add_right _ _) ?_
  exact kend _ _ _ _ hJ
end LQ
