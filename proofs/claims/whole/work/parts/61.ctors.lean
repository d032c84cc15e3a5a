def cn_rm (d k n : Nat) : Room := { frames := d, cells := k, slots := n, locals := 40 * d }
abbrev cn_M (l : Launch) (P : ks_P) (y : MethodName) (cc : ByteArray) (nL d k n : Nat) (As : List Value) (z z' : Nat) (S S' : tk_K → Nat → Bool) : Prop :=
  tk_M l (ks_G P) (cn_dm P z) (cn_dm P z') y (Cond.code y cc nL none :: WS) (cn_rm d k n) As (cn_sl P S) none (cn_sl P S')
theorem cn_site {y : MethodName} {bytes : ByteArray} {maxL n : Nat} {ret : Option FieldType} {R : Room} {d k m : Nat} (hm : Cond.code y bytes maxL ret ∈ WS) (hini : Cond.initialized y.cls ∈ WS) (hd : y.cls ≠ "java/lang/invoke/MethodHandle" ∧ y.cls ≠ "java/lang/invoke/VarHandle" ∧ (parseMethodDescriptor y.desc).map (fun d => d.parameters.length) = some n) (hdd : d + 1 ≤ R.frames) (hml : 8 + (maxL + 11) + 40 * d ≤ R.locals) : tk_site R WS y bytes maxL ret (Cond.code y bytes maxL ret :: WS) (cn_rm d k m) n :=
  ⟨tk_good hm WS_good, ⟨_, rfl⟩, hini, hd, hdd, hml⟩
theorem cn_same {P : ks_P} {S : tk_K → Nat → Bool} {k : tk_K} {j : Nat} (h : cn_fin P k j = cn_dft k j) : cn_sl P S k j = cn_dft k j := by
  unfold cn_sl
  split
  · exact h
  · rfl
theorem cn_uns {P : ks_P} {S : tk_K → Nat → Bool} {k : tk_K} {j : Nat} (h : S k j = false) : cn_sl P S k j = cn_dft k j := by
  unfold cn_sl
  rw [h]
  rfl
theorem cn_is {P : ks_P} {S : tk_K → Nat → Bool} {k : tk_K} {j : Nat} (h : S k j = true) : cn_sl P S k j = cn_fin P k j := by
  unfold cn_sl
  rw [h]
  rfl
theorem cn_sam {P : ks_P} {S : tk_K → Nat → Bool} {k : tk_K} {j : Nat} {v : Value} (h1 : cn_fin P k j = v) (h2 : cn_dft k j = v) : v = cn_sl P S k j := by
  rw [cn_same (h1.trans h2.symm), h2]
theorem cn_unv {P : ks_P} {S : tk_K → Nat → Bool} {k : tk_K} {j : Nat} {v : Value} (h : S k j = false) (h2 : cn_dft k j = v) : v = cn_sl P S k j := by
  rw [cn_uns h, h2]
theorem cn_w6 : ∀ i, i < 6 → defaultValue (t_Way i) = Value.int 0 := by decide +kernel
theorem cn_set_eq (S : tk_K → Nat → Bool) (k : tk_K) (j : Nat) : cn_set S k j k j = true := by simp [cn_set]
theorem cn_set_mono {S : tk_K → Nat → Bool} {k k' : tk_K} {j j' : Nat} (h : S k' j' = true) : cn_set S k j k' j' = true := by simp [cn_set, h]
theorem cn_set_nk {S : tk_K → Nat → Bool} {k k' : tk_K} {j j' : Nat} (h : k' ≠ k) : cn_set S k j k' j' = S k' j' := by simp [cn_set, h]
def cn_wy (S : tk_K → Nat → Bool) (c : Nat) : Nat → tk_K → Nat → Bool
  | 0 => S
  | j + 1 => cn_set (cn_wy S c j) (6, c, 0) j
theorem cn_wy_mono {S : tk_K → Nat → Bool} {c : Nat} {k : tk_K} {i : Nat} (h : S k i = true) : ∀ j, cn_wy S c j k i = true
  | 0 => h
  | j + 1 => cn_set_mono (cn_wy_mono h j)
theorem cn_wy_at {S : tk_K → Nat → Bool} {c : Nat} : ∀ {j i : Nat}, i < j → cn_wy S c j (6, c, 0) i = true
  | j + 1, i, h => by
    by_cases e : i = j
    · subst e
      exact cn_set_eq _ _ _
    · exact cn_set_mono (cn_wy_at (by omega))
theorem cn_wy_nk {S : tk_K → Nat → Bool} {c : Nat} {k : tk_K} {i : Nat} (h : k ≠ (6, c, 0)) : ∀ j, cn_wy S c j k i = S k i
  | 0 => rfl
  | j + 1 => (cn_set_nk h).trans (cn_wy_nk h j)
def cn_ca (S : tk_K → Nat → Bool) (c : Nat) : tk_K → Nat → Bool := cn_set (cn_set (cn_set S (5, c, 0) 0) (5, c, 0) 1) (5, c, 0) 2
def cn_co (S : tk_K → Nat → Bool) (c : Nat) : tk_K → Nat → Bool := cn_set (cn_set (cn_set (cn_set (cn_set (cn_set S (4, c, 0) 2) (4, c, 0) 3) (4, c, 0) 4) (4, c, 0) 5) (4, c, 0) 0) (4, c, 0) 1

set_option maxRecDepth 100000 in
set_option maxHeartbeats 4000000 in
theorem c_Way_init (l : Launch) (P : ks_P) (hP : ks_ok P) (hO : cn_ok P) (S : tk_K → Nat → Bool) (x z : Nat) : cn_M l P y_Way_init b_Way_init 1 1 (0) (0) [.ref x] (z) (z) S S := by
  refine tk_of hP.2.2.2.2.2 (by decide) rfl (Nat.le_of_ble_eq_true rfl) ?_
  intro p e s m below meth c0 X hlk hr hnm
  refine tk_aload_n X d_Way_init_0 rfl rfl ?_
  refine tk_objInit X m_Way_1 m_oi m_oc (Nat.le_of_ble_eq_true rfl) (Nat.le_of_ble_eq_true rfl) d_Way_init_1 ?_
  exact tk_vret X hlk hr d_Way_init_4 rfl (fun _ h => h) (Or.inr rfl) (fun _ _ => rfl)

set_option maxRecDepth 100000 in
set_option maxHeartbeats 4000000 in
theorem c_Store_init (l : Launch) (P : ks_P) (hP : ks_ok P) (hO : cn_ok P) (S : tk_K → Nat → Bool)  : cn_M l P y_Store_init b_Store_init 1 1 (1) (64) [.ref (ks_ad P (1, 0, 0))] (2) (3) S (cn_set S (1, 0, 0) 0) := by
  refine tk_of hP.2.2.2.2.2 (by decide) rfl (Nat.le_of_ble_eq_true rfl) ?_
  intro p e s m below meth c0 X hlk hr hnm
  refine tk_aload_n X d_Store_init_0 rfl rfl ?_
  refine tk_objInit X m_Store_3 m_oi m_oc (Nat.le_of_ble_eq_true rfl) (Nat.le_of_ble_eq_true rfl) d_Store_init_1 ?_
  refine tk_aload_n X d_Store_init_4 rfl rfl ?_
  refine tk_bipush (v := 64) X d_Store_init_5 (by decide) ?_
  refine cn_newa X hO (k := (2, 0, 0)) (z := 2) (ks_d0 (P := P) (f := 2) (by decide)) rfl rfl rfl rfl m_ac_int (by decide) rfl (Nat.le_of_ble_eq_true rfl) (fun j _ => cn_sam rfl rfl) (by decide) (by decide) d_Store_init_7 ?_
  refine cn_putF X hnm (k := (1, 0, 0)) (z := 3) ⟨ks_d0 (P := P) (f := 1) (by decide), (show (1 : Nat) < 3 by decide)⟩ rfl hc_Store hi_Store t_Store t_Store_ok n_Store 0 (by decide) m_Store_9 rfl rfl (v := .ref (ks_ad P (2, 0, 0))) rfl rfl rfl d_Store_init_9 ?_
  exact tk_vret X hlk hr d_Store_init_12 rfl (fun _ h => h) (Or.inr rfl) (fun _ _ => rfl)

set_option maxRecDepth 100000 in
set_option maxHeartbeats 4000000 in
theorem c_Core_init (l : Launch) (P : ks_P) (hP : ks_ok P) (hO : cn_ok P) (S : tk_K → Nat → Bool) (c : Nat) (hc : c < ks_n P) : cn_M l P y_Core_init b_Core_init 3 1 (4) (38) [.ref (ks_ad P (4, c, 0)), .int (nI c), .ref (ks_ad P (5, c, 0))] (4 + (cn_q (ks_T P) * c + (3 + ks_T P))) (4 + (cn_q (ks_T P) * c + (3 + ks_T P)) + 1 + 1 + 1 + 1) S (cn_co S c) := by
  refine tk_of hP.2.2.2.2.2 (by decide) rfl (Nat.le_of_ble_eq_true rfl) ?_
  intro p e s m below meth c0 X hlk hr hnm
  refine tk_aload_n X d_Core_init_0 rfl rfl ?_
  refine tk_objInit X m_Core_3 m_oi m_oc (Nat.le_of_ble_eq_true rfl) (Nat.le_of_ble_eq_true rfl) d_Core_init_1 ?_
  refine tk_aload_n X d_Core_init_4 rfl rfl ?_
  refine tk_bipush (v := 16) X d_Core_init_5 (by decide) ?_
  refine cn_newa X hO (k := (8, c, 0)) (z := 4 + (cn_q (ks_T P) * c + (3 + ks_T P))) ⟨hc, rfl⟩ (by show 4 + (cn_q (ks_T P) * c + (3 + ks_T P)) = _; omega) rfl rfl rfl m_ac_int (by decide) rfl (Nat.le_of_ble_eq_true rfl) (fun j _ => cn_sam rfl rfl) (by decide) (by decide) d_Core_init_7 ?_
  refine cn_putF X hnm (k := (4, c, 0)) (z := 4 + (cn_q (ks_T P) * c + (3 + ks_T P)) + 1) ⟨⟨hc, rfl⟩, by show 4 + (cn_q (ks_T P) * c + 0) < _; omega⟩ rfl hc_Core hi_Core t_Core t_Core_ok n_Core 2 (by decide) m_Core_9 rfl rfl (v := .ref (ks_ad P (8, c, 0))) rfl rfl rfl d_Core_init_9 ?_
  refine tk_aload_n X d_Core_init_12 rfl rfl ?_
  refine tk_bipush (v := 8) X d_Core_init_13 (by decide) ?_
  refine cn_newa X hO (k := (9, c, 0)) (z := 4 + (cn_q (ks_T P) * c + (3 + ks_T P)) + 1) ⟨hc, rfl⟩ (by show 4 + (cn_q (ks_T P) * c + (4 + ks_T P)) = _; omega) rfl rfl rfl m_ac_int (by decide) rfl (Nat.le_of_ble_eq_true rfl) (fun j _ => cn_sam rfl rfl) (by decide) (by decide) d_Core_init_15 ?_
  refine cn_putF X hnm (k := (4, c, 0)) (z := 4 + (cn_q (ks_T P) * c + (3 + ks_T P)) + 1 + 1) ⟨⟨hc, rfl⟩, by show 4 + (cn_q (ks_T P) * c + 0) < _; omega⟩ rfl hc_Core hi_Core t_Core t_Core_ok n_Core 3 (by decide) m_Core_15 rfl rfl (v := .ref (ks_ad P (9, c, 0))) rfl rfl rfl d_Core_init_17 ?_
  refine tk_aload_n X d_Core_init_20 rfl rfl ?_
  refine tk_bipush (v := 8) X d_Core_init_21 (by decide) ?_
  refine cn_newa X hO (k := (10, c, 0)) (z := 4 + (cn_q (ks_T P) * c + (3 + ks_T P)) + 1 + 1) ⟨hc, rfl⟩ (by show 4 + (cn_q (ks_T P) * c + (5 + ks_T P)) = _; omega) rfl rfl rfl m_ac_int (by decide) rfl (Nat.le_of_ble_eq_true rfl) (fun j _ => cn_sam rfl rfl) (by decide) (by decide) d_Core_init_23 ?_
  refine cn_putF X hnm (k := (4, c, 0)) (z := 4 + (cn_q (ks_T P) * c + (3 + ks_T P)) + 1 + 1 + 1) ⟨⟨hc, rfl⟩, by show 4 + (cn_q (ks_T P) * c + 0) < _; omega⟩ rfl hc_Core hi_Core t_Core t_Core_ok n_Core 4 (by decide) m_Core_18 rfl rfl (v := .ref (ks_ad P (10, c, 0))) rfl rfl rfl d_Core_init_25 ?_
  refine tk_aload_n X d_Core_init_28 rfl rfl ?_
  refine tk_bipush (v := 6) X d_Core_init_29 (by decide) ?_
  refine cn_newa X hO (k := (11, c, 0)) (z := 4 + (cn_q (ks_T P) * c + (3 + ks_T P)) + 1 + 1 + 1) ⟨hc, rfl⟩ (by show 4 + (cn_q (ks_T P) * c + (6 + ks_T P)) = _; omega) rfl rfl rfl m_ac_int (by decide) rfl (Nat.le_of_ble_eq_true rfl) (fun j _ => cn_sam rfl rfl) (by decide) (by decide) d_Core_init_31 ?_
  refine cn_putF X hnm (k := (4, c, 0)) (z := 4 + (cn_q (ks_T P) * c + (3 + ks_T P)) + 1 + 1 + 1 + 1) ⟨⟨hc, rfl⟩, by show 4 + (cn_q (ks_T P) * c + 0) < _; omega⟩ rfl hc_Core hi_Core t_Core t_Core_ok n_Core 5 (by decide) m_Core_21 rfl rfl (v := .ref (ks_ad P (11, c, 0))) rfl rfl rfl d_Core_init_33 ?_
  refine tk_aload_n X d_Core_init_36 rfl rfl ?_
  refine tk_iload_n X d_Core_init_37 rfl rfl ?_
  refine cn_putF X hnm (k := (4, c, 0)) (z := 4 + (cn_q (ks_T P) * c + (3 + ks_T P)) + 1 + 1 + 1 + 1) ⟨⟨hc, rfl⟩, by show 4 + (cn_q (ks_T P) * c + 0) < _; omega⟩ rfl hc_Core hi_Core t_Core t_Core_ok n_Core 0 (by decide) m_Core_24 rfl rfl (v := .int (nI c)) rfl rfl rfl d_Core_init_38 ?_
  refine tk_aload_n X d_Core_init_41 rfl rfl ?_
  refine tk_aload_n X d_Core_init_42 rfl rfl ?_
  refine cn_putF X hnm (k := (4, c, 0)) (z := 4 + (cn_q (ks_T P) * c + (3 + ks_T P)) + 1 + 1 + 1 + 1) ⟨⟨hc, rfl⟩, by show 4 + (cn_q (ks_T P) * c + 0) < _; omega⟩ rfl hc_Core hi_Core t_Core t_Core_ok n_Core 1 (by decide) m_Core_28 rfl rfl (v := .ref (ks_ad P (5, c, 0))) rfl rfl rfl d_Core_init_43 ?_
  exact tk_vret X hlk hr d_Core_init_46 rfl (fun _ h => h) (Or.inr rfl) (fun _ _ => rfl)

section LC
variable {p : Program} {l : Launch} {e : Env} {s : State} {m : MethodId} {args : Array Value} {below : List Frame} {meth : Method} {c0 : Code} {P : ks_P} {Q : State → Prop}
set_option maxRecDepth 100000 in
set_option maxHeartbeats 4000000 in
theorem lp_Cache_init (X : tk_X p m c0 s args (ks_G P) R_Cache b_Cache_init 4 WS) (hP : ks_ok P) (hO : cn_ok P) {S : tk_K → Nat → Bool} {c : Nat} (hc : c < ks_n P) (h52 : S (5, c, 0) 2 = true) (kend : tk_go p l e (cn_rm 2 (1 + ks_T P) (ks_T P + 6 * ks_T P)) s m args below meth c0 (ks_G P) (cn_dm P (4 + (cn_q (ks_T P) * c + (3 + (ks_T P))))) 4 (1 + (ks_T P)) (ks_T P + 6 * (ks_T P)) Q (cn_sl P (cn_wy S c (ks_T P))) 54 [some (.ref (ks_ad P (5, c, 0))), some (.int (nI (ks_S P))), some (.int (nI (ks_W P))), some (.int (nI (ks_T P)))] []) : ∀ (k j : Nat), j + k = ks_T P → tk_go p l e (cn_rm 2 (1 + ks_T P) (ks_T P + 6 * ks_T P)) s m args below meth c0 (ks_G P) (cn_dm P (4 + (cn_q (ks_T P) * c + (3 + j)))) 4 (1 + j) (ks_T P + 6 * j) Q (cn_sl P (cn_wy S c j)) 26 [some (.ref (ks_ad P (5, c, 0))), some (.int (nI (ks_S P))), some (.int (nI (ks_W P))), some (.int (nI j))] []
  | 0, j, hj => by
    have hT64 := ks_T64 hP
    have hjT : j = ks_T P := by omega
    rw [hjT]
    refine tk_iload_n X d_Cache_init_26 rfl rfl ?_
    refine tk_aload_n X d_Cache_init_27 rfl rfl ?_
    refine tk_get X (k := (5, c, 0)) (dm := cn_dm P (4 + (cn_q (ks_T P) * c + (3 + (ks_T P))))) ⟨⟨hc, rfl⟩, by show 4 + (cn_q (ks_T P) * c + 1) < _; omega⟩ rfl hc_Cache hi_Cache 2 (by decide) m_Cache_20 (v := .ref (ks_ad P (6, c, 0))) (cn_is (cn_wy_mono h52 _)) d_Cache_init_28 ?_
    refine tk_alen X (k := (6, c, 0)) (dm := cn_dm P (4 + (cn_q (ks_T P) * c + (3 + (ks_T P))))) ⟨⟨hc, rfl⟩, by show 4 + (cn_q (ks_T P) * c + 2) < _; omega⟩ rfl rfl (v := nI _) rfl d_Cache_init_31 ?_
    refine tk_icmp_ge (tgt := 54) X d_Cache_init_32 (by decide) (fun _ => kend) (fun h => absurd (nI_le (Nat.le_refl _) (by omega)) h)
  | k + 1, j, hj => by
    have hT64 := ks_T64 hP
    have hj2 : j < ks_T P := by omega
    refine tk_iload_n X d_Cache_init_26 rfl rfl ?_
    refine tk_aload_n X d_Cache_init_27 rfl rfl ?_
    refine tk_get X (k := (5, c, 0)) (dm := cn_dm P (4 + (cn_q (ks_T P) * c + (3 + j)))) ⟨⟨hc, rfl⟩, by show 4 + (cn_q (ks_T P) * c + 1) < _; omega⟩ rfl hc_Cache hi_Cache 2 (by decide) m_Cache_20 (v := .ref (ks_ad P (6, c, 0))) (cn_is (cn_wy_mono h52 _)) d_Cache_init_28 ?_
    refine tk_alen X (k := (6, c, 0)) (dm := cn_dm P (4 + (cn_q (ks_T P) * c + (3 + j)))) ⟨⟨hc, rfl⟩, by show 4 + (cn_q (ks_T P) * c + 2) < _; omega⟩ rfl rfl (v := nI _) rfl d_Cache_init_31 ?_
    refine tk_icmp_ge (tgt := 54) X d_Cache_init_32 (by decide) (fun h => absurd h (nI_ge hj2 (by omega))) (fun _ => ?_)
    refine tk_aload_n X d_Cache_init_35 rfl rfl ?_
    refine tk_get X (k := (5, c, 0)) (dm := cn_dm P (4 + (cn_q (ks_T P) * c + (3 + j)))) ⟨⟨hc, rfl⟩, by show 4 + (cn_q (ks_T P) * c + 1) < _; omega⟩ rfl hc_Cache hi_Cache 2 (by decide) m_Cache_20 (v := .ref (ks_ad P (6, c, 0))) (cn_is (cn_wy_mono h52 _)) d_Cache_init_36 ?_
    refine tk_iload_n X d_Cache_init_39 rfl rfl ?_
    refine cn_new X hO (k := (7, c, j)) (z := 4 + (cn_q (ks_T P) * c + (3 + j))) ⟨hc, hj2⟩ rfl rfl hc_Way hi_Way t_Way t_Way_ok m_Cache_18 mt_Way mi_Way (fun i hi => (cn_w6 i hi).trans (cn_sam rfl rfl)) (by show 1 + j + 1 ≤ 1 + ks_T P; omega) (by show ks_T P + 6 * j + 6 ≤ ks_T P + 6 * ks_T P; omega) d_Cache_init_40 ?_
    refine tk_dup X rfl d_Cache_init_43 ?_
    refine tk_callIN X (c_Way_init l P hP hO (cn_wy S c j) (ks_ad P (7, c, j)) _) (cn_site (n := 0) mc_Way_init mi_Way (by decide +kernel) (Nat.le_of_ble_eq_true rfl) (Nat.le_of_ble_eq_true rfl)) rfl n_Cache_24 ms_Way_init rfl (Nat.le_of_ble_eq_true rfl) ⟨by show 1 + j + 1 + 0 ≤ 1 + ks_T P; omega, by show ks_T P + 6 * j + 6 + 0 ≤ ks_T P + 6 * ks_T P; omega⟩ rfl d_Cache_init_44 ?_
    refine tk_aast X (dm := cn_dm P (4 + (cn_q (ks_T P) * c + (3 + j)) + 1)) (k := (6, c, 0)) (kv := (7, c, j)) ⟨⟨hc, rfl⟩, by show 4 + (cn_q (ks_T P) * c + 2) < _; omega⟩ ⟨⟨hc, hj2⟩, by show 4 + (cn_q (ks_T P) * c + (3 + j)) < _; omega⟩ rfl rfl rfl hc_Way (vp_in_nI hj2 (by omega)) d_Cache_init_47 ?_
    rw [nI_clamp (by omega), show tk_up (cn_sl P (cn_wy S c j)) (6, c, 0) j (.ref (tk_ad (ks_G P) (7, c, j))) = cn_sl P (cn_wy S c (j + 1)) from cn_put P _ (6, c, 0) j]
    refine tk_iinc (v := nI (j + 1)) X d_Cache_init_48 rfl (q_inc j) (by decide) rfl ?_
    refine tk_goto (tgt := 26) X d_Cache_init_51 (by decide) ?_
    exact lp_Cache_init X hP hO hc h52 kend k (j + 1) (by omega)
end LC

set_option maxRecDepth 100000 in
set_option maxHeartbeats 4000000 in
theorem c_Cache_init (l : Launch) (P : ks_P) (hP : ks_ok P) (hO : cn_ok P) (S : tk_K → Nat → Bool) (c : Nat) (hc : c < ks_n P) (h6 : ∀ j, S (6, c, 0) j = false) : cn_M l P y_Cache_init b_Cache_init 4 2 (1 + ks_T P) (ks_T P + 6 * ks_T P) [.ref (ks_ad P (5, c, 0)), .int (nI (ks_S P)), .int (nI (ks_W P))] (4 + (cn_q (ks_T P) * c + 2)) (4 + (cn_q (ks_T P) * c + (3 + ks_T P))) S (cn_wy (cn_ca S c) c (ks_T P)) := by
  refine tk_of hP.2.2.2.2.2 (by decide) rfl (Nat.le_of_ble_eq_true rfl) ?_
  have hT64 := ks_T64 hP
  intro p e s m below meth c0 X hlk hr hnm
  refine tk_aload_n X d_Cache_init_0 rfl rfl ?_
  refine tk_objInit X m_Cache_3 m_oi m_oc (Nat.le_of_ble_eq_true rfl) (Nat.le_of_ble_eq_true rfl) d_Cache_init_1 ?_
  refine tk_aload_n X d_Cache_init_4 rfl rfl ?_
  refine tk_iload_n X d_Cache_init_5 rfl rfl ?_
  refine cn_putF X hnm (k := (5, c, 0)) (z := 4 + (cn_q (ks_T P) * c + 2)) ⟨⟨hc, rfl⟩, by show 4 + (cn_q (ks_T P) * c + 1) < _; omega⟩ rfl hc_Cache hi_Cache t_Cache t_Cache_ok n_Cache 0 (by decide) m_Cache_9 rfl rfl (v := .int (nI (ks_S P))) rfl rfl rfl d_Cache_init_6 ?_
  refine tk_aload_n X d_Cache_init_9 rfl rfl ?_
  refine tk_iload_n X d_Cache_init_10 rfl rfl ?_
  refine cn_putF X hnm (k := (5, c, 0)) (z := 4 + (cn_q (ks_T P) * c + 2)) ⟨⟨hc, rfl⟩, by show 4 + (cn_q (ks_T P) * c + 1) < _; omega⟩ rfl hc_Cache hi_Cache t_Cache t_Cache_ok n_Cache 1 (by decide) m_Cache_15 rfl rfl (v := .int (nI (ks_W P))) rfl rfl rfl d_Cache_init_11 ?_
  refine tk_aload_n X d_Cache_init_14 rfl rfl ?_
  refine tk_iload_n X d_Cache_init_15 rfl rfl ?_
  refine tk_iload_n X d_Cache_init_16 rfl rfl ?_
  refine tk_imul X d_Cache_init_17 ?_
  rw [pk_mul]
  refine cn_anew X hO (k := (6, c, 0)) (z := 4 + (cn_q (ks_T P) * c + 2)) ⟨hc, rfl⟩ rfl rfl rfl m_Cache_18 n_ao_Way (nI_pos (show ks_T P < 2 ^ 31 by omega)) (nI_clamp (show ks_T P < 2 ^ 31 by omega)) (by omega) (fun j _ => cn_unv (((cn_set_nk (by simp)).trans (cn_set_nk (by simp))).trans (h6 j)) rfl) (by show 0 + 1 ≤ 1 + ks_T P; omega) (by show 0 + ks_T P ≤ ks_T P + 6 * ks_T P; omega) d_Cache_init_18 ?_
  refine cn_putF X hnm (k := (5, c, 0)) (z := 4 + (cn_q (ks_T P) * c + 2) + 1) ⟨⟨hc, rfl⟩, by show 4 + (cn_q (ks_T P) * c + 1) < _; omega⟩ rfl hc_Cache hi_Cache t_Cache t_Cache_ok n_Cache 2 (by decide) m_Cache_20 rfl rfl (v := .ref (ks_ad P (6, c, 0))) rfl rfl rfl d_Cache_init_21 ?_
  refine tk_iconst (v := 0) X d_Cache_init_24 (by decide) ?_
  refine tk_istore_n X d_Cache_init_25 rfl (by decide) rfl ?_
  refine tk_widen (k := 1 + 0) (n := ks_T P + 6 * 0) (Nat.le_of_ble_eq_true rfl) (by show 0 + ks_T P ≤ ks_T P + 6 * 0; omega) ?_
  refine lp_Cache_init X hP hO (S := cn_ca S c) hc (cn_set_eq _ _ _) ?_ (ks_T P) 0 (by omega)
  exact tk_vret X hlk hr d_Cache_init_54 rfl (fun _ h => h) (Or.inr rfl) (fun _ _ => rfl)
