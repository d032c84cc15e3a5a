def ks_rm (d : Nat) : Room := { frames := d, cells := 0, slots := 0, locals := 40 * d }
section KW
variable {p : Program} {l : Launch} {e : Env} {R : Room} {s : State} {m : MethodId} {args : Array Value} {below : List Frame} {meth : Method} {c : Code} {P : ks_P} {nL cells slots : Nat} {Q : State → Prop} {a b : ks_M} {o : ks_O} {pc : Nat} {L : List (Option Value)} {st : List Value}
variable {own : String} {cc : ByteArray} {Ts : List Cond}
theorem kw_iald (X : tk_X p m c s args (ks_G P) own cc nL Ts) {k : tk_K} (hk : (ks_dm P).1 k) {len : Nat} (hkd : ks_kd P k = .inr (0, len)) (hlen : len ≤ 64) {x : Int32} {i : Nat} (hx : x = nI i) (hi : i < len) {v : Int32} (hv : ks_sl P a b o k i = .int v) (hdg : decode cc pc = .ok (.iaload, 1))
    (kk : tk_go p l e R s m args below meth c (ks_G P) (ks_dm P) nL cells slots Q (ks_sl P a b o) (pc + 1) L (.int v :: st)) : tk_go p l e R s m args below meth c (ks_G P) (ks_dm P) nL cells slots Q (ks_sl P a b o) pc L (.int x :: .ref (tk_ad (ks_G P) k) :: st) := by
  subst hx
  exact tk_iald X (dm := ks_dm P) (k := k) hk hkd rfl (vp_in_nI hi (by omega)) (by rw [nI_clamp (by omega)]; exact hv) hdg kk
theorem kw_zald (X : tk_X p m c s args (ks_G P) own cc nL Ts) {k : tk_K} (hk : (ks_dm P).1 k) {len : Nat} (hkd : ks_kd P k = .inr (1, len)) (hlen : len ≤ 64) {x : Int32} {i : Nat} (hx : x = nI i) (hi : i < len) {v : Int32} (hv : ks_sl P a b o k i = .int v) (hdg : decode cc pc = .ok (.baload, 1))
    (kk : tk_go p l e R s m args below meth c (ks_G P) (ks_dm P) nL cells slots Q (ks_sl P a b o) (pc + 1) L (.int v :: st)) : tk_go p l e R s m args below meth c (ks_G P) (ks_dm P) nL cells slots Q (ks_sl P a b o) pc L (.int x :: .ref (tk_ad (ks_G P) k) :: st) := by
  subst hx
  exact tk_zald X (dm := ks_dm P) (k := k) hk hkd rfl (vp_in_nI hi (by omega)) (by rw [nI_clamp (by omega)]; exact hv) hdg kk
theorem kw_core (X : tk_X p m c s args (ks_G P) own cc nL Ts) {x : Int32} {i : Nat} (hx : x = nI i) (hi : i < ks_n P) (hn : ks_n P ≤ 64) (hdg : decode cc pc = .ok (.aaload, 1))
    (kk : tk_go p l e R s m args below meth c (ks_G P) (ks_dm P) nL cells slots Q (ks_sl P a b o) (pc + 1) L (.ref (tk_ad (ks_G P) (4, i, 0)) :: st)) : tk_go p l e R s m args below meth c (ks_G P) (ks_dm P) nL cells slots Q (ks_sl P a b o) pc L (.int x :: .ref (tk_ad (ks_G P) (3, 0, 0)) :: st) := by
  subst hx
  exact tk_aald X (dm := ks_dm P) (k := (3, 0, 0)) (ks_d0 (by decide)) rfl rfl (vp_in_nI hi (by omega)) (by rw [nI_clamp (by omega)]; rfl) hdg kk
theorem kw_way (X : tk_X p m c s args (ks_G P) own cc nL Ts) {cr : Nat} (hc : cr < ks_n P) {x : Int32} {i : Nat} (hx : x = nI i) (hi : i < ks_T P) (hT : ks_T P ≤ 64) (hdg : decode cc pc = .ok (.aaload, 1))
    (kk : tk_go p l e R s m args below meth c (ks_G P) (ks_dm P) nL cells slots Q (ks_sl P a b o) (pc + 1) L (.ref (tk_ad (ks_G P) (7, cr, i)) :: st)) : tk_go p l e R s m args below meth c (ks_G P) (ks_dm P) nL cells slots Q (ks_sl P a b o) pc L (.int x :: .ref (tk_ad (ks_G P) (6, cr, 0)) :: st) := by
  subst hx
  exact tk_aald X (dm := ks_dm P) (k := (6, cr, 0)) (ks_d6 hc) rfl rfl (vp_in_nI hi (by omega)) (by rw [nI_clamp (by omega)]; rfl) hdg kk
theorem kw_iast (X : tk_X p m c s args (ks_G P) own cc nL Ts) {k : tk_K} (hk : (ks_dm P).1 k) {len : Nat} (hkd : ks_kd P k = .inr (0, len)) (hlen : len ≤ 64) {x : Int32} {i : Nat} (hx : x = nI i) (hi : i < len) (hint : ks_int k i = true) {v : Int32} (hdg : decode cc pc = .ok (.iastore, 1))
    (kk : tk_go p l e R s m args below meth c (ks_G P) (ks_dm P) nL cells slots Q (ks_sl P (ks_up a k i v) b o) (pc + 1) L st) : tk_go p l e R s m args below meth c (ks_G P) (ks_dm P) nL cells slots Q (ks_sl P a b o) pc L (.int v :: .int x :: .ref (tk_ad (ks_G P) k) :: st) := by
  subst hx
  refine tk_iast X (dm := ks_dm P) (k := k) hk hkd rfl (vp_in_nI hi (by omega)) rfl hdg ?_
  rw [nI_clamp (by omega), ks_wa P a b o hint]
  exact kk
theorem kr_iast (X : tk_X p m c s args (ks_G P) own cc nL Ts) (hP : ks_ok P) {f : Nat} (h1 : 13 ≤ f) (h2 : f ≤ 27) {len : Nat} (hkd : ks_kd P (f, 0, 0) = .inr (0, len)) (hlen : len ≤ 64) {x : Int32} {i : Nat} (hx : x = nI i) (hi : i < len) {k' : tk_K} {i' : Nat} (e1 : ks_vk (ks_S P) (ks_W P) f i = k') (e2 : ks_vi f i = i') {v : Int32} (hdg : decode cc pc = .ok (.iastore, 1))
    (kk : tk_go p l e R s m args below meth c (ks_G P) (ks_dm P) nL cells slots Q (ks_sl P a (ks_up b k' i' v) o) (pc + 1) L st) : tk_go p l e R s m args below meth c (ks_G P) (ks_dm P) nL cells slots Q (ks_sl P a b o) pc L (.int v :: .int x :: .ref (tk_ad (ks_G P) (f, 0, 0)) :: st) := by
  subst hx
  subst e1
  subst e2
  refine tk_iast X (dm := ks_dm P) (k := (f, 0, 0)) (ks_d0 (by omega)) hkd rfl (vp_in_nI hi (by omega)) rfl hdg ?_
  rw [nI_clamp (by omega)]
  exact tk_congr (ks_wb P hP a b o h1 h2 i v) kk
theorem kr_zast (X : tk_X p m c s args (ks_G P) own cc nL Ts) (hP : ks_ok P) {x : Int32} {i : Nat} (hx : x = nI i) (hi : i < 3) {v w : Int32} (hw : narrow .boolean (.int v) = .int w) (hdg : decode cc pc = .ok (.bastore, 1))
    (kk : tk_go p l e R s m args below meth c (ks_G P) (ks_dm P) nL cells slots Q (ks_sl P a (ks_up b (4, i, 0) 9 w) o) (pc + 1) L st) : tk_go p l e R s m args below meth c (ks_G P) (ks_dm P) nL cells slots Q (ks_sl P a b o) pc L (.int v :: .int x :: .ref (tk_ad (ks_G P) (20, 0, 0)) :: st) := by
  subst hx
  refine tk_zast X (dm := ks_dm P) (k := (20, 0, 0)) (ks_d0 (by decide)) rfl rfl (vp_in_nI hi (by decide)) hw hdg ?_
  rw [nI_clamp (by omega)]
  exact tk_congr (ks_wb P hP a b o (f := 20) (by decide) (by decide) i w) kk
theorem kr_iald (X : tk_X p m c s args (ks_G P) own cc nL Ts) {f : Nat} (h1 : 13 ≤ f) (h2 : f ≤ 27) {len : Nat} (hkd : ks_kd P (f, 0, 0) = .inr (0, len)) (hlen : len ≤ 64) {x : Int32} {i : Nat} (hx : x = nI i) (hi : i < len) {k' : tk_K} {i' : Nat} (e1 : ks_vk (ks_S P) (ks_W P) f i = k') (e2 : ks_vi f i = i') (hdg : decode cc pc = .ok (.iaload, 1))
    (kk : tk_go p l e R s m args below meth c (ks_G P) (ks_dm P) nL cells slots Q (ks_sl P a b o) (pc + 1) L (.int (b k' i') :: st)) : tk_go p l e R s m args below meth c (ks_G P) (ks_dm P) nL cells slots Q (ks_sl P a b o) pc L (.int x :: .ref (tk_ad (ks_G P) (f, 0, 0)) :: st) := by
  subst e1
  subst e2
  refine kw_iald X (ks_d0 (by omega)) hkd hlen hx hi ?_ hdg kk
  unfold ks_sl
  rw [ks_int_ref (by omega)]
  exact ks_cs_arr P b o h1 h2 0 0 i
theorem kw_put (X : tk_X p m c s args (ks_G P) own cc nL Ts) {k : tk_K} (hk : (ks_dm P).1 k) {ci : Nat} (hkd : ks_kd P k = .inl ci) {C : String} {T : u_T} {N : Nat} (hc : classes[ci]? = some (C, T, N)) (hin : ∀ w ∈ u_ws C T N, w ∈ Ts) (ty0 : Nat → FieldType) (hty : ∀ k, k < N → parseFieldDescriptor (T k).2.2.1 = some (ty0 k)) (hnm : ∀ a, a < N → ∀ b, b < N → a ≠ b → (T a).2.1 ≠ (T b).2.1) (j : Nat) (hj : j < N) (hint : ks_int k j = true) {index : Nat} (hlink : Cond.fieldLink own index (T j).1 (T j).2.1 (T j).2.2.1 ∈ Ts) (hfin : (T j).2.2.2 = false) {v : Int32} (hn : narrow (ty0 j) (.int v) = .int v) (hfit : fits (ty0 j) (.int v) = true) (hdg : decode cc pc = .ok (.putfield index, 3))
    (kk : tk_go p l e R s m args below meth c (ks_G P) (ks_dm P) nL cells slots Q (ks_sl P (ks_up a k j v) b o) (pc + 3) L st) : tk_go p l e R s m args below meth c (ks_G P) (ks_dm P) nL cells slots Q (ks_sl P a b o) pc L (.int v :: .ref (tk_ad (ks_G P) k) :: st) := by
  refine tk_put X (dm := ks_dm P) (k := k) hk hkd hc hin ty0 hty hnm j hj hlink hfin hn hfit hdg ?_
  rw [ks_wa P a b o hint]
  exact kk
theorem kw_putN (X : tk_X p m c s args (ks_G P) own cc nL Ts) {k : tk_K} (hk : (ks_dm P).1 k) {ci : Nat} (hkd : ks_kd P k = .inl ci) {C host : String} {T : u_T} {N : Nat} (hc : classes[ci]? = some (C, T, N)) (hin : ∀ w ∈ u_ws C T N, w ∈ Ts) (ty0 : Nat → FieldType) (hty : ∀ k, k < N → parseFieldDescriptor (T k).2.2.1 = some (ty0 k)) (hnm : ∀ a, a < N → ∀ b, b < N → a ≠ b → (T a).2.1 ≠ (T b).2.1) (j : Nat) (hj : j < N) (hint : ks_int k j = true) {index : Nat} (hlink : Cond.fieldLinkNest own index (T j).1 (T j).2.1 (T j).2.2.1 host ∈ NW) (hfin : (T j).2.2.2 = false) {v : Int32} (hn : narrow (ty0 j) (.int v) = .int v) (hfit : fits (ty0 j) (.int v) = true) (hdg : decode cc pc = .ok (.putfield index, 3))
    (kk : tk_go p l e R s m args below meth c (ks_G P) (ks_dm P) nL cells slots Q (ks_sl P (ks_up a k j v) b o) (pc + 3) L st) : tk_go p l e R s m args below meth c (ks_G P) (ks_dm P) nL cells slots Q (ks_sl P a b o) pc L (.int v :: .ref (tk_ad (ks_G P) k) :: st) := by
  refine tk_putN X (dm := ks_dm P) (k := k) hk hkd hc hin ty0 hty hnm j hj hlink hfin hn hfit hdg ?_
  rw [ks_wa P a b o hint]
  exact kk
theorem kr_put (X : tk_X p m c s args (ks_G P) own cc nL Ts) {C : String} {T : u_T} {N : Nat} (hc : classes[5]? = some (C, T, N)) (hin : ∀ w ∈ u_ws C T N, w ∈ Ts) (ty0 : Nat → FieldType) (hty : ∀ k, k < N → parseFieldDescriptor (T k).2.2.1 = some (ty0 k)) (hnm : ∀ a, a < N → ∀ b, b < N → a ≠ b → (T a).2.1 ≠ (T b).2.1) (j : Nat) (hj : j < N) (hj0 : j = 4 ∨ j = 5) {index : Nat} (hlink : Cond.fieldLink own index (T j).1 (T j).2.1 (T j).2.2.1 ∈ Ts) (hfin : (T j).2.2.2 = false) {v : Int32} (hn : narrow (ty0 j) (.int v) = .int v) (hfit : fits (ty0 j) (.int v) = true) (hdg : decode cc pc = .ok (.putfield index, 3))
    (kk : tk_go p l e R s m args below meth c (ks_G P) (ks_dm P) nL cells slots Q (ks_sl P a (ks_up b (ks_fk j).1 (ks_fk j).2 v) o) (pc + 3) L st) : tk_go p l e R s m args below meth c (ks_G P) (ks_dm P) nL cells slots Q (ks_sl P a b o) pc L (.int v :: .ref (tk_ad (ks_G P) (12, 0, 0)) :: st) :=
  tk_put X (dm := ks_dm P) (k := (12, 0, 0)) (ks_d0 (by decide)) rfl hc hin ty0 hty hnm j hj hlink hfin hn hfit hdg (tk_congr (ks_wf P a b o hj0 v) kk)
theorem kr_code (X : tk_X p m c s args (ks_G P) own cc nL Ts) {C : String} {T : u_T} {N : Nat} (hc : classes[5]? = some (C, T, N)) (hin : ∀ w ∈ u_ws C T N, w ∈ Ts) (ty0 : Nat → FieldType) (hty : ∀ k, k < N → parseFieldDescriptor (T k).2.2.1 = some (ty0 k)) (hnm : ∀ a, a < N → ∀ b, b < N → a ≠ b → (T a).2.1 ≠ (T b).2.1) (hj : 3 < N) {index : Nat} (hlink : Cond.fieldLink own index (T 3).1 (T 3).2.1 (T 3).2.2.1 ∈ Ts) (hfin : (T 3).2.2.2 = false) {v : Int32} (hn : narrow (ty0 3) (.int v) = .int v) (hfit : fits (ty0 3) (.int v) = true) (hdg : decode cc pc = .ok (.putfield index, 3))
    (kk : tk_go p l e R s m args below meth c (ks_G P) (ks_dm P) nL cells slots Q (ks_sl P a b (o.1, v)) (pc + 3) L st) : tk_go p l e R s m args below meth c (ks_G P) (ks_dm P) nL cells slots Q (ks_sl P a b o) pc L (.int v :: .ref (tk_ad (ks_G P) (12, 0, 0)) :: st) :=
  tk_put X (dm := ks_dm P) (k := (12, 0, 0)) (ks_d0 (by decide)) rfl hc hin ty0 hty hnm 3 hj hlink hfin hn hfit hdg (tk_congr (ks_wc P a b o v) kk)
end KW
abbrev kc (l : Launch) (P : ks_P) (y : MethodName) (cc : ByteArray) (nL : Nat) (ret : Option FieldType) (d : Nat) (As : List Value) (a b : ks_M) (o : ks_O) (r : Option Value) (a' b' : ks_M) (o' : ks_O) : Prop :=
  tk_M l (ks_G P) (ks_dm P) (ks_dm P) y (Cond.code y cc nL ret :: WS) (ks_rm d) As (ks_sl P a b o) r (ks_sl P a' b' o')
theorem ks_site {y : MethodName} {bytes : ByteArray} {maxL n : Nat} {ret : Option FieldType} {d d' : Nat} (hm : Cond.code y bytes maxL ret ∈ WS) (hini : Cond.initialized y.cls ∈ WS) (hd : y.cls ≠ "java/lang/invoke/MethodHandle" ∧ y.cls ≠ "java/lang/invoke/VarHandle" ∧ (parseMethodDescriptor y.desc).map (fun d => d.parameters.length) = some n) (hdd : d + 1 ≤ d') (hml : maxL ≤ 21) : tk_site (ks_rm d') WS y bytes maxL ret (Cond.code y bytes maxL ret :: WS) (ks_rm d) n :=
  ⟨tk_good hm WS_good, ⟨_, rfl⟩, hini, hd, hdd, by show 8 + (maxL + 11) + 40 * d ≤ 40 * d'; omega⟩
