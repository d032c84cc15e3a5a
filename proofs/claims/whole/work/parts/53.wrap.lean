def xw_Q (G : tk_G) (dm : tk_W) (r : Option Value) (sl' : tk_L) : Array Value → State → Outcome → State → Prop := fun _ _ oc t => oc = .returned r ∧ tk_H G dm sl' t.heap
def xw_N : String → State → State → Prop := fun _ _ _ => False
def xw_M (l : Launch) (G : tk_G) (dm : tk_W) (y : MethodName) (ws : List Cond) (rm : Room) (As : List Value) (sl : tk_L) (r : Option Value) (sl' : tk_L) : Prop :=
  vx_Met l y ws rm (va_Pc As (xt_B G dm sl)) (xw_Q G dm r sl') xw_N rm.cells rm.slots (fun q => (tk_h0 G).size ≤ q)
theorem xw_good {own : String} {index : Nat} {y : MethodName} {w0 : Cond} (h1 : Cond.methodLink own index y ∈ WS) (h2 : Cond.static y ∈ WS) (h3 : Cond.initialized y.cls ∈ WS) (h4 : w0 ∈ WS) : GoodIn WS (va_wsS own index y (w0 :: WS)) := fun w hw => by
  have h : w ∈ WS := by
    unfold va_wsS at hw
    rcases List.mem_append.mp hw with h | h
    · simp only [List.mem_cons, List.not_mem_nil, or_false] at h
      rcases h with rfl | rfl | rfl <;> assumption
    · rcases List.mem_cons.mp h with rfl | h
      · exact h4
      · exact h
  exact ⟨h, good_of_word (List.all_eq_true.mp WS_good w h)⟩
section XW
variable {p : Program} {l : Launch} {e : Env} {R : Room} {s : State} {m : MethodId} {args : Array Value} {below : List Frame} {meth : Method} {c : Code} {G : tk_G} {dm : tk_W} {nL cells slots : Nat} {Q : State → Prop} {sl sl' : tk_L} {pc : Nat} {L : List (Option Value)} {st rest : List Value}
variable {own : String} {cc : ByteArray} {y : MethodName} {bytes : ByteArray} {maxL n index : Nat} {ret : Option FieldType} {rm : Room} {As : List Value} {r : Option Value} {hh : List (Nat × Nat × Nat × Nat)}
theorem xw_of (hA : tk_A G) (hy : plainName y.cls = true) (hcat0 : As.all (fun v => v.category == 1) = true) (hn : As.length ≤ nL)
    (body : ∀ (p : Program) (e : Env) (s : State) (m : MethodId) (below : List Frame) (meth : Method) (c : Code), tk_X p m c s As.toArray G y.cls cc nL WS → xt_Z G s → c.exceptionTable.toList = tableOf hh → meth.locks = false → meth.sig.returnType = ret →
      tk_go p l e rm s m As.toArray below meth c G dm nL 0 0 (vx_MQ below (xw_Q G dm r sl') xw_N As.toArray s rm.cells rm.slots (fun q => (tk_h0 G).size ≤ q)) sl 0 (As.map some ++ List.replicate (nL - As.length) none) []) : xw_M l G dm y (Cond.codeWith y cc nL ret hh :: WS) rm As sl r sl' := by
  refine vx_ofWH (cc := cc) (maxL := nL) (ret := ret) (hh := hh) hy rfl ?_
  intro p e s m args below meth c s₁ B hml hv
  obtain ⟨rfl, hH, hV, hZ⟩ := hv
  have hts := atoms_spec (ws := Cond.codeWith y cc nL ret hh :: WS) B.pre
  have hown : s.vm.findClass y.cls = some m.cls := findClass_of_methodNamed B.named
  have htab := vx_table (x := y) B (hts _ List.mem_cons_self)
  exact xt_entry hcat0 hn hH (body p e s m below meth c ⟨⟨B.exec, B.bytes, hml, hown, fun w hw => hts w (List.mem_cons_of_mem _ hw)⟩, hV, hA⟩ hZ htab B.notSynchronized B.returns)
theorem xw_call (X : tk_X p m c s args G own cc nL WS) (hZ : xt_Z G s) (hM : xw_M l G dm y (Cond.codeWith y bytes maxL ret hh :: WS) rm As sl r sl') (hcw : Cond.codeWith y bytes maxL ret hh ∈ WS) (hini : Cond.initialized y.cls ∈ WS) (hlink : Cond.methodLink own index y ∈ WS) (hst : Cond.static y ∈ WS) (hd : y.cls ≠ "java/lang/invoke/MethodHandle" ∧ y.cls ≠ "java/lang/invoke/VarHandle" ∧ (parseMethodDescriptor y.desc).map (fun d => d.parameters.length) = some n) (hR : rm.frames + 1 ≤ R.frames ∧ 8 + (maxL + 11) + rm.locals ≤ R.locals) (hn : As.length = n) (hrest : (rest.map fun v => v.category).sum ≤ 8) (hcs : cells + rm.cells ≤ R.cells ∧ slots + rm.slots ≤ R.slots) (hstk : st = As.reverse ++ rest) (hdg : decode cc pc = .ok (.invokestatic index, 3))
    (k : tk_go p l e R s m args below meth c G dm nL (cells + rm.cells) (slots + rm.slots) Q sl' (pc + 3) L (r.toList ++ rest)) : tk_go p l e R s m args below meth c G dm nL cells slots Q sl pc L st := fun H locs ls hH hl hv => by
  subst hstk
  have hts := X.1.2.2.2.2
  have hr := vx_runSX (p := p) (e := e) (below := below) (meth := meth) (locs := locs) (cells := cells) (slots := slots) (rest := rest) (g := F0 m pc ls (As.reverse ++ rest)) X.1 hM (vx_cwSW n hts (xw_good hlink hst hini hcw) rfl rfl rfl hd hR) (xt_preS hH X.2.1 hZ) rfl hn hv.1 rfl (lv_room hrest) hdg hcs
  intro T hT Y
  rcases hr T hT Y with ⟨v, st₀, t, T', L', h0, X', hL, e1, e2, ⟨hv', hH'⟩, stp⟩ | ⟨q, st₀, t, T', L', E', ce, h0, X', hL, e1, e2, hf, hce, hcv, hcl, stp⟩
  · cases hv'
    obtain ⟨t2, a1, b1⟩ := k T'.heap (locs ++ L') ls (by rw [e1]; exact hH') (fun q hq => by
      rcases List.mem_append.mp hq with h | h
      · exact hl q h
      · exact hL q h) hv T' rfl X'
    exact ⟨t2, stp t2 a1, b1⟩
  · exact hf.elim
end XW
section KX
variable {p : Program} {l : Launch} {e : Env} {R : Room} {s : State} {m : MethodId} {args : Array Value} {below : List Frame} {meth : Method} {c : Code} {P : ks_P} {nL cells slots : Nat} {Q : State → Prop} {a b : ks_M} {o : ks_O} {pc : Nat} {L : List (Option Value)} {st : List Value}
variable {own : String} {cc : ByteArray} {Ts : List Cond}
theorem kx_last (X : tk_X p m c s args (ks_G P) own cc nL Ts) {v : Int64} (hdg : decode cc pc = .ok (.lastore, 1)) (kk : tk_go p l e R s m args below meth c (ks_G P) (ks_dm P) nL cells slots Q (ks_sl P a b (v, o.2)) (pc + 1) L st) : tk_go p l e R s m args below meth c (ks_G P) (ks_dm P) nL cells slots Q (ks_sl P a b o) pc L (.long v :: .int 0 :: .ref (tk_ad (ks_G P) (28, 0, 0)) :: st) := by
  refine tk_last X (dm := ks_dm P) (k := (28, 0, 0)) (ks_d0 (by decide)) rfl rfl (vp_in_nI (n := 0) (N := 1) (by decide) (by decide)) rfl hdg ?_
  exact tk_congr (ks_wo P a b o v) kk
theorem kx_lald (X : tk_X p m c s args (ks_G P) own cc nL Ts) (hdg : decode cc pc = .ok (.laload, 1)) (kk : tk_go p l e R s m args below meth c (ks_G P) (ks_dm P) nL cells slots Q (ks_sl P a b o) (pc + 1) L (.long o.1 :: st)) : tk_go p l e R s m args below meth c (ks_G P) (ks_dm P) nL cells slots Q (ks_sl P a b o) pc L (.int 0 :: .ref (tk_ad (ks_G P) (28, 0, 0)) :: st) :=
  tk_lald X (dm := ks_dm P) (k := (28, 0, 0)) (ks_d0 (by decide)) rfl rfl (vp_in_nI (n := 0) (N := 1) (by decide) (by decide)) rfl hdg kk
end KX
abbrev kq (l : Launch) (P : ks_P) (y : MethodName) (cc : ByteArray) (nL : Nat) (hh : List (Nat × Nat × Nat × Nat)) (As : List Value) (a b : ks_M) (o : ks_O) (r : Int32) (a' : ks_M) (o' : ks_O) : Prop :=
  xw_M l (ks_G P) (ks_dm P) y (Cond.codeWith y cc nL (some .int) hh :: WS) (xt_rm 8) As (ks_sl P a b o) (some (.int r)) (ks_sl P a' b o')
