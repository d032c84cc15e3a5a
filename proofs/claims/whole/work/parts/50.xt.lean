def xe_I : String := "java/lang/IndexOutOfBoundsException"
def xe_A : String := "java/lang/IllegalArgumentException"
def xe_S : String := "java/lang/IllegalStateException"
def xt_F : List Cond := [.castable xe_I xe_I, .castable xe_A xe_A, .castable xe_S xe_S, .declares (Bundle.initS "java/lang/RuntimeException"), .declares (Bundle.initS "java/lang/Exception"), .declares (Bundle.initS Bundle.tN)]
theorem xt_F_ok : ∀ w ∈ xt_F, w.onTables = true ∧ w.faceAtom = true := by decide +kernel
def xt_Z (G : tk_G) (U : State) : Prop :=
  (∀ w ∈ xt_F, va_Nw w U) ∧ va_Nc xe_S xe_I U ∧
  vx_Zq Bundle.tN "UNASSIGNED_STACK" Bundle.steD (fun q => (tk_h0 G).size ≤ q) U (tk_h0 G) ∧ vx_Zq Bundle.tN "SUPPRESSED_SENTINEL" Bundle.listD (fun q => (tk_h0 G).size ≤ q) U (tk_h0 G) ∧
  (∃ a, vk_R R_TC 128 "there is no such thing" a U) ∧ (∃ a, vk_R R_TC 81 "steps are 0 to 16" a U) ∧ ∃ a, vk_R R_TC 91 "the core has a transaction" a U
theorem xt_Z.warm {G : tk_G} {s U : State} (h : xt_Z G s) (hW : s.WarmedH U.vm) : xt_Z G U := by
  obtain ⟨h1, h4, h5, h6, ⟨a7, h7⟩, ⟨a8, h8⟩, a9, h9⟩ := h
  exact ⟨fun w hw => va_tabs (xt_F_ok w hw).1 (rfl : (s.setVm U.vm).vm = U.vm) (Cond.faceAtom_setVm hW.alike w (xt_F_ok w hw).2 (h1 w hw)), va_Nc.moved hW.alike h4, vx_Zq.moved hW.alike h5, vx_Zq.moved hW.alike h6, ⟨a7, vk_R.warm hW h7⟩, ⟨a8, vk_R.warm hW h8⟩, a9, vk_R.warm hW h9⟩
theorem xt_Z.same {G : tk_G} {s U : State} (h : xt_Z G s) (hv : s.vm = U.vm) : xt_Z G U := by
  obtain ⟨h1, h4, h5, h6, ⟨a7, h7⟩, ⟨a8, h8⟩, a9, h9⟩ := h
  have hA : s.vm.Alike U.vm := by rw [hv]; exact Vm.Alike.refl _
  exact ⟨fun w hw => va_Nw.same (xt_F_ok w hw).1 hv (h1 w hw), va_Nc.moved hA h4, vx_Zq.moved hA h5, vx_Zq.moved hA h6, ⟨a7, vk_R.same hv.symm h7⟩, ⟨a8, vk_R.same hv.symm h8⟩, a9, vk_R.same hv.symm h9⟩
def xt_B (G : tk_G) (dm : tk_W) (sl : tk_L) (U : State) : Prop := tk_H G dm sl U.heap ∧ tk_V G U ∧ xt_Z G U
def xt_C (G : tk_G) (dm : tk_W) (sl : tk_L) (E : String) : String → State → State → Prop := fun E' _ t => E' = E ∧ tk_H G dm sl t.heap
def xt_N : Array Value → State → Outcome → State → Prop := fun _ _ _ _ => False
def xt_M (l : Launch) (G : tk_G) (dm : tk_W) (y : MethodName) (ws : List Cond) (rm : Room) (As : List Value) (sl : tk_L) (E : String) : Prop :=
  vx_Met l y ws rm (va_Pc As (xt_B G dm sl)) xt_N (xt_C G dm sl E) rm.cells rm.slots (fun q => (tk_h0 G).size ≤ q)
theorem xt_blind {G : tk_G} {dm : tk_W} {sl : tk_L} {As : List Value} : FrameBlind (va_Pc As (xt_B G dm sl)) := fun a U g mk q => by
  obtain ⟨q1, q2, q3, q4⟩ := q
  exact ⟨q1, q2, q3.same (U := U.calling g mk a) rfl, q4.same (U := U.calling g mk a) rfl⟩
theorem xt_preS {G : tk_G} {dm : tk_W} {sl : tk_L} {As : List Value} {s : State} {H : Heap} (hH : tk_H G dm sl H) (hV : tk_V G s) (hZ : xt_Z G s) : PreS s H (va_Pc As (xt_B G dm sl)) As :=
  ⟨xt_blind, fun U hU hW => ⟨rfl, by rw [hU]; exact hH, hV.warm hW, hZ.warm hW⟩⟩
theorem xt_preV {G : tk_G} {dm : tk_W} {sl : tk_L} {As : List Value} {s : State} {H : Heap} {k : tk_K} {ci : Nat} {C : String} {T : u_T} {N : Nat} (hH : tk_H G dm sl H) (hV : tk_V G s) (hZ : xt_Z G s) (hk : dm.1 k) (hkd : tk_kd G k = .inl ci) (hc : G.2.1[ci]? = some (C, T, N)) : PreV s H C (tk_ad G k) (va_Pc (.ref (tk_ad G k) :: As) (xt_B G dm sl)) As := by
  obtain ⟨-, h2, -⟩ := tk_preV (As := As) hH hV hk hkd hc
  exact ⟨xt_blind, h2, fun U hU hW => ⟨rfl, by rw [hU]; exact hH, hV.warm hW, hZ.warm hW⟩⟩
section XT
variable {p : Program} {l : Launch} {e : Env} {R : Room} {s : State} {m : MethodId} {args : Array Value} {below : List Frame} {meth : Method} {c : Code} {G : tk_G} {dm : tk_W} {nL cells slots : Nat} {Q : State → Prop} {sl : tk_L} {pc : Nat} {L : List (Option Value)} {st rest : List Value}
variable {own : String} {cc : ByteArray} {Ts : List Cond} {E : String} {y : MethodName} {bytes : ByteArray} {maxL n index : Nat} {ret : Option FieldType} {ws : List Cond} {rm : Room} {As : List Value} {mc ms : Nat}
theorem xt_ret {Qc : Array Value → State → Outcome → State → Prop} {XC : String → State → State → Prop} {free : Addr → Prop} (k : tk_go p l e R s m args below meth c G dm nL cells slots (MQ below Qc args s mc ms free) sl pc L st) : tk_go p l e R s m args below meth c G dm nL cells slots (vx_MQ below Qc XC args s mc ms free) sl pc L st := fun H locs ls hH hl hv => vx_ret (k H locs ls hH hl hv)
theorem xt_passS (X : tk_X p m c s args G own cc nL Ts) (hZ : xt_Z G s) (hM : xt_M l G dm y ws rm As sl E) (hs : tk_site R Ts y bytes maxL ret ws rm n) (hlink : Cond.methodLink own index y ∈ Ts) (hst : Cond.static y ∈ Ts) (hn : As.length = n) (hrest : (rest.map fun v => v.category).sum ≤ 8) (hcs : cells + rm.cells ≤ R.cells ∧ slots + rm.slots ≤ R.slots) (hstk : st = As.reverse ++ rest) (hdg : decode cc pc = .ok (.invokestatic index, 3))
    (hout : ∀ x ∈ c.exceptionTable.toList, False) (hlocks : meth.locks = false) (hc : cells + rm.cells ≤ mc) (hsl : slots + rm.slots ≤ ms) : tk_go p l e R s m args below meth c G dm nL cells slots (vx_MQ below xt_N (xt_C G dm sl E) args s mc ms (fun q => (tk_h0 G).size ≤ q)) sl pc L st := fun H locs ls hH hl hv => by
  subst hstk
  obtain ⟨hG, ⟨ws', hw⟩, hini, hd, hR⟩ := hs
  have hts := X.1.2.2.2.2
  have hr := vx_runS (p := p) (e := e) (below := below) (meth := meth) (locs := locs) (cells := cells) (slots := slots) (rest := rest) (g := F0 m pc ls (As.reverse ++ rest)) X.1 hM ⟨callB_of n hts hG hw rfl rfl (hts _ hini) (hts _ hlink) hd hR, hts _ hst⟩ (xt_preS hH X.2.1 hZ) rfl hn hv.1 rfl (lv_room hrest) hdg hcs
  intro T hT Y
  rcases hr T hT Y with ⟨v, st₀, t, T', L', h0, X', hL, e1, e2, hf, stp⟩ | ⟨q, st₀, t, T', L', E', ce, h0, X', hL, e1, e2, ⟨rfl, hH'⟩, hce, hcv, hcl, stp⟩
  · exact hf.elim
  · obtain ⟨t2, a1, b1⟩ := vx_out (p := p) (l := l) (e := e) (R := R) (s := s) (m := m) (args := args) (below := below) (meth := meth) (c := c) (H := T'.heap) (locs := locs ++ L') (cells := cells + rm.cells) (slots := slots + rm.slots) (free := fun q => (tk_h0 G).size ≤ q) (ls := ls) (rest := rest) (Qc := xt_N) (XC := xt_C G dm sl E') (pc := pc) (E := E') (ce := ce) (q := q) (mc := mc) (ms := ms)
      (fun x hx => (hout x hx).elim) hlocks (by rw [e1]; exact hce) hcv hcl (fun t' ht' _ => ⟨rfl, by rw [ht', e1]; exact hH'⟩) (fun z hz => by
        rcases List.mem_append.mp hz with h | h
        · exact hl z h
        · exact hL z h) hc hsl T' rfl X'
    exact ⟨t2, stp.trans a1, b1⟩
theorem xt_catchV (X : tk_X p m c s args G own cc nL Ts) (hZ : xt_Z G s) {kb : tk_K} (hk : dm.1 kb) {ci : Nat} (hkd : tk_kd G kb = .inl ci) {C : String} {T : u_T} {N : Nat} (hc : G.2.1[ci]? = some (C, T, N)) (hM : xt_M l G dm y ws rm (.ref (tk_ad G kb) :: As) sl E) (hs : tk_site R Ts y bytes maxL ret ws rm n) (hlink : Cond.methodLink own index y ∈ Ts) (hin : Cond.instanceMethod y ∈ Ts) (hsel : Cond.selects C y y ∈ Ts) (hn : As.length = n) (hrest : (rest.map fun v => v.category).sum ≤ 8) (hcs : cells + rm.cells ≤ R.cells ∧ slots + rm.slots ≤ R.slots) (hstk : st = As.reverse ++ .ref (tk_ad G kb) :: rest) (hdg : decode cc pc = .ok (.invokevirtual index, 3))
    (pre : List ExceptionTableEntry) (x : ExceptionTableEntry) (suf : List ExceptionTableEntry) (hsplit : c.exceptionTable.toList = pre ++ x :: suf)
    (hpass : ∀ z ∈ pre, covers z pc = false ∨ (z.catchType ≠ 0 ∧ ∃ nm : String, (Cond.classLink own z.catchType nm).before args s = true ∧ va_Nc E nm s)) (hx : covers x pc = true) (h0 : x.catchType ≠ 0) (hcl : Cond.classLink own x.catchType E ∈ Ts) (hcast : va_Nw (.castable E E) s)
    (k : ∀ q : Nat, tk_go p l e R s m args below meth c G dm nL (cells + rm.cells) (slots + rm.slots) Q sl x.handlerPc L [.ref q]) : tk_go p l e R s m args below meth c G dm nL cells slots Q sl pc L st := fun H locs ls hH hl hv => by
  subst hstk
  obtain ⟨hG, ⟨ws', hw⟩, hini, hd, hR⟩ := hs
  have hts := X.1.2.2.2.2
  have hr := vx_runV (p := p) (e := e) (below := below) (meth := meth) (locs := locs) (cells := cells) (slots := slots) (rest := rest) (g := F0 m pc ls (As.reverse ++ .ref (tk_ad G kb) :: rest)) X.1 hM ⟨callB_of n hts hG hw rfl rfl (hts _ hini) (hts _ hlink) hd hR, hts _ hin, hts _ hsel⟩ (xt_preV hH X.2.1 hZ hk hkd hc) rfl hn hv.1 rfl (lv_room hrest) hdg hcs
  have hcast2 : (Cond.castable E E).before args s = true := va_tabs rfl rfl hcast
  intro T0 hT Y
  rcases hr T0 hT Y with ⟨v, st₀, t, T', L', h0', X', hL, e1, e2, hf, stp⟩ | ⟨q, st₀, t, T', L', E', ce, h0', X', hL, e1, e2, ⟨rfl, hH'⟩, hce, hcv, hclE, stp⟩
  · exact hf.elim
  · obtain ⟨t2, a1, b1⟩ := vx_catch (p := p) (l := l) (e := e) (R := R) (s := s) (m := m) (args := args) (below := below) (meth := meth) (c := c) (H := T'.heap) (locs := locs ++ L') (cells := cells + rm.cells) (slots := slots + rm.slots) (Q := Q) (pc := pc) (ls := ls) (rest := rest) (own := own) (name := E') (E := E') (ce := ce) (q := q)
      X.1.2.2.2.1 pre x suf hsplit hpass hx h0 (hts _ hcl) hcast2 (by rw [e1]; exact hce) hcv hclE
      (k q T'.heap (locs ++ L') ls (by rw [e1]; exact hH') (fun z hz => by
        rcases List.mem_append.mp hz with h | h
        · exact hl z h
        · exact hL z h) hv) T' rfl X'
    exact ⟨t2, stp.trans a1, b1⟩
end XT
