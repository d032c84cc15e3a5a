theorem tk_H.grow {G : tk_G} {dm : tk_W} {sl : tk_L} {H H1 : Heap} (hH : tk_H G dm sl H) (hz : dm.2 = none) (h1 : H.size ≤ H1.size) (h2 : ∀ q : Nat, q < H.size → H1[q]? = H[q]?) : tk_H G dm sl H1 := by
  obtain ⟨a1, a2, a3, a4⟩ := hH
  refine ⟨fun k hk => ⟨(a1 k hk).1, (a1 k hk).2.kept (h2 _ (a1 k hk).2.lt)⟩, fun q hq => ?_, by omega, fun n hn => by rw [hz] at hn; cases hn⟩
  rw [h2 q (by omega)]
  exact a2 q hq
def xt_0 (G : tk_G) (s : State) : Prop := (∀ q : Nat, q < (tk_h0 G).size → s.heap[q]? = (tk_h0 G)[q]?) ∧ (tk_h0 G).size ≤ s.heap.size
section XT2
variable {p : Program} {l : Launch} {e : Env} {R : Room} {s : State} {m : MethodId} {args : Array Value} {below : List Frame} {meth : Method} {c : Code} {G : tk_G} {dm : tk_W} {nL cells slots : Nat} {Q : State → Prop} {sl : tk_L} {pc : Nat} {L : List (Option Value)} {st rest : List Value}
variable {own : String} {cc : ByteArray} {Ts : List Cond} {E : String} {y : MethodName} {bytes : ByteArray} {maxL n index : Nat} {ret : Option FieldType} {ws : List Cond} {rm : Room} {As : List Value} {mc ms : Nat}
theorem xt_entry (hcat0 : As.all (fun v => v.category == 1) = true) (hn : As.length ≤ nL) (hH : tk_H G dm sl s.heap) (k : tk_go p l e R s m args below meth c G dm nL 0 0 Q sl 0 (As.map some ++ List.replicate (nL - As.length) none) []) : W p l e R s m args below meth c s.heap [] 0 0 Q (entryFrame m As.toArray nL) := by
  have hcat : ∀ v ∈ As, v.category = 1 := fun v hv => by simpa using List.all_eq_true.mp hcat0 v hv
  have hlg : lg_sl As = As.map Slot.val := by
    unfold lg_sl
    clear hH hn k hcat0
    induction As with
    | nil => rfl
    | cons a t ih =>
      have ha : ¬ a.category = 2 := by have := hcat a List.mem_cons_self; omega
      simp only [List.flatMap_cons, List.map_cons, if_neg ha]
      rw [ih (fun v hv => hcat v (List.mem_cons_of_mem _ hv))]
      rfl
  have hlen : (lg_sl As).length ≤ nL := by rw [hlg]; simpa using hn
  have hl := lv_entry As (n := nL) hlen
  rw [lg_entry_eq]
  refine k s.heap [] _ hH (fun q hq => by cases hq) ⟨hl.1, hl.2.1, fun i v hi => ?_⟩
  have hlt : i < As.length := by
    rcases Nat.lt_or_ge i As.length with h | h
    · exact h
    · rw [List.getElem?_append_right (by simpa using h)] at hi
      have := List.mem_of_getElem? hi
      rw [List.mem_replicate] at this
      cases this.2
  rw [List.getElem?_append_left (by simpa using hlt), List.getElem?_map] at hi
  have hi2 : As[i]? = some v := by
    cases h : As[i]? with
    | none => rw [h] at hi; cases hi
    | some w => rw [h] at hi; simp at hi; rw [hi]
  refine ⟨hcat v (List.mem_of_getElem? hi2), ?_⟩
  rw [hlg]
  simp only [List.getElem?_toArray]
  rw [List.getElem?_append_left (by simpa using hlt), List.getElem?_map, hi2]
  rfl
theorem xt_of {ws0 : List Cond} (hA : tk_A G) (hy : plainName y.cls = true) (hcat0 : As.all (fun v => v.category == 1) = true) (hn : As.length ≤ nL)
    (body : ∀ (p : Program) (e : Env) (s : State) (m : MethodId) (below : List Frame) (meth : Method) (c : Code), tk_X p m c s As.toArray G y.cls cc nL ws0 → xt_Z G s → xt_0 G s → (∀ x ∈ c.exceptionTable.toList, False) → meth.locks = false →
      tk_go p l e rm s m As.toArray below meth c G dm nL 0 0 (vx_MQ below xt_N (xt_C G dm sl E) As.toArray s rm.cells rm.slots (fun q => (tk_h0 G).size ≤ q)) sl 0 (As.map some ++ List.replicate (nL - As.length) none) []) : xt_M l G dm y (Cond.code y cc nL ret :: ws0) rm As sl E := by
  refine vx_ofW (cc := cc) (maxL := nL) (ret := ret) hy rfl ?_
  intro p e s m args below meth c s₁ B hml ht hv
  obtain ⟨rfl, hH, hV, hZ⟩ := hv
  have hts := atoms_spec (ws := Cond.code y cc nL ret :: ws0) B.pre
  have hown : s.vm.findClass y.cls = some m.cls := findClass_of_methodNamed B.named
  exact xt_entry hcat0 hn hH (body p e s m below meth c ⟨⟨B.exec, B.bytes, hml, hown, fun w hw => hts w (List.mem_cons_of_mem _ hw)⟩, hV, hA⟩ hZ ⟨hH.2.1, hH.2.2.1⟩ ht B.notSynchronized)
theorem xt_throw (X : tk_X p m c s args G own cc nL Ts) (hZ : xt_Z G s) (h0 : xt_0 G s) (hl : l.stackTraces = false) (hz : dm.2 = none) {cls text : String} {names : List String} {ik is ic : Nat} (hcls : Bundle.fit cls = true) (hnames : ∀ n ∈ names, Bundle.fit n = true)
    (hk : Cond.classLink own ik cls ∈ Ts) (hini : Cond.initialized cls ∈ Ts) (hstr : ∃ a, vk_R own is text a s) (hat : ∀ w ∈ vx_atS own ic cls names, w ∈ Ts ∨ w ∈ xt_F)
    (hgood : ∀ w ∈ Cond.classLink own ik cls :: Cond.initialized cls :: vx_atS own ic cls names, vx_ot w = true)
    (d0 : decode cc pc = .ok (.new ik, 3)) (d3 : decode cc (pc + 3) = .ok (.dup, 1)) (d4 : decode cc (pc + 4) = .ok (.ldc is, 2)) (d6 : decode cc (pc + 6) = .ok (.invokespecial ic, 3)) (d9 : decode cc (pc + 9) = .ok (.athrow, 1))
    (hout : ∀ x ∈ c.exceptionTable.toList, False) (hRframes : names.length + 3 < R.frames) (hRlocals : (rest.map fun v => v.category).sum + (13 * (names.length + 1) + 43) ≤ R.locals) (hRcells : cells + 1 ≤ R.cells) (hRslots : slots + 6 ≤ R.slots) (hlocks : meth.locks = false) (hc : cells + 1 ≤ mc) (hs : slots + 6 ≤ ms) :
    tk_go p l e R s m args below meth c G dm nL cells slots (vx_MQ below xt_N (xt_C G dm sl cls) args s mc ms (fun q => (tk_h0 G).size ≤ q)) sl pc L rest := fun H locs ls hH hlc hv => by
  intro T hT Y
  have hts := X.1.2.2.2.2
  obtain ⟨f1, -⟩ := vx_frame (U := T) Y.same
  obtain ⟨sa, hsa⟩ := hstr
  have hkeep : ∀ a : Nat, a < (tk_h0 G).size → ¬ (fun q => (tk_h0 G).size ≤ q) a → s.heap[a]? = (tk_h0 G)[a]? := fun a ha _ => h0.1 a ha
  refine vx_throwS (p := p) (l := l) (e := e) (R := R) (s := s) (m := m) (args := args) (below := below) (meth := meth) (c := c) (H := H) (locs := locs) (cells := cells) (slots := slots) (ls := ls) (rest := rest) (Qc := xt_N) (XC := xt_C G dm sl cls) (free := fun q => (tk_h0 G).size ≤ q) (A := fun q => (tk_h0 G).size ≤ q) (mc := mc) (ms := ms) (sa := sa)
    X.1.1 X.1.2.1 hl X.1.2.2.2.1 hcls hnames (hts _ hk) (hts _ hini) hsa (fun w hw => ?_) hgood (hZ.2.2.1.kept hkeep) (hZ.2.2.2.1.kept hkeep) ⟨by rw [← hT]; exact f1, fun q hq hn => ?_, hlc⟩ (hv.1.trans X.1.2.2.1.symm) d0 d3 d4 d6 d9 (fun x hx => (hout x hx).elim) hRframes hRlocals hRcells hRslots hlocks (fun t _ g1 g2 => ⟨rfl, hH.grow hz g1 g2⟩) hlc hc hs T hT Y
  · rcases hat w hw with h | h
    · exact hts w h
    · exact va_Nw.use (xt_F_ok w h).1 (hZ.1 w h)
  · have hq2 : q < (tk_h0 G).size := Nat.lt_of_not_le hn
    rw [h0.1 q hq2, hH.2.1 q hq2]
end XT2
def xt_rm (d : Nat) : Room := { frames := d, cells := 1, slots := 6, locals := 40 * d }
abbrev kx (l : Launch) (P : ks_P) (y : MethodName) (cc : ByteArray) (nL : Nat) (ret : Option FieldType) (d : Nat) (As : List Value) (a b : ks_M) (o : ks_O) (E : String) : Prop :=
  xt_M l (ks_G P) (ks_dm P) y (Cond.code y cc nL ret :: WS) (xt_rm d) As (ks_sl P a b o) E
theorem xs_site {y : MethodName} {bytes : ByteArray} {maxL n : Nat} {ret : Option FieldType} {d d' : Nat} (hm : Cond.code y bytes maxL ret ∈ WS) (hini : Cond.initialized y.cls ∈ WS) (hd : y.cls ≠ "java/lang/invoke/MethodHandle" ∧ y.cls ≠ "java/lang/invoke/VarHandle" ∧ (parseMethodDescriptor y.desc).map (fun d => d.parameters.length) = some n) (hdd : d + 1 ≤ d') (hml : maxL ≤ 21) : tk_site (xt_rm d') WS y bytes maxL ret (Cond.code y bytes maxL ret :: WS) (xt_rm d) n :=
  ⟨tk_good hm WS_good, ⟨_, rfl⟩, hini, hd, hdd, by show 8 + (maxL + 11) + 40 * d ≤ 40 * d'; omega⟩
theorem xk_site {y : MethodName} {bytes : ByteArray} {maxL n : Nat} {ret : Option FieldType} {d d' : Nat} (hm : Cond.code y bytes maxL ret ∈ WS) (hini : Cond.initialized y.cls ∈ WS) (hd : y.cls ≠ "java/lang/invoke/MethodHandle" ∧ y.cls ≠ "java/lang/invoke/VarHandle" ∧ (parseMethodDescriptor y.desc).map (fun d => d.parameters.length) = some n) (hdd : d + 1 ≤ d') (hml : maxL ≤ 21) : tk_site (xt_rm d') WS y bytes maxL ret (Cond.code y bytes maxL ret :: WS) (ks_rm d) n :=
  ⟨tk_good hm WS_good, ⟨_, rfl⟩, hini, hd, hdd, by show 8 + (maxL + 11) + 40 * d ≤ 40 * d'; omega⟩
theorem xw_I : Cond.classLink R_TC 126 xe_I ∈ WS := by decide +kernel
theorem xw_A : Cond.classLink R_TC 79 xe_A ∈ WS := by decide +kernel
theorem xw_S : Cond.classLink R_TC 89 xe_S ∈ WS := by decide +kernel
theorem xi_I : Cond.initialized xe_I ∈ WS := by decide +kernel
theorem xi_A : Cond.initialized xe_A ∈ WS := by decide +kernel
theorem xi_S : Cond.initialized xe_S ∈ WS := by decide +kernel
def xe_n : List String := ["java/lang/RuntimeException", "java/lang/Exception"]
theorem xa_I : ∀ w ∈ vx_atS R_TC 130 xe_I xe_n, w ∈ WS ∨ w ∈ xt_F := by decide +kernel
theorem xa_A : ∀ w ∈ vx_atS R_TC 83 xe_A xe_n, w ∈ WS ∨ w ∈ xt_F := by decide +kernel
theorem xa_S : ∀ w ∈ vx_atS R_TC 93 xe_S xe_n, w ∈ WS ∨ w ∈ xt_F := by decide +kernel
theorem xg_I : ∀ w ∈ Cond.classLink R_TC 126 xe_I :: Cond.initialized xe_I :: vx_atS R_TC 130 xe_I xe_n, vx_ot w = true := by decide +kernel
theorem xg_A : ∀ w ∈ Cond.classLink R_TC 79 xe_A :: Cond.initialized xe_A :: vx_atS R_TC 83 xe_A xe_n, vx_ot w = true := by decide +kernel
theorem xg_S : ∀ w ∈ Cond.classLink R_TC 89 xe_S :: Cond.initialized xe_S :: vx_atS R_TC 93 xe_S xe_n, vx_ot w = true := by decide +kernel
