section
abbrev tk_K : Type := Nat × Nat × Nat
abbrev tk_L : Type := tk_K → Nat → Value
abbrev tk_W : Type := (tk_K → Prop) × Option Nat
abbrev tk_G : Type := va_G × List vw_C × List (ClassId × FieldType) × (tk_K → Nat) × (tk_K → Nat ⊕ (Nat × Nat)) × (tk_K → Prop) × List Cond × Heap
def tk_ad (G : tk_G) : tk_K → Nat := G.2.2.2.1
def tk_kd (G : tk_G) : tk_K → Nat ⊕ (Nat × Nat) := G.2.2.2.2.1
def tk_do (G : tk_G) : tk_K → Prop := G.2.2.2.2.2.1
def tk_nw (G : tk_G) : List Cond := G.2.2.2.2.2.2.1
def tk_h0 (G : tk_G) : Heap := G.2.2.2.2.2.2.2
def tk_up (sl : tk_L) (k : tk_K) (j : Nat) (v : Value) : tk_L := fun k' => if k' = k then updV (sl k) j v else sl k'
theorem tk_up_self (sl : tk_L) (k : tk_K) (j : Nat) (v : Value) : tk_up sl k j v k = updV (sl k) j v := by simp [tk_up]
theorem tk_up_ne (sl : tk_L) {k k' : tk_K} (j : Nat) (v : Value) (h : k' ≠ k) : tk_up sl k j v k' = sl k' := by simp [tk_up, h]
theorem tk_arrV (cI : ClassId) (N : Nat) {f g : Nat → Value} (h : ∀ j, j < N → f j = g j) : arrV cI N f = arrV cI N g := by
  have e : (fun j : Fin N => f j.val) = fun j : Fin N => g j.val := funext fun j => h j.val j.isLt
  unfold arrV
  rw [e]
def tk_at (G : tk_G) (sl : tk_L) (H : Heap) (k : tk_K) : Prop := match tk_kd G k with
  | .inl ci => ∃ r : vw_C, G.2.1[ci]? = some r ∧ t_OB (tk_ad G k) (G.1.1 ci) r.2.2 (G.1.2 ci) H (sl k)
  | .inr q => ∃ r : ClassId × FieldType, G.2.2.1[q.1]? = some r ∧ H[tk_ad G k]? = some (arrV r.1 q.2 (sl k))
def tk_H (G : tk_G) (dm : tk_W) (sl : tk_L) (H : Heap) : Prop := (∀ k, dm.1 k → tk_do G k ∧ tk_at G sl H k) ∧ (∀ q : Nat, q < (tk_h0 G).size → H[q]? = (tk_h0 G)[q]?) ∧ (tk_h0 G).size ≤ H.size ∧ ∀ n, dm.2 = some n → H.size = n
def tk_A (G : tk_G) : Prop := (∀ k, tk_do G k → (tk_h0 G).size ≤ tk_ad G k) ∧ ∀ k k', tk_do G k → tk_do G k' → tk_ad G k = tk_ad G k' → k = k'
def tk_nest (w : Cond) : Prop := (∃ a i b n d h, w = .fieldLinkNest a i b n d h) ∨ (∃ a i x h, w = .methodLinkNest a i x h) ∨ ∃ C, w = .arrayOver (.object C)
def tk_V (G : tk_G) (U : State) : Prop := va_K G.1 G.2.1 G.2.2.1 U ∧ ∀ w ∈ tk_nw G, tk_nest w ∧ va_Nw w U
theorem tk_V.warm {G : tk_G} {s U : State} (h : tk_V G s) (hW : s.WarmedH U.vm) : tk_V G U := by
  refine ⟨va_K.moved hW.alike h.1, fun w hw => ⟨(h.2 w hw).1, ?_⟩⟩
  have h2 := (h.2 w hw).2
  rcases (h.2 w hw).1 with ⟨a, i, b, n, d, z, rfl⟩ | ⟨a, i, x, z, rfl⟩ | ⟨C, rfl⟩
  · exact va_Nw.warmF hW h2
  · exact va_Nw.warmM hW h2
  · exact va_AO.moved hW.alike h2
theorem tk_V.same {G : tk_G} {s U : State} (h : tk_V G s) (hv : s.vm = U.vm) : tk_V G U := by
  refine ⟨va_K.moved (by rw [hv]; exact Vm.Alike.refl _) h.1, fun w hw => ⟨(h.2 w hw).1, ?_⟩⟩
  have h2 := (h.2 w hw).2
  rcases (h.2 w hw).1 with ⟨a, i, b, n, d, z, rfl⟩ | ⟨a, i, x, z, rfl⟩ | ⟨C, rfl⟩
  · exact va_Nw.same rfl hv h2
  · exact va_Nw.same rfl hv h2
  · exact va_AO.moved (by rw [hv]; exact Vm.Alike.refl _) h2
theorem tk_at.kept {G : tk_G} {sl : tk_L} {H H1 : Heap} {k : tk_K} (h : tk_at G sl H k) (hq : H1[tk_ad G k]? = H[tk_ad G k]?) : tk_at G sl H1 k := by
  unfold tk_at at h ⊢
  split at h
  · rename_i ci e
    obtain ⟨r, h1, h2⟩ := h
    exact ⟨r, h1, h2.kept hq⟩
  · rename_i q e
    obtain ⟨r, h1, h2⟩ := h
    exact ⟨r, h1, by rw [hq]; exact h2⟩
theorem tk_at.to {G : tk_G} {sl sl' : tk_L} {H : Heap} {k : tk_K} (h : tk_at G sl H k) (hs : sl k = sl' k) : tk_at G sl' H k := by
  unfold tk_at at h ⊢
  rw [← hs]
  exact h
theorem tk_at.obj {G : tk_G} {sl : tk_L} {H : Heap} {k : tk_K} {ci : Nat} (h : tk_at G sl H k) (e : tk_kd G k = .inl ci) : ∃ r : vw_C, G.2.1[ci]? = some r ∧ t_OB (tk_ad G k) (G.1.1 ci) r.2.2 (G.1.2 ci) H (sl k) := by
  unfold tk_at at h
  rw [e] at h
  exact h
theorem tk_at.arr {G : tk_G} {sl : tk_L} {H : Heap} {k : tk_K} {t n : Nat} (h : tk_at G sl H k) (e : tk_kd G k = .inr (t, n)) : ∃ r : ClassId × FieldType, G.2.2.1[t]? = some r ∧ H[tk_ad G k]? = some (arrV r.1 n (sl k)) := by
  unfold tk_at at h
  rw [e] at h
  exact h
theorem tk_at.ofObj {G : tk_G} {sl : tk_L} {H : Heap} {k : tk_K} {ci : Nat} (e : tk_kd G k = .inl ci) (h : ∃ r : vw_C, G.2.1[ci]? = some r ∧ t_OB (tk_ad G k) (G.1.1 ci) r.2.2 (G.1.2 ci) H (sl k)) : tk_at G sl H k := by
  unfold tk_at
  rw [e]
  exact h
theorem tk_at.ofArr {G : tk_G} {sl : tk_L} {H : Heap} {k : tk_K} {t n : Nat} (e : tk_kd G k = .inr (t, n)) (h : ∃ r : ClassId × FieldType, G.2.2.1[t]? = some r ∧ H[tk_ad G k]? = some (arrV r.1 n (sl k))) : tk_at G sl H k := by
  unfold tk_at
  rw [e]
  exact h
theorem tk_at.lt {G : tk_G} {sl : tk_L} {H : Heap} {k : tk_K} (h : tk_at G sl H k) : tk_ad G k < H.size := by
  unfold tk_at at h
  split at h
  · obtain ⟨r, -, cell, h2, -⟩ := h
    exact (Array.getElem?_eq_some_iff.mp h2).1
  · obtain ⟨r, -, h2⟩ := h
    exact (Array.getElem?_eq_some_iff.mp h2).1
theorem tk_H.put {G : tk_G} {dm : tk_W} {sl sl' : tk_L} {H H1 : Heap} {k : tk_K} (hH : tk_H G dm sl H) (hA : tk_A G) (hk : dm.1 k) (hs : ∀ k', k' ≠ k → sl' k' = sl k') (he : tk_at G sl' H1 k) (z : H1.size = H.size) (oq : ∀ q : Nat, q ≠ tk_ad G k → H1[q]? = H[q]?) : tk_H G dm sl' H1 := by
  obtain ⟨h1, h2, h3, h4⟩ := hH
  refine ⟨fun k' hk' => ⟨(h1 k' hk').1, ?_⟩, fun q hq => ?_, by rw [z]; exact h3, fun n hn => by rw [z]; exact h4 n hn⟩
  · by_cases e : k' = k
    · subst e
      exact he
    · exact ((h1 k' hk').2.kept (oq _ (fun x => e (hA.2 k' k (h1 k' hk').1 (h1 k hk).1 x)))).to (hs k' e).symm
  · rw [oq q (fun x => ?_)]
    · exact h2 q hq
    · have := hA.1 k (h1 k hk).1
      omega
theorem tk_H.new {G : tk_G} {P : tk_K → Prop} {n : Nat} {sl : tk_L} {H H1 : Heap} {k : tk_K} (hH : tk_H G (P, some n) sl H) (hk : tk_do G k) (he : tk_at G sl H1 k) (z : H1.size = H.size + 1) (oq : ∀ q : Nat, q < H.size → H1[q]? = H[q]?) : tk_H G (fun k' => k' = k ∨ P k', some (n + 1)) sl H1 := by
  obtain ⟨h1, h2, h3, h4⟩ := hH
  refine ⟨fun k' hk' => ?_, fun q hq => ?_, by omega, fun n' hn => ?_⟩
  · rcases hk' with rfl | hk'
    · exact ⟨hk, he⟩
    · exact ⟨(h1 k' hk').1, (h1 k' hk').2.kept (oq _ (h1 k' hk').2.lt)⟩
  · rw [oq q (by omega)]
    exact h2 q hq
  · have e : n + 1 = n' := Option.some.inj hn
    have := h4 n rfl
    omega
theorem tk_H.dom {G : tk_G} {dm dm' : tk_W} {sl : tk_L} {H : Heap} (hH : tk_H G dm sl H) (h : ∀ k, dm'.1 k → dm.1 k) (hz : dm'.2 = none ∨ dm'.2 = dm.2) : tk_H G dm' sl H := by
  obtain ⟨h1, h2, h3, h4⟩ := hH
  refine ⟨fun k hk => h1 k (h k hk), h2, h3, fun n hn => ?_⟩
  rcases hz with e | e
  · rw [e] at hn; cases hn
  · exact h4 n (by rw [← e]; exact hn)
def tk_sz (G : tk_G) (k : tk_K) : Nat := match tk_kd G k with
  | .inl ci => (match G.2.1[ci]? with
    | some r => r.2.2
    | none => 0)
  | .inr q => q.2
theorem tk_at.ext {G : tk_G} {sl sl' : tk_L} {H : Heap} {k : tk_K} (h : tk_at G sl H k) (hs : ∀ j, j < tk_sz G k → sl k j = sl' k j) : tk_at G sl' H k := by
  cases e : tk_kd G k with
  | inl ci =>
    obtain ⟨r, h1, h2⟩ := h.obj e
    refine tk_at.ofObj e ⟨r, h1, h2.to (fun j hj => hs j ?_)⟩
    unfold tk_sz
    rw [e]
    simp only [h1]
    exact hj
  | inr q =>
    obtain ⟨t, n⟩ := q
    obtain ⟨r, h1, h2⟩ := h.arr e
    refine tk_at.ofArr e ⟨r, h1, ?_⟩
    rw [h2, tk_arrV r.1 n (fun j hj => hs j ?_)]
    unfold tk_sz
    rw [e]
    exact hj
theorem tk_H.ext {G : tk_G} {dm : tk_W} {sl sl' : tk_L} {H : Heap} (hH : tk_H G dm sl H) (h : ∀ k, dm.1 k → ∀ j, j < tk_sz G k → sl k j = sl' k j) : tk_H G dm sl' H := by
  obtain ⟨h1, h2, h3, h4⟩ := hH
  exact ⟨fun k hk => ⟨(h1 k hk).1, (h1 k hk).2.ext (h k hk)⟩, h2, h3, h4⟩
theorem tk_H.congr {G : tk_G} {dm : tk_W} {sl sl' : tk_L} {H : Heap} (hH : tk_H G dm sl H) (h : ∀ k, dm.1 k → sl k = sl' k) : tk_H G dm sl' H := by
  obtain ⟨h1, h2, h3, h4⟩ := hH
  exact ⟨fun k hk => ⟨(h1 k hk).1, (h1 k hk).2.to (h k hk)⟩, h2, h3, h4⟩
def tk_lv (ls : Array Slot) (nL : Nat) (L : List (Option Value)) : Prop := ls.size = nL ∧ lv_wf ls ∧ ∀ (i : Nat) (v : Value), L[i]? = some (some v) → v.category = 1 ∧ ls[i]? = some (.val v)
def tk_pr : Nat → List (Option Value) → List (Nat × Value)
  | _, [] => []
  | b, none :: t => tk_pr (b + 1) t
  | b, some v :: t => (b, v) :: tk_pr (b + 1) t
theorem tk_pr_mem : ∀ (L : List (Option Value)) (b : Nat) (q : Nat × Value), q ∈ tk_pr b L ↔ ∃ j, q.1 = b + j ∧ L[j]? = some (some q.2)
  | [], b, q => by simp [tk_pr]
  | none :: t, b, q => by
    rw [tk_pr, tk_pr_mem t (b + 1) q]
    constructor
    · rintro ⟨j, h1, h2⟩
      exact ⟨j + 1, by omega, by simpa using h2⟩
    · rintro ⟨j, h1, h2⟩
      cases j with
      | zero => simp at h2
      | succ j => exact ⟨j, by omega, by simpa using h2⟩
  | some v :: t, b, q => by
    rw [tk_pr, List.mem_cons, tk_pr_mem t (b + 1) q]
    constructor
    · rintro (rfl | ⟨j, h1, h2⟩)
      · exact ⟨0, rfl, rfl⟩
      · exact ⟨j + 1, by omega, by simpa using h2⟩
    · rintro ⟨j, h1, h2⟩
      cases j with
      | zero =>
        left
        obtain ⟨a, w⟩ := q
        simp at h1 h2
        rw [h1, h2]
      | succ j => exact Or.inr ⟨j, by omega, by simpa using h2⟩
theorem tk_lv.has {ls : Array Slot} {nL : Nat} {L : List (Option Value)} (h : tk_lv ls nL L) : lv_has ls nL (tk_pr 0 L) := by
  refine ⟨h.1, h.2.1, fun q hq => ?_⟩
  obtain ⟨j, h1, h2⟩ := (tk_pr_mem L 0 q).mp hq
  have h3 := (h.2.2 j q.2 h2).2
  rw [h1, Nat.zero_add]
  exact h3
theorem tk_lv.at {ls : Array Slot} {nL : Nat} {L : List (Option Value)} (h : tk_lv ls nL L) {i : Nat} {v : Value} (hi : L[i]? = some (some v)) : ls[i]? = some (.val v) := (h.2.2 i v hi).2
theorem tk_lv.set {ls ls' : Array Slot} {nL : Nat} {L : List (Option Value)} {i : Nat} {v : Value} (h : tk_lv ls nL L) (hc : v.category = 1) (h' : lv_has ls' nL ((i, v) :: (tk_pr 0 L).filter (fun q => !(q.1 == i) && !(q.1 + 1 == i && q.2.category == 2)))) : tk_lv ls' nL (L.set i (some v)) := by
  refine ⟨h'.1, h'.2.1, fun j w hj => ?_⟩
  by_cases e : j = i
  · subst e
    have e1 : some (some w) = some (some v) := by
      rw [← hj]
      have hl : j < (L.set j (some v)).length := (List.getElem?_eq_some_iff.mp hj).1
      rw [List.getElem?_set_self (by simpa using hl)]
    have e2 : w = v := by simpa using e1
    subst e2
    exact ⟨hc, h'.2.2 (j, w) List.mem_cons_self⟩
  · rw [List.getElem?_set_ne (Ne.symm e)] at hj
    have hw := h.2.2 j w hj
    refine ⟨hw.1, h'.2.2 (j, w) (List.mem_cons_of_mem _ (List.mem_filter.mpr ⟨(tk_pr_mem L 0 (j, w)).mpr ⟨j, by simp, hj⟩, ?_⟩))⟩
    simp [e, hw.1]
def tk_X (p : Program) (m : MethodId) (c : Code) (s : State) (args : Array Value) (G : tk_G) (own : String) (cc : ByteArray) (nL : Nat) (Ts : List Cond) : Prop := CallFix p m c cc nL s args Ts own ∧ tk_V G s ∧ tk_A G
def tk_go (p : Program) (l : Launch) (e : Env) (R : Room) (s : State) (m : MethodId) (args : Array Value) (below : List Frame) (meth : Method) (c : Code) (G : tk_G) (dm : tk_W) (nL cells slots : Nat) (Q : State → Prop) (sl : tk_L) (pc : Nat) (L : List (Option Value)) (st : List Value) : Prop :=
  ∀ (H : Heap) (locs : List Loc) (ls : Array Slot), tk_H G dm sl H → (∀ q ∈ locs, (tk_h0 G).size ≤ q.base) → tk_lv ls nL L → W p l e R s m args below meth c H locs cells slots Q (F0 m pc ls st)
section TK
variable {p : Program} {l : Launch} {e : Env} {R : Room} {s : State} {m : MethodId} {args : Array Value} {below : List Frame} {meth : Method} {c : Code} {G : tk_G} {dm : tk_W} {nL cells slots : Nat} {Q : State → Prop} {sl : tk_L} {pc : Nat} {L : List (Option Value)} {st : List Value}
variable {own : String} {cc : ByteArray} {Ts : List Cond}
theorem tk_iconst (X : tk_X p m c s args G own cc nL Ts) {n : Int} {v : Int32} (hdg : decode cc pc = .ok (.iconst n, 1)) (hv : Int32.ofInt n = v)
    (k : tk_go p l e R s m args below meth c G dm nL cells slots Q sl (pc + 1) L (.int v :: st)) : tk_go p l e R s m args below meth c G dm nL cells slots Q sl pc L st :=
  fun H locs ls hH hl h => lv_iconst X.1.1 X.1.2.1 hdg hv (k H locs ls hH hl h)
theorem tk_bipush (X : tk_X p m c s args G own cc nL Ts) {n : Int} {v : Int32} (hdg : decode cc pc = .ok (.bipush n, 2)) (hv : (Int8.ofInt n).toInt32 = v)
    (k : tk_go p l e R s m args below meth c G dm nL cells slots Q sl (pc + 2) L (.int v :: st)) : tk_go p l e R s m args below meth c G dm nL cells slots Q sl pc L st :=
  fun H locs ls hH hl h => lv_bipush X.1.1 X.1.2.1 hdg hv (k H locs ls hH hl h)
theorem tk_sipush (X : tk_X p m c s args G own cc nL Ts) {n : Int} {v : Int32} (hdg : decode cc pc = .ok (.sipush n, 3)) (hv : (Int16.ofInt n).toInt32 = v)
    (k : tk_go p l e R s m args below meth c G dm nL cells slots Q sl (pc + 3) L (.int v :: st)) : tk_go p l e R s m args below meth c G dm nL cells slots Q sl pc L st :=
  fun H locs ls hH hl h => lv_sipush X.1.1 X.1.2.1 hdg hv (k H locs ls hH hl h)
theorem tk_iload_n (X : tk_X p m c s args G own cc nL Ts) {k4 : Fin 4} {i : Nat} {x : Int32} (hdg : decode cc pc = .ok (.iload_n k4, 1)) (hi : (k4 : Nat) = i) (hL : L[i]? = some (some (.int x)))
    (k : tk_go p l e R s m args below meth c G dm nL cells slots Q sl (pc + 1) L (.int x :: st)) : tk_go p l e R s m args below meth c G dm nL cells slots Q sl pc L st :=
  fun H locs ls hH hl h => lv_iload_n X.1.1 X.1.2.1 hdg hi (h.at hL) (k H locs ls hH hl h)
theorem tk_iload (X : tk_X p m c s args G own cc nL Ts) {i : Nat} {x : Int32} (hdg : decode cc pc = .ok (.iload i, 2)) (hL : L[i]? = some (some (.int x)))
    (k : tk_go p l e R s m args below meth c G dm nL cells slots Q sl (pc + 2) L (.int x :: st)) : tk_go p l e R s m args below meth c G dm nL cells slots Q sl pc L st :=
  fun H locs ls hH hl h => lv_iload X.1.1 X.1.2.1 hdg (h.at hL) (k H locs ls hH hl h)
theorem tk_aload_n (X : tk_X p m c s args G own cc nL Ts) {k4 : Fin 4} {i : Nat} {x : Nat} (hdg : decode cc pc = .ok (.aload_n k4, 1)) (hi : (k4 : Nat) = i) (hL : L[i]? = some (some (.ref x)))
    (k : tk_go p l e R s m args below meth c G dm nL cells slots Q sl (pc + 1) L (.ref x :: st)) : tk_go p l e R s m args below meth c G dm nL cells slots Q sl pc L st :=
  fun H locs ls hH hl h => lv_aload_n X.1.1 X.1.2.1 hdg hi (h.at hL) (k H locs ls hH hl h)
theorem tk_aload (X : tk_X p m c s args G own cc nL Ts) {i : Nat} {x : Nat} (hdg : decode cc pc = .ok (.aload i, 2)) (hL : L[i]? = some (some (.ref x)))
    (k : tk_go p l e R s m args below meth c G dm nL cells slots Q sl (pc + 2) L (.ref x :: st)) : tk_go p l e R s m args below meth c G dm nL cells slots Q sl pc L st :=
  fun H locs ls hH hl h => lv_aload X.1.1 X.1.2.1 hdg (h.at hL) (k H locs ls hH hl h)
theorem tk_aload_nN (X : tk_X p m c s args G own cc nL Ts) {k4 : Fin 4} {i : Nat} (hdg : decode cc pc = .ok (.aload_n k4, 1)) (hi : (k4 : Nat) = i) (hL : L[i]? = some (some .null))
    (k : tk_go p l e R s m args below meth c G dm nL cells slots Q sl (pc + 1) L (.null :: st)) : tk_go p l e R s m args below meth c G dm nL cells slots Q sl pc L st :=
  fun H locs ls hH hl h => lv_aload_nN X.1.1 X.1.2.1 hdg hi (h.at hL) (k H locs ls hH hl h)
theorem tk_aloadN (X : tk_X p m c s args G own cc nL Ts) {i : Nat} (hdg : decode cc pc = .ok (.aload i, 2)) (hL : L[i]? = some (some .null))
    (k : tk_go p l e R s m args below meth c G dm nL cells slots Q sl (pc + 2) L (.null :: st)) : tk_go p l e R s m args below meth c G dm nL cells slots Q sl pc L st :=
  fun H locs ls hH hl h => lv_aloadN X.1.1 X.1.2.1 hdg (h.at hL) (k H locs ls hH hl h)
theorem tk_istore_n (X : tk_X p m c s args G own cc nL Ts) {k4 : Fin 4} {i : Nat} {x : Int32} {L' : List (Option Value)} (hdg : decode cc pc = .ok (.istore_n k4, 1)) (hi : (k4 : Nat) = i) (hn : i < nL) (hL : L.set i (some (.int x)) = L')
    (k : tk_go p l e R s m args below meth c G dm nL cells slots Q sl (pc + 1) L' st) : tk_go p l e R s m args below meth c G dm nL cells slots Q sl pc L (.int x :: st) :=
  fun H locs ls hH hl h => lv_istore_n X.1.1 X.1.2.1 hdg hi h.has hn rfl (fun ls' h' => k H locs ls' hH hl (hL ▸ h.set rfl h'))
theorem tk_istore (X : tk_X p m c s args G own cc nL Ts) {i : Nat} {x : Int32} {L' : List (Option Value)} (hdg : decode cc pc = .ok (.istore i, 2)) (hn : i < nL) (hL : L.set i (some (.int x)) = L')
    (k : tk_go p l e R s m args below meth c G dm nL cells slots Q sl (pc + 2) L' st) : tk_go p l e R s m args below meth c G dm nL cells slots Q sl pc L (.int x :: st) :=
  fun H locs ls hH hl h => lv_istore X.1.1 X.1.2.1 hdg h.has hn rfl (fun ls' h' => k H locs ls' hH hl (hL ▸ h.set rfl h'))
theorem tk_astore_n (X : tk_X p m c s args G own cc nL Ts) {k4 : Fin 4} {i : Nat} {x : Nat} {L' : List (Option Value)} (hdg : decode cc pc = .ok (.astore_n k4, 1)) (hi : (k4 : Nat) = i) (hn : i < nL) (hL : L.set i (some (.ref x)) = L')
    (k : tk_go p l e R s m args below meth c G dm nL cells slots Q sl (pc + 1) L' st) : tk_go p l e R s m args below meth c G dm nL cells slots Q sl pc L (.ref x :: st) :=
  fun H locs ls hH hl h => lv_astore_n X.1.1 X.1.2.1 hdg hi h.has hn rfl (fun ls' h' => k H locs ls' hH hl (hL ▸ h.set rfl h'))
theorem tk_astore (X : tk_X p m c s args G own cc nL Ts) {i : Nat} {x : Nat} {L' : List (Option Value)} (hdg : decode cc pc = .ok (.astore i, 2)) (hn : i < nL) (hL : L.set i (some (.ref x)) = L')
    (k : tk_go p l e R s m args below meth c G dm nL cells slots Q sl (pc + 2) L' st) : tk_go p l e R s m args below meth c G dm nL cells slots Q sl pc L (.ref x :: st) :=
  fun H locs ls hH hl h => lv_astore X.1.1 X.1.2.1 hdg h.has hn rfl (fun ls' h' => k H locs ls' hH hl (hL ▸ h.set rfl h'))
theorem tk_astore_nN (X : tk_X p m c s args G own cc nL Ts) {k4 : Fin 4} {i : Nat}  {L' : List (Option Value)} (hdg : decode cc pc = .ok (.astore_n k4, 1)) (hi : (k4 : Nat) = i) (hn : i < nL) (hL : L.set i (some (.null)) = L')
    (k : tk_go p l e R s m args below meth c G dm nL cells slots Q sl (pc + 1) L' st) : tk_go p l e R s m args below meth c G dm nL cells slots Q sl pc L (.null :: st) :=
  fun H locs ls hH hl h => lv_astore_nN X.1.1 X.1.2.1 hdg hi h.has hn rfl (fun ls' h' => k H locs ls' hH hl (hL ▸ h.set rfl h'))
theorem tk_astoreN (X : tk_X p m c s args G own cc nL Ts) {i : Nat}  {L' : List (Option Value)} (hdg : decode cc pc = .ok (.astore i, 2)) (hn : i < nL) (hL : L.set i (some (.null)) = L')
    (k : tk_go p l e R s m args below meth c G dm nL cells slots Q sl (pc + 2) L' st) : tk_go p l e R s m args below meth c G dm nL cells slots Q sl pc L (.null :: st) :=
  fun H locs ls hH hl h => lv_astoreN X.1.1 X.1.2.1 hdg h.has hn rfl (fun ls' h' => k H locs ls' hH hl (hL ▸ h.set rfl h'))
theorem tk_iinc (X : tk_X p m c s args G own cc nL Ts) {i : Nat} {n : Int} {x v : Int32} {L' : List (Option Value)} (hdg : decode cc pc = .ok (.iinc i n, 3)) (hx : L[i]? = some (some (.int x))) (hw : x + Int32.ofInt n = v) (hn : i < nL) (hL : L.set i (some (.int v)) = L')
    (k : tk_go p l e R s m args below meth c G dm nL cells slots Q sl (pc + 3) L' st) : tk_go p l e R s m args below meth c G dm nL cells slots Q sl pc L st := fun H locs ls hH hl h => by
  have hm : (i, Value.int x) ∈ tk_pr 0 L := (tk_pr_mem L 0 (i, Value.int x)).mpr ⟨i, by simp, hx⟩
  obtain ⟨q, hq⟩ := List.getElem?_of_mem hm
  exact lv_iinc X.1.1 X.1.2.1 hdg h.has hq hw hn rfl (fun ls' h' => k H locs ls' hH hl (hL ▸ h.set rfl h'))
theorem tk_iadd (X : tk_X p m c s args G own cc nL Ts) {x y : Int32} (hdg : decode cc pc = .ok (.iadd, 1))
    (k : tk_go p l e R s m args below meth c G dm nL cells slots Q sl (pc + 1) L (.int (x + y) :: st)) : tk_go p l e R s m args below meth c G dm nL cells slots Q sl pc L (.int y :: .int x :: st) :=
  fun H locs ls hH hl hv => lv_iadd X.1.1 X.1.2.1 hdg (k H locs ls hH hl hv)
theorem tk_isub (X : tk_X p m c s args G own cc nL Ts) {x y : Int32} (hdg : decode cc pc = .ok (.isub, 1))
    (k : tk_go p l e R s m args below meth c G dm nL cells slots Q sl (pc + 1) L (.int (x - y) :: st)) : tk_go p l e R s m args below meth c G dm nL cells slots Q sl pc L (.int y :: .int x :: st) :=
  fun H locs ls hH hl hv => lv_isub X.1.1 X.1.2.1 hdg (k H locs ls hH hl hv)
theorem tk_imul (X : tk_X p m c s args G own cc nL Ts) {x y : Int32} (hdg : decode cc pc = .ok (.imul, 1))
    (k : tk_go p l e R s m args below meth c G dm nL cells slots Q sl (pc + 1) L (.int (x * y) :: st)) : tk_go p l e R s m args below meth c G dm nL cells slots Q sl pc L (.int y :: .int x :: st) :=
  fun H locs ls hH hl hv => lv_imul X.1.1 X.1.2.1 hdg (k H locs ls hH hl hv)
theorem tk_iand (X : tk_X p m c s args G own cc nL Ts) {x y : Int32} (hdg : decode cc pc = .ok (.iand, 1))
    (k : tk_go p l e R s m args below meth c G dm nL cells slots Q sl (pc + 1) L (.int (x &&& y) :: st)) : tk_go p l e R s m args below meth c G dm nL cells slots Q sl pc L (.int y :: .int x :: st) :=
  fun H locs ls hH hl hv => lv_iand X.1.1 X.1.2.1 hdg (k H locs ls hH hl hv)
theorem tk_ior (X : tk_X p m c s args G own cc nL Ts) {x y : Int32} (hdg : decode cc pc = .ok (.ior, 1))
    (k : tk_go p l e R s m args below meth c G dm nL cells slots Q sl (pc + 1) L (.int (x ||| y) :: st)) : tk_go p l e R s m args below meth c G dm nL cells slots Q sl pc L (.int y :: .int x :: st) :=
  fun H locs ls hH hl hv => lv_ior X.1.1 X.1.2.1 hdg (k H locs ls hH hl hv)
theorem tk_ishl (X : tk_X p m c s args G own cc nL Ts) {x y : Int32} (hdg : decode cc pc = .ok (.ishl, 1))
    (k : tk_go p l e R s m args below meth c G dm nL cells slots Q sl (pc + 1) L (.int (x <<< (y &&& 31)) :: st)) : tk_go p l e R s m args below meth c G dm nL cells slots Q sl pc L (.int y :: .int x :: st) :=
  fun H locs ls hH hl hv => lv_ishl X.1.1 X.1.2.1 hdg (k H locs ls hH hl hv)
theorem tk_ishr (X : tk_X p m c s args G own cc nL Ts) {x y : Int32} (hdg : decode cc pc = .ok (.ishr, 1))
    (k : tk_go p l e R s m args below meth c G dm nL cells slots Q sl (pc + 1) L (.int (x >>> (y &&& 31)) :: st)) : tk_go p l e R s m args below meth c G dm nL cells slots Q sl pc L (.int y :: .int x :: st) :=
  fun H locs ls hH hl hv => lv_ishr X.1.1 X.1.2.1 hdg (k H locs ls hH hl hv)
theorem tk_idiv (X : tk_X p m c s args G own cc nL Ts) {x y : Int32} (hdg : decode cc pc = .ok (.idiv, 1)) (hne : ¬ y = 0)
    (k : tk_go p l e R s m args below meth c G dm nL cells slots Q sl (pc + 1) L (.int (x / y) :: st)) : tk_go p l e R s m args below meth c G dm nL cells slots Q sl pc L (.int y :: .int x :: st) :=
  fun H locs ls hH hl h => lv_idiv X.1.1 X.1.2.1 hdg hne (k H locs ls hH hl h)
theorem tk_irem (X : tk_X p m c s args G own cc nL Ts) {x y : Int32} (hdg : decode cc pc = .ok (.irem, 1)) (hne : ¬ y = 0)
    (k : tk_go p l e R s m args below meth c G dm nL cells slots Q sl (pc + 1) L (.int (x - x / y * y) :: st)) : tk_go p l e R s m args below meth c G dm nL cells slots Q sl pc L (.int y :: .int x :: st) :=
  fun H locs ls hH hl h => lv_irem X.1.1 X.1.2.1 hdg hne (k H locs ls hH hl h)
theorem tk_iushr (X : tk_X p m c s args G own cc nL Ts) {x y v : Int32} (hdg : decode cc pc = .ok (.iushr, 1)) (hv : (x.toUInt32 >>> (y.toUInt32 &&& Int32.toUInt32 31)).toInt32 = v)
    (k : tk_go p l e R s m args below meth c G dm nL cells slots Q sl (pc + 1) L (.int v :: st)) : tk_go p l e R s m args below meth c G dm nL cells slots Q sl pc L (.int y :: .int x :: st) :=
  fun H locs ls hH hl h => lv_iushr X.1.1 X.1.2.1 hdg hv (k H locs ls hH hl h)
theorem tk_i2l (X : tk_X p m c s args G own cc nL Ts) {x : Int32} {v : Int64} (hdg : decode cc pc = .ok (.i2l, 1)) (hv : x.toInt64 = v)
    (k : tk_go p l e R s m args below meth c G dm nL cells slots Q sl (pc + 1) L (.long v :: st)) : tk_go p l e R s m args below meth c G dm nL cells slots Q sl pc L (.int x :: st) :=
  fun H locs ls hH hl h => lv_i2l X.1.1 X.1.2.1 hdg hv (k H locs ls hH hl h)
theorem tk_dup (X : tk_X p m c s args G own cc nL Ts) {va : Value} (hva : va.category = 1) (hdg : decode cc pc = .ok (.dup, 1))
    (k : tk_go p l e R s m args below meth c G dm nL cells slots Q sl (pc + 1) L (va :: va :: st)) : tk_go p l e R s m args below meth c G dm nL cells slots Q sl pc L (va :: st) :=
  fun H locs ls hH hl hv => lv_dup X.1.1 X.1.2.1 hdg hva (k H locs ls hH hl hv)
theorem tk_pop (X : tk_X p m c s args G own cc nL Ts) {va : Value} (hva : va.category = 1) (hdg : decode cc pc = .ok (.pop, 1))
    (k : tk_go p l e R s m args below meth c G dm nL cells slots Q sl (pc + 1) L (st)) : tk_go p l e R s m args below meth c G dm nL cells slots Q sl pc L (va :: st) :=
  fun H locs ls hH hl hv => lv_pop X.1.1 X.1.2.1 hdg hva (k H locs ls hH hl hv)
theorem tk_dup_x1 (X : tk_X p m c s args G own cc nL Ts) {va vb : Value} (hva : va.category = 1) (hvb : vb.category = 1) (hdg : decode cc pc = .ok (.dup_x1, 1))
    (k : tk_go p l e R s m args below meth c G dm nL cells slots Q sl (pc + 1) L (va :: vb :: va :: st)) : tk_go p l e R s m args below meth c G dm nL cells slots Q sl pc L (va :: vb :: st) :=
  fun H locs ls hH hl hv => lv_dup_x1 X.1.1 X.1.2.1 hdg hva hvb (k H locs ls hH hl hv)
theorem tk_dup_x2 (X : tk_X p m c s args G own cc nL Ts) {va vb vd : Value} (hva : va.category = 1) (hvb : vb.category = 1) (hvd : vd.category = 1) (hdg : decode cc pc = .ok (.dup_x2, 1))
    (k : tk_go p l e R s m args below meth c G dm nL cells slots Q sl (pc + 1) L (va :: vb :: vd :: va :: st)) : tk_go p l e R s m args below meth c G dm nL cells slots Q sl pc L (va :: vb :: vd :: st) :=
  fun H locs ls hH hl hv => lv_dup_x2 X.1.1 X.1.2.1 hdg hva hvb hvd (k H locs ls hH hl hv)
theorem tk_dup2 (X : tk_X p m c s args G own cc nL Ts) {va vb : Value} (hva : va.category = 1) (hvb : vb.category = 1) (hdg : decode cc pc = .ok (.dup2, 1))
    (k : tk_go p l e R s m args below meth c G dm nL cells slots Q sl (pc + 1) L (va :: vb :: va :: vb :: st)) : tk_go p l e R s m args below meth c G dm nL cells slots Q sl pc L (va :: vb :: st) :=
  fun H locs ls hH hl hv => lv_dup2_11 X.1.1 X.1.2.1 hdg hva hvb (k H locs ls hH hl hv)
theorem tk_null (X : tk_X p m c s args G own cc nL Ts)  (hdg : decode cc pc = .ok (.aconst_null, 1))
    (k : tk_go p l e R s m args below meth c G dm nL cells slots Q sl (pc + 1) L (.null :: st)) : tk_go p l e R s m args below meth c G dm nL cells slots Q sl pc L (st) :=
  fun H locs ls hH hl hv => lv_null X.1.1 X.1.2.1 hdg (k H locs ls hH hl hv)
theorem tk_if_eq (X : tk_X p m c s args G own cc nL Ts) {x : Int32} {off : Int} {tgt : Nat} (hdg : decode cc pc = .ok (.ifCond .eq off, 3)) (ht : (pc : Int) + off = (tgt : Int))
    (kt : x = 0 → tk_go p l e R s m args below meth c G dm nL cells slots Q sl tgt L st) (kf : ¬ x = 0 → tk_go p l e R s m args below meth c G dm nL cells slots Q sl (pc + 3) L st) : tk_go p l e R s m args below meth c G dm nL cells slots Q sl pc L (.int x :: st) :=
  fun H locs ls hH hl h => lv_if_eq X.1.1 X.1.2.1 hdg ht (fun z => kt z H locs ls hH hl h) (fun z => kf z H locs ls hH hl h)
theorem tk_icmp_eq (X : tk_X p m c s args G own cc nL Ts) {x y : Int32} {off : Int} {tgt : Nat} (hdg : decode cc pc = .ok (.if_icmp .eq off, 3)) (ht : (pc : Int) + off = (tgt : Int))
    (kt : x = y → tk_go p l e R s m args below meth c G dm nL cells slots Q sl tgt L st) (kf : ¬ x = y → tk_go p l e R s m args below meth c G dm nL cells slots Q sl (pc + 3) L st) : tk_go p l e R s m args below meth c G dm nL cells slots Q sl pc L (.int y :: .int x :: st) :=
  fun H locs ls hH hl h => lv_icmp_eq X.1.1 X.1.2.1 hdg ht (fun z => kt z H locs ls hH hl h) (fun z => kf z H locs ls hH hl h)
theorem tk_if_ne (X : tk_X p m c s args G own cc nL Ts) {x : Int32} {off : Int} {tgt : Nat} (hdg : decode cc pc = .ok (.ifCond .ne off, 3)) (ht : (pc : Int) + off = (tgt : Int))
    (kt : ¬ x = 0 → tk_go p l e R s m args below meth c G dm nL cells slots Q sl tgt L st) (kf : x = 0 → tk_go p l e R s m args below meth c G dm nL cells slots Q sl (pc + 3) L st) : tk_go p l e R s m args below meth c G dm nL cells slots Q sl pc L (.int x :: st) :=
  fun H locs ls hH hl h => lv_if_ne X.1.1 X.1.2.1 hdg ht (fun z => kt z H locs ls hH hl h) (fun z => kf z H locs ls hH hl h)
theorem tk_icmp_ne (X : tk_X p m c s args G own cc nL Ts) {x y : Int32} {off : Int} {tgt : Nat} (hdg : decode cc pc = .ok (.if_icmp .ne off, 3)) (ht : (pc : Int) + off = (tgt : Int))
    (kt : ¬ x = y → tk_go p l e R s m args below meth c G dm nL cells slots Q sl tgt L st) (kf : x = y → tk_go p l e R s m args below meth c G dm nL cells slots Q sl (pc + 3) L st) : tk_go p l e R s m args below meth c G dm nL cells slots Q sl pc L (.int y :: .int x :: st) :=
  fun H locs ls hH hl h => lv_icmp_ne X.1.1 X.1.2.1 hdg ht (fun z => kt z H locs ls hH hl h) (fun z => kf z H locs ls hH hl h)
theorem tk_if_lt (X : tk_X p m c s args G own cc nL Ts) {x : Int32} {off : Int} {tgt : Nat} (hdg : decode cc pc = .ok (.ifCond .lt off, 3)) (ht : (pc : Int) + off = (tgt : Int))
    (kt : x < 0 → tk_go p l e R s m args below meth c G dm nL cells slots Q sl tgt L st) (kf : ¬ x < 0 → tk_go p l e R s m args below meth c G dm nL cells slots Q sl (pc + 3) L st) : tk_go p l e R s m args below meth c G dm nL cells slots Q sl pc L (.int x :: st) :=
  fun H locs ls hH hl h => lv_if_lt X.1.1 X.1.2.1 hdg ht (fun z => kt z H locs ls hH hl h) (fun z => kf z H locs ls hH hl h)
theorem tk_icmp_lt (X : tk_X p m c s args G own cc nL Ts) {x y : Int32} {off : Int} {tgt : Nat} (hdg : decode cc pc = .ok (.if_icmp .lt off, 3)) (ht : (pc : Int) + off = (tgt : Int))
    (kt : x < y → tk_go p l e R s m args below meth c G dm nL cells slots Q sl tgt L st) (kf : ¬ x < y → tk_go p l e R s m args below meth c G dm nL cells slots Q sl (pc + 3) L st) : tk_go p l e R s m args below meth c G dm nL cells slots Q sl pc L (.int y :: .int x :: st) :=
  fun H locs ls hH hl h => lv_icmp_lt X.1.1 X.1.2.1 hdg ht (fun z => kt z H locs ls hH hl h) (fun z => kf z H locs ls hH hl h)
theorem tk_if_ge (X : tk_X p m c s args G own cc nL Ts) {x : Int32} {off : Int} {tgt : Nat} (hdg : decode cc pc = .ok (.ifCond .ge off, 3)) (ht : (pc : Int) + off = (tgt : Int))
    (kt : 0 ≤ x → tk_go p l e R s m args below meth c G dm nL cells slots Q sl tgt L st) (kf : ¬ 0 ≤ x → tk_go p l e R s m args below meth c G dm nL cells slots Q sl (pc + 3) L st) : tk_go p l e R s m args below meth c G dm nL cells slots Q sl pc L (.int x :: st) :=
  fun H locs ls hH hl h => lv_if_ge X.1.1 X.1.2.1 hdg ht (fun z => kt z H locs ls hH hl h) (fun z => kf z H locs ls hH hl h)
theorem tk_icmp_ge (X : tk_X p m c s args G own cc nL Ts) {x y : Int32} {off : Int} {tgt : Nat} (hdg : decode cc pc = .ok (.if_icmp .ge off, 3)) (ht : (pc : Int) + off = (tgt : Int))
    (kt : y ≤ x → tk_go p l e R s m args below meth c G dm nL cells slots Q sl tgt L st) (kf : ¬ y ≤ x → tk_go p l e R s m args below meth c G dm nL cells slots Q sl (pc + 3) L st) : tk_go p l e R s m args below meth c G dm nL cells slots Q sl pc L (.int y :: .int x :: st) :=
  fun H locs ls hH hl h => lv_icmp_ge X.1.1 X.1.2.1 hdg ht (fun z => kt z H locs ls hH hl h) (fun z => kf z H locs ls hH hl h)
theorem tk_if_gt (X : tk_X p m c s args G own cc nL Ts) {x : Int32} {off : Int} {tgt : Nat} (hdg : decode cc pc = .ok (.ifCond .gt off, 3)) (ht : (pc : Int) + off = (tgt : Int))
    (kt : 0 < x → tk_go p l e R s m args below meth c G dm nL cells slots Q sl tgt L st) (kf : ¬ 0 < x → tk_go p l e R s m args below meth c G dm nL cells slots Q sl (pc + 3) L st) : tk_go p l e R s m args below meth c G dm nL cells slots Q sl pc L (.int x :: st) :=
  fun H locs ls hH hl h => lv_if_gt X.1.1 X.1.2.1 hdg ht (fun z => kt z H locs ls hH hl h) (fun z => kf z H locs ls hH hl h)
theorem tk_icmp_gt (X : tk_X p m c s args G own cc nL Ts) {x y : Int32} {off : Int} {tgt : Nat} (hdg : decode cc pc = .ok (.if_icmp .gt off, 3)) (ht : (pc : Int) + off = (tgt : Int))
    (kt : y < x → tk_go p l e R s m args below meth c G dm nL cells slots Q sl tgt L st) (kf : ¬ y < x → tk_go p l e R s m args below meth c G dm nL cells slots Q sl (pc + 3) L st) : tk_go p l e R s m args below meth c G dm nL cells slots Q sl pc L (.int y :: .int x :: st) :=
  fun H locs ls hH hl h => lv_icmp_gt X.1.1 X.1.2.1 hdg ht (fun z => kt z H locs ls hH hl h) (fun z => kf z H locs ls hH hl h)
theorem tk_if_le (X : tk_X p m c s args G own cc nL Ts) {x : Int32} {off : Int} {tgt : Nat} (hdg : decode cc pc = .ok (.ifCond .le off, 3)) (ht : (pc : Int) + off = (tgt : Int))
    (kt : x ≤ 0 → tk_go p l e R s m args below meth c G dm nL cells slots Q sl tgt L st) (kf : ¬ x ≤ 0 → tk_go p l e R s m args below meth c G dm nL cells slots Q sl (pc + 3) L st) : tk_go p l e R s m args below meth c G dm nL cells slots Q sl pc L (.int x :: st) :=
  fun H locs ls hH hl h => lv_if_le X.1.1 X.1.2.1 hdg ht (fun z => kt z H locs ls hH hl h) (fun z => kf z H locs ls hH hl h)
theorem tk_icmp_le (X : tk_X p m c s args G own cc nL Ts) {x y : Int32} {off : Int} {tgt : Nat} (hdg : decode cc pc = .ok (.if_icmp .le off, 3)) (ht : (pc : Int) + off = (tgt : Int))
    (kt : x ≤ y → tk_go p l e R s m args below meth c G dm nL cells slots Q sl tgt L st) (kf : ¬ x ≤ y → tk_go p l e R s m args below meth c G dm nL cells slots Q sl (pc + 3) L st) : tk_go p l e R s m args below meth c G dm nL cells slots Q sl pc L (.int y :: .int x :: st) :=
  fun H locs ls hH hl h => lv_icmp_le X.1.1 X.1.2.1 hdg ht (fun z => kt z H locs ls hH hl h) (fun z => kf z H locs ls hH hl h)
theorem tk_goto (X : tk_X p m c s args G own cc nL Ts) {off : Int} {tgt : Nat} (hdg : decode cc pc = .ok (.goto off, 3)) (ht : (pc : Int) + off = (tgt : Int)) (k : tk_go p l e R s m args below meth c G dm nL cells slots Q sl tgt L st) : tk_go p l e R s m args below meth c G dm nL cells slots Q sl pc L st :=
  fun H locs ls hH hl h => lv_goto X.1.1 X.1.2.1 hdg ht (k H locs ls hH hl h)
theorem tk_ifnonnull (X : tk_X p m c s args G own cc nL Ts) {x : Nat} {off : Int} {tgt : Nat} (hdg : decode cc pc = .ok (.ifnonnull off, 3)) (ht : (pc : Int) + off = (tgt : Int)) (k : tk_go p l e R s m args below meth c G dm nL cells slots Q sl tgt L st) : tk_go p l e R s m args below meth c G dm nL cells slots Q sl pc L (.ref x :: st) :=
  fun H locs ls hH hl h => lv_ifnonnull X.1.1 X.1.2.1 hdg ht (k H locs ls hH hl h)
theorem tk_ifnull (X : tk_X p m c s args G own cc nL Ts) {x : Nat} {off : Int} (hdg : decode cc pc = .ok (.ifnull off, 3)) (k : tk_go p l e R s m args below meth c G dm nL cells slots Q sl (pc + 3) L st) : tk_go p l e R s m args below meth c G dm nL cells slots Q sl pc L (.ref x :: st) :=
  fun H locs ls hH hl h => lv_ifnull X.1.1 X.1.2.1 hdg (k H locs ls hH hl h)
theorem tk_ifnullN (X : tk_X p m c s args G own cc nL Ts) {off : Int} {tgt : Nat} (hdg : decode cc pc = .ok (.ifnull off, 3)) (ht : (pc : Int) + off = (tgt : Int)) (k : tk_go p l e R s m args below meth c G dm nL cells slots Q sl tgt L st) : tk_go p l e R s m args below meth c G dm nL cells slots Q sl pc L (.null :: st) :=
  fun H locs ls hH hl h => lv_ifnullN X.1.1 X.1.2.1 hdg ht (k H locs ls hH hl h)
theorem tk_ifnonnullN (X : tk_X p m c s args G own cc nL Ts) {off : Int} (hdg : decode cc pc = .ok (.ifnonnull off, 3)) (k : tk_go p l e R s m args below meth c G dm nL cells slots Q sl (pc + 3) L st) : tk_go p l e R s m args below meth c G dm nL cells slots Q sl pc L (.null :: st) :=
  fun H locs ls hH hl h => lv_ifnonnullN X.1.1 X.1.2.1 hdg (k H locs ls hH hl h)
theorem tk_tableOut (X : tk_X p m c s args G own cc nL Ts) {dflt lo hi : Int} {offs : Array Int} {len : Nat} {x : Int32} {tgt : Nat} (hdg : decode cc pc = .ok (.tableswitch dflt lo hi offs, len)) (h : x.toInt < lo ∨ hi < x.toInt) (ht : (pc : Int) + dflt = (tgt : Int)) (k : tk_go p l e R s m args below meth c G dm nL cells slots Q sl tgt L st) : tk_go p l e R s m args below meth c G dm nL cells slots Q sl pc L (.int x :: st) :=
  fun H locs ls hH hl hv => lv_tableOut X.1.1 X.1.2.1 hdg h ht (k H locs ls hH hl hv)
theorem tk_tableIn (X : tk_X p m c s args G own cc nL Ts) {dflt lo hi : Int} {offs : Array Int} {len : Nat} {x : Int32} {off : Int} {tgt : Nat} (hdg : decode cc pc = .ok (.tableswitch dflt lo hi offs, len)) (h1 : ¬ x.toInt < lo) (h2 : ¬ hi < x.toInt) (ho : offs[(x.toInt - lo).toNat]? = some off) (ht : (pc : Int) + off = (tgt : Int)) (k : tk_go p l e R s m args below meth c G dm nL cells slots Q sl tgt L st) : tk_go p l e R s m args below meth c G dm nL cells slots Q sl pc L (.int x :: st) :=
  fun H locs ls hH hl hv => lv_tableIn X.1.1 X.1.2.1 hdg h1 h2 ho ht (k H locs ls hH hl hv)
theorem tk_lookup (X : tk_X p m c s args G own cc nL Ts) {dflt : Int} {ps : Array (Int × Int)} {len : Nat} {x : Int32} {off : Int} {tgt : Nat} (hdg : decode cc pc = .ok (.lookupswitch dflt ps, len)) (hp : (ps.toList.zip (ps.toList.drop 1)).all (fun (a, next) => a.1 < next.1) = true) (ho : Op.lookupswitch.offset ps.toList dflt x.toInt = off) (ht : (pc : Int) + off = (tgt : Int)) (k : tk_go p l e R s m args below meth c G dm nL cells slots Q sl tgt L st) : tk_go p l e R s m args below meth c G dm nL cells slots Q sl pc L (.int x :: st) :=
  fun H locs ls hH hl hv => lv_lookup X.1.1 X.1.2.1 hdg hp ho ht (k H locs ls hH hl hv)
theorem tk_eq {sl' : tk_L} {pc' : Nat} {L' : List (Option Value)} {st' : List Value} (h1 : sl = sl') (h2 : pc = pc') (h3 : L = L') (h4 : st = st') (k : tk_go p l e R s m args below meth c G dm nL cells slots Q sl' pc' L' st') : tk_go p l e R s m args below meth c G dm nL cells slots Q sl pc L st := by
  subst h1; subst h2; subst h3; subst h4; exact k
theorem tk_dom {dm' : tk_W} (h : ∀ k, dm'.1 k → dm.1 k) (hz : dm'.2 = none ∨ dm'.2 = dm.2) (k : tk_go p l e R s m args below meth c G dm' nL cells slots Q sl pc L st) : tk_go p l e R s m args below meth c G dm nL cells slots Q sl pc L st :=
  fun H locs ls hH hl hv => k H locs ls (hH.dom h hz) hl hv
theorem tk_congr {sl' : tk_L} (h : ∀ k, dm.1 k → sl k = sl' k) (k : tk_go p l e R s m args below meth c G dm nL cells slots Q sl' pc L st) : tk_go p l e R s m args below meth c G dm nL cells slots Q sl pc L st :=
  fun H locs ls hH hl hv => k H locs ls (hH.congr h) hl hv
theorem tk_widen {k n : Nat} (h1 : cells ≤ k) (h2 : slots ≤ n) (kk : tk_go p l e R s m args below meth c G dm nL k n Q sl pc L st) : tk_go p l e R s m args below meth c G dm nL cells slots Q sl pc L st :=
  fun H locs ls hH hl hv => W.widen h1 h2 (kk H locs ls hH hl hv)
theorem tk_get (X : tk_X p m c s args G own cc nL Ts) {k : tk_K} (hk : dm.1 k) {ci : Nat} (hkd : tk_kd G k = .inl ci) {C : String} {T : u_T} {N : Nat} (hc : G.2.1[ci]? = some (C, T, N)) (hin : ∀ w ∈ u_ws C T N, w ∈ Ts) (j : Nat) (hj : j < N) {index : Nat} (hlink : Cond.fieldLink own index (T j).1 (T j).2.1 (T j).2.2.1 ∈ Ts) {v : Value} (hv : sl k j = v) (hdg : decode cc pc = .ok (.getfield index, 3))
    (kk : tk_go p l e R s m args below meth c G dm nL cells slots Q sl (pc + 3) L (v :: st)) : tk_go p l e R s m args below meth c G dm nL cells slots Q sl pc L (.ref (tk_ad G k) :: st) := fun H locs ls hH hl h => by
  obtain ⟨r, h1, cell, q1, q2, q3, q4⟩ := (hH.1 k hk).2.obj hkd
  have hr : r = (C, T, N) := Option.some.inj (h1.symm.trans hc)
  subst hr
  obtain ⟨hS, hfc, kC, hkC, hkind⟩ := X.2.1.1.1 ci _ hc
  obtain ⟨cf, kf, fi, f, hi, hsl⟩ := hS j hj
  refine W.getf X.1.1 X.1.2.1 X.1.2.2.2.1 (X.1.2.2.2.2 _ hlink) hi (u_facts hfc hkC (u_lays X.1.2.2.2.2 hin hj) hi).1 q1 (by rw [q3]; exact fun h => by cases h) (v := v) ?_ rfl rfl hdg (kk H locs ls hH hl h)
  rw [hsl, q4 j hj, hv]
theorem tk_getN (X : tk_X p m c s args G own cc nL Ts) {k : tk_K} (hk : dm.1 k) {ci : Nat} (hkd : tk_kd G k = .inl ci) {C host : String} {T : u_T} {N : Nat} (hc : G.2.1[ci]? = some (C, T, N)) (hin : ∀ w ∈ u_ws C T N, w ∈ Ts) (j : Nat) (hj : j < N) {index : Nat} (hlink : Cond.fieldLinkNest own index (T j).1 (T j).2.1 (T j).2.2.1 host ∈ tk_nw G) {v : Value} (hv : sl k j = v) (hdg : decode cc pc = .ok (.getfield index, 3))
    (kk : tk_go p l e R s m args below meth c G dm nL cells slots Q sl (pc + 3) L (v :: st)) : tk_go p l e R s m args below meth c G dm nL cells slots Q sl pc L (.ref (tk_ad G k) :: st) := fun H locs ls hH hl h => by
  obtain ⟨r, h1, cell, q1, q2, q3, q4⟩ := (hH.1 k hk).2.obj hkd
  have hr : r = (C, T, N) := Option.some.inj (h1.symm.trans hc)
  subst hr
  obtain ⟨hS, hfc, kC, hkC, hkind⟩ := X.2.1.1.1 ci _ hc
  obtain ⟨cf, kf, fi, f, hi, hsl⟩ := hS j hj
  refine va_Wgetf X.1.1 X.1.2.1 X.1.2.2.2.1 (va_Nw.use rfl (X.2.1.2 _ hlink).2) hi (u_facts hfc hkC (u_lays X.1.2.2.2.2 hin hj) hi).1 q1 (by rw [q3]; exact fun h => by cases h) (v := v) ?_ rfl rfl hdg (kk H locs ls hH hl h)
  rw [hsl, q4 j hj, hv]
theorem tk_apart (X : tk_X p m c s args G own cc nL Ts) {ci : Nat} {C : String} {T : u_T} {N : Nat} (hc : G.2.1[ci]? = some (C, T, N)) (hin : ∀ w ∈ u_ws C T N, w ∈ Ts) (ty : Nat → FieldType) (hty : ∀ k, k < N → parseFieldDescriptor (T k).2.2.1 = some (ty k)) (hnm : ∀ a, a < N → ∀ b, b < N → a ≠ b → (T a).2.1 ≠ (T b).2.1) : ∀ x y, x < N → y < N → x ≠ y → (G.1.2 ci) x ≠ (G.1.2 ci) y :=
  va_apart (own := own) X.1.2.2.2.2 hin ty hty hnm X.2.1.1 hc
theorem tk_put (X : tk_X p m c s args G own cc nL Ts) {k : tk_K} (hk : dm.1 k) {ci : Nat} (hkd : tk_kd G k = .inl ci) {C : String} {T : u_T} {N : Nat} (hc : G.2.1[ci]? = some (C, T, N)) (hin : ∀ w ∈ u_ws C T N, w ∈ Ts) (ty0 : Nat → FieldType) (hty : ∀ k, k < N → parseFieldDescriptor (T k).2.2.1 = some (ty0 k)) (hnm : ∀ a, a < N → ∀ b, b < N → a ≠ b → (T a).2.1 ≠ (T b).2.1) (j : Nat) (hj : j < N) {index : Nat} (hlink : Cond.fieldLink own index (T j).1 (T j).2.1 (T j).2.2.1 ∈ Ts) (hfin : (T j).2.2.2 = false) {v : Value} (hn : narrow (ty0 j) v = v) (hfit : fits (ty0 j) v = true) (hdg : decode cc pc = .ok (.putfield index, 3))
    (kk : tk_go p l e R s m args below meth c G dm nL cells slots Q (tk_up sl k j v) (pc + 3) L st) : tk_go p l e R s m args below meth c G dm nL cells slots Q sl pc L (v :: .ref (tk_ad G k) :: st) := fun H locs ls hH hl h => by
  have hap := tk_apart X hc hin ty0 hty hnm
  obtain ⟨r, h1, cell, q1, q2, q3, q4⟩ := (hH.1 k hk).2.obj hkd
  have hr : r = (C, T, N) := Option.some.inj (h1.symm.trans hc)
  subst hr
  obtain ⟨hS, hfc, kC, hkC, hkind⟩ := X.2.1.1.1 ci _ hc
  obtain ⟨cf, kf, fi, f, hi, hsl⟩ := hS j hj
  have hlay := X.1.2.2.2.2 _ (hin _ (u_in_lay hj))
  unfold u_lay at hlay
  rw [if_neg (by rw [hfin]; decide)] at hlay
  have hst := (u_facts hfc hkC (u_lays X.1.2.2.2.2 hin hj) hi).1
  have h6 := u_store hfc hkC hkind hlay hi (hty j hj) hn hfit
  refine W.putK X.1.1 X.1.2.1 (f := f) ⟨X.1.2.2.2.1, X.1.2.2.2.2 _ hlink, ⟨_, _, _, hi⟩, hst⟩ (by rw [q2]; exact h6) q1 q3 (by rw [hsl]; exact k2_hasslot (q4 j hj)) rfl rfl hdg fun H' e1 e2 e3 => ?_
  rw [hsl] at e1 ⊢
  refine kk H' _ ls (hH.put X.2.2 hk (fun k' h' => tk_up_ne sl j v h') (tk_at.ofObj hkd ⟨_, hc, ?_⟩) e2 e3) (fun q hq => ?_) h
  · rw [tk_up_self]
    exact ⟨_, e1, q2, q3, t_set q4 hap hj v⟩
  · rcases List.mem_append.mp hq with h' | h'
    · exact hl q h'
    · rw [List.mem_singleton.mp h']
      exact X.2.2.1 k (hH.1 k hk).1
theorem tk_putN (X : tk_X p m c s args G own cc nL Ts) {k : tk_K} (hk : dm.1 k) {ci : Nat} (hkd : tk_kd G k = .inl ci) {C host : String} {T : u_T} {N : Nat} (hc : G.2.1[ci]? = some (C, T, N)) (hin : ∀ w ∈ u_ws C T N, w ∈ Ts) (ty0 : Nat → FieldType) (hty : ∀ k, k < N → parseFieldDescriptor (T k).2.2.1 = some (ty0 k)) (hnm : ∀ a, a < N → ∀ b, b < N → a ≠ b → (T a).2.1 ≠ (T b).2.1) (j : Nat) (hj : j < N) {index : Nat} (hlink : Cond.fieldLinkNest own index (T j).1 (T j).2.1 (T j).2.2.1 host ∈ tk_nw G) (hfin : (T j).2.2.2 = false) {v : Value} (hn : narrow (ty0 j) v = v) (hfit : fits (ty0 j) v = true) (hdg : decode cc pc = .ok (.putfield index, 3))
    (kk : tk_go p l e R s m args below meth c G dm nL cells slots Q (tk_up sl k j v) (pc + 3) L st) : tk_go p l e R s m args below meth c G dm nL cells slots Q sl pc L (v :: .ref (tk_ad G k) :: st) := fun H locs ls hH hl h => by
  have hap := tk_apart X hc hin ty0 hty hnm
  obtain ⟨r, h1, cell, q1, q2, q3, q4⟩ := (hH.1 k hk).2.obj hkd
  have hr : r = (C, T, N) := Option.some.inj (h1.symm.trans hc)
  subst hr
  obtain ⟨hS, hfc, kC, hkC, hkind⟩ := X.2.1.1.1 ci _ hc
  obtain ⟨cf, kf, fi, f, hi, hsl⟩ := hS j hj
  have hlay := X.1.2.2.2.2 _ (hin _ (u_in_lay hj))
  unfold u_lay at hlay
  rw [if_neg (by rw [hfin]; decide)] at hlay
  have hst := (u_facts hfc hkC (u_lays X.1.2.2.2.2 hin hj) hi).1
  have h6 := u_store hfc hkC hkind hlay hi (hty j hj) hn hfit
  refine va_WputK X.1.1 X.1.2.1 (f := f) X.1.2.2.2.1 (va_Nw.use rfl (X.2.1.2 _ hlink).2) hi hst (by rw [q2]; exact h6) q1 q3 (by rw [hsl]; exact k2_hasslot (q4 j hj)) rfl rfl hdg fun H' e1 e2 e3 => ?_
  rw [hsl] at e1 ⊢
  refine kk H' _ ls (hH.put X.2.2 hk (fun k' h' => tk_up_ne sl j v h') (tk_at.ofObj hkd ⟨_, hc, ?_⟩) e2 e3) (fun q hq => ?_) h
  · rw [tk_up_self]
    exact ⟨_, e1, q2, q3, t_set q4 hap hj v⟩
  · rcases List.mem_append.mp hq with h' | h'
    · exact hl q h'
    · rw [List.mem_singleton.mp h']
      exact X.2.2.1 k (hH.1 k hk).1
theorem tk_putF (X : tk_X p m c s args G own cc nL Ts) (hin2 : meth.name = "<init>") {k : tk_K} (hk : dm.1 k) {ci : Nat} (hkd : tk_kd G k = .inl ci) {C : String} {T : u_T} {N : Nat} (hc : G.2.1[ci]? = some (C, T, N)) (hin : ∀ w ∈ u_ws C T N, w ∈ Ts) (ty0 : Nat → FieldType) (hty : ∀ k, k < N → parseFieldDescriptor (T k).2.2.1 = some (ty0 k)) (hnm : ∀ a, a < N → ∀ b, b < N → a ≠ b → (T a).2.1 ≠ (T b).2.1) (j : Nat) (hj : j < N) {index : Nat} (hlink : Cond.fieldLink own index (T j).1 (T j).2.1 (T j).2.2.1 ∈ Ts) (hfin : (T j).2.2.2 = true) (hdecl : (T j).1 = own) {v : Value} (hn : narrow (ty0 j) v = v) (hfit : fits (ty0 j) v = true) (hdg : decode cc pc = .ok (.putfield index, 3))
    (kk : tk_go p l e R s m args below meth c G dm nL cells slots Q (tk_up sl k j v) (pc + 3) L st) : tk_go p l e R s m args below meth c G dm nL cells slots Q sl pc L (v :: .ref (tk_ad G k) :: st) := fun H locs ls hH hl h => by
  have hap := tk_apart X hc hin ty0 hty hnm
  obtain ⟨r, h1, cell, q1, q2, q3, q4⟩ := (hH.1 k hk).2.obj hkd
  have hr : r = (C, T, N) := Option.some.inj (h1.symm.trans hc)
  subst hr
  obtain ⟨hS, hfc, kC, hkC, hkind⟩ := X.2.1.1.1 ci _ hc
  obtain ⟨cf, kf, fi, f, hi, hsl⟩ := hS j hj
  have hlay := X.1.2.2.2.2 _ (hin _ (u_in_lay hj))
  unfold u_lay at hlay
  rw [if_pos hfin] at hlay
  have hst := (u_facts hfc hkC (u_lays X.1.2.2.2.2 hin hj) hi).1
  have hcf : m.cls = cf := by
    obtain ⟨_, _, c', _, _, _, -, -, hf', -, -, -, hown2, -⟩ := Cond.laysFinal_spec hlay
    have e1 : c' = cf := by have := hi.symm.trans hf'; simp at this; exact this.1.symm
    rw [hdecl] at hown2
    rw [← e1]; exact Option.some.inj (X.1.2.2.2.1.symm.trans hown2)
  have h6 := u_fits hfc hkC hkind (Or.inr hlay) hi (hty j hj) hn hfit
  refine W.putFinK X.1.1 X.1.2.1 X.1.2.2.2.1 (X.1.2.2.2.2 _ hlink) hi hst hcf hin2 (by rw [q2]; exact h6) q1 q3 (by rw [hsl]; exact k2_hasslot (q4 j hj)) rfl rfl hdg fun H' e1 e2 e3 => ?_
  rw [hsl] at e1 ⊢
  refine kk H' _ ls (hH.put X.2.2 hk (fun k' h' => tk_up_ne sl j v h') (tk_at.ofObj hkd ⟨_, hc, ?_⟩) e2 e3) (fun q hq => ?_) h
  · rw [tk_up_self]
    exact ⟨_, e1, q2, q3, t_set q4 hap hj v⟩
  · rcases List.mem_append.mp hq with h' | h'
    · exact hl q h'
    · rw [List.mem_singleton.mp h']
      exact X.2.2.1 k (hH.1 k hk).1
theorem tk_iald (X : tk_X p m c s args G own cc nL Ts) {k : tk_K} (hk : dm.1 k) {t n : Nat} (hkd : tk_kd G k = .inr (t, n)) {cA : ClassId} (hc : G.2.2.1[t]? = some (cA, .int)) {i : Int32} (hin : vp_in i n) {x : Int32} (hv : sl k i.toNatClampNeg = .int x) (hdg : decode cc pc = .ok (.iaload, 1))
    (kk : tk_go p l e R s m args below meth c G dm nL cells slots Q sl (pc + 1) L (.int x :: st)) : tk_go p l e R s m args below meth c G dm nL cells slots Q sl pc L (.int i :: .ref (tk_ad G k) :: st) := fun H locs ls hH hl h => by
  obtain ⟨r, h1, h2⟩ := (hH.1 k hk).2.arr hkd
  have hr : r = (cA, .int) := Option.some.inj (h1.symm.trans hc)
  subst hr
  have hlt : i.toNatClampNeg < n := Nat.not_le.mp fun q => hin (Or.inr q)
  exact W.iald (v := .int x) X.1.1 X.1.2.1 h2 ((X.2.1.1.2 t _ hc).1 n (sl k)) (fun q => by cases q) (by rw [arrV_size]; exact hin) (by rw [arrV_read _ _ hlt, hv]) rfl rfl hdg (kk H locs ls hH hl h)
theorem tk_zald (X : tk_X p m c s args G own cc nL Ts) {k : tk_K} (hk : dm.1 k) {t n : Nat} (hkd : tk_kd G k = .inr (t, n)) {cA : ClassId} (hc : G.2.2.1[t]? = some (cA, .boolean)) {i : Int32} (hin : vp_in i n) {x : Int32} (hv : sl k i.toNatClampNeg = .int x) (hdg : decode cc pc = .ok (.baload, 1))
    (kk : tk_go p l e R s m args below meth c G dm nL cells slots Q sl (pc + 1) L (.int x :: st)) : tk_go p l e R s m args below meth c G dm nL cells slots Q sl pc L (.int i :: .ref (tk_ad G k) :: st) := fun H locs ls hH hl h => by
  obtain ⟨r, h1, h2⟩ := (hH.1 k hk).2.arr hkd
  have hr : r = (cA, .boolean) := Option.some.inj (h1.symm.trans hc)
  subst hr
  have hlt : i.toNatClampNeg < n := Nat.not_le.mp fun q => hin (Or.inr q)
  exact W.zald (v := .int x) X.1.1 X.1.2.1 h2 ((X.2.1.1.2 t _ hc).1 n (sl k)) (fun q => by cases q) (by rw [arrV_size]; exact hin) (by rw [arrV_read _ _ hlt, hv]) rfl rfl hdg (kk H locs ls hH hl h)
theorem tk_lald (X : tk_X p m c s args G own cc nL Ts) {k : tk_K} (hk : dm.1 k) {t n : Nat} (hkd : tk_kd G k = .inr (t, n)) {cA : ClassId} (hc : G.2.2.1[t]? = some (cA, .long)) {i : Int32} (hin : vp_in i n) {x : Int64} (hv : sl k i.toNatClampNeg = .long x) (hdg : decode cc pc = .ok (.laload, 1))
    (kk : tk_go p l e R s m args below meth c G dm nL cells slots Q sl (pc + 1) L (.long x :: st)) : tk_go p l e R s m args below meth c G dm nL cells slots Q sl pc L (.int i :: .ref (tk_ad G k) :: st) := fun H locs ls hH hl h => by
  obtain ⟨r, h1, h2⟩ := (hH.1 k hk).2.arr hkd
  have hr : r = (cA, .long) := Option.some.inj (h1.symm.trans hc)
  subst hr
  have hlt : i.toNatClampNeg < n := Nat.not_le.mp fun q => hin (Or.inr q)
  exact W.lald (v := .long x) X.1.1 X.1.2.1 h2 ((X.2.1.1.2 t _ hc).1 n (sl k)) (fun q => by cases q) (by rw [arrV_size]; exact hin) (by rw [arrV_read _ _ hlt, hv]) rfl rfl hdg (kk H locs ls hH hl h)
theorem tk_aald (X : tk_X p m c s args G own cc nL Ts) {k : tk_K} (hk : dm.1 k) {t n : Nat} (hkd : tk_kd G k = .inr (t, n)) {cA : ClassId} {C : String} (hc : G.2.2.1[t]? = some (cA, .object C)) {i : Int32} (hin : vp_in i n) {v : Value} (hv : sl k i.toNatClampNeg = v) (hdg : decode cc pc = .ok (.aaload, 1))
    (kk : tk_go p l e R s m args below meth c G dm nL cells slots Q sl (pc + 1) L (v :: st)) : tk_go p l e R s m args below meth c G dm nL cells slots Q sl pc L (.int i :: .ref (tk_ad G k) :: st) := fun H locs ls hH hl h => by
  obtain ⟨r, h1, h2⟩ := (hH.1 k hk).2.arr hkd
  have hr : r = (cA, .object C) := Option.some.inj (h1.symm.trans hc)
  subst hr
  have hlt : i.toNatClampNeg < n := Nat.not_le.mp fun q => hin (Or.inr q)
  exact W.aald (v := v) (ty := .object C) X.1.1 X.1.2.1 h2 ((X.2.1.1.2 t _ hc).1 n (sl k)) rfl (fun q => by cases q) (by rw [arrV_size]; exact hin) (by rw [arrV_read _ _ hlt, hv]) rfl rfl hdg (kk H locs ls hH hl h)
theorem tk_alen (X : tk_X p m c s args G own cc nL Ts) {k : tk_K} (hk : dm.1 k) {t n : Nat} (hkd : tk_kd G k = .inr (t, n)) {cA : ClassId} {ty : FieldType} (hc : G.2.2.1[t]? = some (cA, ty)) {v : Int32} (hv : Int32.ofNat n = v) (hdg : decode cc pc = .ok (.arraylength, 1))
    (kk : tk_go p l e R s m args below meth c G dm nL cells slots Q sl (pc + 1) L (.int v :: st)) : tk_go p l e R s m args below meth c G dm nL cells slots Q sl pc L (.ref (tk_ad G k) :: st) := fun H locs ls hH hl h => by
  obtain ⟨r, h1, h2⟩ := (hH.1 k hk).2.arr hkd
  have hr : r = (cA, ty) := Option.some.inj (h1.symm.trans hc)
  subst hr
  exact W.alen (n := v) X.1.1 X.1.2.1 h2 ((X.2.1.1.2 t _ hc).1 n (sl k)) (by rw [arrV_size]; exact hv) rfl rfl hdg (kk H locs ls hH hl h)
theorem tk_iast (X : tk_X p m c s args G own cc nL Ts) {k : tk_K} (hk : dm.1 k) {t n : Nat} (hkd : tk_kd G k = .inr (t, n)) {cA : ClassId} (hc : G.2.2.1[t]? = some (cA, .int)) {i : Int32} (hin : vp_in i n) {x : Int32} {v : Value} (hw : .int x = v) (hdg : decode cc pc = .ok (.iastore, 1))
    (kk : tk_go p l e R s m args below meth c G dm nL cells slots Q (tk_up sl k i.toNatClampNeg v) (pc + 1) L st) : tk_go p l e R s m args below meth c G dm nL cells slots Q sl pc L (.int x :: .int i :: .ref (tk_ad G k) :: st) := fun H locs ls hH hl h => by
  obtain ⟨r, h1, h2⟩ := (hH.1 k hk).2.arr hkd
  have hr : r = (cA, .int) := Option.some.inj (h1.symm.trans hc)
  subst hr
  subst hw
  refine W.iast X.1.1 X.1.2.1 h2 ((X.2.1.1.2 t _ hc).1 n (sl k)) (fun q => by cases q) (by rw [arrV_size]; exact hin) rfl rfl hdg fun H1 e1 e2 e3 => ?_
  refine kk H1 _ ls (hH.put X.2.2 hk (fun k' h' => tk_up_ne sl _ _ h') (tk_at.ofArr hkd ⟨_, hc, ?_⟩) e2 e3) (fun q hq => ?_) h
  · rw [tk_up_self, ← arrV_store]
    exact e1
  · rcases List.mem_append.mp hq with h' | h'
    · exact hl q h'
    · rw [List.mem_singleton.mp h']
      exact X.2.2.1 k (hH.1 k hk).1
theorem tk_zast (X : tk_X p m c s args G own cc nL Ts) {k : tk_K} (hk : dm.1 k) {t n : Nat} (hkd : tk_kd G k = .inr (t, n)) {cA : ClassId} (hc : G.2.2.1[t]? = some (cA, .boolean)) {i : Int32} (hin : vp_in i n) {x : Int32} {v : Value} (hw : narrow .boolean (.int x) = v) (hdg : decode cc pc = .ok (.bastore, 1))
    (kk : tk_go p l e R s m args below meth c G dm nL cells slots Q (tk_up sl k i.toNatClampNeg v) (pc + 1) L st) : tk_go p l e R s m args below meth c G dm nL cells slots Q sl pc L (.int x :: .int i :: .ref (tk_ad G k) :: st) := fun H locs ls hH hl h => by
  obtain ⟨r, h1, h2⟩ := (hH.1 k hk).2.arr hkd
  have hr : r = (cA, .boolean) := Option.some.inj (h1.symm.trans hc)
  subst hr
  subst hw
  refine W.zast X.1.1 X.1.2.1 h2 ((X.2.1.1.2 t _ hc).1 n (sl k)) (fun q => by cases q) (by rw [arrV_size]; exact hin) rfl rfl hdg fun H1 e1 e2 e3 => ?_
  refine kk H1 _ ls (hH.put X.2.2 hk (fun k' h' => tk_up_ne sl _ _ h') (tk_at.ofArr hkd ⟨_, hc, ?_⟩) e2 e3) (fun q hq => ?_) h
  · rw [tk_up_self, ← arrV_store]
    exact e1
  · rcases List.mem_append.mp hq with h' | h'
    · exact hl q h'
    · rw [List.mem_singleton.mp h']
      exact X.2.2.1 k (hH.1 k hk).1
theorem tk_last (X : tk_X p m c s args G own cc nL Ts) {k : tk_K} (hk : dm.1 k) {t n : Nat} (hkd : tk_kd G k = .inr (t, n)) {cA : ClassId} (hc : G.2.2.1[t]? = some (cA, .long)) {i : Int32} (hin : vp_in i n) {x : Int64} {v : Value} (hw : .long x = v) (hdg : decode cc pc = .ok (.lastore, 1))
    (kk : tk_go p l e R s m args below meth c G dm nL cells slots Q (tk_up sl k i.toNatClampNeg v) (pc + 1) L st) : tk_go p l e R s m args below meth c G dm nL cells slots Q sl pc L (.long x :: .int i :: .ref (tk_ad G k) :: st) := fun H locs ls hH hl h => by
  obtain ⟨r, h1, h2⟩ := (hH.1 k hk).2.arr hkd
  have hr : r = (cA, .long) := Option.some.inj (h1.symm.trans hc)
  subst hr
  subst hw
  refine W.last X.1.1 X.1.2.1 h2 ((X.2.1.1.2 t _ hc).1 n (sl k)) (fun q => by cases q) (by rw [arrV_size]; exact hin) rfl rfl hdg fun H1 e1 e2 e3 => ?_
  refine kk H1 _ ls (hH.put X.2.2 hk (fun k' h' => tk_up_ne sl _ _ h') (tk_at.ofArr hkd ⟨_, hc, ?_⟩) e2 e3) (fun q hq => ?_) h
  · rw [tk_up_self, ← arrV_store]
    exact e1
  · rcases List.mem_append.mp hq with h' | h'
    · exact hl q h'
    · rw [List.mem_singleton.mp h']
      exact X.2.2.1 k (hH.1 k hk).1
theorem tk_aast (X : tk_X p m c s args G own cc nL Ts) {k kv : tk_K} (hk : dm.1 k) (hkv : dm.1 kv) {t n ci : Nat} (hkd : tk_kd G k = .inr (t, n)) (hkdv : tk_kd G kv = .inl ci) {cA : ClassId} {C : String} {T : u_T} {N : Nat} (hc : G.2.2.1[t]? = some (cA, .object C)) (hcv : G.2.1[ci]? = some (C, T, N)) {i : Int32} (hin : vp_in i n) (hdg : decode cc pc = .ok (.aastore, 1))
    (kk : tk_go p l e R s m args below meth c G dm nL cells slots Q (tk_up sl k i.toNatClampNeg (.ref (tk_ad G kv))) (pc + 1) L st) : tk_go p l e R s m args below meth c G dm nL cells slots Q sl pc L (.ref (tk_ad G kv) :: .int i :: .ref (tk_ad G k) :: st) := fun H locs ls hH hl h => by
  obtain ⟨r, h1, h2⟩ := (hH.1 k hk).2.arr hkd
  have hr : r = (cA, .object C) := Option.some.inj (h1.symm.trans hc)
  subst hr
  have hlt : i.toNatClampNeg < n := Nat.not_le.mp fun q => hin (Or.inr q)
  have h0 : ¬ i < 0 := fun q => hin (Or.inl q)
  obtain ⟨r', hr', cellV, g1, g2, g3, -⟩ := (hH.1 kv hkv).2.obj hkdv
  have hcls := (X.2.1.1.1 ci _ hcv).2
  obtain ⟨kA, comp, k1, k2, k3, -⟩ := (X.2.1.1.2 t _ hc).2
  have hcomp : comp = G.1.1 ci := Option.some.inj (k3.symm.trans hcls.1)
  subst hcomp
  obtain ⟨kC, hkC, -⟩ := hcls.2
  refine W.aast X.1.1 X.1.2.1 h2 (fun q h => by cases h) (fun h => by cases h) k1 k2 rfl hkC ⟨h0, by rw [arrV_size]; exact hlt⟩ g1 (fun q h => by rw [g3] at h; cases h) (by rw [g2]; exact hkC) (by rw [g2]; exact va_assign hcls) rfl rfl hdg fun H1 e1 e2 e3 => ?_
  refine kk H1 _ ls (hH.put X.2.2 hk (fun k' h' => tk_up_ne sl _ _ h') (tk_at.ofArr hkd ⟨_, hc, ?_⟩) e2 e3) (fun q hq => ?_) h
  · rw [tk_up_self, ← arrV_store]
    exact e1
  · rcases List.mem_append.mp hq with h' | h'
    · exact hl q h'
    · rw [List.mem_singleton.mp h']
      exact X.2.2.1 k (hH.1 k hk).1
end TK
def tk_M (l : Launch) (G : tk_G) (dm dm' : tk_W) (y : MethodName) (ws : List Cond) (rm : Room) (As : List Value) (sl : tk_L) (r : Option Value) (sl' : tk_L) : Prop :=
  Met l y ws rm (va_Pc As (fun U => tk_H G dm sl U.heap ∧ tk_V G U)) (fun _ _ oc t => oc = .returned r ∧ tk_H G dm' sl' t.heap) rm.cells rm.slots (fun q => (tk_h0 G).size ≤ q)
theorem tk_blind {G : tk_G} {dm : tk_W} {sl : tk_L} {As : List Value} : FrameBlind (va_Pc As (fun U => tk_H G dm sl U.heap ∧ tk_V G U)) := fun a U g mk q => by
  obtain ⟨q1, q2, q3⟩ := q
  exact ⟨q1, q2, q3.same (U := U.calling g mk a) rfl⟩
theorem tk_preS {G : tk_G} {dm : tk_W} {sl : tk_L} {As : List Value} {s : State} {H : Heap} (hH : tk_H G dm sl H) (hV : tk_V G s) : PreS s H (va_Pc As (fun U => tk_H G dm sl U.heap ∧ tk_V G U)) As :=
  ⟨tk_blind, fun U hU hW => ⟨rfl, by rw [hU]; exact hH, hV.warm hW⟩⟩
theorem tk_preV {G : tk_G} {dm : tk_W} {sl : tk_L} {As : List Value} {s : State} {H : Heap} {k : tk_K} {ci : Nat} {C : String} {T : u_T} {N : Nat} (hH : tk_H G dm sl H) (hV : tk_V G s) (hk : dm.1 k) (hkd : tk_kd G k = .inl ci) (hc : G.2.1[ci]? = some (C, T, N)) : PreV s H C (tk_ad G k) (va_Pc (.ref (tk_ad G k) :: As) (fun U => tk_H G dm sl U.heap ∧ tk_V G U)) As := by
  refine ⟨tk_blind, ?_, fun U hU hW => ⟨rfl, by rw [hU]; exact hH, hV.warm hW⟩⟩
  obtain ⟨r, h1, cell, q1, q2, q3, q4⟩ := (hH.1 k hk).2.obj hkd
  have hr : r = (C, T, N) := Option.some.inj (h1.symm.trans hc)
  subst hr
  exact ⟨cell, q1, by rw [q3]; rfl, by rw [q2]; exact (hV.1.1 ci _ hc).2.1⟩
section TKC
variable {p : Program} {l : Launch} {e : Env} {R : Room} {s : State} {m : MethodId} {args : Array Value} {below : List Frame} {meth : Method} {c : Code} {G : tk_G} {dm dm' : tk_W} {nL cells slots : Nat} {Q : State → Prop} {sl sl' : tk_L} {pc : Nat} {L : List (Option Value)} {st rest As : List Value} {r : Option Value}
variable {own : String} {cc : ByteArray} {Ts : List Cond} {y : MethodName} {bytes : ByteArray} {maxL n index mc ms : Nat} {ret : Option FieldType} {ws ws' : List Cond} {rm : Room} {H : Heap} {locs : List Loc} {ls : Array Slot}
theorem tk_after {st0 : List Value} (hr : va_Run p l e R s m args below meth c H locs cells slots mc ms (F0 m pc ls st0) rest (fun _ oc t => oc = .returned r ∧ tk_H G dm' sl' t.heap) (fun q => (tk_h0 G).size ≤ q)) (hl : ∀ q ∈ locs, (tk_h0 G).size ≤ q.base) (hv : tk_lv ls nL L)
    (k : tk_go p l e R s m args below meth c G dm' nL (cells + mc) (slots + ms) Q sl' (pc + 3) L (r.toList ++ rest)) : W p l e R s m args below meth c H locs cells slots Q (F0 m pc ls st0) := by
  intro T hT X
  obtain ⟨v, st₀, t, T', L', h0, X', hL, e1, e2, ⟨hv', hH⟩, stp⟩ := hr T hT X
  cases hv'
  obtain ⟨t2, a1, b1⟩ := k T'.heap (locs ++ L') ls (by rw [e1]; exact hH) (fun q hq => by
    rcases List.mem_append.mp hq with h | h
    · exact hl q h
    · exact hL q h) hv T' rfl X'
  exact ⟨t2, stp t2 a1, b1⟩
def tk_site (R : Room) (Ts : List Cond) (y : MethodName) (bytes : ByteArray) (maxL : Nat) (ret : Option FieldType) (ws : List Cond) (rm : Room) (n : Nat) : Prop :=
  GoodIn Ts ws ∧ (∃ ws', ws = Cond.code y bytes maxL ret :: ws') ∧ Cond.initialized y.cls ∈ Ts ∧ (y.cls ≠ "java/lang/invoke/MethodHandle" ∧ y.cls ≠ "java/lang/invoke/VarHandle" ∧ (parseMethodDescriptor y.desc).map (fun d => d.parameters.length) = some n) ∧ rm.frames + 1 ≤ R.frames ∧ 8 + (maxL + 11) + rm.locals ≤ R.locals
theorem tk_callS (X : tk_X p m c s args G own cc nL Ts) (hM : tk_M l G dm dm' y ws rm As sl r sl') (hs : tk_site R Ts y bytes maxL ret ws rm n) (hlink : Cond.methodLink own index y ∈ Ts) (hst : Cond.static y ∈ Ts) (hn : As.length = n) (hrest : (rest.map fun v => v.category).sum ≤ 8) (hcs : cells + rm.cells ≤ R.cells ∧ slots + rm.slots ≤ R.slots) (hstk : st = As.reverse ++ rest) (hdg : decode cc pc = .ok (.invokestatic index, 3))
    (k : tk_go p l e R s m args below meth c G dm' nL (cells + rm.cells) (slots + rm.slots) Q sl' (pc + 3) L (r.toList ++ rest)) : tk_go p l e R s m args below meth c G dm nL cells slots Q sl pc L st := fun H locs ls hH hl hv => by
  subst hstk
  obtain ⟨hG, ⟨ws', hw⟩, hini, hd, hR⟩ := hs
  have hts := X.1.2.2.2.2
  exact tk_after (va_runS X.1 hM ⟨callB_of n hts hG hw rfl rfl (hts _ hini) (hts _ hlink) hd hR, hts _ hst⟩ (tk_preS hH X.2.1) rfl hn hv.1 rfl (lv_room hrest) hdg hcs) hl hv k
theorem tk_callV (X : tk_X p m c s args G own cc nL Ts) {kb : tk_K} (hk : dm.1 kb) {ci : Nat} (hkd : tk_kd G kb = .inl ci) {C : String} {T : u_T} {N : Nat} (hc : G.2.1[ci]? = some (C, T, N)) (hM : tk_M l G dm dm' y ws rm (.ref (tk_ad G kb) :: As) sl r sl') (hs : tk_site R Ts y bytes maxL ret ws rm n) (hlink : Cond.methodLink own index y ∈ Ts) (hin : Cond.instanceMethod y ∈ Ts) (hsel : Cond.selects C y y ∈ Ts) (hn : As.length = n) (hrest : (rest.map fun v => v.category).sum ≤ 8) (hcs : cells + rm.cells ≤ R.cells ∧ slots + rm.slots ≤ R.slots) (hstk : st = As.reverse ++ .ref (tk_ad G kb) :: rest) (hdg : decode cc pc = .ok (.invokevirtual index, 3))
    (k : tk_go p l e R s m args below meth c G dm' nL (cells + rm.cells) (slots + rm.slots) Q sl' (pc + 3) L (r.toList ++ rest)) : tk_go p l e R s m args below meth c G dm nL cells slots Q sl pc L st := fun H locs ls hH hl hv => by
  subst hstk
  obtain ⟨hG, ⟨ws', hw⟩, hini, hd, hR⟩ := hs
  have hts := X.1.2.2.2.2
  exact tk_after (va_runV X.1 hM ⟨callB_of n hts hG hw rfl rfl (hts _ hini) (hts _ hlink) hd hR, hts _ hin, hts _ hsel⟩ (tk_preV hH X.2.1 hk hkd hc) rfl hn hv.1 rfl (lv_room hrest) hdg hcs) hl hv k
theorem tk_callI (X : tk_X p m c s args G own cc nL Ts) {b : Nat} (hM : tk_M l G dm dm' y ws rm (.ref b :: As) sl r sl') (hs : tk_site R Ts y bytes maxL none ws rm n) (hy : y.name = "<init>") (hlink : Cond.methodLink own index y ∈ Ts) (hin : Cond.instanceMethod y ∈ Ts) (hn : As.length = n) (hrest : (rest.map fun v => v.category).sum ≤ 8) (hcs : cells + rm.cells ≤ R.cells ∧ slots + rm.slots ≤ R.slots) (hstk : st = As.reverse ++ .ref b :: rest) (hdg : decode cc pc = .ok (.invokespecial index, 3))
    (k : tk_go p l e R s m args below meth c G dm' nL (cells + rm.cells) (slots + rm.slots) Q sl' (pc + 3) L (r.toList ++ rest)) : tk_go p l e R s m args below meth c G dm nL cells slots Q sl pc L st := fun H locs ls hH hl hv => by
  subst hstk
  obtain ⟨hG, ⟨ws', hw⟩, hini, hd, hR⟩ := hs
  have hts := X.1.2.2.2.2
  exact tk_after (va_runI X.1 hM ⟨callB_of n hts hG hw rfl rfl (hts _ hini) (hts _ hlink) hd hR, hy, hts _ hin⟩ (tk_preS hH X.2.1) rfl hn hv.1 rfl (lv_room hrest) hdg hcs) hl hv k
theorem tk_callSN (X : tk_X p m c s args G own cc nL Ts) {host : String} (hM : tk_M l G dm dm' y ws rm As sl r sl') (hs : tk_site R Ts y bytes maxL ret ws rm n) (hlink : Cond.methodLinkNest own index y host ∈ tk_nw G) (hst : Cond.static y ∈ Ts) (hn : As.length = n) (hrest : (rest.map fun v => v.category).sum ≤ 8) (hcs : cells + rm.cells ≤ R.cells ∧ slots + rm.slots ≤ R.slots) (hstk : st = As.reverse ++ rest) (hdg : decode cc pc = .ok (.invokestatic index, 3))
    (k : tk_go p l e R s m args below meth c G dm' nL (cells + rm.cells) (slots + rm.slots) Q sl' (pc + 3) L (r.toList ++ rest)) : tk_go p l e R s m args below meth c G dm nL cells slots Q sl pc L st := fun H locs ls hH hl hv => by
  subst hstk
  obtain ⟨hG, ⟨ws', hw⟩, hini, hd, hR⟩ := hs
  have hts := X.1.2.2.2.2
  exact tk_after (va_runSN X.1 hM ⟨va_cnB n hts hG hw rfl rfl (X.2.1.2 _ hlink).2 (hts _ hini) hd hR, hts _ hst, trivial⟩ (tk_preS hH X.2.1) rfl hn hv.1 rfl (lv_room hrest) hdg hcs) hl hv k
theorem tk_callVN (X : tk_X p m c s args G own cc nL Ts) {host : String} {kb : tk_K} (hk : dm.1 kb) {ci : Nat} (hkd : tk_kd G kb = .inl ci) {C : String} {T : u_T} {N : Nat} (hc : G.2.1[ci]? = some (C, T, N)) (hM : tk_M l G dm dm' y ws rm (.ref (tk_ad G kb) :: As) sl r sl') (hs : tk_site R Ts y bytes maxL ret ws rm n) (hlink : Cond.methodLinkNest own index y host ∈ tk_nw G) (hin : Cond.instanceMethod y ∈ Ts) (hsel : Cond.selects C y y ∈ Ts) (hn : As.length = n) (hrest : (rest.map fun v => v.category).sum ≤ 8) (hcs : cells + rm.cells ≤ R.cells ∧ slots + rm.slots ≤ R.slots) (hstk : st = As.reverse ++ .ref (tk_ad G kb) :: rest) (hdg : decode cc pc = .ok (.invokevirtual index, 3))
    (k : tk_go p l e R s m args below meth c G dm' nL (cells + rm.cells) (slots + rm.slots) Q sl' (pc + 3) L (r.toList ++ rest)) : tk_go p l e R s m args below meth c G dm nL cells slots Q sl pc L st := fun H locs ls hH hl hv => by
  subst hstk
  obtain ⟨hG, ⟨ws', hw⟩, hini, hd, hR⟩ := hs
  have hts := X.1.2.2.2.2
  exact tk_after (va_runVN X.1 hM ⟨va_cnB n hts hG hw rfl rfl (X.2.1.2 _ hlink).2 (hts _ hini) hd hR, hts _ hin, hts _ hsel⟩ (tk_preV hH X.2.1 hk hkd hc) rfl hn hv.1 rfl (lv_room hrest) hdg hcs) hl hv k
theorem tk_callIN (X : tk_X p m c s args G own cc nL Ts) {host : String} {b : Nat} (hM : tk_M l G dm dm' y ws rm (.ref b :: As) sl r sl') (hs : tk_site R Ts y bytes maxL none ws rm n) (hy : y.name = "<init>") (hlink : Cond.methodLinkNest own index y host ∈ tk_nw G) (hin : Cond.instanceMethod y ∈ Ts) (hn : As.length = n) (hrest : (rest.map fun v => v.category).sum ≤ 8) (hcs : cells + rm.cells ≤ R.cells ∧ slots + rm.slots ≤ R.slots) (hstk : st = As.reverse ++ .ref b :: rest) (hdg : decode cc pc = .ok (.invokespecial index, 3))
    (k : tk_go p l e R s m args below meth c G dm' nL (cells + rm.cells) (slots + rm.slots) Q sl' (pc + 3) L (r.toList ++ rest)) : tk_go p l e R s m args below meth c G dm nL cells slots Q sl pc L st := fun H locs ls hH hl hv => by
  subst hstk
  obtain ⟨hG, ⟨ws', hw⟩, hini, hd, hR⟩ := hs
  have hts := X.1.2.2.2.2
  exact tk_after (va_runIN X.1 hM ⟨va_cnB n hts hG hw rfl rfl (X.2.1.2 _ hlink).2 (hts _ hini) hd hR, hy, hts _ hin⟩ (tk_preS hH X.2.1) rfl hn hv.1 rfl (lv_room hrest) hdg hcs) hl hv k
theorem tk_objInit (X : tk_X p m c s args G own cc nL Ts) {b : Nat} (hlink : Cond.methodLink own index Lib.objectInit ∈ Ts) (hin : Cond.instanceMethod Lib.objectInit ∈ Ts) (hcd : Cond.code Lib.objectInit ⟨#[0xb1]⟩ 1 none ∈ Ts) (hfr : 1 ≤ R.frames) (hlo : (rest.map fun v => v.category).sum + 12 ≤ R.locals) (hdg : decode cc pc = .ok (.invokespecial index, 3))
    (k : tk_go p l e R s m args below meth c G dm nL cells slots Q sl (pc + 3) L rest) : tk_go p l e R s m args below meth c G dm nL cells slots Q sl pc L (.ref b :: rest) := fun H locs ls hH hl hv =>
  W.objInit X.1.1 X.1.2.1 X.1.2.2.2.1 (X.1.2.2.2.2 _ hlink) (X.1.2.2.2.2 _ hin) (X.1.2.2.2.2 _ hcd) rfl (hv.1.trans X.1.2.2.1.symm) rfl hdg hfr (by show 2 * 0 + _ + 12 ≤ _; omega) (k H locs ls hH hl hv)
theorem tk_iret (X : tk_X p m c s args G own cc nL Ts) (hlocks : meth.locks = false) {v : Int32} (hr : meth.sig.returnType = some .int) (hdg : decode cc pc = .ok (.ireturn, 1)) (h1 : r = some (.int v)) (h2 : ∀ k, dm'.1 k → dm.1 k) (h3 : dm'.2 = none ∨ dm'.2 = dm.2) (h4 : ∀ k, dm'.1 k → sl k = sl' k) : tk_go p l e R s m args below meth c G dm nL cells slots (MQ below (fun _ _ oc t => oc = .returned r ∧ tk_H G dm' sl' t.heap) args s cells slots (fun q => (tk_h0 G).size ≤ q)) sl pc L [.int v] := fun H locs ls hH hl hv => by
  subst h1
  exact W.iret X.1.1 X.1.2.1 hr (fun t ht _ => ⟨rfl, by rw [ht]; exact (hH.dom h2 h3).congr h4⟩) hl hdg hlocks
theorem tk_zret (X : tk_X p m c s args G own cc nL Ts) (hlocks : meth.locks = false) {v : Int32} {ty : FieldType} (hr : meth.sig.returnType = some ty) (hnw : narrow ty (.int v) = .int v) (hdg : decode cc pc = .ok (.ireturn, 1)) (h1 : r = some (.int v)) (h2 : ∀ k, dm'.1 k → dm.1 k) (h3 : dm'.2 = none ∨ dm'.2 = dm.2) (h4 : ∀ k, dm'.1 k → sl k = sl' k) : tk_go p l e R s m args below meth c G dm nL cells slots (MQ below (fun _ _ oc t => oc = .returned r ∧ tk_H G dm' sl' t.heap) args s cells slots (fun q => (tk_h0 G).size ≤ q)) sl pc L [.int v] := fun H locs ls hH hl hv => by
  subst h1
  exact W.zret X.1.1 X.1.2.1 hr hnw (fun t ht _ => ⟨rfl, by rw [ht]; exact (hH.dom h2 h3).congr h4⟩) hl hdg hlocks
theorem tk_vret (X : tk_X p m c s args G own cc nL Ts) (hlocks : meth.locks = false) (hr : meth.sig.returnType = none) (hdg : decode cc pc = .ok (.return_, 1)) (h1 : r = none) (h2 : ∀ k, dm'.1 k → dm.1 k) (h3 : dm'.2 = none ∨ dm'.2 = dm.2) (h4 : ∀ k, dm'.1 k → sl k = sl' k) : tk_go p l e R s m args below meth c G dm nL cells slots (MQ below (fun _ _ oc t => oc = .returned r ∧ tk_H G dm' sl' t.heap) args s cells slots (fun q => (tk_h0 G).size ≤ q)) sl pc L [] := fun H locs ls hH hl hv => by
  subst h1
  exact W.vret X.1.1 X.1.2.1 hr (fun t ht _ => ⟨rfl, by rw [ht]; exact (hH.dom h2 h3).congr h4⟩) hl hdg hlocks
theorem tk_aret (X : tk_X p m c s args G own cc nL Ts) (hlocks : meth.locks = false) {v : Value} {rt : FieldType} (hr : meth.sig.returnType = some rt) (hrt : (∃ n, rt = .object n) ∨ ∃ t, rt = .array t) (hvv : v = .null ∨ ∃ a, v = .ref a) (hdg : decode cc pc = .ok (.areturn, 1)) (h1 : r = some v) (h2 : ∀ k, dm'.1 k → dm.1 k) (h3 : dm'.2 = none ∨ dm'.2 = dm.2) (h4 : ∀ k, dm'.1 k → sl k = sl' k) : tk_go p l e R s m args below meth c G dm nL cells slots (MQ below (fun _ _ oc t => oc = .returned r ∧ tk_H G dm' sl' t.heap) args s cells slots (fun q => (tk_h0 G).size ≤ q)) sl pc L [v] := fun H locs ls hH hl hv => by
  subst h1
  exact W.aret X.1.1 X.1.2.1 hr hrt hvv (fun t ht _ => ⟨rfl, by rw [ht]; exact (hH.dom h2 h3).congr h4⟩) hl hdg hlocks
end TKC
theorem tk_of {l : Launch} {G : tk_G} {dm dm' : tk_W} {y : MethodName} {cc : ByteArray} {nL : Nat} {ret : Option FieldType} {ws0 : List Cond} {rm : Room} {As : List Value} {sl sl' : tk_L} {r : Option Value} (hA : tk_A G) (hy : plainName y.cls = true) (hcat0 : As.all (fun v => v.category == 1) = true) (hn : As.length ≤ nL)
    (body : ∀ (p : Program) (e : Env) (s : State) (m : MethodId) (below : List Frame) (meth : Method) (c : Code), tk_X p m c s As.toArray G y.cls cc nL ws0 → meth.locks = false → meth.sig.returnType = ret → meth.name = y.name →
      tk_go p l e rm s m As.toArray below meth c G dm nL 0 0 (MQ below (fun _ _ oc t => oc = .returned r ∧ tk_H G dm' sl' t.heap) As.toArray s rm.cells rm.slots (fun q => (tk_h0 G).size ≤ q)) sl 0 (As.map some ++ List.replicate (nL - As.length) none) []) : tk_M l G dm dm' y (Cond.code y cc nL ret :: ws0) rm As sl r sl' := by
  have hcat : ∀ v ∈ As, v.category = 1 := fun v hv => by simpa using List.all_eq_true.mp hcat0 v hv
  refine Met.ofW (cc := cc) (maxL := nL) (ret := ret) hy rfl ?_
  intro p e s m args below meth c s₁ B hml hv
  obtain ⟨rfl, hH, hV⟩ := hv
  have hts := atoms_spec (ws := Cond.code y cc nL ret :: ws0) B.pre
  have hown : s.vm.findClass y.cls = some m.cls := findClass_of_methodNamed B.named
  have hlg : lg_sl As = As.map Slot.val := by
    unfold lg_sl
    clear hH hV B hml hts hown hn body hcat0
    induction As with
    | nil => rfl
    | cons a t ih =>
      have ha : ¬ a.category = 2 := by have := hcat a List.mem_cons_self; omega
      simp only [List.flatMap_cons, List.map_cons, if_neg ha]
      rw [ih (fun v hv => hcat v (List.mem_cons_of_mem _ hv))]
      rfl
  have hlen : (lg_sl As).length ≤ nL := by rw [hlg]; simpa using hn
  have hl := lv_entry As (n := nL) hlen
  rw [lg_entry_eq]
  refine body p e s m below meth c ⟨⟨B.exec, B.bytes, hml, hown, fun w hw => hts w (List.mem_cons_of_mem _ hw)⟩, hV, hA⟩ B.notSynchronized B.returns (name_of_methodNamed B.named B.method).1 s.heap [] _ hH (fun q hq => by cases hq) ⟨hl.1, hl.2.1, fun i v hi => ?_⟩
  have hlt : i < As.length := by
    rcases Nat.lt_or_ge i As.length with h | h
    · exact h
    · rw [List.getElem?_append_right (by simpa using h)] at hi
      have := List.mem_of_getElem? hi
      rw [List.mem_replicate] at this
      cases this.2
  rw [List.getElem?_append_left (by simpa using hlt), List.getElem?_map] at hi
  have hi2 : As[i]? = some v := by
    cases h : As[i]? with
    | none => rw [h] at hi; cases hi
    | some w => rw [h] at hi; simp at hi; rw [hi]
  refine ⟨hcat v (List.mem_of_getElem? hi2), ?_⟩
  rw [hlg]
  simp only [List.getElem?_toArray]
  rw [List.getElem?_append_left (by simpa using hlt), List.getElem?_map, hi2]
  rfl
section TKN
variable {p : Program} {l : Launch} {e : Env} {R : Room} {s : State} {m : MethodId} {args : Array Value} {below : List Frame} {meth : Method} {c : Code} {G : tk_G} {dm : tk_W} {nL cells slots : Nat} {Q : State → Prop} {sl : tk_L} {pc : Nat} {L : List (Option Value)} {st : List Value}
variable {own : String} {cc : ByteArray} {Ts : List Cond} {P : tk_K → Prop} {z : Nat}
theorem tk_new (X : tk_X p m c s args G own cc nL Ts) {k : tk_K} (hk : tk_do G k) (had : tk_ad G k = z) {ci : Nat} (hkd : tk_kd G k = .inl ci) {C : String} {T : u_T} {N : Nat} (hc : G.2.1[ci]? = some (C, T, N)) (hin : ∀ w ∈ u_ws C T N, w ∈ Ts) (ty : Nat → FieldType) (hty : ∀ k, k < N → parseFieldDescriptor (T k).2.2.1 = some (ty k)) {index : Nat} (hcl : Cond.classLink own index C ∈ Ts) (hinst : Cond.instantiable C N ∈ Ts) (hini : Cond.initialized C ∈ Ts) (hsl : ∀ j, j < N → defaultValue (ty j) = sl k j) (hcells : cells + 1 ≤ R.cells) (hslots : slots + N ≤ R.slots) (hdg : decode cc pc = .ok (.new index, 3))
    (kk : tk_go p l e R s m args below meth c G (fun k' => k' = k ∨ P k', some (z + 1)) nL (cells + 1) (slots + N) Q sl (pc + 3) L (.ref (tk_ad G k) :: st)) : tk_go p l e R s m args below meth c G (P, some z) nL cells slots Q sl pc L st := fun H locs ls hH hl hv => by
  have hz : H.size = tk_ad G k := by rw [had]; exact hH.2.2.2 z rfl
  have hKn := X.2.1.1.1 ci _ hc
  have hts := X.1.2.2.2.2
  refine W.newcK X.1.1 X.1.2.1 X.1.2.2.2.1 (hts _ hcl) (hts _ hinst) (hts _ hini) rfl hdg hcells hslots hKn.2.1 hz fun H1 kC hkC e1 z1 o1 => ?_
  refine kk H1 locs ls (hH.new hk (tk_at.ofObj hkd ⟨_, hc, (u_born ty hts hin hKn hkC e1 hty).to hsl⟩) (by rw [z1, hz]) (fun q hq => o1 q (by rw [← hz]; exact hq))) hl hv
theorem tk_newa (X : tk_X p m c s args G own cc nL Ts) {k : tk_K} (hk : tk_do G k) (had : tk_ad G k = z) {t N : Nat} (hkd : tk_kd G k = .inr (t, N)) {cA : ClassId} {ty : FieldType} (hc : G.2.2.1[t]? = some (cA, ty)) {atype : ArrayType} (hty : newarray.typeOf atype = ty) (harr : Cond.arrayClass ty ∈ Ts) {n : Int32} (hn : ¬ n < 0) (hN : n.toNatClampNeg = N) (hbytes : N * componentBytes ty ≤ 536870912) (hsl : ∀ j, j < N → defaultValue ty = sl k j) (hcells : cells + 1 ≤ R.cells) (hslots : slots + N ≤ R.slots) (hdg : decode cc pc = .ok (.newarray atype, 2))
    (kk : tk_go p l e R s m args below meth c G (fun k' => k' = k ∨ P k', some (z + 1)) nL (cells + 1) (slots + N) Q sl (pc + 2) L (.ref (tk_ad G k) :: st)) : tk_go p l e R s m args below meth c G (P, some z) nL cells slots Q sl pc L (.int n :: st) := fun H locs ls hH hl hv => by
  have hz : H.size = tk_ad G k := by rw [had]; exact hH.2.2.2 z rfl
  have hts := X.1.2.2.2.2
  subst hty
  refine va_newaK X.1.1 X.1.2.1 (hts _ harr) rfl hdg rfl hn hN hbytes hcells hslots hz fun H1 cA' e1 z1 o1 hAr hNm => ?_
  have hRA := (X.2.1.1.2 t _ hc).2
  have hcA : s.vm.findClass ("[" ++ (newarray.typeOf atype).toString) = some cA := by cases atype <;> exact hRA
  have he : cA' = cA := Option.some.inj (hNm.symm.trans hcA)
  subst he
  refine kk H1 locs ls (hH.new hk (tk_at.ofArr hkd ⟨_, hc, ?_⟩) (by rw [z1, hz]) (fun q hq => o1 q (by rw [← hz]; exact hq))) hl hv
  rw [e1]
  congr 1
  exact tk_arrV _ N hsl
theorem tk_anew (X : tk_X p m c s args G own cc nL Ts) {k : tk_K} (hk : tk_do G k) (had : tk_ad G k = z) {t N : Nat} (hkd : tk_kd G k = .inr (t, N)) {cA : ClassId} {C : String} (hc : G.2.2.1[t]? = some (cA, .object C)) {index : Nat} (hcl : Cond.classLink own index C ∈ Ts) (hov : Cond.arrayOver (.object C) ∈ tk_nw G) {n : Int32} (hn : ¬ n < 0) (hN : n.toNatClampNeg = N) (hbytes : N * 4 ≤ 536870912) (hsl : ∀ j, j < N → Value.null = sl k j) (hcells : cells + 1 ≤ R.cells) (hslots : slots + N ≤ R.slots) (hdg : decode cc pc = .ok (.anewarray index, 3))
    (kk : tk_go p l e R s m args below meth c G (fun k' => k' = k ∨ P k', some (z + 1)) nL (cells + 1) (slots + N) Q sl (pc + 3) L (.ref (tk_ad G k) :: st)) : tk_go p l e R s m args below meth c G (P, some z) nL cells slots Q sl pc L (.int n :: st) := fun H locs ls hH hl hv => by
  have hz : H.size = tk_ad G k := by rw [had]; exact hH.2.2.2 z rfl
  have hts := X.1.2.2.2.2
  subst hN
  refine W.anew X.1.1 X.1.2.1 X.1.2.2.2.1 (hts _ hcl) (va_AO.use (X.2.1.2 _ hov).2) rfl hdg rfl hn hbytes hcells hslots fun cA' kA comp f1 f2 f3 f4 => ?_
  obtain ⟨kA', comp', -, -, -, g4⟩ := (X.2.1.1.2 t _ hc).2
  have he : cA' = cA := Option.some.inj (f1.symm.trans g4)
  subst he
  rw [hz]
  refine kk _ locs ls (hH.new hk (tk_at.ofArr hkd ⟨_, hc, ?_⟩) (by simp) (fun q hq => by rw [Array.getElem?_push, if_neg (Nat.ne_of_lt hq)])) hl hv
  rw [← hz, Array.getElem?_push_size, arrV_new]
  congr 1
  exact tk_arrV _ _ hsl
theorem tk_maxi (X : tk_X p m c s args G own cc nL Ts) {index : Nat} (hlink : Cond.methodLink own index Lib.Math.max.name ∈ Ts) (hst : Cond.static Lib.Math.max.name ∈ Ts) (hini : Cond.initialized "java/lang/Math" ∈ Ts) (hcode : Cond.code Lib.Math.max.name Lib.Math.max.code 2 (some .int) ∈ Ts) (hfr : 1 ≤ R.frames) (hlo : (st.map fun v => v.category).sum + 13 ≤ R.locals) (hcc : cells ≤ R.cells) (hss : slots ≤ R.slots) {x y : Int32} (hdg : decode cc pc = .ok (.invokestatic index, 3))
    (kk : tk_go p l e R s m args below meth c G dm nL cells slots Q sl (pc + 3) L (.int (if x < y then y else x) :: st)) : tk_go p l e R s m args below meth c G dm nL cells slots Q sl pc L (.int y :: .int x :: st) := fun H locs ls hH hl hv =>
  va_mmax X.1.1 X.1.2.1 (X.1.2.2.1.trans hv.1.symm) X.1.2.2.2.1 (X.1.2.2.2.2 _ hlink) (X.1.2.2.2.2 _ hst) (X.1.2.2.2.2 _ hini) (X.1.2.2.2.2 _ hcode) hfr hlo hcc hss hdg (kk H locs ls hH hl hv)
theorem tk_mini (X : tk_X p m c s args G own cc nL Ts) {index : Nat} (hlink : Cond.methodLink own index Lib.Math.min.name ∈ Ts) (hst : Cond.static Lib.Math.min.name ∈ Ts) (hini : Cond.initialized "java/lang/Math" ∈ Ts) (hcode : Cond.code Lib.Math.min.name Lib.Math.min.code 2 (some .int) ∈ Ts) (hfr : 1 ≤ R.frames) (hlo : (st.map fun v => v.category).sum + 13 ≤ R.locals) (hcc : cells ≤ R.cells) (hss : slots ≤ R.slots) {x y : Int32} (hdg : decode cc pc = .ok (.invokestatic index, 3))
    (kk : tk_go p l e R s m args below meth c G dm nL cells slots Q sl (pc + 3) L (.int (if y < x then y else x) :: st)) : tk_go p l e R s m args below meth c G dm nL cells slots Q sl pc L (.int y :: .int x :: st) := fun H locs ls hH hl hv =>
  va_mmin X.1.1 X.1.2.1 (X.1.2.2.1.trans hv.1.symm) X.1.2.2.2.1 (X.1.2.2.2.2 _ hlink) (X.1.2.2.2.2 _ hst) (X.1.2.2.2.2 _ hini) (X.1.2.2.2.2 _ hcode) hfr hlo hcc hss hdg (kk H locs ls hH hl hv)
def tk_cp (sl : tk_L) (k0 k1 : tk_K) (n : Nat) : tk_L := fun k j => if k = k1 ∧ j < n then sl k0 j else sl k j
theorem tk_copy (X : tk_X p m c s args G own cc nL Ts) {index : Nat} (hlink : Cond.methodLink own index arraycopyName ∈ Ts) (hnat : Cond.native arraycopyName ∈ Ts) (hstat : Cond.static arraycopyName ∈ Ts) (hini : Cond.initialized "java/lang/System" ∈ Ts) {k0 k1 : tk_K} (hk0 : dm.1 k0) (hk1 : dm.1 k1) {t n0 n1 : Nat} (hkd0 : tk_kd G k0 = .inr (t, n0)) (hkd1 : tk_kd G k1 = .inr (t, n1)) {cA : ClassId} (hc : G.2.2.1[t]? = some (cA, .int)) {f g : Nat → Int32} (hf : ∀ j, j < n0 → sl k0 j = .int (f j)) (hg : ∀ j, j < n1 → sl k1 j = .int (g j)) {n : Nat} {z0 nn : Int32} (hz0 : z0 = 0) (hnn : nn = nI n) (h4 : n ≤ n0) (h5 : n ≤ n1) (hn31 : n < 2 ^ 31) (hframes : 1 ≤ R.frames) (hlocals : (st.map fun v => v.category).sum + (nativeFrameWords "java/lang/System" "arraycopy" 5 + 11) ≤ R.locals) (hdg : decode cc pc = .ok (.invokestatic index, 3))
    (kk : tk_go p l e R s m args below meth c G dm nL cells slots Q (tk_cp sl k0 k1 n) (pc + 3) L st) : tk_go p l e R s m args below meth c G dm nL cells slots Q sl pc L (.int nn :: .int z0 :: .ref (tk_ad G k1) :: .int z0 :: .ref (tk_ad G k0) :: st) := fun H locs ls hH hl hv => by
  subst hz0
  subst hnn
  have hts := X.1.2.2.2.2
  obtain ⟨r0, hr0, hc0⟩ := (hH.1 k0 hk0).2.arr hkd0
  obtain ⟨r1, hr1, hc1⟩ := (hH.1 k1 hk1).2.arr hkd1
  have e0 : r0 = (cA, .int) := Option.some.inj (hr0.symm.trans hc)
  have e1 : r1 = (cA, .int) := Option.some.inj (hr1.symm.trans hc)
  subst e0
  subst e1
  have ea0 : arrV cA n0 (sl k0) = arrV cA n0 (fun j => .int (f j)) := tk_arrV cA n0 (g := fun j => .int (f j)) hf
  have ea1 : arrV cA n1 (sl k1) = arrV cA n1 (fun j => .int (g j)) := tk_arrV cA n1 (g := fun j => .int (g j)) hg
  rw [ea0] at hc0
  rw [ea1] at hc1
  have hcl : (nI n).toNatClampNeg = n := nI_clamp hn31
  have hni : (nI n).toInt = (n : Int) := nI_toInt hn31
  have h0c : (0 : Int32).toNatClampNeg = 0 := by decide
  have h0i : (0 : Int32).toInt = 0 := by decide
  obtain ⟨-, kc0, hkc0, cm0, hkk0⟩ := (X.2.1.1.2 t _ hc).1 n0 (fun j => .int (f j))
  obtain ⟨-, kc1, hkc1, cm1, hkk1⟩ := (X.2.1.1.2 t _ hc).1 n1 (fun j => .int (g j))
  intro T hT XS
  obtain ⟨vm', X', step⟩ := XS.arraycopy X.1.1 X.1.2.2.2.1 (hts _ hlink) (hts _ hnat) (hts _ hstat) (hts _ hini) (src := tk_ad G k0) (dst := tk_ad G k1) (cs := arrV cA n0 (fun j => .int (f j))) (cd := arrV cA n1 (fun j => .int (g j))) (srcPos := 0) (destPos := 0) (n := nI n) (by rw [hT]; exact hc0) (by rw [hT]; exact hc1)
    (fun _ h => by cases h) (fun _ h => by cases h) (fun h => by cases h) (fun h => by cases h) hkc0 hkc1 hkk0 hkk1 (by simp [refKind]) (by decide) (by decide) (nI_pos hn31)
    (by rw [h0i, hni, arrV_size]; omega)
    (by rw [h0i, hni, arrV_size]; omega)
    (fun vm₁ _ i hi => by
      rw [hcl] at hi
      have e : (arrV cA n0 (fun j => .int (f j))).slots.getD ((0 : Int32).toNatClampNeg + i) .null = .int (f i) := by
        rw [h0c, Nat.zero_add, Array.getD_eq_getD_getElem?, arrV_read _ _ (by omega)]
        rfl
      refine ⟨?_, ?_⟩
      · rw [e]
        rfl
      · rw [e]
        exact trivial)
    (g := F0 m pc ls (.int (nI n) :: .int 0 :: .ref (tk_ad G k1) :: .int 0 :: .ref (tk_ad G k0) :: st)) rfl (hv.1.trans X.1.2.2.1.symm) (rest := st) rfl (by rw [X.1.2.1]; exact hdg) hframes (by show 2 * 0 + _ + _ ≤ _; omega)
  have e1 : copied (arrV cA n0 (fun j => .int (f j))) (arrV cA n1 (fun j => .int (g j))) 0 0 (nI n) = arrV cA n1 (fun j => .int (va_cpy f g (0 : Int32).toNatClampNeg (0 : Int32).toNatClampNeg (nI n).toNatClampNeg j)) := va_copied (fun z => .int z) cA cA f g (by rw [h0c, hcl]; omega)
  rw [h0c, hcl] at e1
  rw [e1] at X' step
  have hlt : tk_ad G k1 < H.size := (Array.getElem?_eq_some_iff.mp hc1).1
  have hheap : ((T.setVm vm').setCell (tk_ad G k1) (arrV cA n1 (fun j => .int (va_cpy f g 0 0 n j)))).heap = H.setIfInBounds (tk_ad G k1) (arrV cA n1 (fun j => .int (va_cpy f g 0 0 n j))) := by rw [← hT]; rfl
  have oq : ∀ q : Nat, q ≠ tk_ad G k1 → (H.setIfInBounds (tk_ad G k1) (arrV cA n1 (fun j => .int (va_cpy f g 0 0 n j))))[q]? = H[q]? := fun q hq => by simp [Array.getElem?_setIfInBounds, Ne.symm hq]
  obtain ⟨t', a1, b1⟩ := kk (H.setIfInBounds (tk_ad G k1) (arrV cA n1 (fun j => .int (va_cpy f g 0 0 n j)))) _ ls (hH.put X.2.2 hk1 (fun k' h' => by
      funext j
      simp [tk_cp, h']) (tk_at.ofArr hkd1 ⟨_, hc, by
        rw [Array.getElem?_setIfInBounds, if_pos rfl, if_pos hlt]
        congr 1
        refine (tk_arrV cA n1 (g := fun j => .int (va_cpy f g 0 0 n j)) (fun j hj => ?_)).symm
        by_cases hjn : j < n
        · simp [tk_cp, hjn, va_cpy, hf j (by omega)]
        · simp [tk_cp, hjn, va_cpy, hg j hj]⟩) (by simp) oq) (fun q hq => by
      rcases List.mem_append.mp hq with h | h
      · exact hl q h
      · obtain ⟨z, -, hz⟩ := List.mem_map.mp h
        rw [← hz]
        exact X.2.2.1 k1 (hH.1 k1 hk1).1) hv _ hheap X'
  exact ⟨t', step t' a1, b1⟩
theorem tk_sld (X : tk_X p m c s args G own cc nL Ts) {b Ln : Nat} {xs : Nat → Int32} (hX : va_X b Ln xs s (tk_h0 G)) (hbl : b < (tk_h0 G).size) {i : Int32} (hin : vp_in i Ln) (hdg : decode cc pc = .ok (.iaload, 1))
    (kk : tk_go p l e R s m args below meth c G dm nL cells slots Q sl (pc + 1) L (.int (xs i.toNatClampNeg) :: st)) : tk_go p l e R s m args below meth c G dm nL cells slots Q sl pc L (.int i :: .ref b :: st) := fun H locs ls hH hl hv => by
  obtain ⟨scr, h1, h2, h3, h4, h5⟩ := hX
  have hlt : i.toNatClampNeg < Ln := Nat.not_le.mp fun q => hin (Or.inr q)
  exact W.iald (v := .int (xs i.toNatClampNeg)) X.1.1 X.1.2.1 (by rw [hH.2.1 b hbl]; exact h1) h2 h3 (by rw [h4]; exact hin) (h5 _ hlt) rfl rfl hdg (kk H locs ls hH hl hv)
theorem tk_slen (X : tk_X p m c s args G own cc nL Ts) {b Ln : Nat} {xs : Nat → Int32} (hX : va_X b Ln xs s (tk_h0 G)) (hbl : b < (tk_h0 G).size) (hdg : decode cc pc = .ok (.arraylength, 1))
    (kk : tk_go p l e R s m args below meth c G dm nL cells slots Q sl (pc + 1) L (.int (nI Ln) :: st)) : tk_go p l e R s m args below meth c G dm nL cells slots Q sl pc L (.ref b :: st) := fun H locs ls hH hl hv => by
  obtain ⟨scr, h1, h2, h3, h4, h5⟩ := hX
  exact W.alen (n := nI Ln) X.1.1 X.1.2.1 (by rw [hH.2.1 b hbl]; exact h1) h2 (by rw [h4] <;> rfl) rfl rfl hdg (kk H locs ls hH hl hv)
theorem tk_lcmp (X : tk_X p m c s args G own cc nL Ts) {x y : Int64} (hdg : decode cc pc = .ok (.lcmp, 1)) {v : Int32} (hw : lg_cmp x y = v)
    (kk : tk_go p l e R s m args below meth c G dm nL cells slots Q sl (pc + 1) L (.int v :: st)) : tk_go p l e R s m args below meth c G dm nL cells slots Q sl pc L (.long y :: .long x :: st) := fun H locs ls hH hl hv => by
  subst hw
  exact W.lcmp X.1.1 X.1.2.1 hdg (kk H locs ls hH hl hv)
end TKN
theorem tk_good {b : Cond} {WS : List Cond} (hb : b ∈ WS) (hW : WS.all goodWord = true) : GoodIn WS (b :: WS) := fun w hw => by
  have h : w ∈ WS := by
    rcases List.mem_cons.mp hw with rfl | h
    · exact hb
    · exact h
  exact ⟨h, good_of_word (List.all_eq_true.mp hW w h)⟩
end
