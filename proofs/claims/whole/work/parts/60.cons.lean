def cn_q (T : Nat) : Nat := 7 + T
def cn_off (n T : Nat) (k : tk_K) : Nat := match k.1 with
  | 0 => 0
  | 1 => 1
  | 2 => 2
  | 3 => 3
  | 4 => 4 + (cn_q T * k.2.1 + 0)
  | 5 => 4 + (cn_q T * k.2.1 + 1)
  | 6 => 4 + (cn_q T * k.2.1 + 2)
  | 7 => 4 + (cn_q T * k.2.1 + (3 + k.2.2))
  | 8 => 4 + (cn_q T * k.2.1 + (3 + T))
  | 9 => 4 + (cn_q T * k.2.1 + (4 + T))
  | 10 => 4 + (cn_q T * k.2.1 + (5 + T))
  | 11 => 4 + (cn_q T * k.2.1 + (6 + T))
  | f => 4 + cn_q T * n + (f - 12)
def cn_in (T r c : Nat) : tk_K := if r = 0 then (4, c, 0) else if r = 1 then (5, c, 0) else if r = 2 then (6, c, 0) else if r < 3 + T then (7, c, r - 3) else (8 + (r - (3 + T)), c, 0)
def cn_dec (n T d : Nat) : tk_K := if d < 4 then (d, 0, 0) else if d - 4 < cn_q T * n then cn_in T ((d - 4) % cn_q T) ((d - 4) / cn_q T) else (12 + (d - 4 - cn_q T * n), 0, 0)
theorem cn_lt {n T c r : Nat} (hc : c < n) (hr : r < cn_q T) : cn_q T * c + r < cn_q T * n := by
  have h : cn_q T * (c + 1) ≤ cn_q T * n := Nat.mul_le_mul_left _ hc
  rw [Nat.mul_add, Nat.mul_one] at h
  omega
theorem cn_dec_in {n T c r : Nat} (hc : c < n) (hr : r < cn_q T) : cn_dec n T (4 + (cn_q T * c + r)) = cn_in T r c := by
  have h := cn_lt hc hr
  have e : 4 + (cn_q T * c + r) - 4 = cn_q T * c + r := by omega
  have h0 : 0 < cn_q T := by unfold cn_q; omega
  unfold cn_dec
  rw [if_neg (by omega), e, if_pos h, Nat.mul_add_mod, Nat.mod_eq_of_lt hr, Nat.mul_add_div h0, Nat.div_eq_of_lt hr, Nat.add_zero]
theorem cn_dec_hi {n T f : Nat} (hf : 12 ≤ f) : cn_dec n T (4 + cn_q T * n + (f - 12)) = (f, 0, 0) := by
  unfold cn_dec
  rw [if_neg (by omega), if_neg (by omega), show 12 + (4 + cn_q T * n + (f - 12) - 4 - cn_q T * n) = f by omega]
theorem cn_left {P : ks_P} : ∀ (k : tk_K), ks_do P k → cn_dec (ks_n P) (ks_T P) (cn_off (ks_n P) (ks_T P) k) = k := by
  rintro ⟨f, c, j⟩ h
  have hq : cn_q (ks_T P) = 7 + ks_T P := rfl
  match f, h with
  | 0, h => obtain ⟨-, h1, h2⟩ := h; have h1 : c = 0 := h1; have h2 : j = 0 := h2; subst h1; subst h2; rfl
  | 1, h => obtain ⟨-, h1, h2⟩ := h; have h1 : c = 0 := h1; have h2 : j = 0 := h2; subst h1; subst h2; rfl
  | 2, h => obtain ⟨-, h1, h2⟩ := h; have h1 : c = 0 := h1; have h2 : j = 0 := h2; subst h1; subst h2; rfl
  | 3, h => obtain ⟨-, h1, h2⟩ := h; have h1 : c = 0 := h1; have h2 : j = 0 := h2; subst h1; subst h2; rfl
  | 4, h => obtain ⟨h1, h2⟩ := h; have h2 : j = 0 := h2; subst h2; exact (cn_dec_in (r := 0) h1 (by omega)).trans (if_pos rfl)
  | 5, h => obtain ⟨h1, h2⟩ := h; have h2 : j = 0 := h2; subst h2; exact (cn_dec_in (r := 1) h1 (by omega)).trans rfl
  | 6, h => obtain ⟨h1, h2⟩ := h; have h2 : j = 0 := h2; subst h2; exact (cn_dec_in (r := 2) h1 (by omega)).trans rfl
  | 7, h =>
    obtain ⟨h1, h2⟩ := h
    have h2 : j < ks_T P := h2
    refine (cn_dec_in (r := 3 + j) h1 (by omega)).trans ?_
    unfold cn_in
    rw [if_neg (by omega), if_neg (by omega), if_neg (by omega), if_pos (by omega), Nat.add_sub_cancel_left]
  | 8, h =>
    obtain ⟨h1, h2⟩ := h; have h2 : j = 0 := h2; subst h2
    refine (cn_dec_in (r := 3 + ks_T P) h1 (by omega)).trans ?_
    unfold cn_in
    rw [if_neg (by omega), if_neg (by omega), if_neg (by omega), if_neg (by omega), show 8 + (3 + ks_T P - (3 + ks_T P)) = 8 by omega]
  | 9, h =>
    obtain ⟨h1, h2⟩ := h; have h2 : j = 0 := h2; subst h2
    refine (cn_dec_in (r := 4 + ks_T P) h1 (by omega)).trans ?_
    unfold cn_in
    rw [if_neg (by omega), if_neg (by omega), if_neg (by omega), if_neg (by omega), show 8 + (4 + ks_T P - (3 + ks_T P)) = 9 by omega]
  | 10, h =>
    obtain ⟨h1, h2⟩ := h; have h2 : j = 0 := h2; subst h2
    refine (cn_dec_in (r := 5 + ks_T P) h1 (by omega)).trans ?_
    unfold cn_in
    rw [if_neg (by omega), if_neg (by omega), if_neg (by omega), if_neg (by omega), show 8 + (5 + ks_T P - (3 + ks_T P)) = 10 by omega]
  | 11, h =>
    obtain ⟨h1, h2⟩ := h; have h2 : j = 0 := h2; subst h2
    refine (cn_dec_in (r := 6 + ks_T P) h1 (by omega)).trans ?_
    unfold cn_in
    rw [if_neg (by omega), if_neg (by omega), if_neg (by omega), if_neg (by omega), show 8 + (6 + ks_T P - (3 + ks_T P)) = 11 by omega]
  | f + 12, h =>
    obtain ⟨-, h1, h2⟩ := h
    have h1 : c = 0 := h1
    have h2 : j = 0 := h2
    subst h1; subst h2
    exact cn_dec_hi (n := ks_n P) (T := ks_T P) (f := f + 12) (by omega)
def cn_ok (P : ks_P) : Prop := ∀ k, ks_ad P k = (tk_h0 (ks_G P)).size + cn_off (ks_n P) (ks_T P) k
theorem cn_A {P : ks_P} (h : cn_ok P) : tk_A (ks_G P) := by
  refine ⟨fun k _ => ?_, fun k k' hk hk' e => ?_⟩
  · rw [show tk_ad (ks_G P) k = _ from h k]
    omega
  · have e1 : ks_ad P k = ks_ad P k' := e
    rw [h k, h k'] at e1
    have e2 : cn_off (ks_n P) (ks_T P) k = cn_off (ks_n P) (ks_T P) k' := by omega
    rw [← cn_left k hk, ← cn_left k' hk', e2]
def cn_dm (P : ks_P) (z : Nat) : tk_W := (fun k => ks_do P k ∧ cn_off (ks_n P) (ks_T P) k < z, some ((tk_h0 (ks_G P)).size + z))
def cn_fin (P : ks_P) : tk_L := ks_sl P (fun _ _ => 0) (fun _ _ => 0) (0, 0)
def cn_dft (k : tk_K) (j : Nat) : Value := match k.1 with
  | 0 => if 2 ≤ j then .int 0 else .null
  | 1 => .null
  | 3 => .null
  | 4 => if 6 ≤ j then .int 0 else if j = 0 then .int 0 else .null
  | 5 => if 2 ≤ j then .null else .int 0
  | 6 => .null
  | 12 => if 6 ≤ j then .null else .int 0
  | 28 => .long 0
  | _ => .int 0
def cn_sl (P : ks_P) (S : tk_K → Nat → Bool) : tk_L := fun k j => if S k j = true then cn_fin P k j else cn_dft k j
def cn_set (S : tk_K → Nat → Bool) (k : tk_K) (j : Nat) : tk_K → Nat → Bool := fun k' j' => S k' j' || (decide (k' = k) && decide (j' = j))
theorem cn_put (P : ks_P) (S : tk_K → Nat → Bool) (k : tk_K) (j : Nat) : tk_up (cn_sl P S) k j (cn_fin P k j) = cn_sl P (cn_set S k j) := by
  funext k' j'
  unfold cn_sl cn_set
  by_cases hk : k' = k
  · subst hk
    rw [tk_up_self]
    by_cases hj : j' = j
    · subst hj
      simp [updV]
    · simp [updV, hj]
  · rw [tk_up_ne _ _ _ hk]
    simp [hk]
section CN
variable {p : Program} {l : Launch} {e : Env} {R : Room} {s : State} {m : MethodId} {args : Array Value} {below : List Frame} {meth : Method} {c : Code} {P : ks_P} {nL cells slots z : Nat} {Q : State → Prop} {S : tk_K → Nat → Bool} {pc : Nat} {L : List (Option Value)} {st : List Value}
variable {own : String} {cc : ByteArray}
theorem cn_up {k : tk_K} (hk : ks_do P k) (hz : cn_off (ks_n P) (ks_T P) k = z) (kk : tk_go p l e R s m args below meth c (ks_G P) (cn_dm P (z + 1)) nL cells slots Q (cn_sl P S) pc L st) : tk_go p l e R s m args below meth c (ks_G P) (fun k' => k' = k ∨ (cn_dm P z).1 k', some ((tk_h0 (ks_G P)).size + z + 1)) nL cells slots Q (cn_sl P S) pc L st := by
  refine tk_dom (dm' := cn_dm P (z + 1)) (fun k' hk' => ?_) (Or.inr rfl) kk
  by_cases h : cn_off (ks_n P) (ks_T P) k' < z
  · exact Or.inr ⟨hk'.1, h⟩
  · have h1 : cn_off (ks_n P) (ks_T P) k' < z + 1 := hk'.2
    have h2 : cn_off (ks_n P) (ks_T P) k' = cn_off (ks_n P) (ks_T P) k := by omega
    left
    rw [← cn_left k' hk'.1, h2, cn_left k hk]
theorem cn_new (X : tk_X p m c s args (ks_G P) own cc nL WS) (hO : cn_ok P) {k : tk_K} (hk : ks_do P k) (hz : cn_off (ks_n P) (ks_T P) k = z) {ci : Nat} (hkd : ks_kd P k = .inl ci) {C : String} {T : u_T} {N : Nat} (hc : classes[ci]? = some (C, T, N)) (hin : ∀ w ∈ u_ws C T N, w ∈ WS) (ty : Nat → FieldType) (hty : ∀ k, k < N → parseFieldDescriptor (T k).2.2.1 = some (ty k)) {index : Nat} (hcl : Cond.classLink own index C ∈ WS) (hinst : Cond.instantiable C N ∈ WS) (hini : Cond.initialized C ∈ WS) (hsl : ∀ j, j < N → defaultValue (ty j) = cn_sl P S k j) (hcells : cells + 1 ≤ R.cells) (hslots : slots + N ≤ R.slots) (hdg : decode cc pc = .ok (.new index, 3))
    (kk : tk_go p l e R s m args below meth c (ks_G P) (cn_dm P (z + 1)) nL (cells + 1) (slots + N) Q (cn_sl P S) (pc + 3) L (.ref (ks_ad P k) :: st)) : tk_go p l e R s m args below meth c (ks_G P) (cn_dm P z) nL cells slots Q (cn_sl P S) pc L st :=
  tk_new X (P := (cn_dm P z).1) (z := (tk_h0 (ks_G P)).size + z) (k := k) hk (by rw [← hz]; exact hO k) hkd hc hin ty hty hcl hinst hini hsl hcells hslots hdg (cn_up hk hz kk)
theorem cn_newa (X : tk_X p m c s args (ks_G P) own cc nL WS) (hO : cn_ok P) {k : tk_K} (hk : ks_do P k) (hz : cn_off (ks_n P) (ks_T P) k = z) {t N : Nat} (hkd : ks_kd P k = .inr (t, N)) {cA : ClassId} {ty : FieldType} (hc : (ks_aT P)[t]? = some (cA, ty)) {atype : ArrayType} (hty : newarray.typeOf atype = ty) (harr : Cond.arrayClass ty ∈ WS) {n : Int32} (hn : ¬ n < 0) (hN : n.toNatClampNeg = N) (hbytes : N * componentBytes ty ≤ 536870912) (hsl : ∀ j, j < N → defaultValue ty = cn_sl P S k j) (hcells : cells + 1 ≤ R.cells) (hslots : slots + N ≤ R.slots) (hdg : decode cc pc = .ok (.newarray atype, 2))
    (kk : tk_go p l e R s m args below meth c (ks_G P) (cn_dm P (z + 1)) nL (cells + 1) (slots + N) Q (cn_sl P S) (pc + 2) L (.ref (ks_ad P k) :: st)) : tk_go p l e R s m args below meth c (ks_G P) (cn_dm P z) nL cells slots Q (cn_sl P S) pc L (.int n :: st) :=
  tk_newa X (P := (cn_dm P z).1) (z := (tk_h0 (ks_G P)).size + z) (k := k) hk (by rw [← hz]; exact hO k) hkd hc hty harr hn hN hbytes hsl hcells hslots hdg (cn_up hk hz kk)
theorem cn_anew (X : tk_X p m c s args (ks_G P) own cc nL WS) (hO : cn_ok P) {k : tk_K} (hk : ks_do P k) (hz : cn_off (ks_n P) (ks_T P) k = z) {t N : Nat} (hkd : ks_kd P k = .inr (t, N)) {cA : ClassId} {C : String} (hc : (ks_aT P)[t]? = some (cA, .object C)) {index : Nat} (hcl : Cond.classLink own index C ∈ WS) (hov : Cond.arrayOver (.object C) ∈ NW) {n : Int32} (hn : ¬ n < 0) (hN : n.toNatClampNeg = N) (hbytes : N * 4 ≤ 536870912) (hsl : ∀ j, j < N → Value.null = cn_sl P S k j) (hcells : cells + 1 ≤ R.cells) (hslots : slots + N ≤ R.slots) (hdg : decode cc pc = .ok (.anewarray index, 3))
    (kk : tk_go p l e R s m args below meth c (ks_G P) (cn_dm P (z + 1)) nL (cells + 1) (slots + N) Q (cn_sl P S) (pc + 3) L (.ref (ks_ad P k) :: st)) : tk_go p l e R s m args below meth c (ks_G P) (cn_dm P z) nL cells slots Q (cn_sl P S) pc L (.int n :: st) :=
  tk_anew X (P := (cn_dm P z).1) (z := (tk_h0 (ks_G P)).size + z) (k := k) hk (by rw [← hz]; exact hO k) hkd hc hcl hov hn hN hbytes hsl hcells hslots hdg (cn_up hk hz kk)
theorem cn_putF (X : tk_X p m c s args (ks_G P) own cc nL WS) (hin2 : meth.name = "<init>") {k : tk_K} (hk : (cn_dm P z).1 k) {ci : Nat} (hkd : ks_kd P k = .inl ci) {C : String} {T : u_T} {N : Nat} (hc : classes[ci]? = some (C, T, N)) (hin : ∀ w ∈ u_ws C T N, w ∈ WS) (ty0 : Nat → FieldType) (hty : ∀ k, k < N → parseFieldDescriptor (T k).2.2.1 = some (ty0 k)) (hnm : ∀ a, a < N → ∀ b, b < N → a ≠ b → (T a).2.1 ≠ (T b).2.1) (j : Nat) (hj : j < N) {index : Nat} (hlink : Cond.fieldLink own index (T j).1 (T j).2.1 (T j).2.2.1 ∈ WS) (hfin : (T j).2.2.2 = true) (hdecl : (T j).1 = own) {v : Value} (hv : v = cn_fin P k j) (hn : narrow (ty0 j) v = v) (hfit : fits (ty0 j) v = true) (hdg : decode cc pc = .ok (.putfield index, 3))
    (kk : tk_go p l e R s m args below meth c (ks_G P) (cn_dm P z) nL cells slots Q (cn_sl P (cn_set S k j)) (pc + 3) L st) : tk_go p l e R s m args below meth c (ks_G P) (cn_dm P z) nL cells slots Q (cn_sl P S) pc L (v :: .ref (ks_ad P k) :: st) := by
  refine tk_putF X hin2 (dm := cn_dm P z) (k := k) hk hkd hc hin ty0 hty hnm j hj hlink hfin hdecl hn hfit hdg ?_
  rw [hv, cn_put]
  exact kk
end CN
