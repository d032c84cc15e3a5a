section KX
variable {p : Program} {l : Launch} {e : Env} {R : Room} {s : State} {m : MethodId} {args : Array Value} {below : List Frame} {meth : Method} {c : Code} {G : tk_G} {dm : tk_W} {nL cells slots : Nat} {Q : State → Prop} {sl : tk_L} {pc : Nat} {L : List (Option Value)} {st : List Value}
variable {own : String} {cc : ByteArray} {Ts : List Cond}
theorem tk_tableAt (X : tk_X p m c s args G own cc nL Ts) {dflt lo hi : Int} {offs : Array Int} {len : Nat} {x K : Int32} {off : Int} {tgt : Nat} (hx : x = K) (hdg : decode cc pc = .ok (.tableswitch dflt lo hi offs, len)) (h1 : ¬ K.toInt < lo) (h2 : ¬ hi < K.toInt) (ho : offs[(K.toInt - lo).toNat]? = some off) (ht : (pc : Int) + off = (tgt : Int)) (k : tk_go p l e R s m args below meth c G dm nL cells slots Q sl tgt L st) : tk_go p l e R s m args below meth c G dm nL cells slots Q sl pc L (.int x :: st) := by
  subst hx
  exact tk_tableIn X hdg h1 h2 ho ht k
end KX
theorem ks_cpy (P : ks_P) (a b : ks_M) (o : ks_O) {k0 k1 : tk_K} (h0 : ∀ j, ks_int k0 j = true) (h1 : ∀ j, ks_int k1 j = true) (n : Nat) : tk_cp (ks_sl P a b o) k0 k1 n = ks_sl P (k_cp a k0 k1 n) b o := by
  funext k j
  unfold tk_cp
  by_cases h : k = k1 ∧ j < n
  · rw [if_pos h]
    obtain ⟨rfl, hj⟩ := h
    simp [ks_sl, h0, h1, k_cp, hj]
  · rw [if_neg h]
    simp only [ks_sl, k_cp]
    rw [if_neg h]
section KY
variable {p : Program} {l : Launch} {e : Env} {R : Room} {s : State} {m : MethodId} {args : Array Value} {below : List Frame} {meth : Method} {c : Code} {P : ks_P} {nL cells slots : Nat} {Q : State → Prop} {a b : ks_M} {o : ks_O} {pc : Nat} {L : List (Option Value)} {st : List Value}
variable {own : String} {cc : ByteArray}
theorem kw_copy (X : tk_X p m c s args (ks_G P) own cc nL WS) {index : Nat} (hlink : Cond.methodLink own index arraycopyName ∈ WS) {k0 k1 : tk_K} (hk0 : (ks_dm P).1 k0) (hk1 : (ks_dm P).1 k1) (hkd0 : ks_kd P k0 = .inr (0, 8)) (hkd1 : ks_kd P k1 = .inr (0, 8)) (h0 : ∀ j, ks_int k0 j = true) (h1 : ∀ j, ks_int k1 j = true) (hframes : 1 ≤ R.frames) (hlocals : (st.map fun v => v.category).sum + 18 ≤ R.locals) (hdg : decode cc pc = .ok (.invokestatic index, 3))
    (kk : tk_go p l e R s m args below meth c (ks_G P) (ks_dm P) nL cells slots Q (ks_sl P (k_cp a k0 k1 8) b o) (pc + 3) L st) : tk_go p l e R s m args below meth c (ks_G P) (ks_dm P) nL cells slots Q (ks_sl P a b o) pc L (.int 8 :: .int 0 :: .ref (tk_ad (ks_G P) k1) :: .int 0 :: .ref (tk_ad (ks_G P) k0) :: st) := by
  refine tk_copy X (dm := ks_dm P) hlink m_cp_n m_cp_s mi_System hk0 hk1 hkd0 hkd1 rfl (f := a k0) (g := a k1) (fun j _ => by simp only [ks_sl, h0]) (fun j _ => by simp only [ks_sl, h1]) (n := 8) rfl (by decide) (by decide) (by decide) (by decide) hframes ?_ hdg ?_
  · exact hlocals
  · rw [ks_cpy P a b o h0 h1]
    exact kk
end KY
def k_ref (P : ks_P) (c : Nat) (q : Option Nat) : Value := match q with
  | none => .null
  | some j => .ref (tk_ad (ks_G P) (7, c, j))
theorem q_inc (j : Nat) : nI j + Int32.ofInt 1 = nI (j + 1) := nI_1 j
theorem q_first {P : ks_P} (hP : ks_ok P) {l : Nat} (hl : l < 32) : (nI l &&& (nI (ks_S P) - 1)) * nI (ks_W P) = nI (k_first (ks_S P) (ks_W P) l) := by
  rcases hP.2.2.1 with h | h | h
  · rw [h, pk_andN (by omega) 0 (by decide), pk_mul]
    rfl
  · rw [h, pk_andN (by omega) 1 (by decide), pk_mul]
    rfl
  · rw [h, pk_andN (by omega) 2 (by decide), pk_mul]
    rfl
theorem k_first_le {P : ks_P} (hP : ks_ok P) (l : Nat) : k_first (ks_S P) (ks_W P) l + ks_W P ≤ ks_T P := by
  have h0 : 0 < ks_S P := by rcases hP.2.2.1 with h | h | h <;> omega
  have h1 : l % ks_S P + 1 ≤ ks_S P := Nat.mod_lt l h0
  have h2 := Nat.mul_le_mul_right (ks_W P) h1
  unfold k_first
  rw [Nat.add_mul, Nat.one_mul] at h2
  exact h2
theorem k_find_T {P : ks_P} (hP : ks_ok P) {a : ks_M} {c l j : Nat} (h : k_find a c l (ks_W P) (k_first (ks_S P) (ks_W P) l) = some j) : j < ks_T P := by
  have h1 := k_find_lt a c l _ _ h
  have h2 := k_first_le hP l
  omega
theorem k_room_T {P : ks_P} (hP : ks_ok P) {a : ks_M} {c l j : Nat} (h : k_room a c (ks_W P) (k_first (ks_S P) (ks_W P) l) none = some j) : j < ks_T P := by
  rcases k_room_lt a c _ _ _ h with h1 | h1
  · have h2 := k_first_le hP l
    omega
  · cases h1
theorem k_acc_lt {P : ks_P} (hP : ks_ok P) {a : ks_M} {c l j : Nat} {w : Bool} (h : (k_acc (ks_n P) (ks_S P) (ks_W P) a c l w).1 = some j) : j < ks_T P := by
  unfold k_acc at h
  split at h
  · rename_i j' h'
    cases h
    exact k_find_T hP h'
  · split at h
    · rename_i j' h'
      cases h
      exact k_room_T hP h'
    · cases h
