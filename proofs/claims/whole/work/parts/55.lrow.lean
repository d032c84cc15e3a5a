theorem lg_cmp_self (x : Int64) : lg_cmp x x = 0 := by
  unfold lg_cmp
  rw [if_neg (Int64.lt_irrefl), if_pos rfl]
theorem q_nn0 {x : Int32} (h : ¬ x < 0) : 0 ≤ x.toInt := by
  rw [Int32.lt_iff_toInt_lt] at h
  exact Int.not_lt.mp h
theorem q_nnl {x : Int32} (h : ¬ x < 0) : q_ix x < 2 ^ 31 := by
  have h0 := q_nn0 h
  have h1 := Int32.toInt_lt x
  show x.toInt.toNat < 2 ^ 31
  omega
theorem q_nn {x : Int32} (h : ¬ x < 0) : x = nI (q_ix x) := by
  have h0 := q_nn0 h
  rw [← Int32.toInt_inj, nI_toInt (q_nnl h)]
  show x.toInt = ((x.toInt.toNat : Nat) : Int)
  omega
theorem q_split (x : Int32) {N : Nat} (hN : N < 2 ^ 31) : (∃ c, c < N ∧ x = nI c) ∨ (x < 0 ∨ nI N ≤ x) := by
  by_cases h0 : x < 0
  · exact Or.inr (Or.inl h0)
  · by_cases h1 : nI N ≤ x
    · exact Or.inr (Or.inr h1)
    · have e : x = nI (q_ix x) := q_nn h0
      have h2 : ¬ nI N ≤ nI (q_ix x) := by rw [← e]; exact h1
      refine Or.inl ⟨q_ix x, Nat.lt_of_not_le (fun z => h2 (nI_le z (q_nnl h0))), e⟩
theorem i_16 {y : Int32} (h : y < 0 ∨ 16 ≤ y) : y < 0 ∨ ¬ y ≤ 15 := h.imp id (fun h z => absurd (Int32.le_trans h z) (by decide))
theorem i_11 {y : Int32} (h : y < 0 ∨ 11 ≤ y) : y < 0 ∨ ¬ y ≤ 10 := h.imp id (fun h z => absurd (Int32.le_trans h z) (by decide))
theorem i_5 {y : Int32} (h : y < 0 ∨ 5 ≤ y) : y < 0 ∨ ¬ y ≤ 4 := h.imp id (fun h z => absurd (Int32.le_trans h z) (by decide))
theorem i_6 {y : Int32} (h : y < 0 ∨ 6 ≤ y) : y < 0 ∨ (5 : Int32) < y := h.imp id (fun h => Int32.not_le.mp (fun z => absurd (Int32.le_trans h z) (by decide)))
theorem lk_site {y : MethodName} {bytes : ByteArray} {maxL n : Nat} {ret : Option FieldType} {d : Nat} (hm : Cond.code y bytes maxL ret ∈ WS) (hini : Cond.initialized y.cls ∈ WS) (hd : y.cls ≠ "java/lang/invoke/MethodHandle" ∧ y.cls ≠ "java/lang/invoke/VarHandle" ∧ (parseMethodDescriptor y.desc).map (fun d => d.parameters.length) = some n) (hdd : d ≤ 9) (hml : maxL ≤ 21) : tk_site room_1 WS y bytes maxL ret (Cond.code y bytes maxL ret :: WS) (ks_rm d) n :=
  ⟨tk_good hm WS_good, ⟨_, rfl⟩, hini, hd, (by show d + 1 ≤ 11; omega), by show 8 + (maxL + 11) + 40 * d ≤ 430; omega⟩
def la_S (xs : Nat → Int32) (Ln i : Nat) (x1 x2 x3 x4 : Int32) : Prop := (vp_in (nI i + 1) Ln ∧ xs (nI i + 1).toNatClampNeg = x1) ∧ (vp_in (nI i + 2) Ln ∧ xs (nI i + 2).toNatClampNeg = x2) ∧ (vp_in (nI i + 3) Ln ∧ xs (nI i + 3).toNatClampNeg = x3) ∧ (vp_in (nI i + 4) Ln ∧ xs (nI i + 4).toNatClampNeg = x4)
section LR
variable {p : Program} {l : Launch} {e : Env} {R : Room} {s : State} {m : MethodId} {args : Array Value} {below : List Frame} {meth : Method} {c : Code} {G : tk_G} {dm : tk_W} {nL cells slots : Nat} {Q : State → Prop} {sl : tk_L} {pc : Nat} {L : List (Option Value)} {st : List Value}
variable {own : String} {cc : ByteArray} {Ts : List Cond}
theorem kx_sld (X : tk_X p m c s args G own cc nL Ts) {b Ln : Nat} {xs : Nat → Int32} (hX : va_X b Ln xs s (tk_h0 G)) (hbl : b < (tk_h0 G).size) {i v : Int32} (hin : vp_in i Ln) (hv : xs i.toNatClampNeg = v) (hdg : decode cc pc = .ok (.iaload, 1))
    (kk : tk_go p l e R s m args below meth c G dm nL cells slots Q sl (pc + 1) L (.int v :: st)) : tk_go p l e R s m args below meth c G dm nL cells slots Q sl pc L (.int i :: .ref b :: st) := by
  subst hv
  exact tk_sld X hX hbl hin hdg kk
end LR
