def cn_mo (S : tk_K → Nat → Bool) : tk_K → Nat → Bool := (cn_set (cn_set (cn_set (cn_set (cn_set (cn_set (cn_set (cn_set (cn_set (cn_set (cn_set (cn_set (cn_set (cn_set (cn_set (cn_set (cn_set (cn_set S (12, 0, 0) 6) (12, 0, 0) 7) (12, 0, 0) 8) (12, 0, 0) 9) (12, 0, 0) 10) (12, 0, 0) 11) (12, 0, 0) 12) (12, 0, 0) 13) (12, 0, 0) 14) (12, 0, 0) 15) (12, 0, 0) 16) (12, 0, 0) 17) (12, 0, 0) 18) (12, 0, 0) 19) (12, 0, 0) 20) (12, 0, 0) 0) (12, 0, 0) 1) (12, 0, 0) 2)
theorem cn_mo_mono {S : tk_K → Nat → Bool} {k : tk_K} {j : Nat} (h : S k j = true) : cn_mo S k j = true := by
  unfold cn_mo
  repeat (first | exact h | apply cn_set_mono)
theorem cn_mo_12 (S : tk_K → Nat → Bool) {j : Nat} (h : j < 21) (h3 : j ≠ 3) (h4 : j ≠ 4) (h5 : j ≠ 5) : cn_mo S (12, 0, 0) j = true := by
  have e : j = 0 ∨ j = 1 ∨ j = 2 ∨ j = 6 ∨ j = 7 ∨ j = 8 ∨ j = 9 ∨ j = 10 ∨ j = 11 ∨ j = 12 ∨ j = 13 ∨ j = 14 ∨ j = 15 ∨ j = 16 ∨ j = 17 ∨ j = 18 ∨ j = 19 ∨ j = 20 := by omega
  unfold cn_mo
  rcases e with rfl | rfl | rfl | rfl | rfl | rfl | rfl | rfl | rfl | rfl | rfl | rfl | rfl | rfl | rfl | rfl | rfl | rfl <;> simp [cn_set]
theorem cn_cr_step {S : tk_K → Nat → Bool} {T i : Nat} {k : tk_K} {j : Nat} (h : cn_cr S T i k j = true) : cn_cr S T (i + 1) k j = true := cn_set_mono (cn_co_mono (cn_wy_mono (cn_ca_mono h) T))
theorem cn_cr_3 {S : tk_K → Nat → Bool} {T : Nat} : ∀ {i j : Nat}, j < i → cn_cr S T i (3, 0, 0) j = true
  | i + 1, j, h => by
    by_cases e : j = i
    · subst e; exact cn_set_eq _ _ _
    · exact cn_cr_step (cn_cr_3 (by omega))
theorem cn_cr_4 {S : tk_K → Nat → Bool} {T : Nat} : ∀ {i c j : Nat}, c < i → j < 6 → cn_cr S T i (4, c, 0) j = true
  | i + 1, c, j, h, hj => by
    by_cases e : c = i
    · subst e
      refine cn_set_mono ?_
      have e2 : j = 0 ∨ j = 1 ∨ j = 2 ∨ j = 3 ∨ j = 4 ∨ j = 5 := by omega
      unfold cn_co
      rcases e2 with rfl | rfl | rfl | rfl | rfl | rfl <;> simp [cn_set]
    · exact cn_cr_step (cn_cr_4 (by omega) hj)
theorem cn_cr_5 {S : tk_K → Nat → Bool} {T : Nat} : ∀ {i c j : Nat}, c < i → j < 3 → cn_cr S T i (5, c, 0) j = true
  | i + 1, c, j, h, hj => by
    by_cases e : c = i
    · subst e
      refine cn_set_mono (cn_co_mono (cn_wy_mono ?_ T))
      have e2 : j = 0 ∨ j = 1 ∨ j = 2 := by omega
      unfold cn_ca
      rcases e2 with rfl | rfl | rfl <;> simp [cn_set]
    · exact cn_cr_step (cn_cr_5 (by omega) hj)
theorem cn_cr_6 {S : tk_K → Nat → Bool} {T : Nat} : ∀ {i c j : Nat}, c < i → j < T → cn_cr S T i (6, c, 0) j = true
  | i + 1, c, j, h, hj => by
    by_cases e : c = i
    · subst e
      exact cn_set_mono (cn_co_mono (cn_wy_at hj))
    · exact cn_cr_step (cn_cr_6 (by omega) hj)
def cn_s1 : tk_K → Nat → Bool := cn_set (cn_set (cn_set (fun _ _ => false) (1, 0, 0) 0) (0, 0, 0) 0) (0, 0, 0) 1
def cn_sf (P : ks_P) : tk_K → Nat → Bool := cn_mo (cn_cr cn_s1 (ks_T P) (ks_n P))
theorem cn_s1_m {P : ks_P} {k : tk_K} {j : Nat} (h : cn_s1 k j = true) : cn_sf P k j = true := cn_mo_mono (cn_cr_mono h _)
theorem cn_end {P : ks_P} : ∀ (k : tk_K), ks_do P k → ∀ j, j < tk_sz (ks_G P) k → cn_sl P (cn_sf P) k j = cn_fin P k j := by
  rintro ⟨f, c, d⟩ h j hj
  match f, h, hj with
  | 0, h, hj =>
    obtain ⟨-, h1, h2⟩ := h; have h1 : c = 0 := h1; have h2 : d = 0 := h2; subst h1; subst h2
    have hj : j < 4 := hj
    have e : j = 0 ∨ j = 1 ∨ j = 2 ∨ j = 3 := by omega
    rcases e with rfl | rfl | rfl | rfl
    · exact cn_is (cn_s1_m (by decide))
    · exact cn_is (cn_s1_m (by decide))
    · exact (cn_sam rfl rfl).symm
    · exact (cn_sam rfl rfl).symm
  | 1, h, hj =>
    obtain ⟨-, h1, h2⟩ := h; have h1 : c = 0 := h1; have h2 : d = 0 := h2; subst h1; subst h2
    have hj : j < 1 := hj
    have e : j = 0 := by omega
    subst e
    exact cn_is (cn_s1_m (by decide))
  | 2, h, hj => exact (cn_sam rfl rfl).symm
  | 3, h, hj =>
    obtain ⟨-, h1, h2⟩ := h; have h1 : c = 0 := h1; have h2 : d = 0 := h2; subst h1; subst h2
    exact cn_is (cn_mo_mono (cn_cr_3 hj))
  | 4, h, hj =>
    obtain ⟨h1, h2⟩ := h; have h2 : d = 0 := h2; subst h2
    have hj : j < 10 := hj
    by_cases e : j < 6
    · exact cn_is (cn_mo_mono (cn_cr_4 h1 e))
    · have e2 : j = 6 ∨ j = 7 ∨ j = 8 ∨ j = 9 := by omega
      rcases e2 with rfl | rfl | rfl | rfl <;> exact (cn_sam rfl rfl).symm
  | 5, h, hj =>
    obtain ⟨h1, h2⟩ := h; have h2 : d = 0 := h2; subst h2
    have hj : j < 3 := hj
    exact cn_is (cn_mo_mono (cn_cr_5 h1 hj))
  | 6, h, hj =>
    obtain ⟨h1, h2⟩ := h; have h2 : d = 0 := h2; subst h2
    exact cn_is (cn_mo_mono (cn_cr_6 h1 hj))
  | 7, h, hj => exact (cn_sam rfl rfl).symm
  | 8, h, hj => exact (cn_sam rfl rfl).symm
  | 9, h, hj => exact (cn_sam rfl rfl).symm
  | 10, h, hj => exact (cn_sam rfl rfl).symm
  | 11, h, hj => exact (cn_sam rfl rfl).symm
  | 12, h, hj =>
    obtain ⟨-, h1, h2⟩ := h; have h1 : c = 0 := h1; have h2 : d = 0 := h2; subst h1; subst h2
    have hj : j < 21 := hj
    by_cases e3 : j = 3
    · subst e3; exact (cn_sam rfl rfl).symm
    · by_cases e4 : j = 4
      · subst e4; exact (cn_sam rfl rfl).symm
      · by_cases e5 : j = 5
        · subst e5; exact (cn_sam rfl rfl).symm
        · exact cn_is (cn_mo_12 _ hj e3 e4 e5)
  | 13, h, hj => exact (cn_sam rfl rfl).symm
  | 14, h, hj => exact (cn_sam rfl rfl).symm
  | 15, h, hj => exact (cn_sam rfl rfl).symm
  | 16, h, hj => exact (cn_sam rfl rfl).symm
  | 17, h, hj => exact (cn_sam rfl rfl).symm
  | 18, h, hj => exact (cn_sam rfl rfl).symm
  | 19, h, hj => exact (cn_sam rfl rfl).symm
  | 20, h, hj => exact (cn_sam rfl rfl).symm
  | 21, h, hj => exact (cn_sam rfl rfl).symm
  | 22, h, hj => exact (cn_sam rfl rfl).symm
  | 23, h, hj => exact (cn_sam rfl rfl).symm
  | 24, h, hj => exact (cn_sam rfl rfl).symm
  | 25, h, hj => exact (cn_sam rfl rfl).symm
  | 26, h, hj => exact (cn_sam rfl rfl).symm
  | 27, h, hj => exact (cn_sam rfl rfl).symm
  | 28, h, hj =>
    obtain ⟨-, h1, h2⟩ := h; have h1 : c = 0 := h1; have h2 : d = 0 := h2; subst h1; subst h2
    have hj : j < 1 := hj
    have e : j = 0 := by omega
    subst e
    exact (cn_sam rfl rfl).symm
  | f + 29, h, hj =>
    have h1 : f + 29 ≤ 28 := h.1
    exact absurd h1 (by omega)
theorem cn_all {P : ks_P} : ∀ (k : tk_K), ks_do P k → cn_off (ks_n P) (ks_T P) k < 4 + (cn_q (ks_T P) * ks_n P + 0) + 17 := by
  rintro ⟨f, c, d⟩ h
  have hq : cn_q (ks_T P) = 7 + ks_T P := rfl
  have key : ∀ r, r < cn_q (ks_T P) → c < ks_n P → 4 + (cn_q (ks_T P) * c + r) < 4 + (cn_q (ks_T P) * ks_n P + 0) + 17 := fun r hr hc => by
    have := cn_lt hc hr
    omega
  match f, h with
  | 0, h => show 0 < _; omega
  | 1, h => show 1 < _; omega
  | 2, h => show 2 < _; omega
  | 3, h => show 3 < _; omega
  | 4, h => exact key 0 (by omega) h.1
  | 5, h => exact key 1 (by omega) h.1
  | 6, h => exact key 2 (by omega) h.1
  | 7, h => have h2 : d < ks_T P := h.2; exact key (3 + d) (by omega) h.1
  | 8, h => exact key _ (by omega) h.1
  | 9, h => exact key _ (by omega) h.1
  | 10, h => exact key _ (by omega) h.1
  | 11, h => exact key _ (by omega) h.1
  | f + 12, h =>
    have h1 : f + 12 ≤ 28 := h.1
    show 4 + cn_q (ks_T P) * ks_n P + (f + 12 - 12) < _
    omega
theorem tk_ext {p : Program} {l : Launch} {e : Env} {R : Room} {s : State} {m : MethodId} {args : Array Value} {below : List Frame} {meth : Method} {c : Code} {G : tk_G} {dm : tk_W} {nL cells slots : Nat} {Q : State → Prop} {sl sl' : tk_L} {pc : Nat} {L : List (Option Value)} {st : List Value} (h : ∀ k, dm.1 k → ∀ j, j < tk_sz G k → sl k j = sl' k j) (kk : tk_go p l e R s m args below meth c G dm nL cells slots Q sl' pc L st) : tk_go p l e R s m args below meth c G dm nL cells slots Q sl pc L st := fun H locs ls hH hl hv => kk H locs ls (hH.ext h) hl hv
