theorem i_17 {y : Int32} (h : y < 0 ∨ 17 ≤ y) : y < 0 ∨ ¬ y ≤ 16 := h.imp id (fun h z => absurd (Int32.le_trans h z) (by decide))
theorem q_tu {S W t u : Nat} (ht : t < S) (hu : u < W) : t * W + u < S * W := by
  have h1 : (t + 1) * W ≤ S * W := Nat.mul_le_mul_right W ht
  rw [Nat.add_mul, Nat.one_mul] at h1
  omega
theorem q_sub5 {n : Nat} (h : 5 ≤ n) : nI n - 5 = nI (n - 5) := by
  have e : nI n = nI (n - 5) + nI 5 := by rw [nI_add, Nat.sub_add_cancel h]
  rw [e]
  exact Int32.add_sub_cancel _ _
theorem q_lim0 {i n : Nat} (hi : i < 2 ^ 31) (hn : n < 2 ^ 31) (h : n < i + 5) : nI n - 5 < nI i := by
  by_cases h5 : 5 ≤ n
  · rw [q_sub5 h5]
    exact nI_lt (by omega) hi
  · have h6 : n = 0 ∨ n = 1 ∨ n = 2 ∨ n = 3 ∨ n = 4 := by omega
    have h7 : nI n - 5 < 0 := by rcases h6 with rfl | rfl | rfl | rfl | rfl <;> decide
    exact Int32.lt_of_lt_of_le h7 (Int32.not_lt.mp (nI_pos hi))
theorem q_lim1 {i n : Nat} (hn : n < 2 ^ 31) (h : i + 5 ≤ n) : ¬ nI n - 5 < nI i := by
  rw [q_sub5 (by omega)]
  exact Int32.not_lt.mpr (nI_le (by omega) (by omega))

section LQ
variable {p : Program} {l : Launch} {e : Env} {s : State} {m : MethodId} {args : Array Value} {below : List Frame} {meth : Method} {c0 : Code} {P : ks_P} {cells slots : Nat} {Q : State → Prop}
set_option maxRecDepth 100000 in
set_option maxHeartbeats 4000000 in
theorem la_all (X : tk_X p m c0 s args (ks_G P) R_Law b_Law_law 7 WS) (hZ : xt_Z (ks_G P) s) (hst : l.stackTraces = false) (hP : ks_ok P) {b0 Ln : Nat} {xs : Nat → Int32} (hX : va_X b0 Ln xs s (tk_h0 (ks_G P))) (hbl : b0 < (tk_h0 (ks_G P)).size) (hq0 : cells ≤ room_1.cells ∧ slots ≤ room_1.slots) (hq1 : cells + 1 ≤ room_1.cells ∧ slots + 6 ≤ room_1.slots) {i : Nat} {x0 x1 x2 x3 x4 : Int32} (hS : la_S xs Ln i x1 x2 x3 x4) (a : ks_M) (o : ks_O) (hJ : j_J (ks_n P) (ks_S P) (ks_W P) a) (t5 t6 : Option Value) (kend : ∀ (a : ks_M) (o : ks_O) (t5 t6 : Option Value), j_J (ks_n P) (ks_S P) (ks_W P) a → tk_go p l e room_1 s m args below meth c0 (ks_G P) (ks_dm P) 7 (cells + 1) (slots + 6) Q (ks_sl P a a o) 686 [some (.ref b0), some (.ref (tk_ad (ks_G P) (0, 0, 0))), some (.ref (tk_ad (ks_G P) (12, 0, 0))), some (.ref (tk_ad (ks_G P) (28, 0, 0))), some (.int (nI i)), t5, t6] []) : tk_go p l e room_1 s m args below meth c0 (ks_G P) (ks_dm P) 7 cells slots Q (ks_sl P a a o) 69 [some (.ref b0), some (.ref (tk_ad (ks_G P) (0, 0, 0))), some (.ref (tk_ad (ks_G P) (12, 0, 0))), some (.ref (tk_ad (ks_G P) (28, 0, 0))), some (.int (nI i)), t5, t6] [.int (x0 &&& 15)] := by
  have hn64 := ks_n64 hP
  obtain ⟨k, hk16, hk0⟩ : ∃ k : Nat, k < 2 ^ 4 ∧ x0 &&& 15 = nI k := pk_andE _ 4 (by decide)
  have hk17 : k = 0 ∨ k = 1 ∨ k = 2 ∨ k = 3 ∨ k = 4 ∨ k = 5 ∨ k = 6 ∨ k = 7 ∨ k = 8 ∨ k = 9 ∨ k = 10 ∨ k = 11 ∨ k = 12 ∨ k = 13 ∨ k = 14 ∨ k = 15 := by omega
  rcases hk17 with rfl | rfl | rfl | rfl | rfl | rfl | rfl | rfl | rfl | rfl | rfl | rfl | rfl | rfl | rfl | rfl
  · have hk : x0 &&& 15 = 0 := hk0
    refine tk_tableAt (K := 0) (tgt := 128) X hk d_Law_law_69 (by decide) (by decide) rfl (by decide) ?_
    rcases q_split x1 (N := ks_n P) (by omega) with ⟨c, hc, rfl⟩ | hx
    · rcases q_split x2 (N := 16) (by decide) with ⟨k, hk, rfl⟩ | hy
      · exact la_code X hZ hst hP hX hbl hq0 hq1 hc hk hS a o hJ t5 t6 kend
      · exact la_codeY X hZ hst hP hX hbl hq0 hq1 hc hy hS a o hJ t5 t6 kend
    · exact la_codeX X hZ hst hP hX hbl hq0 hq1 hx hS a o hJ t5 t6 kend
  · have hk : x0 &&& 15 = 1 := hk0
    refine tk_tableAt (K := 1) (tgt := 188) X hk d_Law_law_69 (by decide) (by decide) rfl (by decide) ?_
    exact la_poke X hZ hst hP hX hbl hq0 hq1 hS a o hJ t5 t6 kend
  · have hk : x0 &&& 15 = 2 := hk0
    refine tk_tableAt (K := 2) (tgt := 223) X hk d_Law_law_69 (by decide) (by decide) rfl (by decide) ?_
    exact la_peek X hZ hst hP hX hbl hq0 hq1 hS a o hJ t5 t6 kend
  · have hk : x0 &&& 15 = 3 := hk0
    refine tk_tableAt (K := 3) (tgt := 248) X hk d_Law_law_69 (by decide) (by decide) rfl (by decide) ?_
    rcases q_split x1 (N := ks_n P) (by omega) with ⟨c, hc, rfl⟩ | hx
    · exact la_step X hZ hst hP hX hbl hq0 hq1 hc hS a o hJ t5 t6 kend
    · exact la_stepX X hZ hst hP hX hbl hq0 hq1 hx hS a o hJ t5 t6 kend
  · have hk : x0 &&& 15 = 4 := hk0
    refine tk_tableAt (K := 4) (tgt := 304) X hk d_Law_law_69 (by decide) (by decide) rfl (by decide) ?_
    rcases q_split x2 (N := 17) (by decide) with ⟨k, hk, rfl⟩ | hy
    · exact la_run X hZ hst hP hX hbl hq0 hq1 (by omega) hS a o hJ t5 t6 kend
    · exact la_runX X hZ hst hP hX hbl hq0 hq1 (i_17 hy) hS a o hJ t5 t6 kend
  · have hk : x0 &&& 15 = 5 := hk0
    refine tk_tableAt (K := 5) (tgt := 372) X hk d_Law_law_69 (by decide) (by decide) rfl (by decide) ?_
    rcases q_split x1 (N := ks_n P) (by omega) with ⟨c, hc, rfl⟩ | hx
    · by_cases hd : a (4, c, 0) 8 ≤ 0
      · exact la_jump X hZ hst hP hX hbl hq0 hq1 hc hS a o hJ hd t5 t6 kend
      · exact la_jumpD X hZ hst hP hX hbl hq0 hq1 hc hS a o hJ hd t5 t6 kend
    · exact la_jumpX X hZ hst hP hX hbl hq0 hq1 hx hS a o hJ t5 t6 kend
  · have hk : x0 &&& 15 = 6 := hk0
    refine tk_tableAt (K := 6) (tgt := 420) X hk d_Law_law_69 (by decide) (by decide) rfl (by decide) ?_
    rcases q_split x1 (N := ks_n P) (by omega) with ⟨c, hc, rfl⟩ | hx
    · rcases q_split x2 (N := 11) (by decide) with ⟨k, hk, rfl⟩ | hy
      · exact la_register X hZ hst hP hX hbl hq0 hq1 hc hk hS a o hJ t5 t6 kend
      · exact la_registerY X hZ hst hP hX hbl hq0 hq1 hc hy hS a o hJ t5 t6 kend
    · exact la_registerX X hZ hst hP hX hbl hq0 hq1 hx hS a o hJ t5 t6 kend
  · have hk : x0 &&& 15 = 7 := hk0
    refine tk_tableAt (K := 7) (tgt := 488) X hk d_Law_law_69 (by decide) (by decide) rfl (by decide) ?_
    rcases q_split x1 (N := ks_n P) (by omega) with ⟨c, hc, rfl⟩ | hx
    · rcases q_split x2 (N := 6) (by decide) with ⟨k, hk, rfl⟩ | hy
      · exact la_fate X hZ hst hP hX hbl hq0 hq1 hc hk hS a o hJ t5 t6 kend
      · exact la_fateY X hZ hst hP hX hbl hq0 hq1 hc hy hS a o hJ t5 t6 kend
    · exact la_fateX X hZ hst hP hX hbl hq0 hq1 hx hS a o hJ t5 t6 kend
  · have hk : x0 &&& 15 = 8 := hk0
    refine tk_tableAt (K := 8) (tgt := 556) X hk d_Law_law_69 (by decide) (by decide) rfl (by decide) ?_
    rcases q_split x1 (N := ks_n P) (by omega) with ⟨c, hc, rfl⟩ | hx
    · rcases q_split x2 (N := ks_S P) (by rcases hP.2.2.1 with h | h | h <;> omega) with ⟨t, ht, rfl⟩ | ht
      · rcases q_split x3 (N := ks_W P) (by have := hP.2.2.2.2.1; omega) with ⟨u, hu, rfl⟩ | hu
        · rcases q_split x4 (N := 5) (by decide) with ⟨v, hv, rfl⟩ | hv
          · exact la_way X hZ hst hP hX hbl hq0 hq1 hc ht hu hv (q_tu ht hu) hS a o hJ t5 t6 kend
          · exact la_wayY X hZ hst hP hX hbl hq0 hq1 hc ht hu hv hS a o hJ t5 t6 kend
        · exact la_wayU X hZ hst hP hX hbl hq0 hq1 hc ht hu hS a o hJ t5 t6 kend
      · exact la_wayT X hZ hst hP hX hbl hq0 hq1 hc ht hS a o hJ t5 t6 kend
    · exact la_wayX X hZ hst hP hX hbl hq0 hq1 hx hS a o hJ t5 t6 kend
  · have hk : x0 &&& 15 = 9 := hk0
    refine tk_tableAt (K := 9) (tgt := 648) X hk d_Law_law_69 (by decide) (by decide) rfl (by decide) ?_
    exact la_memory X hZ hst hP hX hbl hq0 hq1 hS a o hJ t5 t6 kend
  · have hk : x0 &&& 15 = 10 := hk0
    refine tk_tableAt (K := 10) (tgt := 673) X hk d_Law_law_69 (by decide) (by decide) rfl (by decide) ?_
    exact la_requests X hZ hst hP hX hbl hq0 hq1 hS a o hJ t5 t6 kend
  · have hk : x0 &&& 15 = 11 := hk0
    refine tk_tableOut (tgt := 686) X d_Law_law_69 (by rw [hk]; decide) (by decide) ?_
    exact tk_widen (k := cells + 1) (n := slots + 6) (Nat.le_add_right _ _) (Nat.le_add_right _ _) (kend a o t5 t6 hJ)
  · have hk : x0 &&& 15 = 12 := hk0
    refine tk_tableOut (tgt := 686) X d_Law_law_69 (by rw [hk]; decide) (by decide) ?_
    exact tk_widen (k := cells + 1) (n := slots + 6) (Nat.le_add_right _ _) (Nat.le_add_right _ _) (kend a o t5 t6 hJ)
  · have hk : x0 &&& 15 = 13 := hk0
    refine tk_tableOut (tgt := 686) X d_Law_law_69 (by rw [hk]; decide) (by decide) ?_
    exact tk_widen (k := cells + 1) (n := slots + 6) (Nat.le_add_right _ _) (Nat.le_add_right _ _) (kend a o t5 t6 hJ)
  · have hk : x0 &&& 15 = 14 := hk0
    refine tk_tableOut (tgt := 686) X d_Law_law_69 (by rw [hk]; decide) (by decide) ?_
    exact tk_widen (k := cells + 1) (n := slots + 6) (Nat.le_add_right _ _) (Nat.le_add_right _ _) (kend a o t5 t6 hJ)
  · have hk : x0 &&& 15 = 15 := hk0
    refine tk_tableOut (tgt := 686) X d_Law_law_69 (by rw [hk]; decide) (by decide) ?_
    exact tk_widen (k := cells + 1) (n := slots + 6) (Nat.le_add_right _ _) (Nat.le_add_right _ _) (kend a o t5 t6 hJ)
end LQ

theorem q_in {i n : Nat} (k : Nat) (h : i + k < n) (hn : n < 2 ^ 31) : vp_in (nI i + nI k) n := by
  rw [nI_add]
  exact vp_in_nI h hn

section LQ
variable {p : Program} {l : Launch} {e : Env} {s : State} {m : MethodId} {args : Array Value} {below : List Frame} {meth : Method} {c0 : Code} {P : ks_P} {cells slots : Nat} {Q : State → Prop}
set_option maxRecDepth 100000 in
set_option maxHeartbeats 4000000 in
theorem lp_law (X : tk_X p m c0 s args (ks_G P) R_Law b_Law_law 7 WS) (hZ : xt_Z (ks_G P) s) (hst : l.stackTraces = false) (hP : ks_ok P) {b0 Ln : Nat} {xs : Nat → Int32} (hX : va_X b0 Ln xs s (tk_h0 (ks_G P))) (hbl : b0 < (tk_h0 (ks_G P)).size) (hLn : Ln ≤ 2563) (kend : ∀ (cells slots i : Nat) (a : ks_M) (o : ks_O) (t5 t6 : Option Value), cells ≤ room_1.cells → slots ≤ room_1.slots → tk_go p l e room_1 s m args below meth c0 (ks_G P) (ks_dm P) 7 cells slots Q (ks_sl P a a o) 692 [some (.ref b0), some (.ref (tk_ad (ks_G P) (0, 0, 0))), some (.ref (tk_ad (ks_G P) (12, 0, 0))), some (.ref (tk_ad (ks_G P) (28, 0, 0))), some (.int (nI i)), t5, t6] []) : ∀ (k i cells slots : Nat) (a : ks_M) (o : ks_O) (t5 t6 : Option Value), Ln ≤ i + 5 * k → i < 3000 → cells + k ≤ room_1.cells → slots + 6 * k ≤ room_1.slots → j_J (ks_n P) (ks_S P) (ks_W P) a → tk_go p l e room_1 s m args below meth c0 (ks_G P) (ks_dm P) 7 cells slots Q (ks_sl P a a o) 53 [some (.ref b0), some (.ref (tk_ad (ks_G P) (0, 0, 0))), some (.ref (tk_ad (ks_G P) (12, 0, 0))), some (.ref (tk_ad (ks_G P) (28, 0, 0))), some (.int (nI i)), t5, t6] []
  | 0, i, cells, slots, a, o, t5, t6, hi, hi2, hc, hs, hJ => by
    refine tk_iload X d_Law_law_53 rfl ?_
    refine tk_aload_n X d_Law_law_55 rfl rfl ?_
    refine tk_slen X hX hbl d_Law_law_56 ?_
    refine tk_iconst (v := 5) X d_Law_law_57 (by decide) ?_
    refine tk_isub X d_Law_law_58 ?_
    refine tk_icmp_gt (tgt := 692) X d_Law_law_59 (by decide) (fun _ => ?_) (fun h => absurd (q_lim0 (by omega) (by omega) (by omega)) h)
    exact kend cells slots i a o t5 t6 (Nat.le_trans (Nat.le_add_right _ _) hc) (Nat.le_trans (Nat.le_add_right _ _) hs)
  | k + 1, i, cells, slots, a, o, t5, t6, hi, hi2, hc, hs, hJ => by
    have hc2 : room_1.cells = 640766 := rfl
    have hs2 : room_1.slots = 7173773 := rfl
    by_cases h5 : i + 5 ≤ Ln
    · skip
      refine tk_iload X d_Law_law_53 rfl ?_
      refine tk_aload_n X d_Law_law_55 rfl rfl ?_
      refine tk_slen X hX hbl d_Law_law_56 ?_
      refine tk_iconst (v := 5) X d_Law_law_57 (by decide) ?_
      refine tk_isub X d_Law_law_58 ?_
      refine tk_icmp_gt (tgt := 692) X d_Law_law_59 (by decide) (fun h => absurd h (q_lim1 (by omega) h5)) (fun _ => ?_)
      refine tk_aload_n X d_Law_law_62 rfl rfl ?_
      refine tk_iload X d_Law_law_63 rfl ?_
      refine kx_sld X hX hbl (vp_in_nI (by omega) (by omega)) rfl d_Law_law_65 ?_
      refine tk_bipush (v := 15) X d_Law_law_66 (by decide) ?_
      refine tk_iand X d_Law_law_68 ?_
      refine la_all X hZ hst hP hX hbl ⟨by omega, by omega⟩ ⟨by omega, by omega⟩ (x1 := xs (nI i + 1).toNatClampNeg) (x2 := xs (nI i + 2).toNatClampNeg) (x3 := xs (nI i + 3).toNatClampNeg) (x4 := xs (nI i + 4).toNatClampNeg) ⟨⟨q_in 1 (by omega) (by omega), rfl⟩, ⟨q_in 2 (by omega) (by omega), rfl⟩, ⟨q_in 3 (by omega) (by omega), rfl⟩, ⟨q_in 4 (by omega) (by omega), rfl⟩⟩ a o hJ t5 t6 (fun a' o' t5' t6' hJ' => ?_)
      refine tk_iinc (v := nI (i + 5)) X d_Law_law_686 rfl (nI_add i 5) (by decide) rfl ?_
      refine tk_goto (tgt := 53) X d_Law_law_689 (by decide) ?_
      exact lp_law X hZ hst hP hX hbl hLn kend k (i + 5) (cells + 1) (slots + 6) a' o' t5' t6' (by omega) (by omega) (by omega) (by omega) hJ'
    · skip
      refine tk_iload X d_Law_law_53 rfl ?_
      refine tk_aload_n X d_Law_law_55 rfl rfl ?_
      refine tk_slen X hX hbl d_Law_law_56 ?_
      refine tk_iconst (v := 5) X d_Law_law_57 (by decide) ?_
      refine tk_isub X d_Law_law_58 ?_
      refine tk_icmp_gt (tgt := 692) X d_Law_law_59 (by decide) (fun _ => ?_) (fun h => absurd (q_lim0 (by omega) (by omega) (by omega)) h)
      exact kend cells slots i a o t5 t6 (Nat.le_trans (Nat.le_add_right _ _) hc) (Nat.le_trans (Nat.le_add_right _ _) hs)
end LQ
