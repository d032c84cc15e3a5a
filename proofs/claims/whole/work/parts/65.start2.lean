theorem st_str {args : Array Value} {s : State} {own tx : String} {k : Nat} {cur : ClassId} (hcur : s.vm.findClass own = some cur) (h : (Cond.stringRef own k tx).before args s = true) : ∃ a, vk_R own k tx a s := by
  obtain ⟨_, _, _, a, -, -, -, -, -, h6⟩ := Cond.stringRef_spec hcur h
  exact ⟨a, vk_R.of h h6⟩
theorem sw_1 : Cond.stringRef R_TC 128 "there is no such thing" ∈ lw_tbl := by decide +kernel
theorem sw_2 : Cond.stringRef R_TC 81 "steps are 0 to 16" ∈ lw_tbl := by decide +kernel
theorem sw_3 : Cond.stringRef R_TC 91 "the core has a transaction" ∈ lw_tbl := by decide +kernel
theorem sw_5 : ∀ w ∈ xt_F, w ∈ lw_tbl := by decide +kernel
theorem sw_6 : Cond.laysStatic Bundle.tN "UNASSIGNED_STACK" Bundle.steD ∈ lw_tbl := by decide +kernel
theorem sw_7 : Cond.laysStatic Bundle.tN "SUPPRESSED_SENTINEL" Bundle.listD ∈ lw_tbl := by decide +kernel
theorem sw_8 : Cond.initialized Bundle.tN ∈ lw_tbl := by decide +kernel
theorem st_Z {b : Nat} {s : State} {P : ks_P} (hh0 : tk_h0 (ks_G P) = s.heap) (hts : ∀ w ∈ lw_tbl, w.before #[Value.ref b] s = true) (hgv : (Jvm.Cond.and given_1 narrow_1).before #[Value.ref b] s = true) : xt_Z (ks_G P) s := by
  have hs := flat_of_before _ hgv
  have hU : (Cond.isRef (.static Bundle.tN "UNASSIGNED_STACK" Bundle.steD)).before #[Value.ref b] s = true := hs _ (by decide +kernel)
  have hN : (Cond.isRef (.static Bundle.tN "SUPPRESSED_SENTINEL" Bundle.listD)).before #[Value.ref b] s = true := hs _ (by decide +kernel)
  have hC : (Cond.not (.castable xe_S xe_I)).before #[Value.ref b] s = true := hs _ (by decide +kernel)
  obtain ⟨c0, i0, k0⟩ := u_known (st_w hts) hi_TC (st_w hts _ mt_TC)
  have hc : s.vm.findClass R_TC = some c0 := k0.2.1
  have hA : ∀ a : Nat, a < s.heap.size → ¬ (fun q => (tk_h0 (ks_G P)).size ≤ q) a := fun a ha z => by
    have z : (tk_h0 (ks_G P)).size ≤ a := z
    rw [hh0] at z
    omega
  have z1 := vx_Zqof (hts _ sw_6) (hts _ sw_8) hU hA
  have z2 := vx_Zqof (hts _ sw_7) (hts _ sw_8) hN hA
  refine ⟨fun w hw => va_Nw.of (xt_F_ok w hw).1 (hts w (sw_5 w hw)), va_Nc.of hC, ?_, ?_, st_str hc (hts _ sw_1), st_str hc (hts _ sw_2), st_str hc (hts _ sw_3)⟩
  · rw [show tk_h0 (ks_G P) = s.heap from hh0] at z1 ⊢
    exact z1
  · rw [show tk_h0 (ks_G P) = s.heap from hh0] at z2 ⊢
    exact z2
def cl_v (Ln : Nat) (xs : Nat → Int32) (k : Nat) : Int32 := if k < Ln then xs k else 0
def cl_B (G : tk_G) (dm : tk_W) (sl : tk_L) (b Ln : Nat) (xs : Nat → Int32) (U : State) : Prop := tk_H G dm sl U.heap ∧ tk_V G U ∧ va_X b Ln xs U (tk_h0 G)
theorem cl_blind {G : tk_G} {dm : tk_W} {sl : tk_L} {b Ln : Nat} {xs : Nat → Int32} {As : List Value} : FrameBlind (va_Pc As (cl_B G dm sl b Ln xs)) := fun a U g mk q => by
  obtain ⟨q1, q2, q3, q4⟩ := q
  exact ⟨q1, q2, q3.same (U := U.calling g mk a) rfl, q4.moved (U := U.calling g mk a) (Vm.Alike.refl _)⟩
set_option maxRecDepth 100000 in
set_option maxHeartbeats 4000000 in
theorem c_cell (l : Launch) {G : tk_G} {dm : tk_W} {sl : tk_L} {b Ln : Nat} {xs : Nat → Int32} (hA : tk_A G) (hbl : b < (tk_h0 G).size) (hLn : Ln ≤ 2563) (k : Nat) (hk : k < 3) : Met l y_Law_cell (Cond.code y_Law_cell b_Law_cell 2 (some .int) :: WS) (cn_rm 1 0 0) (va_Pc [.ref b, .int (nI k)] (cl_B G dm sl b Ln xs)) (fun _ _ oc t => oc = .returned (some (.int (cl_v Ln xs k))) ∧ tk_H G dm sl t.heap) 0 0 (fun q => (tk_h0 G).size ≤ q) := by
  refine Met.ofW (cc := b_Law_cell) (maxL := 2) (ret := some .int) (by decide) rfl ?_
  intro p e s m args below meth c s₁ B hml hv
  obtain ⟨rfl, hH, hV, hX⟩ := hv
  have hts := atoms_spec (ws := Cond.code y_Law_cell b_Law_cell 2 (some .int) :: WS) B.pre
  have hown : s.vm.findClass y_Law_cell.cls = some m.cls := findClass_of_methodNamed B.named
  have X : tk_X p m c s [Value.ref b, Value.int (nI k)].toArray G y_Law_cell.cls b_Law_cell 2 WS := ⟨⟨B.exec, B.bytes, hml, hown, fun w hw => hts w (List.mem_cons_of_mem _ hw)⟩, hV, hA⟩
  have hlk := B.notSynchronized
  have hr := B.returns
  refine xt_entry (dm := dm) (sl := sl) rfl (Nat.le_of_ble_eq_true rfl) hH ?_
  refine tk_iload_n X d_Law_cell_0 rfl rfl ?_
  refine tk_aload_n X d_Law_cell_1 rfl rfl ?_
  refine tk_slen X hX hbl d_Law_cell_2 ?_
  by_cases h : k < Ln
  · have e : cl_v Ln xs k = xs k := if_pos h
    refine tk_icmp_ge (tgt := 12) X d_Law_cell_3 (by decide) (fun z => absurd z (nI_ge h (by omega))) (fun _ => ?_)
    refine tk_aload_n X d_Law_cell_6 rfl rfl ?_
    refine tk_iload_n X d_Law_cell_7 rfl rfl ?_
    refine kx_sld X hX hbl (v := xs k) (vp_in_nI h (by omega)) (by rw [nI_clamp (by omega)]) d_Law_cell_8 ?_
    refine tk_goto (tgt := 13) X d_Law_cell_9 (by decide) ?_
    exact tk_iret X hlk hr d_Law_cell_13 (by rw [e]) (fun _ h => h) (Or.inr rfl) (fun _ _ => rfl)
  · have e : cl_v Ln xs k = 0 := if_neg h
    refine tk_icmp_ge (tgt := 12) X d_Law_cell_3 (by decide) (fun _ => ?_) (fun z => absurd (nI_le (by omega) (by omega)) z)
    refine tk_iconst (v := 0) X d_Law_cell_12 (by decide) ?_
    exact tk_iret X hlk hr d_Law_cell_13 (by rw [e]) (fun _ h => h) (Or.inr rfl) (fun _ _ => rfl)
section CL
variable {p : Program} {l : Launch} {e : Env} {R : Room} {s : State} {m : MethodId} {args : Array Value} {below : List Frame} {meth : Method} {c : Code} {G : tk_G} {dm : tk_W} {cells slots : Nat} {Q : State → Prop} {sl : tk_L} {pc : Nat} {L : List (Option Value)} {rest : List Value}
theorem cl_call (X : tk_X p m c s args G R_Law b_Law_law 7 WS) {b Ln : Nat} {xs : Nat → Int32} (hX : va_X b Ln xs s (tk_h0 G)) (hbl : b < (tk_h0 G).size) (hLn : Ln ≤ 2563) {k : Nat} (hk : k < 3) {v : Int32} (hv0 : v = nI k) (hfr : 2 ≤ R.frames) (hlo : 61 ≤ R.locals) (hrest : (rest.map fun v => v.category).sum ≤ 8) (hcs : cells ≤ R.cells ∧ slots ≤ R.slots) (hdg : decode b_Law_law pc = .ok (.invokestatic 41, 3))
    (kk : tk_go p l e R s m args below meth c G dm 7 cells slots Q sl (pc + 3) L (.int (cl_v Ln xs k) :: rest)) : tk_go p l e R s m args below meth c G dm 7 cells slots Q sl pc L (.int v :: .ref b :: rest) := fun H locs ls hH hl hv => by
  subst hv0
  have hts := X.1.2.2.2.2
  have hr := va_runS (p := p) (e := e) (below := below) (meth := meth) (locs := locs) (cells := cells) (slots := slots) (rest := rest) (g := F0 m pc ls (.int (nI k) :: .ref b :: rest)) X.1 (c_cell l (dm := dm) (sl := sl) (xs := xs) X.2.2 hbl hLn k hk) ⟨callB_of (R := R) 2 hts (tk_good mc_Law_cell WS_good) rfl rfl rfl (hts _ mi_Law) (hts _ m_Law_41) (by decide +kernel) ⟨hfr, hlo⟩, hts _ ms_Law_cell⟩ ⟨cl_blind, fun U hU hW => ⟨rfl, by rw [hU]; exact hH, X.2.1.warm hW, va_X.moved hW.alike hX⟩⟩ rfl rfl hv.1 rfl (lv_room hrest) hdg hcs
  exact tk_after (dm' := dm) (sl' := sl) hr hl hv kk
end CL
