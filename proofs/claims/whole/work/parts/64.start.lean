theorem st_arr {args : Array Value} {s : State} {ty : FieldType} (h : (Cond.arrayClass ty).before args s = true) : ∃ cA, ArrOfT s cA ty ∧ s.vm.findClass ("[" ++ ty.toString) = some cA := by
  obtain ⟨cA, kA, comp, h1, h2, h3⟩ := Cond.arrayClass_spec h
  exact ⟨cA, fun n z => ⟨fun k h => (by cases h), kA, h2, comp, h3⟩, h1⟩
theorem st_over {args : Array Value} {s : State} {C : String} (h : (Cond.arrayOver (.object C)).before args s = true) : ∃ cA, ArrOfT s cA (.object C) ∧ va_RA s cA (.object C) := by
  obtain ⟨comp, cA, kA, h1, -, h3, h4, h5⟩ := Cond.arrayOver_spec h
  exact ⟨cA, fun n z => ⟨fun k h => (by cases h), kA, h3, comp, h4⟩, kA, comp, h3, h4, h1, h5⟩
theorem st_w {args : Array Value} {s : State} (hts : ∀ w ∈ lw_tbl, w.before args s = true) : ∀ w ∈ WS, w.before args s = true := fun w h => hts w (List.mem_filter.mp h).1
theorem st_K {args : Array Value} {s : State} (hts : ∀ w ∈ lw_tbl, w.before args s = true) : ∃ (D : va_G) (aC : Nat → ClassId), va_K D classes [(aC 0, .int), (aC 1, .boolean), (aC 2, .long), (aC 3, .object R_Core), (aC 4, .object R_Way)] s := by
  have hw := st_w hts
  obtain ⟨c0, i0, k0⟩ := u_known hw hi_TC (hw _ mt_TC)
  obtain ⟨c1, i1, k1⟩ := u_known hw hi_Store (hw _ mt_Store)
  obtain ⟨c2, i2, k2⟩ := u_known hw hi_Core (hw _ mt_Core)
  obtain ⟨c3, i3, k3⟩ := u_known hw hi_Cache (hw _ mt_Cache)
  obtain ⟨c4, i4, k4⟩ := u_known hw hi_Way (hw _ mt_Way)
  obtain ⟨c5, i5, k5⟩ := u_known hw hi_Model (hw _ mt_Model)
  obtain ⟨a0, b0, e0⟩ := st_arr (hw _ m_ac_int)
  obtain ⟨a1, b1, e1⟩ := st_arr (hw _ m_ac_boolean)
  obtain ⟨a2, b2, e2⟩ := st_arr (hw _ m_ac_long)
  obtain ⟨a3, b3, e3⟩ := st_over (hts _ (List.mem_filter.mp n_ao_Core).1)
  obtain ⟨a4, b4, e4⟩ := st_over (hts _ (List.mem_filter.mp n_ao_Way).1)
  refine ⟨(fun k => match k with | 0 => c0 | 1 => c1 | 2 => c2 | 3 => c3 | 4 => c4 | _ => c5, fun k => match k with | 0 => i0 | 1 => i1 | 2 => i2 | 3 => i3 | 4 => i4 | _ => i5), fun k => match k with | 0 => a0 | 1 => a1 | 2 => a2 | 3 => a3 | _ => a4, fun c q hq => ?_, fun k q hq => ?_⟩
  · match c, hq with
    | 0, hq => cases hq; exact k0
    | 1, hq => cases hq; exact k1
    | 2, hq => cases hq; exact k2
    | 3, hq => cases hq; exact k3
    | 4, hq => cases hq; exact k4
    | 5, hq => cases hq; exact k5
    | c + 6, hq => cases hq
  · match k, hq with
    | 0, hq => cases hq; exact ⟨b0, e0⟩
    | 1, hq => cases hq; exact ⟨b1, e1⟩
    | 2, hq => cases hq; exact ⟨b2, e2⟩
    | 3, hq => cases hq; exact ⟨b3, e3⟩
    | 4, hq => cases hq; exact ⟨b4, e4⟩
    | k + 5, hq => cases hq
theorem st_N {args : Array Value} {s : State} (hts : ∀ w ∈ lw_tbl, w.before args s = true) : ∀ w ∈ NW, tk_nest w ∧ va_Nw w s := fun w hw => by
  have h1 := hts w (List.mem_filter.mp hw).1
  have h2 := (List.mem_filter.mp hw).2
  cases w with
  | fieldLinkNest a i b n d h => exact ⟨Or.inl ⟨a, i, b, n, d, h, rfl⟩, va_Nw.of rfl h1⟩
  | methodLinkNest a i x h => exact ⟨Or.inr (Or.inl ⟨a, i, x, h, rfl⟩), va_Nw.of rfl h1⟩
  | arrayOver t =>
    cases t with
    | object C => exact ⟨Or.inr (Or.inr ⟨C, rfl⟩), va_AO.of h1⟩
    | _ => cases h2
  | _ => cases h2
