/-! the law's start: the classes, what stands outside the worlds -/
theorem ql_arr {args : Array Value} {s : State} {ty : FieldType} (hp : ty = .int ∨ ty = .byte ∨ ty = .long) (h : (Cond.arrayClass ty).before args s = true) : ∃ cA : ClassId, ArrOfT s cA ty ∧ va_RA s cA ty := by
  obtain ⟨c, k, comp, h1, h2, h3⟩ := Cond.arrayClass_spec h
  refine ⟨c, fun n z => ⟨(fun q hq => by cases hq), k, h2, comp, h3⟩, ?_⟩
  rcases hp with rfl | rfl | rfl <;> exact h1
theorem ql_arrS {s : State} {C : String} (h : va_AO C s) : ∃ cA : ClassId, ArrOfT s cA (.object C) ∧ va_RA s cA (.object C) := by
  obtain ⟨comp, c, k, h1, h2, h3, h4, h5⟩ := Cond.arrayOver_spec h
  exact ⟨c, fun n z => ⟨(fun q hq => by cases hq), k, h3, comp, h4⟩, k, comp, h3, h4, h1, h5⟩
theorem ql_arrA {s : State} {ty : FieldType} (h : va_AOA ty s) : ∃ cA : ClassId, ArrOfT s cA (.array ty) ∧ va_RA s cA (.array ty) := by
  obtain ⟨comp, c, k, h1, h2, h3, h4, h5⟩ := h.spec
  exact ⟨c, fun n z => ⟨(fun q hq => by cases hq), k, h3, comp, h4⟩, h5⟩
theorem ql_K {args : Array Value} {s : State} (hts : ∀ w ∈ qw_big, w.before args s = true) (hS : va_AO "RationOffice$State" s) (hA : va_AOA .int s) : ∃ (D : va_G) (cy : Nat → ClassId), va_K D vwCl (qw_T cy) s := by
  obtain ⟨c0, i0, k0⟩ := u_known (C := RX0) (T := TX0) (N := 4) hts kc_X0 (hts _ kinst_X0)
  obtain ⟨c1, i1, k1⟩ := u_known (C := RX1) (T := TX1) (N := 3) hts kc_X1 (hts _ kinst_X1)
  obtain ⟨c2, i2, k2⟩ := u_known (C := RX2) (T := TX2) (N := 6) hts kc_X2 (hts _ kinst_X2)
  obtain ⟨c3, i3, k3⟩ := u_known (C := RX3) (T := TX3) (N := 15) hts kc_X3 (hts _ kinst_X3)
  obtain ⟨c4, i4, k4⟩ := u_known (C := RX5) (T := TX5) (N := 15) hts kc_X5 (hts _ kinst_X5)
  obtain ⟨c5, i5, k5⟩ := u_known (C := RX6) (T := TX6) (N := 5) hts kc_X6 (hts _ kinst_X6)
  obtain ⟨c6, i6, k6⟩ := u_known (C := RX7) (T := TX7) (N := 9) hts kc_X7 (hts _ kinst_X7)
  obtain ⟨c7, i7, k7⟩ := u_known (C := RX8) (T := TX8) (N := 22) hts kc_X8 (hts _ kinst_X8)
  obtain ⟨a0, g0⟩ := ql_arr (Or.inl rfl) (hts _ km_ai)
  obtain ⟨a1, g1⟩ := ql_arrS hS
  obtain ⟨a2, g2⟩ := ql_arrA hA
  obtain ⟨a3, g3⟩ := ql_arr (Or.inr (Or.inl rfl)) (hts _ km_ab)
  obtain ⟨a4, g4⟩ := ql_arr (Or.inr (Or.inr rfl)) (hts _ km_al)
  refine ⟨(fun c => match c with | 0 => c0 | 1 => c1 | 2 => c2 | 3 => c3 | 4 => c4 | 5 => c5 | 6 => c6 | _ => c7, fun c => match c with | 0 => i0 | 1 => i1 | 2 => i2 | 3 => i3 | 4 => i4 | 5 => i5 | 6 => i6 | _ => i7), (fun k => match k with | 0 => a0 | 1 => a1 | 2 => a2 | 3 => a3 | _ => a4), ?_, ?_⟩
  · intro c q hq
    match c, hq with
    | 0, h => cases h; exact k0
    | 1, h => cases h; exact k1
    | 2, h => cases h; exact k2
    | 3, h => cases h; exact k3
    | 4, h => cases h; exact k4
    | 5, h => cases h; exact k5
    | 6, h => cases h; exact k6
    | 7, h => cases h; exact k7
    | n + 8, h => cases h
  · intro k q hq
    match k, hq with
    | 0, h => cases h; exact g0
    | 1, h => cases h; exact g1
    | 2, h => cases h; exact g2
    | 3, h => cases h; exact g3
    | 4, h => cases h; exact g4
    | n + 5, h => cases h
def ql_sat (q : String × Nat × String × List Int32) : List Cond :=
  [Cond.exactly (.string q.1 q.2.1) "java/lang/String", Cond.eq (.field (.string q.1 q.2.1) "java/lang/String" "coder" "B") (.int 0), Cond.arrayOf (.field (.string q.1 q.2.1) "java/lang/String" "value" "[B") .byte, Cond.eq (.length (.field (.string q.1 q.2.1) "java/lang/String" "value" "[B")) (.int (Int32.ofNat q.2.2.2.length))] ++
    (List.range q.2.2.2.length).map (fun j => Cond.eq (.elem (.field (.string q.1 q.2.1) "java/lang/String" "value" "[B") (.int (Int32.ofNat j))) (.int (q.2.2.2.getD j 0)))
set_option maxRecDepth 100000 in
theorem ql_sin : ∀ q ∈ qe_strs, ∀ w ∈ ql_sat q, w ∈ flatC (Jvm.Cond.and given_1 narrow_1) := by decide +kernel
set_option maxRecDepth 100000 in
theorem ql_srf : ∀ q ∈ qe_strs, Cond.stringRef q.1 q.2.1 q.2.2.1 ∈ tables_1_2 ∨ Cond.stringRef q.1 q.2.1 q.2.2.1 ∈ tables_1_3 := by decide +kernel
theorem ql_scl : ∀ q ∈ qe_strs, q.1 = RX2 ∨ q.1 = RX6 := by decide +kernel
theorem ql_sln : ∀ q ∈ qe_strs, q.2.2.2.length < 2 ^ 31 := by decide +kernel
theorem ql_Sof {args : Array Value} {s : State} {A : Nat → Prop} {q : String × Nat × String × List Int32} {cur : Nat} (hcur : s.vm.findClass q.1 = some cur) (hr : (Cond.stringRef q.1 q.2.1 q.2.2.1).before args s = true) (hw : ∀ w ∈ ql_sat q, w.before args s = true) (hln : q.2.2.2.length < 2 ^ 31) (hA : ∀ a : Nat, a < s.heap.size → ¬ A a) : ∃ a : Nat, vk_R q.1 q.2.1 q.2.2.1 a s ∧ qe_S q.2.2.2 a A s s.heap := by
  have w0 := hw _ (List.mem_append_left _ (List.mem_of_getElem? (i := 0) rfl))
  have w1 := hw _ (List.mem_append_left _ (List.mem_of_getElem? (i := 1) rfl))
  have w2 := hw _ (List.mem_append_left _ (List.mem_of_getElem? (i := 2) rfl))
  have w3 := hw _ (List.mem_append_left _ (List.mem_of_getElem? (i := 3) rfl))
  have w4 : ∀ j : Nat, j < q.2.2.2.length → (Cond.eq (.elem (.field (.string q.1 q.2.1) "java/lang/String" "value" "[B") (.int (Int32.ofNat j))) (.int (q.2.2.2.getD j 0))).before args s = true := fun j hj => hw _ (List.mem_append_right _ (List.mem_map.mpr ⟨j, List.mem_range.mpr hj, rfl⟩))
  obtain ⟨_, _, _, a, _, _, _, _, _, he⟩ := Cond.stringRef_spec hcur hr
  obtain ⟨t, ht, hT⟩ := va_Tof (f := fun j => .int (q.2.2.2.getD j 0)) (A := A) hln w2 (va_eqt w3) (fun j hj => va_eqt (w4 j hj)) hA
  exact ⟨a, vk_R.of hr he, t, va_Oof w0 he hA, vk_OFof he (va_eqt w1) hA, vk_OFof he ht hA, hT⟩
set_option maxHeartbeats 4000000 in
set_option maxRecDepth 100000 in
theorem ql_E {b : Nat} {s : State} {D : va_G} {cy : Nat → ClassId} (htl : ∀ w ∈ lw_tbl, w.before #[Value.ref b] s = true) (hg : (Jvm.Cond.and given_1 narrow_1).before #[Value.ref b] s = true) (hK : va_K D vwCl (qw_T cy) s) (hS : va_AO "RationOffice$State" s) (hAO : va_AOA .int s) : qe_E (fun q => s.heap.size ≤ q) s := by
  have fl := flat_of_before _ hg
  have hA : ∀ a : Nat, a < s.heap.size → ¬ s.heap.size ≤ a := fun a h1 h2 => Nat.lt_irrefl _ (Nat.lt_of_lt_of_le h1 h2)
  have hini : (Cond.initialized "RationOffice").before #[Value.ref b] s = true := htl _ (mt_1 _ (List.mem_of_getElem? (i := 1) rfl))
  have hthr : (Cond.initialized Bundle.tN).before #[Value.ref b] s = true := htl _ (mt_1 _ (List.mem_of_getElem? (i := 16) rfl))
  refine ⟨?_, ?_, ?_, ?_, ?_, ?_, ?_, ?_, ?_, hS, hAO, ?_, ?_, ?_, ?_, ?_, ?_⟩
  · intro q hq
    refine va_Nw.of rfl (A := #[Value.ref b]) ?_
    unfold qe_nest at hq
    rcases List.mem_cons.mp hq with rfl | hq
    · exact htl _ (mt_1 _ (List.mem_of_getElem? (i := 31) rfl))
    rcases List.mem_cons.mp hq with rfl | hq
    · exact htl _ (mt_1 _ (List.mem_of_getElem? (i := 37) rfl))
    rcases List.mem_cons.mp hq with rfl | hq
    · exact htl _ (mt_1 _ (List.mem_of_getElem? (i := 62) rfl))
    rcases List.mem_cons.mp hq with rfl | hq
    · exact htl _ (mt_2 _ (List.mem_of_getElem? (i := 36) rfl))
    rcases List.mem_cons.mp hq with rfl | hq
    · exact htl _ (mt_2 _ (List.mem_of_getElem? (i := 59) rfl))
    rcases List.mem_cons.mp hq with rfl | hq
    · exact htl _ (mt_5 _ (List.mem_of_getElem? (i := 92) rfl))
    cases hq
  · have hr : (Cond.stringRef RX7 340 "there is no such index").before #[Value.ref b] s = true := htl _ (mt_4 _ (List.mem_of_getElem? (i := 63) rfl))
    obtain ⟨_, _, _, a, _, _, _, _, _, he⟩ := Cond.stringRef_spec (hK.1 6 _ rfl).2.1 hr
    exact ⟨a, vk_R.of hr he⟩
  · exact vx_Zqof (htl _ (mt_4 _ (List.mem_of_getElem? (i := 51) rfl))) hthr (fl _ (by decide +kernel)) hA
  · exact vx_Zqof (htl _ (mt_4 _ (List.mem_of_getElem? (i := 53) rfl))) hthr (fl _ (by decide +kernel)) hA
  · obtain ⟨t, ht, hT⟩ := va_Tof (tm := .static "RationOffice" "FIRST_SETTINGS" "[I") (ty := .int) (N := 3) (f := fun j => .int (([20, 20, 10] : List Int32).getD j 0)) (args := #[Value.ref b]) (s := s) (A := fun q => s.heap.size ≤ q) (by decide) (fl _ (by decide +kernel)) (va_eqt (fl _ (by decide +kernel))) (fun j hj => by
      rcases (show j = 0 ∨ j = 1 ∨ j = 2 by omega) with rfl | rfl | rfl
      · exact va_eqt (fl _ (by decide +kernel))
      · exact va_eqt (fl _ (by decide +kernel))
      · exact va_eqt (fl _ (by decide +kernel))) hA
    exact ⟨t, va_Zof (htl _ (mt_1 _ (List.mem_of_getElem? (i := 154) rfl))) hini ht hA, hT⟩
  · obtain ⟨t, ht, hT⟩ := va_Tof (tm := .static "RationOffice" "GREATEST_SETTINGS" "[I") (ty := .int) (N := 3) (f := fun j => .int (([999, 999, 9999] : List Int32).getD j 0)) (args := #[Value.ref b]) (s := s) (A := fun q => s.heap.size ≤ q) (by decide) (fl _ (by decide +kernel)) (va_eqt (fl _ (by decide +kernel))) (fun j hj => by
      rcases (show j = 0 ∨ j = 1 ∨ j = 2 by omega) with rfl | rfl | rfl
      · exact va_eqt (fl _ (by decide +kernel))
      · exact va_eqt (fl _ (by decide +kernel))
      · exact va_eqt (fl _ (by decide +kernel))) hA
    exact ⟨t, va_Zof (htl _ (mt_3 _ (List.mem_of_getElem? (i := 36) rfl))) hini ht hA, hT⟩
  · intro q hq
    have hr : (Cond.stringRef q.1 q.2.1 q.2.2.1).before #[Value.ref b] s = true := (ql_srf q hq).elim (fun h => htl _ (mt_2 _ h)) (fun h => htl _ (mt_3 _ h))
    rcases ql_scl q hq with h2 | h6
    · exact ql_Sof (by rw [h2]; exact (hK.1 2 _ rfl).2.1) hr (fun w hw => fl _ (ql_sin q hq w hw)) (ql_sln q hq) hA
    · exact ql_Sof (by rw [h6]; exact (hK.1 5 _ rfl).2.1) hr (fun w hw => fl _ (ql_sin q hq w hw)) (ql_sln q hq) hA
  · exact va_Zof (htl _ (mt_2 _ (List.mem_of_getElem? (i := 148) rfl))) (htl _ (mt_1 _ (List.mem_of_getElem? (i := 12) rfl))) (va_eqi (fl _ (by decide +kernel))) hA
  · exact va_Zqof (htl _ (mt_2 _ (List.mem_of_getElem? (i := 164) rfl))) (htl _ (mt_1 _ (List.mem_of_getElem? (i := 14) rfl))) (fl _ (by decide +kernel)) hA
  · exact va_Nw.of rfl (htl _ (mt_4 _ (List.mem_of_getElem? (i := 26) rfl)))
  · exact va_Nw.of rfl (htl _ (mt_4 _ (List.mem_of_getElem? (i := 28) rfl)))
  · exact va_Nw.of rfl (htl _ (mt_4 _ (List.mem_of_getElem? (i := 30) rfl)))
  · exact va_Nw.of rfl (htl _ (mt_4 _ (List.mem_of_getElem? (i := 32) rfl)))
  · exact va_Nw.of rfl (htl _ (mt_3 _ (List.mem_of_getElem? (i := 35) rfl)))
  · exact va_Nw.of rfl (htl _ (mt_1 _ (List.mem_of_getElem? (i := 153) rfl)))
