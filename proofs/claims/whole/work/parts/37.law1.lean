/-! the law: calls over the front of its world -/
section QL
variable {p : Program} {l : Launch} {e : Env} {R : Room} {s : State} {m : MethodId} {args : Array Value} {below : List Frame} {meth : Method} {c : Code} {H : Heap} {locs : List Loc} {cells slots : Nat} {Q : State → Prop}
variable {cc : ByteArray} {pc nL : Nat} {ls : Array Slot} {rest : List Value} {D : va_G} {cy : Nat → ClassId} {A : Nat → Prop} {a : Nat} {ws ws' wc wr : va_W} {own : String}
variable {lv : List (Nat × Value)} {y : MethodName} {bytes : ByteArray} {maxL mc ms n index ci N : Nat} {ret : Option FieldType} {wsy ws0 : List Cond} {rm : Room} {C : String} {T : u_T} {b : Addr} {As st0 st1 : List Value} {rv : Option Value} {fs : List Value} {α : Type} {ro : Option α}
theorem ql_cV (S0 : CallFix p m c cc nL s args qw_big own) (V : qw_V D cy A s (wc ++ wr) H locs) (hl : lv_has ls nL lv) (q0 : Nat) (he : wc[q0]? = some (b, .inr (ci, fs))) (hc : vwCl[ci]? = some (C, T, N))
    (hM : Met l y wsy rm (va_Pc (.ref b :: As) (qw_Pre D cy wc H.size)) (qw_Q rv D ws' (va_A wc H.size)) mc ms (va_A wc H.size)) (hG : GoodIn qw_big (wsV own index C y wsy)) (hw : wsy = Cond.code y bytes maxL ret :: ws0) (hrm : rm.cells = mc ∧ rm.slots = ms)
    (hd : y.cls = C ∧ y.cls ≠ "java/lang/invoke/MethodHandle" ∧ y.cls ≠ "java/lang/invoke/VarHandle" ∧ (parseMethodDescriptor y.desc).map (fun d => d.parameters.length) = some n) (hR : rm.frames + 1 ≤ R.frames ∧ 8 + (maxL + 11) + rm.locals ≤ R.locals)
    (hn : As.length = n) (hstk : st0 = As.reverse ++ .ref b :: rest) (hro : (rest.map fun v => v.category).sum ≤ 8) (hf : cells + mc ≤ R.cells ∧ slots + ms ≤ R.slots) (hst : rv.toList ++ rest = st1) (hdg : decode cc pc = .ok (.invokevirtual index, 3))
    (kk : ∀ (H1 : Heap) (locs1 : List Loc), qw_V D cy A s (ws' ++ wr) H1 locs1 → W p l e R s m args below meth c H1 locs1 (cells + mc) (slots + ms) Q (F0 m (pc + 3) ls st1)) : W p l e R s m args below meth c H locs cells slots Q (F0 m pc ls st0) := by
  subst hst
  intro T0 hT X
  have hS := V.2.2.2.1
  have hF := qd_free V.2.2.1 hS V.2.2.2.2.1
  have hrec : ∃ cell : Cell, H[b]? = some cell ∧ cell.vm.isStatics = false ∧ s.vm.findClass C = some cell.cls := va_recv V.2.1 (ws := wc) (fun k x hx => V.1 k x (qd_left hx)) hc he
  obtain ⟨v, st₀, t, T', L, h0, X', hL, e1, e2, ⟨hv, hP1, hD1, hz, hk⟩, st⟩ := va_runV S0 hM (cwV n S0.2.2.2.2 hG hw hrm.1 hrm.2 hd hR) ⟨qw_Pre.calling, hrec, fun U hU hW => ⟨rfl, qd_pre V U hU hW⟩⟩ rfl hn hl.1 hstk (lv_room hro) hdg hf T0 hT X
  cases hv
  obtain ⟨k3, k4, k5⟩ := vx_keep h0 e1 hS (fun q _ h => hF q h) hF hL ⟨hz, hk⟩
  obtain ⟨jP, jD⟩ := qd_join (H1 := T'.heap) V.1 V.2.2.1 k4 hF (by rw [e1]; exact hP1) hD1
  obtain ⟨t2, a1, b1⟩ := kk T'.heap (locs ++ L) ⟨jP, V.2.1, jD, k5, V.2.2.2.2⟩ T' rfl X'
  exact ⟨t2, st t2 a1, b1⟩
theorem ql_cVR (S0 : CallFix p m c cc nL s args qw_big own) (V : qw_V D cy A s (wc ++ wr) H locs) (hl : lv_has ls nL lv) (q0 : Nat) (he : wc[q0]? = some (b, .inr (ci, fs))) (hc : vwCl[ci]? = some (C, T, N))
    (hM : Met l y wsy rm (va_Pc (.ref b :: As) (qw_Pre D cy wc H.size)) (qw_R rv) 0 0 (fun _ => False)) (hG : GoodIn qw_big (wsV own index C y wsy)) (hw : wsy = Cond.code y bytes maxL ret :: ws0) (hrm : rm.cells = 0 ∧ rm.slots = 0)
    (hd : y.cls = C ∧ y.cls ≠ "java/lang/invoke/MethodHandle" ∧ y.cls ≠ "java/lang/invoke/VarHandle" ∧ (parseMethodDescriptor y.desc).map (fun d => d.parameters.length) = some n) (hR : rm.frames + 1 ≤ R.frames ∧ 8 + (maxL + 11) + rm.locals ≤ R.locals)
    (hn : As.length = n) (hstk : st0 = As.reverse ++ .ref b :: rest) (hro : (rest.map fun v => v.category).sum ≤ 8) (hf : cells + 0 ≤ R.cells ∧ slots + 0 ≤ R.slots) (hst : rv.toList ++ rest = st1) (hdg : decode cc pc = .ok (.invokevirtual index, 3))
    (kk : W p l e R s m args below meth c H locs cells slots Q (F0 m (pc + 3) ls st1)) : W p l e R s m args below meth c H locs cells slots Q (F0 m pc ls st0) :=
  qw_callR hst (va_runV S0 hM (cwV n S0.2.2.2.2 hG hw hrm.1 hrm.2 hd hR) ⟨qw_Pre.calling, va_recv V.2.1 (ws := wc) (fun k x hx => V.1 k x (qd_left hx)) hc he, fun U hU hW => ⟨rfl, qd_pre V U hU hW⟩⟩ rfl hn hl.1 hstk (lv_room hro) hdg hf) kk
theorem ql_cW {hh : List (Nat × Nat × Nat × Nat)} {Wv : α → va_W} (S0 : CallFix p m c cc nL s args qw_big own) (V : qw_V D cy A s (wc ++ wr) H locs) (hl : lv_has ls nL lv)
    (hM : vx_Met l y wsy rm (va_Pc As (qw_Pre D cy wc H.size)) (qd_Q ro wc Wv D (va_A wc H.size)) qd_X 1 6 (va_A wc H.size)) (hG : GoodIn qw_big (va_wsS own index y wsy)) (hw : wsy = Cond.codeWith y bytes maxL ret hh :: ws0) (hrm : rm.cells = 1 ∧ rm.slots = 6)
    (hd : y.cls ≠ "java/lang/invoke/MethodHandle" ∧ y.cls ≠ "java/lang/invoke/VarHandle" ∧ (parseMethodDescriptor y.desc).map (fun d => d.parameters.length) = some n) (hR : rm.frames + 1 ≤ R.frames ∧ 8 + (maxL + 11) + rm.locals ≤ R.locals)
    (hn : As.length = n) (hstk : st0 = As.reverse ++ rest) (hro : (rest.map fun v => v.category).sum ≤ 8) (hf : cells + 1 ≤ R.cells ∧ slots + 6 ≤ R.slots) (hdg : decode cc pc = .ok (.invokestatic index, 3))
    (k0 : ∀ (H1 : Heap) (locs1 : List Loc), ro = none → qw_V D cy A s (wc ++ wr) H1 locs1 → W p l e R s m args below meth c H1 locs1 (cells + 1) (slots + 6) Q (F0 m (pc + 3) ls (.int 1 :: rest)))
    (k1 : ∀ (v : α) (H1 : Heap) (locs1 : List Loc), ro = some v → qw_V D cy A s (Wv v ++ wr) H1 locs1 → W p l e R s m args below meth c H1 locs1 (cells + 1) (slots + 6) Q (F0 m (pc + 3) ls (.int 0 :: rest))) : W p l e R s m args below meth c H locs cells slots Q (F0 m pc ls st0) := by
  intro T0 hT X
  have hS := V.2.2.2.1
  have hF := qd_free V.2.2.1 hS V.2.2.2.2.1
  rcases vx_runSX S0 hM (vx_cwSW n S0.2.2.2.2 hG hw hrm.1 hrm.2 hd hR) ⟨qw_Pre.calling, fun U hU hW => ⟨rfl, qd_pre V U hU hW⟩⟩ rfl hn hl.1 hstk (lv_room hro) hdg hf T0 hT X with ⟨v, st₀, t, T', L, h0, X', hL, e1, e2, hq, st⟩ | ⟨q, st₀, t, T', L, E, ce, h0, X', hL, e1, e2, hfa, -⟩
  · rcases hq with ⟨hr, hv, hP1, hD1, hz, hk⟩ | ⟨w, hr, hv, hP1, hD1, hz, hk⟩
    · cases hv
      obtain ⟨k3, k4, k5⟩ := vx_keep h0 e1 hS (fun q _ h => hF q h) hF hL ⟨hz, hk⟩
      obtain ⟨jP, jD⟩ := qd_join (H1 := T'.heap) V.1 V.2.2.1 k4 hF (by rw [e1]; exact hP1) hD1
      obtain ⟨t2, a1, b1⟩ := k0 T'.heap (locs ++ L) hr ⟨jP, V.2.1, jD, k5, V.2.2.2.2⟩ T' rfl X'
      exact ⟨t2, st t2 a1, b1⟩
    · cases hv
      obtain ⟨k3, k4, k5⟩ := vx_keep h0 e1 hS (fun q _ h => hF q h) hF hL ⟨hz, hk⟩
      obtain ⟨jP, jD⟩ := qd_join (H1 := T'.heap) V.1 V.2.2.1 k4 hF (by rw [e1]; exact hP1) hD1
      obtain ⟨t2, a1, b1⟩ := k1 w T'.heap (locs ++ L) hr ⟨jP, V.2.1, jD, k5, V.2.2.2.2⟩ T' rfl X'
      exact ⟨t2, st t2 a1, b1⟩
  · exact hfa.elim
theorem ql_V.swap {wa wb : va_W} (V : qw_V D cy A s (wa ++ wb) H locs) : qw_V D cy A s (wb ++ wa) H locs := by
  obtain ⟨h1, h2⟩ := qd_swap V.1 V.2.2.1
  exact ⟨h1, V.2.1, h2, V.2.2.2⟩
theorem ql_V.assoc {wa wb wd : va_W} (V : qw_V D cy A s ((wa ++ wb) ++ wd) H locs) : qw_V D cy A s (wa ++ (wb ++ wd)) H locs := by rw [← List.append_assoc]; exact V
theorem ql_V.cossa {wa wb wd : va_W} (V : qw_V D cy A s (wa ++ (wb ++ wd)) H locs) : qw_V D cy A s ((wa ++ wb) ++ wd) H locs := by rw [List.append_assoc]; exact V
theorem ql_lald {i : Int32} {ao : Nat} {o : Nat → Int64} (S0 : CallFix p m c cc nL s args qw_big own) (V : qw_V D cy A s ((wc ++ [qd_L cy ao o]) ++ wr) H locs) (hi : i = 0) (hdg : decode cc pc = .ok (.laload, 1))
    (kk : W p l e R s m args below meth c H locs cells slots Q (F0 m (pc + 1) ls (.long (o 0) :: rest))) : W p l e R s m args below meth c H locs cells slots Q (F0 m pc ls (.int i :: .ref ao :: rest)) := by
  subst hi
  exact va_lald S0.1 S0.2.1 V.2.1 V.1 wc.length 4 (qd_left qc_last) rfl (by unfold vp_in; decide) hdg kk
end QL
