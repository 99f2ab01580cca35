/-! the law's wrappers: a call whose world is the front of the caller's; a throw that is caught -/
theorem qd_right {α : Type} {a b : List α} {k : Nat} {x : α} (h : b[k]? = some x) : (a ++ b)[a.length + k]? = some x := by rw [List.getElem?_append_right (Nat.le_add_right _ _), Nat.add_sub_cancel_left]; exact h
theorem qd_left {α : Type} {a b : List α} {k : Nat} {x : α} (h : a[k]? = some x) : (a ++ b)[k]? = some x := by rw [List.getElem?_append_left (List.getElem?_eq_some_iff.mp h).1]; exact h
theorem qd_apart {D : va_G} {A0 : Nat → Prop} {wc wr : va_W} {H : Heap} (hP : va_P D vwCl (wc ++ wr) H) (hD : va_D A0 (wc ++ wr)) : ∀ (k : Nat) (x : Nat × va_E), wr[k]? = some x → x.1 < H.size ∧ ¬ va_A wc H.size x.1 := by
  intro k x hx
  have h1 := qd_right (a := wc) hx
  have hl := (hP _ x h1).lt
  refine ⟨hl, fun h => ?_⟩
  rcases h with ⟨k2, e2, h⟩ | h
  · have h2 := (List.getElem?_eq_some_iff.mp h).1
    have h3 := hD.1 k2 (wc.length + k) (x.1, e2) x (qd_left h) h1 rfl
    omega
  · omega
theorem qd_free {A0 : Nat → Prop} {wc wr : va_W} {H0 H : Heap} {locs : List Loc} (hD : va_D A0 (wc ++ wr)) (hS : va_S A0 H0 H locs) (hA : ∀ a, H0.size ≤ a → A0 a) : ∀ a, va_A wc H.size a → A0 a := by
  intro a h
  rcases h with ⟨k2, e2, h⟩ | h
  · exact hD.2 k2 (a, e2) (qd_left h)
  · exact hA a (Nat.le_trans hS.1 h)
theorem qd_join {D : va_G} {A0 : Nat → Prop} {wc wr w1 : va_W} {H H1 : Heap} (hP : va_P D vwCl (wc ++ wr) H) (hD : va_D A0 (wc ++ wr)) (hk : ∀ a : Nat, a < H.size → ¬ va_A wc H.size a → H1[a]? = H[a]?) (hF : ∀ a, va_A wc H.size a → A0 a) (hP1 : va_P D vwCl w1 H1) (hD1 : va_D (va_A wc H.size) w1) : va_P D vwCl (w1 ++ wr) H1 ∧ va_D A0 (w1 ++ wr) := by
  have ap := qd_apart hP hD
  refine ⟨va_P.app hP1 (fun k x hx => (hP _ x (qd_right hx)).kept (hk x.1 (ap k x hx).1 (ap k x hx).2)), va_D.app ⟨hD1.1, fun k x hx => hF x.1 (hD1.2 k x hx)⟩ ⟨fun i j x y hi hj h => by have := hD.1 _ _ x y (qd_right hi) (qd_right hj) h; omega, fun k x hx => hD.2 _ x (qd_right hx)⟩ (fun i j x y hx hy hxy => ?_)⟩
  exact (ap j y hy).2 (by rw [← hxy]; exact hD1.2 i x hx)
theorem qd_swap {D : va_G} {A0 : Nat → Prop} {wa wb : va_W} {H : Heap} (hP : va_P D vwCl (wa ++ wb) H) (hD : va_D A0 (wa ++ wb)) : va_P D vwCl (wb ++ wa) H ∧ va_D A0 (wb ++ wa) := by
  refine ⟨va_P.app (fun k x hx => hP _ x (qd_right hx)) (fun k x hx => hP _ x (qd_left hx)), va_D.app ⟨fun i j x y hi hj h => by have := hD.1 _ _ x y (qd_right hi) (qd_right hj) h; omega, fun k x hx => hD.2 _ x (qd_right hx)⟩ ⟨fun i j x y hi hj h => hD.1 _ _ x y (qd_left hi) (qd_left hj) h, fun k x hx => hD.2 _ x (qd_left hx)⟩ (fun i j x y hx hy hxy => ?_)⟩
  have h1 := (List.getElem?_eq_some_iff.mp hy).1
  have := hD.1 _ _ x y (qd_right hx) (qd_left hy) hxy
  omega
abbrev qd_L (cy : Nat → ClassId) (ao : Nat) (o : Nat → Int64) : Nat × va_E := (ao, .inl (cy 4, 1, .inr (.inl o)))
def qd_Q {α : Type} (ro : Option α) (W0 : va_W) (Wv : α → va_W) (D : va_G) (Z : Nat → Prop) : Array Value → State → Outcome → State → Prop := fun a st oc t => (ro = none ∧ qw_Q (some (.int 1)) D W0 Z a st oc t) ∨ ∃ v, ro = some v ∧ qw_Q (some (.int 0)) D (Wv v) Z a st oc t
abbrev qd_X : String → State → State → Prop := fun _ _ _ => False
section QD
variable {p : Program} {l : Launch} {e : Env} {R : Room} {s : State} {m : MethodId} {args : Array Value} {below : List Frame} {meth : Method} {c : Code} {H : Heap} {locs : List Loc} {cells slots : Nat} {Q : State → Prop}
variable {cc : ByteArray} {pc nL : Nat} {ls : Array Slot} {rest : List Value} {D : va_G} {cy : Nat → ClassId} {A : Nat → Prop} {a : Nat} {ws ws' wc wr : va_W} {own : String}
theorem qd_of {l : Launch} {y : MethodName} {rm : Room} {Qc : Array Value → State → Outcome → State → Prop} {XC : String → State → State → Prop} {mc ms : Nat} {free : Addr → Prop} {cc : ByteArray} {maxL : Nat} {ret : Option FieldType} {hh : List (Nat × Nat × Nat × Nat)} {D : va_G} {cy : Nat → ClassId} {ws : va_W} {sz : Nat} {av : List Value}
    (hy : plainName y.cls = true) (hav : (lg_sl av).length ≤ maxL)
    (body : ∀ (p : Program) (e : Env) (s : State) (m : MethodId) (args : Array Value) (below : List Frame) (meth : Method) (c : Code) (ls : Array Slot), CallFix p m c cc maxL s args qw_big y.cls → meth.sig.returnType = ret → meth.locks = false → c.exceptionTable.toList = tableOf hh → s.heap.size = sz → qw_V D cy (va_A ws sz) s ws s.heap [] → lv_has ls maxL (lv_args 0 av) →
      W p l e rm s m args below meth c s.heap [] 0 0 (vx_MQ below Qc XC args s mc ms free) (F0 m 0 ls [])) : vx_Met l y (Cond.codeWith y cc maxL ret hh :: qw_big) rm (va_Pc av (qw_Pre D cy ws sz)) Qc XC mc ms free := by
  refine vx_ofWH (cc := cc) (maxL := maxL) (ret := ret) (hh := hh) hy rfl ?_
  intro p e s m args below meth c s₁ B hml hv
  obtain ⟨rfl, hsz, hP, hK, hD0, hE⟩ := hv
  rw [lg_entry_eq]
  have hw := atoms_spec (ws := Cond.codeWith y cc maxL ret hh :: qw_big) B.pre
  exact body p e s m _ below meth c _ ⟨B.exec, B.bytes, hml, findClass_of_methodNamed B.named, fun w h => hw w (List.mem_cons_of_mem _ h)⟩ B.returns B.notSynchronized (vx_table (x := y) B (hw _ List.mem_cons_self)) hsz ⟨hP, hK, by have := hD0.self (sz := sz); exact this, va_S.rf, fun q h => Or.inr (by rw [hsz] at h; exact h), hE⟩ (lv_entry av hav)
theorem qd_pre (V : qw_V D cy A s (wc ++ wr) H locs) (U : State) (hU : U.heap = H) (hW : s.WarmedH U.vm) : qw_Pre D cy wc H.size U :=
  ⟨by rw [hU], fun k x hx => by rw [hU]; exact V.1 k x (qd_left hx), va_K.moved hW.alike V.2.1, ⟨fun i j x y hi hj h => V.2.2.1.1 i j x y (qd_left hi) (qd_left hj) h, fun _ _ _ => trivial⟩, V.2.2.2.2.2.pass hW hU V.2.2.2.1 (qd_free V.2.2.1 V.2.2.2.1 V.2.2.2.2.1)⟩
theorem qd_last {i : Int32} {ao : Nat} {o : Nat → Int64} (S0 : CallFix p m c cc nL s args qw_big own) (V : qw_V D cy A s (wc ++ [qd_L cy ao o]) H locs) {x : Int64} (hi : i = 0) (hdg : decode cc pc = .ok (.lastore, 1))
    (kk : ∀ (H1 : Heap) (locs1 : List Loc), qw_V D cy A s (wc ++ [qd_L cy ao (vp_updL o 0 x)]) H1 locs1 → W p l e R s m args below meth c H1 locs1 cells slots Q (F0 m (pc + 1) ls rest)) : W p l e R s m args below meth c H locs cells slots Q (F0 m pc ls (.long x :: .int i :: .ref ao :: rest)) := by
  subst hi
  have hq : (wc ++ [qd_L cy ao o])[wc.length]? = some (qd_L cy ao o) := qc_last
  refine va_last S0.1 S0.2.1 V.2.1 V.1 V.2.2.1 V.2.2.2.1 wc.length 4 hq rfl (by unfold vp_in; decide) hdg (fun H1 locs1 h1 h2 h3 => ?_)
  have e : (wc ++ [qd_L cy ao o]).set wc.length (ao, .inl (cy 4, 1, .inr (.inl (vp_updL o (0 : Int32).toNatClampNeg x)))) = wc ++ [qd_L cy ao (vp_updL o 0 x)] := by
    rw [List.set_append_right _ _ (Nat.le_refl _), Nat.sub_self]; rfl
  rw [e] at h1 h2
  exact kk H1 locs1 ⟨h1, V.2.1, h2, h3, V.2.2.2.2⟩
variable {lv : List (Nat × Value)} {y : MethodName} {bytes : ByteArray} {maxL mc ms n index ci q0 N : Nat} {ret : Option FieldType} {wsy ws0 : List Cond} {rm : Room} {C : String} {T : u_T} {b : Addr} {As st0 st1 : List Value} {fs : List Value} {α : Type} {ro : Option α} {rv : α → Option Value} {W9 : α → va_W}
/-- the class's method is called over the front of the world, and its throw caught -/
theorem qd_cX {x : ExceptionTableEntry} (S0 : CallFix p m c cc nL s args qw_big RL) (V : qw_V D cy A s (wc ++ wr) H locs) (hl : lv_has ls nL lv) (q0 : Nat) (he : wc[q0]? = some (b, .inr (ci, fs))) (hc : vwCl[ci]? = some (C, T, N))
    (hM : vx_Met l y wsy rm (va_Pc (.ref b :: As) (qw_Pre D cy wc H.size)) (qx_Q ro rv W9 D (va_A wc H.size)) (qx_X ro D wc (va_A wc H.size)) 1 6 (va_A wc H.size)) (hG : GoodIn qw_big (wsV RL index C y wsy)) (hw : wsy = Cond.code y bytes maxL ret :: ws0) (hrm : rm.cells = 1 ∧ rm.slots = 6)
    (hd : y.cls = C ∧ y.cls ≠ "java/lang/invoke/MethodHandle" ∧ y.cls ≠ "java/lang/invoke/VarHandle" ∧ (parseMethodDescriptor y.desc).map (fun d => d.parameters.length) = some n) (hR : rm.frames + 1 ≤ R.frames ∧ 8 + (maxL + 11) + rm.locals ≤ R.locals)
    (hn : As.length = n) (hstk : st0 = As.reverse ++ .ref b :: rest) (hro : (rest.map fun v => v.category).sum ≤ 8) (hf : cells + 1 ≤ R.cells ∧ slots + 6 ≤ R.slots) (hdg : decode cc pc = .ok (.invokevirtual index, 3))
    (htab : c.exceptionTable.toList = [x]) (hcov : covers x pc = true) (h13 : x.catchType = 13)
    (k1 : ∀ (v : α) (H1 : Heap) (locs1 : List Loc), ro = some v → qw_V D cy A s (W9 v ++ wr) H1 locs1 → W p l e R s m args below meth c H1 locs1 (cells + 1) (slots + 6) Q (F0 m (pc + 3) ls ((rv v).toList ++ rest)))
    (k2 : ∀ (q : Nat) (H1 : Heap) (locs1 : List Loc), ro = none → qw_V D cy A s (wc ++ wr) H1 locs1 → W p l e R s m args below meth c H1 locs1 (cells + 1) (slots + 6) Q (F0 m x.handlerPc ls [.ref q])) : W p l e R s m args below meth c H locs cells slots Q (F0 m pc ls st0) := by
  intro T0 hT X
  have hS := V.2.2.2.1
  have hF := qd_free V.2.2.1 hS V.2.2.2.2.1
  have hrec : ∃ cell : Cell, H[b]? = some cell ∧ cell.vm.isStatics = false ∧ s.vm.findClass C = some cell.cls := va_recv V.2.1 (ws := wc) (fun k x hx => V.1 k x (qd_left hx)) hc he
  rcases vx_runV S0 hM (cwV n S0.2.2.2.2 hG hw hrm.1 hrm.2 hd hR) ⟨qw_Pre.calling, hrec, fun U hU hW => ⟨rfl, qd_pre V U hU hW⟩⟩ rfl hn hl.1 hstk (lv_room hro) hdg hf T0 hT X with ⟨v, st₀, t, T', L, h0, X', hL, e1, e2, ⟨w, hrw, hv, hP1, hD1, hz, hk⟩, st⟩ | ⟨q, st₀, t, T', L, E, ce, h0, X', hL, e1, e2, ⟨rfl, hrn, hP1, hFr⟩, hce, hcv, hcl, st⟩
  · cases hv
    obtain ⟨k3, k4, k5⟩ := vx_keep h0 e1 hS (fun q _ h => hF q h) hF hL ⟨hz, hk⟩
    obtain ⟨jP, jD⟩ := qd_join (H1 := T'.heap) V.1 V.2.2.1 k4 hF (by rw [e1]; exact hP1) hD1
    obtain ⟨t2, a1, b1⟩ := k1 w T'.heap (locs ++ L) hrw ⟨jP, V.2.1, jD, k5, V.2.2.2.2⟩ T' rfl X'
    exact ⟨t2, st t2 a1, b1⟩
  · obtain ⟨k3, k4, k5⟩ := vx_keep h0 e1 hS (fun q _ h => hF q h) hF hL hFr
    obtain ⟨jP, jD⟩ := qd_join (H1 := T'.heap) V.1 V.2.2.1 k4 hF (by rw [e1]; exact hP1) ⟨fun i j x y hi hj h => V.2.2.1.1 i j x y (qd_left hi) (qd_left hj) h, fun k x hx => Or.inl ⟨k, x.2, hx⟩⟩
    have kc := vx_catch (name := qx_E) (E := qx_E) (rest := rest) (pc := pc) S0.2.2.2.1 [] x [] htab (fun z h => nomatch h) hcov (by rw [h13]; decide) (by rw [h13]; exact S0.2.2.2.2 _ kcl_L_13) (va_Nw.use rfl V.2.2.2.2.2.2.2.2.2.2.2.2.2.2.2.2.1) (H := T'.heap) (by rw [e1]; exact hce) hcv hcl (k2 q T'.heap (locs ++ L) hrn ⟨jP, V.2.1, jD, k5, V.2.2.2.2⟩)
    obtain ⟨t2, a1, b1⟩ := kc T' rfl X'
    exact ⟨t2, st.trans a1, b1⟩
theorem qd_ret0 {Z : Nat → Prop} {W0 : va_W} {Wv : α → va_W} (S0 : CallFix p m c cc nL s args qw_big own) (hr : meth.sig.returnType = some .int) (hlocks : meth.locks = false) (hQ : Q = vx_MQ below (qd_Q ro W0 Wv D Z) qd_X args s cells slots Z) (hro : ro = none) (V : qw_V D cy Z s W0 H locs) (hdg : decode cc pc = .ok (.ireturn, 1)) :
    W p l e R s m args below meth c H locs cells slots Q (F0 m pc ls [.int 1]) := by
  subst hQ
  exact vx_ret (W.iret S0.1 S0.2.1 hr (fun t ht hW => Or.inl ⟨hro, rfl, by rw [ht]; exact V.1, V.2.2.1, V.2.2.2.1.F ht⟩) V.2.2.2.1.2.2 hdg hlocks)
theorem qd_ret1 {Z : Nat → Prop} {W0 : va_W} {Wv : α → va_W} {v : α} (S0 : CallFix p m c cc nL s args qw_big own) (hr : meth.sig.returnType = some .int) (hlocks : meth.locks = false) (hQ : Q = vx_MQ below (qd_Q ro W0 Wv D Z) qd_X args s cells slots Z) (hro : ro = some v) (V : qw_V D cy Z s (Wv v) H locs) (hdg : decode cc pc = .ok (.ireturn, 1)) :
    W p l e R s m args below meth c H locs cells slots Q (F0 m pc ls [.int 0]) := by
  subst hQ
  exact vx_ret (W.iret S0.1 S0.2.1 hr (fun t ht hW => Or.inr ⟨v, hro, rfl, by rw [ht]; exact V.1, V.2.2.1, V.2.2.2.1.F ht⟩) V.2.2.2.1.2.2 hdg hlocks)
end QD
