/-! constructors: rows for what is made -/
theorem va_RA.nm {U : State} {cA : ClassId} {ty : FieldType} (h : va_RA U cA ty) : U.vm.findClass ("[" ++ ty.toString) = some cA := by
  cases ty with
  | object C => obtain ⟨_, _, _, _, _, h⟩ := h; exact h
  | _ => exact h
theorem qc_same {D : va_G} {cy : Nat → ClassId} {s : State} {cA c0 : ClassId} {ty : FieldType} (hK : va_K D vwCl (qw_T cy ++ [(cA, ty)]) s) (i : Nat) (hi : (qw_T cy)[i]? = some (c0, ty)) : cA = c0 := by
  have h1 := (hK.2 5 (cA, ty) rfl).2.nm
  have h2 := (hK.2 i (c0, ty) (by rw [List.getElem?_append_left (List.getElem?_eq_some_iff.mp hi).1]; exact hi)).2.nm
  exact Option.some.inj (h1.symm.trans h2)
def qc_Q (D : va_G) (Wf : (Nat → Nat) → va_W) (A1 : Nat → Prop) : Array Value → State → Outcome → State → Prop := fun _ st oc t => oc = .returned none ∧ ∃ r : Nat → Nat, va_P D vwCl (Wf r) t.heap ∧ va_D A1 (Wf r) ∧ va_F A1 st t
theorem qc_apart {D : va_G} {A0 : Nat → Prop} {wr : va_W} {q : Nat} {e : va_E} {H : Heap} (hP : va_P D vwCl (wr ++ [(q, e)]) H) (hD : va_D A0 (wr ++ [(q, e)])) : ∀ (k : Nat) (x : Nat × va_E), wr[k]? = some x → x.1 < H.size ∧ ¬ va_A [(q, e)] H.size x.1 := by
  intro k x hx
  have hkl := (List.getElem?_eq_some_iff.mp hx).1
  have h1 : (wr ++ [(q, e)])[k]? = some x := by rw [List.getElem?_append_left hkl]; exact hx
  have hl := (hP k x h1).lt
  refine ⟨hl, fun h => ?_⟩
  rcases h with ⟨k2, e2, h⟩ | h
  · have h0 : k2 < 1 := (List.getElem?_eq_some_iff.mp h).1
    rw [show k2 = 0 by omega] at h
    have hxq : x.1 = q := by
      have h3 : (q, e) = (x.1, e2) := Option.some.inj h
      exact (congrArg Prod.fst h3).symm
    have h2 : (wr ++ [(q, e)])[wr.length]? = some (q, e) := by rw [List.getElem?_append_right (Nat.le_refl _), Nat.sub_self]; rfl
    have := hD.1 k wr.length x (q, e) h1 h2 hxq
    omega
  · omega
theorem qc_last {α : Type} {wr : List α} {x : α} : (wr ++ [x])[wr.length]? = some x := by rw [List.getElem?_append_right (Nat.le_refl _), Nat.sub_self]; rfl
theorem qc_free {D : va_G} {A0 : Nat → Prop} {wr : va_W} {q : Nat} {e : va_E} {H0 H : Heap} {locs : List Loc} (hD : va_D A0 (wr ++ [(q, e)])) (hS : va_S A0 H0 H locs) (hA : ∀ a, H0.size ≤ a → A0 a) : ∀ a, va_A [(q, e)] H.size a → A0 a := by
  intro a h
  rcases h with ⟨k2, e2, h⟩ | h
  · have h0 : k2 < 1 := (List.getElem?_eq_some_iff.mp h).1
    rw [show k2 = 0 by omega] at h
    have h3 : (q, e) = (a, e2) := Option.some.inj h
    have h4 : q = a := congrArg Prod.fst h3
    subst h4
    exact hD.2 wr.length (q, e) qc_last
  · exact hA a (Nat.le_trans hS.1 h)
theorem qc_join {D : va_G} {A0 : Nat → Prop} {wr w1 : va_W} {q : Nat} {e : va_E} {H H1 : Heap} (hP : va_P D vwCl (wr ++ [(q, e)]) H) (hD : va_D A0 (wr ++ [(q, e)])) (hk : ∀ a : Nat, a < H.size → ¬ va_A [(q, e)] H.size a → H1[a]? = H[a]?) (hF : ∀ a, va_A [(q, e)] H.size a → A0 a) (hP1 : va_P D vwCl w1 H1) (hD1 : va_D (va_A [(q, e)] H.size) w1) : va_P D vwCl (wr ++ w1) H1 ∧ va_D A0 (wr ++ w1) := by
  have ap := qc_apart hP hD
  have hL : ∀ (k : Nat) (x : Nat × va_E), wr[k]? = some x → (wr ++ [(q, e)])[k]? = some x := fun k x hx => by rw [List.getElem?_append_left (List.getElem?_eq_some_iff.mp hx).1]; exact hx
  refine ⟨va_P.app (fun k x hx => (hP k x (hL k x hx)).kept (hk x.1 (ap k x hx).1 (ap k x hx).2)) hP1, va_D.app ⟨fun i j x y hi hj h => hD.1 i j x y (hL i x hi) (hL j y hj) h, fun k x hx => hD.2 k x (hL k x hx)⟩ ⟨hD1.1, fun k x hx => hF x.1 (hD1.2 k x hx)⟩ (fun i j x y hx hy hxy => ?_)⟩
  exact (ap i x hx).2 (by rw [hxy]; exact hD1.2 j y hy)
section QC
variable {p : Program} {l : Launch} {e : Env} {R : Room} {s : State} {m : MethodId} {args : Array Value} {below : List Frame} {meth : Method} {c : Code} {H : Heap} {locs : List Loc} {cells slots : Nat} {Q : State → Prop}
variable {cc : ByteArray} {pc nL : Nat} {ls : Array Slot} {rest : List Value} {D : va_G} {cy : Nat → ClassId} {A : Nat → Prop} {a : Nat} {ws ws' : va_W} {own : String}
theorem qc_of {l : Launch} {y : MethodName} {rm : Room} {Qc : Array Value → State → Outcome → State → Prop} {mc ms : Nat} {free : Addr → Prop} {cc : ByteArray} {maxL : Nat} {ret : Option FieldType} {D : va_G} {cy : Nat → ClassId} {ws : va_W} {sz : Nat} {av : List Value}
    (hy : plainName y.cls = true) (hav : (lg_sl av).length ≤ maxL)
    (body : ∀ (p : Program) (e : Env) (s : State) (m : MethodId) (args : Array Value) (below : List Frame) (meth : Method) (c : Code) (ls : Array Slot), CallFix p m c cc maxL s args qw_big y.cls → meth.name = y.name → meth.sig.returnType = ret → meth.locks = false → s.heap.size = sz → qw_V D cy (va_A ws sz) s ws s.heap [] → lv_has ls maxL (lv_args 0 av) →
      W p l e rm s m args below meth c s.heap [] 0 0 (MQ below Qc args s mc ms free) (F0 m 0 ls [])) : Met l y (Cond.code y cc maxL ret :: qw_big) rm (va_Pc av (qw_Pre D cy ws sz)) Qc mc ms free := by
  refine Met.ofW (cc := cc) (maxL := maxL) (ret := ret) hy rfl ?_
  intro p e s m args below meth c s₁ B hml hv
  obtain ⟨rfl, hsz, hP, hK, hD0, hE⟩ := hv
  rw [lg_entry_eq]
  exact body p e s m _ below meth c _ ⟨B.exec, B.bytes, hml, findClass_of_methodNamed B.named, fun w h => atoms_spec (ws := Cond.code y cc maxL ret :: qw_big) B.pre w (List.mem_cons_of_mem _ h)⟩ (name_of_methodNamed B.named B.method).1 B.returns B.notSynchronized hsz ⟨hP, hK, by have := hD0.self (sz := sz); exact this, va_S.rf, fun q h => Or.inr (by rw [hsz] at h; exact h), hE⟩ (lv_entry av hav)
theorem qc_newa (S0 : CallFix p m c cc nL s args qw_big own) (V : qw_V D cy A s ws H locs) {n : Int32} {N : Nat} (hn : ¬ n < 0) (hN : n.toNatClampNeg = N) (hbytes : N * 4 ≤ 536870912) (hcells : cells + 1 ≤ R.cells) (hslots : slots + N ≤ R.slots) (hdg : decode cc pc = .ok (.newarray .int, 2))
    (kk : ∀ (q : Nat) (H1 : Heap), qw_V D cy A s (ws ++ [(q, .inl (cy 0, N, .inl (fun _ => 0)))]) H1 locs → W p l e R s m args below meth c H1 locs (cells + 1) (slots + N) Q (F0 m (pc + 2) ls (.ref q :: rest))) : W p l e R s m args below meth c H locs cells slots Q (F0 m pc ls (.int n :: rest)) := by
  refine va_newa (atype := .int) (ty := .int) (a0 := (N, .inl (fun _ => 0))) S0.1 S0.2.1 (S0.2.2.2.2 _ km_ai) rfl V.2.1 V.1 V.2.2.1 V.2.2.2.1 V.2.2.2.2.1 (fun _ => rfl) hn hN hbytes hcells hslots hdg (fun q cA H1 hK hP hD hS => ?_)
  have e := qc_same hK 0 rfl
  subst e
  exact kk q H1 ⟨hP, V.2.1, hD, hS, V.2.2.2.2⟩
theorem qc_newb (S0 : CallFix p m c cc nL s args qw_big own) (V : qw_V D cy A s ws H locs) {n : Int32} {N : Nat} (hn : ¬ n < 0) (hN : n.toNatClampNeg = N) (hbytes : N * 1 ≤ 536870912) (hcells : cells + 1 ≤ R.cells) (hslots : slots + N ≤ R.slots) (hdg : decode cc pc = .ok (.newarray .byte, 2))
    (kk : ∀ (q : Nat) (H1 : Heap), qw_V D cy A s (ws ++ [(q, .inl (cy 3, N, .inl (fun _ => 0)))]) H1 locs → W p l e R s m args below meth c H1 locs (cells + 1) (slots + N) Q (F0 m (pc + 2) ls (.ref q :: rest))) : W p l e R s m args below meth c H locs cells slots Q (F0 m pc ls (.int n :: rest)) := by
  refine va_newa (atype := .byte) (ty := .byte) (a0 := (N, .inl (fun _ => 0))) S0.1 S0.2.1 (S0.2.2.2.2 _ km_ab) rfl V.2.1 V.1 V.2.2.1 V.2.2.2.1 V.2.2.2.2.1 (fun _ => rfl) hn hN hbytes hcells hslots hdg (fun q cA H1 hK hP hD hS => ?_)
  have e := qc_same hK 3 rfl
  subst e
  exact kk q H1 ⟨hP, V.2.1, hD, hS, V.2.2.2.2⟩
theorem qc_newq (S0 : CallFix p m c cc nL s args qw_big own) (V : qw_V D cy A s ws H locs) {index : Nat} (hcl : Cond.classLink own index RX5 ∈ qw_big) {n : Int32} {N : Nat} (hn : ¬ n < 0) (hN : n.toNatClampNeg = N) (hbytes : N * 4 ≤ 536870912) (hcells : cells + 1 ≤ R.cells) (hslots : slots + N ≤ R.slots) (hdg : decode cc pc = .ok (.anewarray index, 3))
    (kk : ∀ (q : Nat) (H1 : Heap), qw_V D cy A s (ws ++ [(q, .inl (cy 1, N, .inr (.inr (.inr (.inr (fun _ => none))))))]) H1 locs → W p l e R s m args below meth c H1 locs (cells + 1) (slots + N) Q (F0 m (pc + 3) ls (.ref q :: rest))) : W p l e R s m args below meth c H locs cells slots Q (F0 m pc ls (.int n :: rest)) := by
  refine va_newq S0.1 S0.2.1 S0.2.2.2.1 (S0.2.2.2.2 _ hcl) V.2.2.2.2.2.2.2.2.2.2.2.2.2.2.1 V.2.1 V.1 V.2.2.1 V.2.2.2.1 V.2.2.2.2.1 hn hN hbytes hcells hslots hdg (fun q cA H1 hK hP hD hS => ?_)
  have e := qc_same hK 1 rfl
  subst e
  exact kk q H1 ⟨hP, V.2.1, hD, hS, V.2.2.2.2⟩
theorem qc_new (S0 : CallFix p m c cc nL s args qw_big own) (V : qw_V D cy A s ws H locs) {C : String} {T : u_T} {N ci index : Nat} (hin : ∀ w ∈ u_ws C T N, w ∈ qw_big) (ty : Nat → FieldType) (hty : ∀ k, k < N → parseFieldDescriptor (T k).2.2.1 = some (ty k)) (hcl : Cond.classLink own index C ∈ qw_big) (hinst : Cond.instantiable C N ∈ qw_big) (hini : Cond.initialized C ∈ qw_big) (hc : vwCl[ci]? = some (C, T, N)) {fs : List Value} (hfs : ∀ j, j < N → defaultValue (ty j) = vp_V fs j) (hcells : cells + 1 ≤ R.cells) (hslots : slots + N ≤ R.slots) (hdg : decode cc pc = .ok (.new index, 3))
    (kk : ∀ (q : Nat) (H1 : Heap), qw_V D cy A s (ws ++ [(q, .inr (ci, fs))]) H1 locs → W p l e R s m args below meth c H1 locs (cells + 1) (slots + N) Q (F0 m (pc + 3) ls (.ref q :: rest))) : W p l e R s m args below meth c H locs cells slots Q (F0 m pc ls rest) :=
  va_new S0.1 S0.2.1 S0.2.2.2.2 hin ty hty S0.2.2.2.1 (S0.2.2.2.2 _ hcl) (S0.2.2.2.2 _ hinst) (S0.2.2.2.2 _ hini) V.2.1 V.1 V.2.2.1 V.2.2.2.1 V.2.2.2.2.1 hc hfs hcells hslots hdg (fun q H1 hP hD hS => kk q H1 ⟨hP, V.2.1, hD, hS, V.2.2.2.2⟩)
theorem qc_put (S0 : CallFix p m c cc nL s args qw_big own) (V : qw_V D cy A s ws H locs) {ref C : String} {T : u_T} {N ci index : Nat} (hin : ∀ w ∈ u_ws C T N, w ∈ qw_big) (ty0 : Nat → FieldType) (hty : ∀ k, k < N → parseFieldDescriptor (T k).2.2.1 = some (ty0 k)) (hnm : ∀ a, a < N → ∀ b, b < N → a ≠ b → (T a).2.1 ≠ (T b).2.1) (hin2 : meth.name = "<init>") (q0 : Nat) {fs : List Value} (he : ws[q0]? = some (a, .inr (ci, fs))) (hc : vwCl[ci]? = some (C, T, N)) (k : Nat) (hk : k < N)
    (hlink : Cond.fieldLink own index ref (T k).2.1 (T k).2.2.1 ∈ qw_big) (hsame : ∀ x, s.fieldFound? (T k).1 (T k).2.1 (T k).2.2.1 = some x → s.fieldFound? ref (T k).2.1 (T k).2.2.1 = some x) (hdecl : (T k).1 = own) {ty : FieldType} {v : Value} (hd : ty0 k = ty) (hn : narrow ty v = v) (hfit : fits ty v = true) (hl : k < fs.length)
    (hs : ws.set q0 (a, .inr (ci, fs.set k v)) = ws') (hdg : decode cc pc = .ok (.putfield index, 3))
    (kk : ∀ (H1 : Heap) (locs1 : List Loc), qw_V D cy A s ws' H1 locs1 → W p l e R s m args below meth c H1 locs1 cells slots Q (F0 m (pc + 3) ls rest)) : W p l e R s m args below meth c H locs cells slots Q (F0 m pc ls (v :: .ref a :: rest)) := by
  subst hs
  by_cases hfin : (T k).2.2.2 = true
  · exact va_putF S0.1 S0.2.1 S0.2.2.2.2 hin ty0 hty hnm S0.2.2.2.1 V.2.1 V.1 V.2.2.1 V.2.2.2.1 q0 he hc k hk (S0.2.2.2.2 _ hlink) hsame hfin hin2 hdecl (by rw [← hd]; exact hty k hk) hn hfit hl hdg (fun H1 locs1 h1 h2 h3 => kk H1 locs1 ⟨h1, V.2.1, h2, h3, V.2.2.2.2⟩)
  · exact va_put S0.1 S0.2.1 S0.2.2.2.2 hin ty0 hty hnm S0.2.2.2.1 V.2.1 V.1 V.2.2.1 V.2.2.2.1 q0 he hc k hk (S0.2.2.2.2 _ hlink) hsame (by cases h : (T k).2.2.2 with | true => exact absurd h hfin | false => rfl) (by rw [← hd]; exact hty k hk) hn hfit hl hdg (fun H1 locs1 h1 h2 h3 => kk H1 locs1 ⟨h1, V.2.1, h2, h3, V.2.2.2.2⟩)
theorem qc_oi (S0 : CallFix p m c cc nL s args qw_big own) (hsz : ls.size = nL) {index : Nat} (hlink : Cond.methodLink own index objectInit ∈ qw_big) (hf : 1 ≤ R.frames) (hlo : 12 ≤ R.locals) (hdg : decode cc pc = .ok (.invokespecial index, 3)) (kk : W p l e R s m args below meth c H locs cells slots Q (F0 m (pc + 3) ls [])) : W p l e R s m args below meth c H locs cells slots Q (F0 m pc ls [.ref a]) := by
  refine W.objInit S0.1 S0.2.1 S0.2.2.2.1 (S0.2.2.2.2 _ hlink) (S0.2.2.2.2 _ km_oi_i) (S0.2.2.2.2 _ km_oi_c) rfl (by rw [S0.2.2.1]; exact hsz) rfl hdg hf hlo ?_
  exact W.eq (g2 := F0 m (pc + 3) ls []) rfl kk
variable {lv : List (Nat × Value)} {y : MethodName} {bytes : ByteArray} {maxL mc ms n index ci : Nat} {wsy ws0 wr : List Cond} {rm : Room} {b : Addr} {st0 : List Value} {ev : va_E} {Wf : (Nat → Nat) → va_W}
theorem qc_call {wr : va_W} {av : Array Value} (V : qw_V D cy A s (wr ++ [(b, ev)]) H locs) (hr : va_Run p l e R s m args below meth c H locs cells slots mc ms (F0 m pc ls st0) rest (qc_Q D Wf (va_A [(b, ev)] H.size) av) (va_A [(b, ev)] H.size))
    (kk : ∀ (H1 : Heap) (locs1 : List Loc) (r : Nat → Nat), qw_V D cy A s (wr ++ Wf r) H1 locs1 → W p l e R s m args below meth c H1 locs1 (cells + mc) (slots + ms) Q (F0 m (pc + 3) ls rest)) : W p l e R s m args below meth c H locs cells slots Q (F0 m pc ls st0) := by
  intro T hT X
  obtain ⟨v, st₀, t, T', L, h0, X', hL, e1, e2, ⟨hv, r, hP1, hD1, hz, hk⟩, st⟩ := hr T hT X
  cases hv
  rw [h0] at hz hk
  have hS := V.2.2.2.1
  have hF := qc_free (D := D) V.2.2.1 hS V.2.2.2.2.1
  obtain ⟨jP, jD⟩ := qc_join (H1 := T'.heap) V.1 V.2.2.1 (fun a h1 h2 => by rw [e1]; exact hk a h1 h2) hF (by rw [e1]; exact hP1) hD1
  obtain ⟨t2, a1, b1⟩ := kk T'.heap (locs ++ L) r ⟨jP, V.2.1, jD,
    ⟨Nat.le_trans hS.1 (by rw [e1]; exact hz), fun q h1 h2 => by rw [e1, hk q (Nat.lt_of_lt_of_le h1 hS.1) (fun z => h2 (hF q z))]; exact hS.2.1 q h1 h2, fun q hq => by
      rcases List.mem_append.mp hq with h | h
      · exact hS.2.2 q h
      · exact hF _ (hL q h)⟩, V.2.2.2.2⟩ T' rfl X'
  exact ⟨t2, st t2 a1, b1⟩
theorem qc_pre {wr : va_W} (V : qw_V D cy A s (wr ++ [(b, ev)]) H locs) (U : State) (hU : U.heap = H) (hW : s.WarmedH U.vm) : qw_Pre D cy [(b, ev)] H.size U := by
  refine ⟨by rw [hU], ?_, va_K.moved hW.alike V.2.1, ?_, V.2.2.2.2.2.pass hW hU V.2.2.2.1 (qc_free (D := D) V.2.2.1 V.2.2.2.1 V.2.2.2.2.1)⟩
  · intro k x hx
    have h0 : k < 1 := (List.getElem?_eq_some_iff.mp hx).1
    rw [show k = 0 by omega] at hx
    cases hx
    rw [hU]
    exact V.1 wr.length _ qc_last
  · refine ⟨fun i j x y hi hj _ => ?_, fun _ _ _ => trivial⟩
    have h0 : i < 1 := (List.getElem?_eq_some_iff.mp hi).1
    have h1 : j < 1 := (List.getElem?_eq_some_iff.mp hj).1
    omega
theorem qc_cI {wr : va_W} (S0 : CallFix p m c cc nL s args qw_big own) (V : qw_V D cy A s (wr ++ [(b, ev)]) H locs) (hl : lv_has ls nL lv)
    (hM : Met l y wsy rm (va_Pc [.ref b] (qw_Pre D cy [(b, ev)] H.size)) (qc_Q D Wf (va_A [(b, ev)] H.size)) mc ms (va_A [(b, ev)] H.size)) (hG : GoodIn qw_big wsy) (hw : wsy = Cond.code y bytes maxL none :: ws0) (hrm : rm.cells = mc ∧ rm.slots = ms) (hini : Cond.initialized y.cls ∈ qw_big) (hlk : Cond.methodLink own index y ∈ qw_big) (hinst : Cond.instanceMethod y ∈ qw_big) (hyn : y.name = "<init>")
    (hd : y.cls ≠ "java/lang/invoke/MethodHandle" ∧ y.cls ≠ "java/lang/invoke/VarHandle" ∧ (parseMethodDescriptor y.desc).map (fun d => d.parameters.length) = some 0) (hR : rm.frames + 1 ≤ R.frames ∧ 8 + (maxL + 11) + rm.locals ≤ R.locals)
    (hro : (rest.map fun v => v.category).sum ≤ 8) (hf : cells + mc ≤ R.cells ∧ slots + ms ≤ R.slots) (hdg : decode cc pc = .ok (.invokespecial index, 3))
    (kk : ∀ (H1 : Heap) (locs1 : List Loc) (r : Nat → Nat), qw_V D cy A s (wr ++ Wf r) H1 locs1 → W p l e R s m args below meth c H1 locs1 (cells + mc) (slots + ms) Q (F0 m (pc + 3) ls rest)) : W p l e R s m args below meth c H locs cells slots Q (F0 m pc ls (.ref b :: rest)) :=
  qc_call V (va_runI (As := []) (rest := rest) S0 hM (cwI 0 S0.2.2.2.2 hG hw hrm.1 hrm.2 (S0.2.2.2.2 _ hini) (S0.2.2.2.2 _ hlk) (S0.2.2.2.2 _ hinst) hyn hd hR) ⟨qw_Pre.calling, fun U hU hW => ⟨rfl, qc_pre V U hU hW⟩⟩ rfl rfl hl.1 rfl (lv_room hro) hdg hf) kk
theorem qc_cIN {wr : va_W} {host : String} (S0 : CallFix p m c cc nL s args qw_big own) (V : qw_V D cy A s (wr ++ [(b, ev)]) H locs) (hl : lv_has ls nL lv)
    (hM : Met l y wsy rm (va_Pc [.ref b] (qw_Pre D cy [(b, ev)] H.size)) (qc_Q D Wf (va_A [(b, ev)] H.size)) mc ms (va_A [(b, ev)] H.size)) (hG : GoodIn qw_big wsy) (hw : wsy = Cond.code y bytes maxL none :: ws0) (hrm : rm.cells = mc ∧ rm.slots = ms) (hini : Cond.initialized y.cls ∈ qw_big) (hlk : va_Nw (.methodLinkNest own index y host) s) (hinst : Cond.instanceMethod y ∈ qw_big) (hyn : y.name = "<init>")
    (hd : y.cls ≠ "java/lang/invoke/MethodHandle" ∧ y.cls ≠ "java/lang/invoke/VarHandle" ∧ (parseMethodDescriptor y.desc).map (fun d => d.parameters.length) = some 0) (hR : rm.frames + 1 ≤ R.frames ∧ 8 + (maxL + 11) + rm.locals ≤ R.locals)
    (hro : (rest.map fun v => v.category).sum ≤ 8) (hf : cells + mc ≤ R.cells ∧ slots + ms ≤ R.slots) (hdg : decode cc pc = .ok (.invokespecial index, 3))
    (kk : ∀ (H1 : Heap) (locs1 : List Loc) (r : Nat → Nat), qw_V D cy A s (wr ++ Wf r) H1 locs1 → W p l e R s m args below meth c H1 locs1 (cells + mc) (slots + ms) Q (F0 m (pc + 3) ls rest)) : W p l e R s m args below meth c H locs cells slots Q (F0 m pc ls (.ref b :: rest)) :=
  qc_call V (va_runIN (As := []) (rest := rest) S0 hM ⟨va_cnB 0 S0.2.2.2.2 hG hw hrm.1 hrm.2 hlk (S0.2.2.2.2 _ hini) hd hR, hyn, S0.2.2.2.2 _ hinst⟩ ⟨qw_Pre.calling, fun U hU hW => ⟨rfl, qc_pre V U hU hW⟩⟩ rfl rfl hl.1 rfl (lv_room hro) hdg hf) kk
theorem qc_ret {Z : Nat → Prop} {mc ms : Nat} (S0 : CallFix p m c cc nL s args qw_big own) (hr : meth.sig.returnType = none) (hlocks : meth.locks = false) (hQ : Q = MQ below (qc_Q D Wf Z) args s mc ms Z) (hc : cells = mc) (hsl : slots = ms) (r : Nat → Nat) (V : qw_V D cy Z s (Wf r) H locs) (hdg : decode cc pc = .ok (.return_, 1)) : W p l e R s m args below meth c H locs cells slots Q (F0 m pc ls []) := by
  subst hQ; subst hc; subst hsl
  exact W.vret S0.1 S0.2.1 hr (fun t ht hW => ⟨rfl, r, by rw [ht]; exact V.1, V.2.2.1, V.2.2.2.1.F ht⟩) V.2.2.2.1.2.2 hdg hlocks
theorem qc_mna (S0 : CallFix p m c cc nL s args qw_big own) (V : qw_V D cy A s ws H locs) {index : Nat} (hcl : Cond.classLink own index "[[I" ∈ qw_big) (hcells : cells + (1 + 7) ≤ R.cells) (hslots : slots + (7 + 7 * 401) ≤ R.slots) (hdg : decode cc pc = .ok (.multianewarray index 2, 4))
    (kk : ∀ (q : Nat) (r : Nat → Nat) (H1 : Heap), qw_V D cy A s (ws ++ ((q, .inl (cy 2, 7, .inr (.inr (.inr (.inr (fun j => ([some (r 0), some (r 1), some (r 2), some (r 3), some (r 4), some (r 5), some (r 6)] : List (Option Nat)).getD j none)))))) :: [(r 0, .inl (cy 0, 401, .inl (fun _ => 0))), (r 1, .inl (cy 0, 401, .inl (fun _ => 0))), (r 2, .inl (cy 0, 401, .inl (fun _ => 0))), (r 3, .inl (cy 0, 401, .inl (fun _ => 0))), (r 4, .inl (cy 0, 401, .inl (fun _ => 0))), (r 5, .inl (cy 0, 401, .inl (fun _ => 0))), (r 6, .inl (cy 0, 401, .inl (fun _ => 0)))])) H1 locs → W p l e R s m args below meth c H1 locs (cells + 1 + 7) (slots + 7 + 7 * 401) Q (F0 m (pc + 4) ls (.ref q :: rest))) : W p l e R s m args below meth c H locs cells slots Q (F0 m pc ls (.int 401 :: .int 7 :: rest)) := by
  have e9 : "[" ++ (FieldType.array FieldType.int).toString = "[[I" := by rfl
  refine va_mna (ty := .int) (cy := cy 0) (X := ws) (L := []) (f := fun _ => .inl (cy 0, 0, .inl (fun _ => 0))) (N' := 7) (K' := 401) (z := (401, .inl (fun _ => 0))) S0.1 S0.2.1 S0.2.2.2.1 (by rw [e9]; exact S0.2.2.2.2 _ hcl) V.2.2.2.2.2.2.2.2.2.2.2.2.2.2.2.1 (S0.2.2.2.2 _ km_ai) (V.2.1.2 0 _ rfl).2 V.2.1 (by show va_P D vwCl (ws ++ []) H; rw [List.append_nil]; exact V.1) (by show va_D A (ws ++ []); rw [List.append_nil]; exact V.2.2.1) V.2.2.2.1 V.2.2.2.2.1 (by decide) (by decide) rfl rfl (Nat.le_of_ble_eq_true rfl) (Nat.le_of_ble_eq_true rfl) (Nat.le_of_ble_eq_true rfl) rfl rfl hcells hslots (fun c9 => ?_) hdg (fun q r cA H1 _ _ hK hP hD hS => ?_)
  · show ({ cls := c9, slots := Array.replicate 401 (Value.int 0), vm := .none } : Cell) = arrV c9 401 (fun _ => .int 0)
    rw [arrV_new]
  have e := qc_same hK 2 rfl
  subst e
  have e1 : (fun i => if i < 7 then some (r i) else none) = (fun j => ([some (r 0), some (r 1), some (r 2), some (r 3), some (r 4), some (r 5), some (r 6)] : List (Option Nat)).getD j none) := by
    funext j
    match j with
    | 0 => rfl
    | 1 => rfl
    | 2 => rfl
    | 3 => rfl
    | 4 => rfl
    | 5 => rfl
    | 6 => rfl
    | n + 7 => rw [if_neg (by omega)]; rfl
  have e2 : va_pl ([] ++ (List.range 7).map r) (vr_up (fun _ => (.inl (cy 0, 0, .inl (fun _ => 0)) : va_E)) ((List.range 7).map r) (.inl (cy 0, (401, .inl (fun _ => 0))))) = [(r 0, .inl (cy 0, 401, .inl (fun _ => 0))), (r 1, .inl (cy 0, 401, .inl (fun _ => 0))), (r 2, .inl (cy 0, 401, .inl (fun _ => 0))), (r 3, .inl (cy 0, 401, .inl (fun _ => 0))), (r 4, .inl (cy 0, 401, .inl (fun _ => 0))), (r 5, .inl (cy 0, 401, .inl (fun _ => 0))), (r 6, .inl (cy 0, 401, .inl (fun _ => 0)))] := by
    have e3 : va_pl ([] ++ (List.range 7).map r) (vr_up (fun _ => (.inl (cy 0, 0, .inl (fun _ => 0)) : va_E)) ((List.range 7).map r) (.inl (cy 0, (401, .inl (fun _ => 0))))) = ((List.range 7).map r).map (fun a => (a, (.inl (cy 0, (401, .inl (fun _ => 0))) : va_E))) := by
      unfold va_pl
      rw [List.nil_append]
      apply List.map_congr_left
      intro a ha
      rw [vr_up_in ha]
    rw [e3]; rfl
  rw [e1, e2, List.append_assoc] at hP hD
  exact kk q r H1 ⟨hP, V.2.1, hD, hS, V.2.2.2.2⟩
theorem qc_ast (S0 : CallFix p m c cc nL s args qw_big own) (V : qw_V D cy A s ws H locs) (q0 qk : Nat) {v : Nat} {vs : List Value} {f : Nat → Option Nat} (ha : ws[q0]? = some (a, .inl (cy 1, 10, .inr (.inr (.inr (.inr f)))))) (hv : ws[qk]? = some (v, .inr (4, vs))) {i : Int32} {j : Nat} (hin : vp_in i 10) (hj : i.toNatClampNeg = j) (hs : ws.set q0 (a, .inl (cy 1, 10, .inr (.inr (.inr (.inr (va_up f j (some v))))))) = ws') (hdg : decode cc pc = .ok (.aastore, 1))
    (kk : ∀ (H1 : Heap) (locs1 : List Loc), qw_V D cy A s ws' H1 locs1 → W p l e R s m args below meth c H1 locs1 cells slots Q (F0 m (pc + 1) ls rest)) : W p l e R s m args below meth c H locs cells slots Q (F0 m pc ls (.ref v :: .int i :: .ref a :: rest)) := by
  subst hs; subst hj
  exact va_astq (r := (RX5, TX5, 15)) S0.1 S0.2.1 V.2.1 V.1 V.2.2.1 V.2.2.2.1 q0 1 qk 4 ha rfl hv rfl hin hdg (fun H1 locs1 h1 h2 h3 => kk H1 locs1 ⟨h1, V.2.1, h2, h3, V.2.2.2.2⟩)
end QC
