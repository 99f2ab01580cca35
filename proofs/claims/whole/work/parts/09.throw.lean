/-! methods that may throw -/
abbrev qx_E : String := "java/lang/IndexOutOfBoundsException"
def qx_Q {α : Type} (ro : Option α) (rv : α → Option Value) (W9 : α → va_W) (D : va_G) (A1 : Nat → Prop) : Array Value → State → Outcome → State → Prop := fun a st oc t => ∃ v, ro = some v ∧ qw_Q (rv v) D (W9 v) A1 a st oc t
def qx_X {α : Type} (ro : Option α) (D : va_G) (ws : va_W) (A1 : Nat → Prop) : String → State → State → Prop := fun E st t => E = qx_E ∧ ro = none ∧ va_P D vwCl ws t.heap ∧ va_F A1 st t
theorem qx_of {l : Launch} {y : MethodName} {rm : Room} {Qc : Array Value → State → Outcome → State → Prop} {XC : String → State → State → Prop} {mc ms : Nat} {free : Addr → Prop} {cc : ByteArray} {maxL : Nat} {ret : Option FieldType} {D : va_G} {cy : Nat → ClassId} {ws : va_W} {sz : Nat} {av : List Value}
    (hy : plainName y.cls = true) (hav : (lg_sl av).length ≤ maxL)
    (body : ∀ (p : Program) (e : Env) (s : State) (m : MethodId) (args : Array Value) (below : List Frame) (meth : Method) (c : Code) (ls : Array Slot), CallFix p m c cc maxL s args qw_big y.cls → meth.sig.returnType = ret → meth.locks = false → (∀ x ∈ c.exceptionTable.toList, False) → s.heap.size = sz → qw_V D cy (va_A ws sz) s ws s.heap [] → lv_has ls maxL (lv_args 0 av) →
      W p l e rm s m args below meth c s.heap [] 0 0 (vx_MQ below Qc XC args s mc ms free) (F0 m 0 ls [])) : vx_Met l y (Cond.code y cc maxL ret :: qw_big) rm (va_Pc av (qw_Pre D cy ws sz)) Qc XC mc ms free := by
  refine vx_ofW (cc := cc) (maxL := maxL) (ret := ret) hy rfl ?_
  intro p e s m args below meth c s₁ B hml htab hv
  obtain ⟨rfl, hsz, hP, hK, hD0, hE⟩ := hv
  rw [lg_entry_eq]
  exact body p e s m _ below meth c _ ⟨B.exec, B.bytes, hml, findClass_of_methodNamed B.named, fun w h => atoms_spec (ws := Cond.code y cc maxL ret :: qw_big) B.pre w (List.mem_cons_of_mem _ h)⟩ B.returns B.notSynchronized htab hsz ⟨hP, hK, by have := hD0.self (sz := sz); exact this, va_S.rf, fun q h => Or.inr (by rw [hsz] at h; exact h), hE⟩ (lv_entry av hav)
theorem qx_bad : ∀ w ∈ (vx_atS RX7 342 qx_E ["java/lang/RuntimeException", "java/lang/Exception"]).filter (fun w => !goodWord w), w ∈ [Cond.castable qx_E qx_E, Cond.declares (Bundle.initS "java/lang/RuntimeException"), Cond.declares (Bundle.initS "java/lang/Exception"), Cond.declares (Bundle.initS Bundle.tN)] := by decide +kernel
theorem qx_hgood : ∀ w ∈ Cond.classLink RX7 338 qx_E :: Cond.initialized qx_E :: vx_atS RX7 342 qx_E ["java/lang/RuntimeException", "java/lang/Exception"], vx_ot w = true := by decide +kernel
theorem qx_fit : ∀ n ∈ ["java/lang/RuntimeException", "java/lang/Exception"], Bundle.fit n = true := by decide +kernel
section QX
variable {p : Program} {l : Launch} {e : Env} {R : Room} {s : State} {m : MethodId} {args : Array Value} {below : List Frame} {meth : Method} {c : Code} {H : Heap} {locs : List Loc} {cells slots : Nat} {Q : State → Prop}
variable {cc : ByteArray} {pc nL : Nat} {ls : Array Slot} {rest st0 : List Value} {D : va_G} {cy : Nat → ClassId} {Z : Nat → Prop} {ws ws' : va_W} {own : String} {lv : List (Nat × Value)}
theorem qx_atS {A : Nat → Prop} (hts : ∀ w ∈ qw_big, w.before args s = true) (hE : qe_E A s) : ∀ w ∈ vx_atS RX7 342 qx_E ["java/lang/RuntimeException", "java/lang/Exception"], w.before args s = true :=
  vx_hat (fun w h => hts w (qm_thr w h)) qx_bad (vx_c (va_Nw.use rfl hE.2.2.2.2.2.2.2.2.2.2.2.1) (vx_c (va_Nw.use rfl hE.2.2.2.2.2.2.2.2.2.2.2.2.1) (vx_c (va_Nw.use rfl hE.2.2.2.2.2.2.2.2.2.2.2.2.2.1) (vx_c (va_Nw.use rfl hE.2.2.2.2.2.2.2.2.2.2.2.2.2.2.1) vx_n))))
def rm_X7_need : Room := { frames := 6, cells := 1, slots := 6, locals := 82 }
def rm_X7_need0 : Room := { frames := 0, cells := 0, slots := 0, locals := 0 }
abbrev wz_X7_need : List Cond := Cond.code yX7_need cX7_need 1 none :: qw_big
def qx_N (D : va_G) (ws : va_W) (A1 : Nat → Prop) : String → State → State → Prop := fun E st t => E = qx_E ∧ va_P D vwCl ws t.heap ∧ va_F A1 st t
set_option maxHeartbeats 4000000 in
theorem x_X7_need (hst : l.stackTraces = false) {sz : Nat} {p1 : Int32} (hp : p1 = 0) : vx_Met l yX7_need wz_X7_need rm_X7_need (va_Pc [.int p1] (qw_Pre D cy ws sz)) (fun _ _ _ _ => False) (qx_N D ws (va_A ws sz)) 1 6 (va_A ws sz) := by
  refine qx_of (cc := cX7_need) (maxL := 1) (ret := none) (by decide) (Nat.le_of_ble_eq_true rfl) ?_
  intro p e s m args below meth c ls S0 hr hlocks htab hsz V hl
  have S0 : CallFix p m c cX7_need 1 s args qw_big RX7 := S0
  have hx := S0.1; have hb := S0.2.1; have hown := S0.2.2.2.1; have hts := S0.2.2.2.2
  have hl : lv_has ls 1 [(0, .int p1)] := hl
  have hE := V.2.2.2.2.2
  obtain ⟨sa, hsa⟩ := hE.2.1
  refine lv_iload_n hx hb dX7_need_0 rfl (lv_at hl 0 rfl) ?_
  refine lv_if_ne (tgt := 15) hx hb dX7_need_1 (by decide) (fun c9 => absurd hp c9) (fun _ => ?_)
  refine W.eq (g2 := F0 m 4 ls []) rfl ?_
  refine vx_throwSW (own := RX7) (cls := qx_E) (ik := 338) (ic := 342) (is := 340) (names := ["java/lang/RuntimeException", "java/lang/Exception"]) hx hb hst hown (by decide +kernel) qx_fit (hts _ kcl_X7_338) (hts _ km_ioobe) hsa (qx_atS hts hE) qx_hgood hE.2.2.1 hE.2.2.2.1 V.2.2.2.1 (hl.1.trans S0.2.2.1.symm) dX7_need_4 dX7_need_7 dX7_need_8 dX7_need_11 dX7_need_14 (fun x h => (htab x h).elim) (by decide) (by decide) (by decide) (by decide) hlocks ?_ (fun z h => by cases h) (by decide) (by decide)
  intro t hv hz hk
  exact ⟨rfl, V.1.kept (fun k q h => hk q.1 (V.1 k q h).lt), hz, fun q h1 _ => hk q h1⟩
theorem c_X7_need (l : Launch) {sz : Nat} {p1 : Int32} (hp : ¬ p1 = 0) : Met l yX7_need wz_X7_need rm_X7_need0 (va_Pc [.int p1] (qw_Pre D cy ws sz)) (qw_R none) 0 0 (fun _ => False) := by
  refine qw_of (cc := cX7_need) (maxL := 1) (ret := none) (by decide) (Nat.le_of_ble_eq_true rfl) ?_
  intro p e s m args below meth c ls S0 hr hlocks hsz V hl
  have S0 : CallFix p m c cX7_need 1 s args qw_big RX7 := S0
  have hx := S0.1; have hb := S0.2.1
  have hl : lv_has ls 1 [(0, .int p1)] := hl
  refine lv_iload_n hx hb dX7_need_0 rfl (lv_at hl 0 rfl) ?_
  refine lv_if_ne (tgt := 15) hx hb dX7_need_1 (by decide) (fun _ => ?_) (fun c9 => absurd c9 hp)
  exact qw_vretR S0 hr hlocks rfl dX7_need_15
theorem kd_X7_need : yX7_need.cls ≠ "java/lang/invoke/MethodHandle" ∧ yX7_need.cls ≠ "java/lang/invoke/VarHandle" ∧ (parseMethodDescriptor yX7_need.desc).map (fun d => d.parameters.length) = some 1 := by decide +kernel
/-- need throws, and so its caller -/
theorem qx_thr (hst : l.stackTraces = false) {index mc ms : Nat} {p1 : Int32} {Qc : Array Value → State → Outcome → State → Prop} {XC : String → State → State → Prop} (hQ : Q = vx_MQ below Qc XC args s mc ms Z) (S0 : CallFix p m c cc nL s args qw_big own) (V : qw_V D cy Z s ws H locs) (hl : lv_has ls nL lv) (hp : p1 = 0)
    (hG : GoodIn qw_big (va_wsS own index yX7_need wz_X7_need)) (hR : rm_X7_need.frames + 1 ≤ R.frames ∧ 8 + (1 + 11) + rm_X7_need.locals ≤ R.locals) (hro : (rest.map fun v => v.category).sum ≤ 8) (hf : cells + 1 ≤ R.cells ∧ slots + 6 ≤ R.slots) (hdg : decode cc pc = .ok (.invokestatic index, 3))
    (hc : cells + 1 ≤ mc) (hs : slots + 6 ≤ ms) (hlocks : meth.locks = false) (htab : ∀ x ∈ c.exceptionTable.toList, False) (hX : ∀ t : State, va_P D vwCl ws t.heap → va_F Z s t → XC qx_E s t) : W p l e R s m args below meth c H locs cells slots Q (F0 m pc ls (.int p1 :: rest)) := by
  subst hQ
  have hr := vx_runS (l := l) (g := F0 m pc ls (.int p1 :: rest)) (H := H) (locs := locs) (cells := cells) (slots := slots) (R := R) (below := below) (meth := meth) (e := e) (As := [.int p1]) (rest := rest) S0 (x_X7_need hst (D := D) (cy := cy) (ws := ws) (sz := H.size) hp) (va_cwS 1 S0.2.2.2.2 hG rfl rfl rfl kd_X7_need hR) ⟨qw_Pre.calling, fun U hU hW => ⟨rfl, V.pre U hU hW⟩⟩ rfl rfl hl.1 rfl (lv_room hro) hdg hf
  intro T hT X
  rcases hr T hT X with ⟨v, st₀, t, T', L, h0, X', hL, e1, e2, hfa, st⟩ | ⟨q, st₀, t, T', L, E, ce, h0, X', hL, e1, e2, ⟨rfl, hP1, hF⟩, hce, hcv, hcl, st⟩
  · exact hfa.elim
  · obtain ⟨k1, k2, k3⟩ := vx_keep h0 e1 V.2.2.2.1 (fun q _ h => V.sub q h) V.sub hL hF
    obtain ⟨t2, a1, b1⟩ := vx_out (ls := ls) (rest := rest) (pc := pc) (Qc := Qc) (XC := XC) (E := qx_E) (ce := ce) (q := q) (mc := mc) (ms := ms) (free := Z) (H := T'.heap) (locs := locs ++ L) (cells := cells + 1) (slots := slots + 6) (p := p) (l := l) (e := e) (R := R) (s := s) (m := m) (args := args) (below := below) (meth := meth) (c := c) (fun x h => (htab x h).elim) hlocks (by rw [e1]; exact hce) hcv hcl (fun t9 h9 _ => hX t9 (by rw [h9, e1]; exact hP1) (k3.F h9)) k3.2.2 hc hs T' rfl X'
    exact ⟨t2, st.trans a1, b1⟩
theorem qx_ireti {α : Type} {ro : Option α} {rv : α → Option Value} {W9 : α → va_W} {XC : String → State → State → Prop} (hQ : Q = vx_MQ below (qx_Q ro rv W9 D Z) XC args s 1 6 Z) (S0 : CallFix p m c cc nL s args qw_big own) (hr : meth.sig.returnType = some .int) (hlocks : meth.locks = false) {v : Int32} {v9 : α} (hE : some v9 = ro) (hv : rv v9 = some (.int v)) (hw : ws' = W9 v9) (V : qw_V D cy Z s ws' H locs) (hdg : decode cc pc = .ok (.ireturn, 1)) :
    W p l e R s m args below meth c H locs 0 0 Q (F0 m pc ls [.int v]) := by
  subst hQ; subst hw
  refine vx_ret (W.widen (k := 1) (n := 6) (Nat.zero_le _) (Nat.zero_le _) ?_)
  exact W.iret S0.1 S0.2.1 hr (fun t ht hW => ⟨v9, hE.symm, by rw [hv], by rw [ht]; exact V.1, V.2.2.1, V.2.2.2.1.F ht⟩) V.2.2.2.1.2.2 hdg hlocks
theorem qx_zreti {α : Type} {ty : FieldType} {ro : Option α} {rv : α → Option Value} {W9 : α → va_W} {XC : String → State → State → Prop} (hQ : Q = vx_MQ below (qx_Q ro rv W9 D Z) XC args s 1 6 Z) (S0 : CallFix p m c cc nL s args qw_big own) (hr : meth.sig.returnType = some ty) (hlocks : meth.locks = false) {v : Int32} (hnr : narrow ty (.int v) = .int v) {v9 : α} (hE : some v9 = ro) (hv : rv v9 = some (.int v)) (hw : ws' = W9 v9) (V : qw_V D cy Z s ws' H locs) (hdg : decode cc pc = .ok (.ireturn, 1)) :
    W p l e R s m args below meth c H locs 0 0 Q (F0 m pc ls [.int v]) := by
  subst hQ; subst hw
  refine vx_ret (W.widen (k := 1) (n := 6) (Nat.zero_le _) (Nat.zero_le _) ?_)
  exact W.zret S0.1 S0.2.1 hr hnr (fun t ht hW => ⟨v9, hE.symm, by rw [hv], by rw [ht]; exact V.1, V.2.2.1, V.2.2.2.1.F ht⟩) V.2.2.2.1.2.2 hdg hlocks
end QX
