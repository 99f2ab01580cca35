/-! the JDK's texts: length and charAt of a text constant -/
section QS
variable {p : Program} {l : Launch} {e : Env} {R : Room} {s : State} {m : MethodId} {args : Array Value} {below : List Frame} {meth : Method} {c : Code} {H : Heap} {locs : List Loc} {cells slots : Nat} {Q : State → Prop}
variable {cc : ByteArray} {pc nL : Nat} {ls : Array Slot} {rest : List Value} {D : va_G} {cy : Nat → ClassId} {A Z : Nat → Prop} {a : Nat} {ws : va_W} {own : String}
variable {lv : List (Nat × Value)} {y : MethodName} {bytes : ByteArray} {maxL n index : Nat} {ret : Option FieldType} {wsy ws0 : List Cond} {rm : Room} {C : String} {b : Addr} {As st0 st1 : List Value} {rv : Option Value} {X : State → Prop}
theorem qs_calling {av : List Value} {sz : Nat} {X : State → Prop} (hXc : ∀ (U : State) (g : JFrame) (mk : MethodId) (a : Array Value), X U → X (U.calling g mk a)) (a : Array Value) (U : State) (g : JFrame) (mk : MethodId) (q : va_Pc av (fun U => qw_Pre D cy ws sz U ∧ X U) a U) : va_Pc av (fun U => qw_Pre D cy ws sz U ∧ X U) a (U.calling g mk a) := by
  obtain ⟨q0, q1, qX⟩ := q
  exact ⟨q0, (qw_Pre.calling (av := av) a U g mk ⟨q0, q1⟩).2, hXc U g mk a qX⟩
theorem qs_cVR (S0 : CallFix p m c cc nL s args qw_big own) (V : qw_V D cy A s ws H locs) (hl : lv_has ls nL lv) (hrc : ∃ cellB : Cell, H[b]? = some cellB ∧ cellB.vm.isStatics = false ∧ s.vm.findClass C = some cellB.cls)
    (hX : ∀ U : State, U.heap = H → s.WarmedH U.vm → X U) (hXc : ∀ (U : State) (g : JFrame) (mk : MethodId) (a : Array Value), X U → X (U.calling g mk a))
    (hM : Met l y wsy rm (va_Pc (.ref b :: As) (fun U => qw_Pre D cy ws H.size U ∧ X U)) (qw_R rv) 0 0 (fun _ => False)) (hG : GoodIn qw_big (wsV own index C y wsy)) (hw : wsy = Cond.code y bytes maxL ret :: ws0) (hrm : rm.cells = 0 ∧ rm.slots = 0)
    (hd : y.cls = C ∧ y.cls ≠ "java/lang/invoke/MethodHandle" ∧ y.cls ≠ "java/lang/invoke/VarHandle" ∧ (parseMethodDescriptor y.desc).map (fun d => d.parameters.length) = some n) (hR : rm.frames + 1 ≤ R.frames ∧ 8 + (maxL + 11) + rm.locals ≤ R.locals)
    (hn : As.length = n) (hstk : st0 = As.reverse ++ .ref b :: rest) (hro : (rest.map fun v => v.category).sum ≤ 8) (hf : cells + 0 ≤ R.cells ∧ slots + 0 ≤ R.slots) (hst : rv.toList ++ rest = st1) (hdg : decode cc pc = .ok (.invokevirtual index, 3))
    (kk : W p l e R s m args below meth c H locs cells slots Q (F0 m (pc + 3) ls st1)) : W p l e R s m args below meth c H locs cells slots Q (F0 m pc ls st0) :=
  qw_callR hst (va_runV S0 hM (cwV n S0.2.2.2.2 hG hw hrm.1 hrm.2 hd hR) ⟨qs_calling hXc, hrc, fun U hU hW => ⟨rfl, V.pre U hU hW, hX U hU hW⟩⟩ rfl hn hl.1 hstk (lv_room hro) hdg hf) kk
theorem qs_cSR (S0 : CallFix p m c cc nL s args qw_big own) (V : qw_V D cy A s ws H locs) (hl : lv_has ls nL lv)
    (hX : ∀ U : State, U.heap = H → s.WarmedH U.vm → X U) (hXc : ∀ (U : State) (g : JFrame) (mk : MethodId) (a : Array Value), X U → X (U.calling g mk a))
    (hM : Met l y wsy rm (va_Pc As (fun U => qw_Pre D cy ws H.size U ∧ X U)) (qw_R rv) 0 0 (fun _ => False)) (hG : GoodIn qw_big (va_wsS own index y wsy)) (hw : wsy = Cond.code y bytes maxL ret :: ws0) (hrm : rm.cells = 0 ∧ rm.slots = 0)
    (hd : y.cls ≠ "java/lang/invoke/MethodHandle" ∧ y.cls ≠ "java/lang/invoke/VarHandle" ∧ (parseMethodDescriptor y.desc).map (fun d => d.parameters.length) = some n) (hR : rm.frames + 1 ≤ R.frames ∧ 8 + (maxL + 11) + rm.locals ≤ R.locals)
    (hn : As.length = n) (hstk : st0 = As.reverse ++ rest) (hro : (rest.map fun v => v.category).sum ≤ 8) (hf : cells + 0 ≤ R.cells ∧ slots + 0 ≤ R.slots) (hst : rv.toList ++ rest = st1) (hdg : decode cc pc = .ok (.invokestatic index, 3))
    (kk : W p l e R s m args below meth c H locs cells slots Q (F0 m (pc + 3) ls st1)) : W p l e R s m args below meth c H locs cells slots Q (F0 m pc ls st0) :=
  qw_callR hst (va_runS S0 hM (va_cwS n S0.2.2.2.2 hG hw hrm.1 hrm.2 hd hR) ⟨qs_calling hXc, fun U hU hW => ⟨rfl, V.pre U hU hW, hX U hU hW⟩⟩ rfl hn hl.1 hstk (lv_room hro) hdg hf) kk
/-- the callee's premise of a text, out of the caller's -/
theorem qs_S {bs : List Int32} {ws : va_W} (V : qw_V D cy A s ws H locs) (hS : qe_S bs a A s s.heap) : ∀ U : State, U.heap = H → s.WarmedH U.vm → qe_S bs a (va_A ws H.size) U U.heap := fun U hU hW => by
  rw [hU]; exact ((hS.moved hW.alike).kept V.2.2.2.1.2.1).narrow V.sub
theorem qs_Sc {bs : List Int32} {B : Nat → Prop} (U : State) (g : JFrame) (mk : MethodId) (av : Array Value) (h : qe_S bs a B U U.heap) : qe_S bs a B (U.calling g mk av) (U.calling g mk av).heap := qe_S.moved (u := U) (U := U.calling g mk av) (Vm.Alike.refl U.vm) h
theorem qs_T {t N : Nat} {ty : FieldType} {f : Nat → Value} (V : qw_V D cy A s ws H locs) (hS : va_T ty t N f A s s.heap) : ∀ U : State, U.heap = H → s.WarmedH U.vm → va_T ty t N f (va_A ws H.size) U U.heap := fun U hU hW => by
  rw [hU]; exact ((hS.moved hW.alike).kept V.2.2.2.1.2.1).narrow V.sub
theorem qs_Tc {t N : Nat} {ty : FieldType} {f : Nat → Value} {B : Nat → Prop} (U : State) (g : JFrame) (mk : MethodId) (av : Array Value) (h : va_T ty t N f B U U.heap) : va_T ty t N f B (U.calling g mk av) (U.calling g mk av).heap := va_T.moved (u := U) (U := U.calling g mk av) (Vm.Alike.refl U.vm) h
theorem qs_rc {bs : List Int32} (V : qw_V D cy A s ws H locs) (hS : qe_S bs a A s s.heap) : ∃ cellB : Cell, H[a]? = some cellB ∧ cellB.vm.isStatics = false ∧ s.vm.findClass "java/lang/String" = some cellB.cls := by
  obtain ⟨av, h1, -⟩ := hS
  exact va_Orecv h1 V.2.2.2.1
theorem qs_of {l : Launch} {y : MethodName} {rm : Room} {Qc : Array Value → State → Outcome → State → Prop} {mc ms : Nat} {free : Addr → Prop} {cc : ByteArray} {maxL : Nat} {ret : Option FieldType} {D : va_G} {cy : Nat → ClassId} {ws : va_W} {sz : Nat} {av : List Value} {X : State → Prop}
    (hy : plainName y.cls = true) (hav : (lg_sl av).length ≤ maxL)
    (body : ∀ (p : Program) (e : Env) (s : State) (m : MethodId) (args : Array Value) (below : List Frame) (meth : Method) (c : Code) (ls : Array Slot), CallFix p m c cc maxL s args qw_big y.cls → meth.sig.returnType = ret → meth.locks = false → s.heap.size = sz → qw_V D cy (va_A ws sz) s ws s.heap [] → X s → lv_has ls maxL (lv_args 0 av) →
      W p l e rm s m args below meth c s.heap [] 0 0 (MQ below Qc args s mc ms free) (F0 m 0 ls [])) : Met l y (Cond.code y cc maxL ret :: qw_big) rm (va_Pc av (fun U => qw_Pre D cy ws sz U ∧ X U)) Qc mc ms free := by
  refine Met.ofW (cc := cc) (maxL := maxL) (ret := ret) hy rfl ?_
  intro p e s m args below meth c s₁ B hml hv
  obtain ⟨rfl, ⟨hsz, hP, hK, hD0, hE⟩, hX⟩ := hv
  rw [lg_entry_eq]
  exact body p e s m _ below meth c _ ⟨B.exec, B.bytes, hml, findClass_of_methodNamed B.named, fun w h => atoms_spec (ws := Cond.code y cc maxL ret :: qw_big) B.pre w (List.mem_cons_of_mem _ h)⟩ B.returns B.notSynchronized hsz ⟨hP, hK, by have := hD0.self (sz := sz); exact this, va_S.rf, fun q h => Or.inr (by rw [hsz] at h; exact h), hE⟩ hX (lv_entry av hav)
theorem qs_cS {mc ms : Nat} {ws' : va_W} (S0 : CallFix p m c cc nL s args qw_big own) (V : qw_V D cy A s ws H locs) (hl : lv_has ls nL lv)
    (hX : ∀ U : State, U.heap = H → s.WarmedH U.vm → X U) (hXc : ∀ (U : State) (g : JFrame) (mk : MethodId) (a : Array Value), X U → X (U.calling g mk a))
    (hM : Met l y wsy rm (va_Pc As (fun U => qw_Pre D cy ws H.size U ∧ X U)) (qw_Q rv D ws' (va_A ws H.size)) mc ms (va_A ws H.size)) (hG : GoodIn qw_big (va_wsS own index y wsy)) (hw : wsy = Cond.code y bytes maxL ret :: ws0) (hrm : rm.cells = mc ∧ rm.slots = ms)
    (hd : y.cls ≠ "java/lang/invoke/MethodHandle" ∧ y.cls ≠ "java/lang/invoke/VarHandle" ∧ (parseMethodDescriptor y.desc).map (fun d => d.parameters.length) = some n) (hR : rm.frames + 1 ≤ R.frames ∧ 8 + (maxL + 11) + rm.locals ≤ R.locals)
    (hn : As.length = n) (hstk : st0 = As.reverse ++ rest) (hro : (rest.map fun v => v.category).sum ≤ 8) (hf : cells + mc ≤ R.cells ∧ slots + ms ≤ R.slots) (hst : rv.toList ++ rest = st1) (hdg : decode cc pc = .ok (.invokestatic index, 3))
    (kk : ∀ (H1 : Heap) (locs1 : List Loc), qw_V D cy A s ws' H1 locs1 → W p l e R s m args below meth c H1 locs1 (cells + mc) (slots + ms) Q (F0 m (pc + 3) ls st1)) : W p l e R s m args below meth c H locs cells slots Q (F0 m pc ls st0) :=
  qw_call V hst (va_runS S0 hM (va_cwS n S0.2.2.2.2 hG hw hrm.1 hrm.2 hd hR) ⟨qs_calling hXc, fun U hU hW => ⟨rfl, V.pre U hU hW, hX U hU hW⟩⟩ rfl hn hl.1 hstk (lv_room hro) hdg hf) kk
theorem qs_nn {z : Int32} (hz : ¬ z < 0) : z.toInt = (z.toNatClampNeg : Int) := by
  have h := Int32.le_iff_toInt_le.mp (Int32.not_lt.mp hz)
  rw [Int32.toInt_zero] at h
  show z.toInt = ((z.toInt.toNat : Nat) : Int)
  omega
/-- System.arraycopy out of a static int array into a cell of the world (after the kit's row for byte arrays) -/
theorem qs_cpt {ws' : va_W} {b0 n0 n1 : Nat} {f g : Nat → Int32} (S0 : CallFix p m c cc nL s args qw_big own) (V : qw_V D cy A s ws H locs) (hsz : ls.size = nL) (hlink : Cond.methodLink own index arraycopyName ∈ qw_big) (hX : va_T .int b0 n0 (fun j => .int (f j)) A s s.heap) (q1 : Nat) (ha1 : ws[q1]? = some (a, .inl (cy 0, n1, .inl g)))
    {sp dp k : Int32} (hc : (¬ sp < 0 ∧ ¬ dp < 0 ∧ ¬ k < 0) ∧ sp.toNatClampNeg + k.toNatClampNeg ≤ n0 ∧ dp.toNatClampNeg + k.toNatClampNeg ≤ n1) (hs : ws.set q1 (a, .inl (cy 0, n1, .inl (va_cpy f g sp.toNatClampNeg dp.toNatClampNeg k.toNatClampNeg))) = ws')
    (hframes : 1 ≤ R.frames) (hlocals : (rest.map fun v => v.category).sum + (nativeFrameWords "java/lang/System" "arraycopy" 5 + 11) ≤ R.locals) (hdg : decode cc pc = .ok (.invokestatic index, 3))
    (kk : ∀ (H1 : Heap) (locs1 : List Loc), qw_V D cy A s ws' H1 locs1 → W p l e R s m args below meth c H1 locs1 cells slots Q (F0 m (pc + 3) ls rest)) : W p l e R s m args below meth c H locs cells slots Q (F0 m pc ls (.int k :: .int dp :: .ref a :: .int sp :: .ref b0 :: rest)) := by
  obtain ⟨⟨h1, h2, h3⟩, h4, h5⟩ := hc
  obtain ⟨hP, hK, hD, hS, hnew, hE⟩ := V
  have hb := S0.2.1
  intro T hT X9
  obtain ⟨scr, e1, e2, e3, e4, -, e5, e7⟩ := hX
  have hc0 : H[b0]? = some scr := by rw [hS.2.1 b0 (Array.getElem?_eq_some_iff.mp e1).1 e7]; exact e1
  have hc1 : H[a]? = some (vp_cell (cy 0) (n1, .inl g)) := hP q1 _ ha1
  obtain ⟨e6, k0, hk0, cm0, hkk0⟩ := e2
  obtain ⟨-, k1, hk1, cm1, hkk1⟩ := (hK.2 0 _ rfl).1 n1 (fun j => .int (g j))
  obtain ⟨vm', X', step⟩ := X9.arraycopy S0.1 S0.2.2.2.1 (S0.2.2.2.2 _ hlink) (S0.2.2.2.2 _ km_cp_n) (S0.2.2.2.2 _ km_cp_s) (S0.2.2.2.2 _ km_sys) (src := b0) (dst := a) (cs := scr) (cd := vp_cell (cy 0) (n1, .inl g)) (srcPos := sp) (destPos := dp) (n := k) (by rw [hT]; exact hc0) (by rw [hT]; exact hc1)
    e6 (fun _ h => by cases h) e3 (fun h => by cases h) hk0 hk1 hkk0 hkk1 (by simp [refKind]) h1 h2 h3
    (by rw [qs_nn h1, qs_nn h3]; omega)
    (by rw [qs_nn h2, qs_nn h3]; show ¬ _ > ((arrV (cy 0) n1 (fun j => .int (g j))).slots.size : Int); rw [arrV_size]; omega)
    (fun vm₁ _ i hi => by
      have e : scr.slots.getD (sp.toNatClampNeg + i) .null = .int (f (sp.toNatClampNeg + i)) := by
        rw [Array.getD_eq_getD_getElem?, e5 _ (by omega)]
        rfl
      refine ⟨?_, ?_⟩
      · rw [e]; rfl
      · rw [e]; exact trivial)
    (g := F0 m pc ls (.int k :: .int dp :: .ref a :: .int sp :: .ref b0 :: rest)) rfl (by rw [S0.2.2.1]; exact hsz) (rest := rest) rfl (by rw [hb]; exact hdg) hframes (by show 2 * 0 + _ + _ ≤ _; omega)
  have e8 : copied scr (vp_cell (cy 0) (n1, .inl g)) sp dp k = vp_cell (cy 0) (n1, .inl (va_cpy f g sp.toNatClampNeg dp.toNatClampNeg k.toNatClampNeg)) := va_copiedX (fun z => .int z) scr (cy 0) f g e5 h4
  rw [e8] at X' step
  have hl : a < H.size := (Array.getElem?_eq_some_iff.mp hc1).1
  generalize hZ : vp_cell (cy 0) (n1, .inl (va_cpy f g sp.toNatClampNeg dp.toNatClampNeg k.toNatClampNeg)) = z9 at X' step
  have hheap : ((T.setVm vm').setCell a z9).heap = H.setIfInBounds a z9 := by rw [← hT]; rfl
  have oq : ∀ q : Nat, q ≠ a → (H.setIfInBounds a z9)[q]? = H[q]? := fun q hq => by simp [Array.getElem?_setIfInBounds, Ne.symm hq]
  subst hs
  obtain ⟨t, a1, b1⟩ := kk _ _ ⟨hP.set hD ha1 (show (H.setIfInBounds a z9)[a]? = some _ by rw [← hZ]; simp [Array.getElem?_setIfInBounds, hl]) oq, hK, hD.set ha1, ⟨by simp; exact hS.1, fun q g1 g2 => by
      rw [oq q (fun e => g2 (by rw [e]; exact hD.2 q1 _ ha1))]
      exact hS.2.1 q g1 g2, fun q hq => by
      rcases List.mem_append.mp hq with h | h
      · exact hS.2.2 q h
      · obtain ⟨z, -, hz⟩ := List.mem_map.mp h
        rw [← hz]
        exact hD.2 q1 _ ha1⟩, hnew, hE⟩ _ hheap X'
  exact ⟨t, step t a1, b1⟩
def rm_J0 : Room := { frames := 0, cells := 0, slots := 0, locals := 0 }
def rm_J1 : Room := { frames := 1, cells := 0, slots := 0, locals := 40 }
def rm_J2 : Room := { frames := 2, cells := 0, slots := 0, locals := 80 }
def rm_J3 : Room := { frames := 3, cells := 0, slots := 0, locals := 110 }
abbrev wz_J0_coder : List Cond := Cond.code yJ0_coder_7d493 cJ0_coder_7d493 1 (some .byte) :: qw_big
abbrev wz_J0_isLatin1 : List Cond := Cond.code yJ0_isLatin1_aae02 cJ0_isLatin1_aae02 1 (some .boolean) :: qw_big
abbrev wz_J0_length : List Cond := Cond.code yJ0_length_8abf5 cJ0_length_8abf5 1 (some .int) :: qw_big
abbrev wz_J0_charAt : List Cond := Cond.code yJ0_charAt_5068e cJ0_charAt_5068e 2 (some .char) :: qw_big
abbrev wz_J1_charAt : List Cond := Cond.code yJ1_charAt_3b067 cJ1_charAt_3b067 2 (some .char) :: qw_big
abbrev wz_J0_checkIndex : List Cond := Cond.code yJ0_checkIndex_df160 cJ0_checkIndex_df160 2 none :: qw_big
abbrev wz_J3_checkIndex : List Cond := Cond.code yJ3_checkIndex_8e157 cJ3_checkIndex_8e157 3 (some .int) :: qw_big
theorem kd_J0_coder : yJ0_coder_7d493.cls = RJ0 ∧ yJ0_coder_7d493.cls ≠ "java/lang/invoke/MethodHandle" ∧ yJ0_coder_7d493.cls ≠ "java/lang/invoke/VarHandle" ∧ (parseMethodDescriptor yJ0_coder_7d493.desc).map (fun d => d.parameters.length) = some 0 := by decide +kernel
theorem kd_J0_isLatin1 : yJ0_isLatin1_aae02.cls = RJ0 ∧ yJ0_isLatin1_aae02.cls ≠ "java/lang/invoke/MethodHandle" ∧ yJ0_isLatin1_aae02.cls ≠ "java/lang/invoke/VarHandle" ∧ (parseMethodDescriptor yJ0_isLatin1_aae02.desc).map (fun d => d.parameters.length) = some 0 := by decide +kernel
theorem kd_J0_length : yJ0_length_8abf5.cls = RJ0 ∧ yJ0_length_8abf5.cls ≠ "java/lang/invoke/MethodHandle" ∧ yJ0_length_8abf5.cls ≠ "java/lang/invoke/VarHandle" ∧ (parseMethodDescriptor yJ0_length_8abf5.desc).map (fun d => d.parameters.length) = some 0 := by decide +kernel
theorem kd_J0_charAt : yJ0_charAt_5068e.cls = RJ0 ∧ yJ0_charAt_5068e.cls ≠ "java/lang/invoke/MethodHandle" ∧ yJ0_charAt_5068e.cls ≠ "java/lang/invoke/VarHandle" ∧ (parseMethodDescriptor yJ0_charAt_5068e.desc).map (fun d => d.parameters.length) = some 1 := by decide +kernel
theorem kd_J1_charAt : yJ1_charAt_3b067.cls ≠ "java/lang/invoke/MethodHandle" ∧ yJ1_charAt_3b067.cls ≠ "java/lang/invoke/VarHandle" ∧ (parseMethodDescriptor yJ1_charAt_3b067.desc).map (fun d => d.parameters.length) = some 2 := by decide +kernel
theorem kd_J0_checkIndex : yJ0_checkIndex_df160.cls ≠ "java/lang/invoke/MethodHandle" ∧ yJ0_checkIndex_df160.cls ≠ "java/lang/invoke/VarHandle" ∧ (parseMethodDescriptor yJ0_checkIndex_df160.desc).map (fun d => d.parameters.length) = some 2 := by decide +kernel
theorem kd_J3_checkIndex : yJ3_checkIndex_8e157.cls ≠ "java/lang/invoke/MethodHandle" ∧ yJ3_checkIndex_8e157.cls ≠ "java/lang/invoke/VarHandle" ∧ (parseMethodDescriptor yJ3_checkIndex_8e157.desc).map (fun d => d.parameters.length) = some 3 := by decide +kernel
set_option maxHeartbeats 4000000 in
theorem c_J0_coder (l : Launch) {sz : Nat} {bs : List Int32} : Met l yJ0_coder_7d493 wz_J0_coder rm_J0 (va_Pc [.ref a] (fun U => qw_Pre D cy ws sz U ∧ qe_S bs a (va_A ws sz) U U.heap)) (qw_R (some (.int 0))) 0 0 (fun _ => False) := by
  refine qs_of (cc := cJ0_coder_7d493) (maxL := 1) (ret := some .byte) (by decide) (Nat.le_of_ble_eq_true rfl) ?_
  intro p e s m args below meth c ls S0 hr hlocks hsz V hX hl
  have S0 : CallFix p m c cJ0_coder_7d493 1 s args qw_big RJ0 := S0
  have hx := S0.1; have hb := S0.2.1; have hown := S0.2.2.2.1; have hts := S0.2.2.2.2
  have hl : lv_has ls 1 [(0, .ref a)] := hl
  obtain ⟨av, h1, h2, h3, h4⟩ := hX
  refine va_gets hx hb V.2.2.2.2.2.2.2.2.2.2.2.2.1 V.2.2.2.1 hown (hts _ kl_J0_38) (fun _ h => h) dJ0_coder_7d493_0 ?_
  refine lv_if_eq (tgt := 13) hx hb dJ0_coder_7d493_3 (by decide) (fun c9 => absurd c9 (by decide)) (fun _ => ?_)
  refine lv_aload_n hx hb dJ0_coder_7d493_6 rfl (lv_at hl 0 rfl) ?_
  refine vk_getf hx hb h2 V.2.2.2.1 hown (hts _ kl_J0_15) (fun _ h => h) dJ0_coder_7d493_7 ?_
  refine lv_goto (tgt := 14) hx hb dJ0_coder_7d493_10 (by decide) ?_
  exact qw_zretR S0 hr hlocks rfl rfl rfl dJ0_coder_7d493_14
set_option maxHeartbeats 4000000 in
theorem c_J0_isLatin1 (l : Launch) {sz : Nat} {bs : List Int32} : Met l yJ0_isLatin1_aae02 wz_J0_isLatin1 rm_J0 (va_Pc [.ref a] (fun U => qw_Pre D cy ws sz U ∧ qe_S bs a (va_A ws sz) U U.heap)) (qw_R (some (.int 1))) 0 0 (fun _ => False) := by
  refine qs_of (cc := cJ0_isLatin1_aae02) (maxL := 1) (ret := some .boolean) (by decide) (Nat.le_of_ble_eq_true rfl) ?_
  intro p e s m args below meth c ls S0 hr hlocks hsz V hX hl
  have S0 : CallFix p m c cJ0_isLatin1_aae02 1 s args qw_big RJ0 := S0
  have hx := S0.1; have hb := S0.2.1; have hown := S0.2.2.2.1; have hts := S0.2.2.2.2
  have hl : lv_has ls 1 [(0, .ref a)] := hl
  obtain ⟨av, h1, h2, h3, h4⟩ := hX
  refine va_gets hx hb V.2.2.2.2.2.2.2.2.2.2.2.2.1 V.2.2.2.1 hown (hts _ kl_J0_38) (fun _ h => h) dJ0_isLatin1_aae02_0 ?_
  refine lv_if_eq (tgt := 17) hx hb dJ0_isLatin1_aae02_3 (by decide) (fun c9 => absurd c9 (by decide)) (fun _ => ?_)
  refine lv_aload_n hx hb dJ0_isLatin1_aae02_6 rfl (lv_at hl 0 rfl) ?_
  refine vk_getf hx hb h2 V.2.2.2.1 hown (hts _ kl_J0_15) (fun _ h => h) dJ0_isLatin1_aae02_7 ?_
  refine lv_if_ne (tgt := 17) hx hb dJ0_isLatin1_aae02_10 (by decide) (fun c9 => absurd rfl c9) (fun _ => ?_)
  refine lv_iconst (v := 1) hx hb dJ0_isLatin1_aae02_13 (by decide) ?_
  refine lv_goto (tgt := 18) hx hb dJ0_isLatin1_aae02_14 (by decide) ?_
  exact qw_zretR S0 hr hlocks rfl rfl rfl dJ0_isLatin1_aae02_18
def qs_len (bs : List Int32) : Int32 := Int32.ofNat bs.length >>> ((0 : Int32) &&& 31)
def qs_chr (bs : List Int32) (i : Int32) : Int32 := ((bs.getD i.toNatClampNeg 0 &&& 255).toUInt32 % 65536).toInt32
set_option maxHeartbeats 4000000 in
theorem c_J0_length (l : Launch) {sz : Nat} {bs : List Int32} : Met l yJ0_length_8abf5 wz_J0_length rm_J1 (va_Pc [.ref a] (fun U => qw_Pre D cy ws sz U ∧ qe_S bs a (va_A ws sz) U U.heap)) (qw_R (some (.int (qs_len bs)))) 0 0 (fun _ => False) := by
  refine qs_of (cc := cJ0_length_8abf5) (maxL := 1) (ret := some .int) (by decide) (Nat.le_of_ble_eq_true rfl) ?_
  intro p e s m args below meth c ls S0 hr hlocks hsz V hX hl
  subst hsz
  have S0 : CallFix p m c cJ0_length_8abf5 1 s args qw_big RJ0 := S0
  have hx := S0.1; have hb := S0.2.1; have hown := S0.2.2.2.1; have hts := S0.2.2.2.2
  have hl : lv_has ls 1 [(0, .ref a)] := hl
  have hX0 := hX
  obtain ⟨av, h1, h2, h3, h4⟩ := hX
  refine lv_aload_n hx hb dJ0_length_8abf5_0 rfl (lv_at hl 0 rfl) ?_
  refine vk_getf hx hb h3 V.2.2.2.1 hown (hts _ kl_J0_9) (fun _ h => h) dJ0_length_8abf5_1 ?_
  refine va_tlen (v := Int32.ofNat bs.length) hx hb h4 V.2.2.2.1 rfl dJ0_length_8abf5_4 ?_
  refine lv_aload_n hx hb dJ0_length_8abf5_5 rfl (lv_at hl 0 rfl) ?_
  refine qs_cVR (rest := [.int (Int32.ofNat bs.length)]) (st1 := [.int 0, .int (Int32.ofNat bs.length)]) S0 V hl (qs_rc V hX0) (qs_S V hX0) qs_Sc (c_J0_coder l (bs := bs)) kg_J0_335 rfl ⟨rfl, rfl⟩ kd_J0_coder ⟨by decide, by decide⟩ rfl rfl (Nat.le_of_ble_eq_true rfl) ⟨Nat.zero_le _, Nat.zero_le _⟩ rfl dJ0_length_8abf5_6 ?_
  refine lv_ishr hx hb dJ0_length_8abf5_9 ?_
  exact qw_iretR S0 hr hlocks rfl rfl dJ0_length_8abf5_10
set_option maxHeartbeats 4000000 in
theorem c_J3_checkIndex (l : Launch) {sz : Nat} {i k : Int32} {r : Option Nat} (h0 : 0 ≤ i) (h1 : i < k) : Met l yJ3_checkIndex_8e157 wz_J3_checkIndex rm_J0 (va_Pc [.int i, .int k, va_rf r] (qw_Pre D cy ws sz)) (qw_R (some (.int i))) 0 0 (fun _ => False) := by
  refine qw_of (cc := cJ3_checkIndex_8e157) (maxL := 3) (ret := some .int) (by decide) (by cases r <;> exact Nat.le_of_ble_eq_true rfl) ?_
  intro p e s m args below meth c ls S0 hr hlocks hsz V hl
  have S0 : CallFix p m c cJ3_checkIndex_8e157 3 s args qw_big RJ3 := S0
  have hx := S0.1; have hb := S0.2.1
  have hl : lv_has ls 3 [(0, .int i), (1, .int k), (2, va_rf r)] := by cases r <;> exact hl
  refine lv_iload_n hx hb dJ3_checkIndex_8e157_0 rfl (lv_at hl 0 rfl) ?_
  refine lv_if_lt (tgt := 9) hx hb dJ3_checkIndex_8e157_1 (by decide) (fun c9 => absurd h0 (Int32.not_le.mpr c9)) (fun _ => ?_)
  refine lv_iload_n hx hb dJ3_checkIndex_8e157_4 rfl (lv_at hl 0 rfl) ?_
  refine lv_iload_n hx hb dJ3_checkIndex_8e157_5 rfl (lv_at hl 1 rfl) ?_
  refine lv_icmp_lt (tgt := 16) hx hb dJ3_checkIndex_8e157_6 (by decide) (fun _ => ?_) (fun c9 => absurd h1 c9)
  refine lv_iload_n hx hb dJ3_checkIndex_8e157_16 rfl (lv_at hl 0 rfl) ?_
  exact qw_iretR S0 hr hlocks rfl rfl dJ3_checkIndex_8e157_17
set_option maxHeartbeats 4000000 in
theorem c_J0_checkIndex (l : Launch) {sz : Nat} {i k : Int32} (h0 : 0 ≤ i) (h1 : i < k) : Met l yJ0_checkIndex_df160 wz_J0_checkIndex rm_J1 (va_Pc [.int i, .int k] (qw_Pre D cy ws sz)) (qw_R none) 0 0 (fun _ => False) := by
  refine qw_of (cc := cJ0_checkIndex_df160) (maxL := 2) (ret := none) (by decide) (Nat.le_of_ble_eq_true rfl) ?_
  intro p e s m args below meth c ls S0 hr hlocks hsz V hl
  have S0 : CallFix p m c cJ0_checkIndex_df160 2 s args qw_big RJ0 := S0
  have hx := S0.1; have hb := S0.2.1; have hown := S0.2.2.2.1; have hts := S0.2.2.2.2
  have hl : lv_has ls 2 [(0, .int i), (1, .int k)] := hl
  refine lv_iload_n hx hb dJ0_checkIndex_df160_0 rfl (lv_at hl 0 rfl) ?_
  refine lv_iload_n hx hb dJ0_checkIndex_df160_1 rfl (lv_at hl 1 rfl) ?_
  obtain ⟨r, hr9⟩ : ∃ r : Option Nat, va_Z "jdk/internal/util/Preconditions" "SIOOBE_FORMATTER" "Ljava/util/function/BiFunction;" (va_rf r) _ s s.heap := by
    rcases V.2.2.2.2.2.2.2.2.2.2.2.2.2.1 with h | ⟨t, h⟩
    · exact ⟨none, h⟩
    · exact ⟨some t, h⟩
  refine va_gets hx hb hr9 V.2.2.2.1 hown (hts _ kl_J0_1053) (fun _ h => h) dJ0_checkIndex_df160_2 ?_
  refine qw_cSR (rest := []) (st1 := [.int i]) S0 V hl (c_J3_checkIndex l (r := r) h0 h1) kg_J0_1059 rfl ⟨rfl, rfl⟩ kd_J3_checkIndex ⟨by decide, by decide⟩ rfl rfl (Nat.le_of_ble_eq_true rfl) ⟨Nat.zero_le _, Nat.zero_le _⟩ rfl dJ0_checkIndex_df160_5 ?_
  refine lv_pop hx hb dJ0_checkIndex_df160_8 rfl ?_
  exact qw_vretR S0 hr hlocks rfl dJ0_checkIndex_df160_9
theorem qs_char (x : Int32) : narrow .char (.int ((x &&& 255).toUInt32 % 65536).toInt32) = .int ((x &&& 255).toUInt32 % 65536).toInt32 := pk_nc _
set_option maxHeartbeats 4000000 in
theorem c_J1_charAt (l : Launch) {sz av : Nat} {bs : List Int32} {i : Int32} (h0 : 0 ≤ i) (h1 : i < Int32.ofNat bs.length) (hlen : bs.length < 2 ^ 31) : Met l yJ1_charAt_3b067 wz_J1_charAt rm_J2 (va_Pc [.ref av, .int i] (fun U => qw_Pre D cy ws sz U ∧ va_T .byte av bs.length (fun j => .int (bs.getD j 0)) (va_A ws sz) U U.heap)) (qw_R (some (.int (qs_chr bs i)))) 0 0 (fun _ => False) := by
  refine qs_of (cc := cJ1_charAt_3b067) (maxL := 2) (ret := some .char) (by decide) (Nat.le_of_ble_eq_true rfl) ?_
  intro p e s m args below meth c ls S0 hr hlocks hsz V hX hl
  have S0 : CallFix p m c cJ1_charAt_3b067 2 s args qw_big RJ1 := S0
  have hx := S0.1; have hb := S0.2.1; have hown := S0.2.2.2.1; have hts := S0.2.2.2.2
  have hl : lv_has ls 2 [(0, .ref av), (1, .int i)] := hl
  refine lv_iload_n hx hb dJ1_charAt_3b067_0 rfl (lv_at hl 1 rfl) ?_
  refine lv_aload_n hx hb dJ1_charAt_3b067_1 rfl (lv_at hl 0 rfl) ?_
  refine va_tlen (v := Int32.ofNat bs.length) hx hb hX V.2.2.2.1 rfl dJ1_charAt_3b067_2 ?_
  refine qw_cSR (rest := []) (st1 := []) S0 V hl (c_J0_checkIndex l h0 h1) kg_J1_9 rfl ⟨rfl, rfl⟩ kd_J0_checkIndex ⟨by decide, by decide⟩ rfl rfl (Nat.le_of_ble_eq_true rfl) ⟨Nat.zero_le _, Nat.zero_le _⟩ rfl dJ1_charAt_3b067_3 ?_
  refine lv_aload_n hx hb dJ1_charAt_3b067_6 rfl (lv_at hl 0 rfl) ?_
  refine lv_iload_n hx hb dJ1_charAt_3b067_7 rfl (lv_at hl 1 rfl) ?_
  have hin : vp_in i bs.length := by
    rw [vp_in_iff]
    have e1 := Int32.le_iff_toInt_le.mp h0
    have e2 := Int32.lt_iff_toInt_lt.mp h1
    rw [show Int32.ofNat bs.length = nI bs.length from rfl, nI_toInt hlen] at e2
    rw [Int32.toInt_zero] at e1
    exact ⟨e1, e2⟩
  refine va_tb (v := .int (bs.getD i.toNatClampNeg 0)) hx hb hX V.2.2.2.1 hin rfl dJ1_charAt_3b067_8 ?_
  refine lv_sipush (v := 255) hx hb dJ1_charAt_3b067_9 (by decide) ?_
  refine lv_iand hx hb dJ1_charAt_3b067_12 ?_
  refine lv_i2c hx hb dJ1_charAt_3b067_13 rfl ?_
  exact qw_zretR S0 hr hlocks rfl (qs_char _) rfl dJ1_charAt_3b067_14
set_option maxHeartbeats 4000000 in
theorem c_J0_charAt (l : Launch) {sz : Nat} {bs : List Int32} {i : Int32} (h0 : 0 ≤ i) (h1 : i < Int32.ofNat bs.length) (hlen : bs.length < 2 ^ 31) : Met l yJ0_charAt_5068e wz_J0_charAt rm_J3 (va_Pc [.ref a, .int i] (fun U => qw_Pre D cy ws sz U ∧ qe_S bs a (va_A ws sz) U U.heap)) (qw_R (some (.int (qs_chr bs i)))) 0 0 (fun _ => False) := by
  refine qs_of (cc := cJ0_charAt_5068e) (maxL := 2) (ret := some .char) (by decide) (Nat.le_of_ble_eq_true rfl) ?_
  intro p e s m args below meth c ls S0 hr hlocks hsz V hX hl
  subst hsz
  have S0 : CallFix p m c cJ0_charAt_5068e 2 s args qw_big RJ0 := S0
  have hx := S0.1; have hb := S0.2.1; have hown := S0.2.2.2.1; have hts := S0.2.2.2.2
  have hl : lv_has ls 2 [(0, .ref a), (1, .int i)] := hl
  have hX0 := hX
  obtain ⟨av, g1, g2, g3, g4⟩ := hX
  refine lv_aload_n hx hb dJ0_charAt_5068e_0 rfl (lv_at hl 0 rfl) ?_
  refine qs_cVR (rest := []) (st1 := [.int 1]) S0 V hl (qs_rc V hX0) (qs_S V hX0) qs_Sc (c_J0_isLatin1 l (bs := bs)) kg_J0_492 rfl ⟨rfl, rfl⟩ kd_J0_isLatin1 ⟨by decide, by decide⟩ rfl rfl (Nat.le_of_ble_eq_true rfl) ⟨Nat.zero_le _, Nat.zero_le _⟩ rfl dJ0_charAt_5068e_1 ?_
  refine lv_if_eq (tgt := 16) hx hb dJ0_charAt_5068e_4 (by decide) (fun c9 => absurd c9 (by decide)) (fun _ => ?_)
  refine lv_aload_n hx hb dJ0_charAt_5068e_7 rfl (lv_at hl 0 rfl) ?_
  refine vk_getf hx hb g3 V.2.2.2.1 hown (hts _ kl_J0_9) (fun _ h => h) dJ0_charAt_5068e_8 ?_
  refine lv_iload_n hx hb dJ0_charAt_5068e_11 rfl (lv_at hl 1 rfl) ?_
  refine qs_cSR (rest := []) (st1 := [.int (qs_chr bs i)]) S0 V hl (qs_T V g4) qs_Tc (c_J1_charAt l h0 h1 hlen) kg_J0_495 rfl ⟨rfl, rfl⟩ kd_J1_charAt ⟨by decide, by decide⟩ rfl rfl (Nat.le_of_ble_eq_true rfl) ⟨Nat.zero_le _, Nat.zero_le _⟩ rfl dJ0_charAt_5068e_12 ?_
  exact qw_zretR S0 hr hlocks rfl (qs_char _) rfl dJ0_charAt_5068e_15
end QS
