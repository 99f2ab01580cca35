/-! combinators of the pure functions: a check that fails answers none -/
def qf_let {α β : Type} (x : α) (K : α → β) : β := K x
def qf_bd {α β : Type} (x : Option α) (K : α → Option β) : Option β := x.bind K
def qf_ld {β : Type} (n : Nat) (f : Nat → Int32) (i : Int32) (K : Int32 → Option β) : Option β := if i < 0 ∨ n ≤ i.toNatClampNeg then none else K (f i.toNatClampNeg)
def qf_st {β : Type} (n : Nat) (i : Int32) (K : Nat → Option β) : Option β := if i < 0 ∨ n ≤ i.toNatClampNeg then none else K i.toNatClampNeg
def qf_ck {β : Type} (c : Prop) [Decidable c] (K : Option β) : Option β := if c then K else none
def qf_up {α : Type} (A : Nat → α) (k : Nat) (f : α) : Nat → α := fun a => if a = k then f else A a
theorem qf_let_e {α β : Type} {x y : α} {K : α → β} {r : β} (h : y = x) (e : qf_let x K = r) : K y = r := by subst h; exact e
theorem qf_let_i {α β : Type} {x : α} {K : α → β} {r : β} (e : K x = r) : qf_let x K = r := e
theorem qf_bd_e {α β : Type} {x : Option α} {K : α → Option β} {r : β} (e : qf_bd x K = some r) : ∃ a, x = some a ∧ K a = some r := Option.bind_eq_some_iff.mp e
theorem qf_bd_i {α β : Type} {x : Option α} {a : α} {K : α → Option β} {r : Option β} (h : x = some a) (e : K a = r) : qf_bd x K = r := by subst h; exact e
theorem qf_ld_in {β : Type} {n : Nat} {f : Nat → Int32} {i : Int32} {K : Int32 → Option β} {r : β} (e : qf_ld n f i K = some r) : vp_in i n := by
  intro h
  unfold qf_ld at e
  rw [if_pos h] at e; cases e
theorem qf_ld_e {β : Type} {n : Nat} {f : Nat → Int32} {i v : Int32} {K : Int32 → Option β} {r : β} (ev : v = f i.toNatClampNeg) (e : qf_ld n f i K = some r) : K v = some r := by
  have h := qf_ld_in e
  unfold qf_ld at e
  rw [if_neg h] at e; subst ev; exact e
theorem qf_st_in {β : Type} {n : Nat} {i : Int32} {K : Nat → Option β} {r : β} (e : qf_st n i K = some r) : vp_in i n := by
  intro h
  unfold qf_st at e
  rw [if_pos h] at e; cases e
theorem qf_st_e {β : Type} {n : Nat} {i : Int32} {K : Nat → Option β} {r : β} (e : qf_st n i K = some r) : K i.toNatClampNeg = some r := by
  have h := qf_st_in e
  unfold qf_st at e
  rw [if_neg h] at e; exact e
def qf_bd2 {α β γ : Type} (x : Option (α × β)) (K : α → β → Option γ) : Option γ := x.bind fun q => K q.1 q.2
def qf_bd3 {α β γ δ : Type} (x : Option (α × β × γ)) (K : α → β → γ → Option δ) : Option δ := x.bind fun q => K q.1 q.2.1 q.2.2
def qf_bd4 {α β γ δ ε : Type} (x : Option (α × β × γ × δ)) (K : α → β → γ → δ → Option ε) : Option ε := x.bind fun q => K q.1 q.2.1 q.2.2.1 q.2.2.2
def qf_bd5 {α β γ δ ε ζ : Type} (x : Option (α × β × γ × δ × ε)) (K : α → β → γ → δ → ε → Option ζ) : Option ζ := x.bind fun q => K q.1 q.2.1 q.2.2.1 q.2.2.2.1 q.2.2.2.2
theorem qf_bd2_e {α β γ : Type} {x : Option (α × β)} {K : α → β → Option γ} {r : γ} (e : qf_bd2 x K = some r) : ∃ a b, x = some (a, b) ∧ K a b = some r := by
  obtain ⟨⟨a, b⟩, h1, h2⟩ := Option.bind_eq_some_iff.mp e
  exact ⟨a, b, h1, h2⟩
theorem qf_bd3_e {α β γ δ : Type} {x : Option (α × β × γ)} {K : α → β → γ → Option δ} {r : δ} (e : qf_bd3 x K = some r) : ∃ a b c, x = some (a, b, c) ∧ K a b c = some r := by
  obtain ⟨⟨a, b, c⟩, h1, h2⟩ := Option.bind_eq_some_iff.mp e
  exact ⟨a, b, c, h1, h2⟩
theorem qf_bd4_e {α β γ δ ε : Type} {x : Option (α × β × γ × δ)} {K : α → β → γ → δ → Option ε} {r : ε} (e : qf_bd4 x K = some r) : ∃ a b c d, x = some (a, b, c, d) ∧ K a b c d = some r := by
  obtain ⟨⟨a, b, c, d⟩, h1, h2⟩ := Option.bind_eq_some_iff.mp e
  exact ⟨a, b, c, d, h1, h2⟩
theorem qf_bd5_e {α β γ δ ε ζ : Type} {x : Option (α × β × γ × δ × ε)} {K : α → β → γ → δ → ε → Option ζ} {r : ζ} (e : qf_bd5 x K = some r) : ∃ a b c d f, x = some (a, b, c, d, f) ∧ K a b c d f = some r := by
  obtain ⟨⟨a, b, c, d, f⟩, h1, h2⟩ := Option.bind_eq_some_iff.mp e
  exact ⟨a, b, c, d, f, h1, h2⟩
theorem qf_ck_e {β : Type} {c : Prop} [Decidable c] {K : Option β} {r : β} (e : qf_ck c K = some r) : c ∧ K = some r := by
  unfold qf_ck at e
  by_cases h : c
  · rw [if_pos h] at e; exact ⟨h, e⟩
  · rw [if_neg h] at e; cases e
theorem qf_t {α : Type} {c : Prop} [Decidable c] {a b r : α} (h : c) (e : (if c then a else b) = r) : a = r := by rw [if_pos h] at e; exact e
theorem qf_f {α : Type} {c : Prop} [Decidable c] {a b r : α} (h : ¬ c) (e : (if c then a else b) = r) : b = r := by rw [if_neg h] at e; exact e
theorem qf_no {α : Type} {r : α} {P : Prop} (e : (none : Option α) = some r) : P := by cases e
theorem qf_sm {α : Type} {a r : α} (e : some a = some r) : r = a := (Option.some.inj e).symm
theorem qf_pr {α β : Type} {a c : α} {b d : β} (e : (a, b) = (c, d)) : a = c ∧ b = d := Prod.mk.inj e
/-- the classes of the arrays -/
abbrev qw_T (cy : Nat → ClassId) : List (ClassId × FieldType) := [(cy 0, .int), (cy 1, .object "RationOffice$State"), (cy 2, .array .int), (cy 3, .byte), (cy 4, .long)]
/-! what stands outside the worlds and stays: links among nest mates, statics, the text constants -/
theorem va_AOA.spec {ty : FieldType} {s : State} (h : va_AOA ty s) :
    ∃ comp c k, s.vm.findClass (FieldType.array ty).toString = some comp ∧ (s.vm.classes.findIdx? fun (x : Class) => match x.kind with | .array component _ => component == comp | _ => false) = some c ∧ s.vm.classes[c]? = some k ∧ k.kind = .array comp (.array ty) ∧
      s.vm.findClass ("[" ++ (FieldType.array ty).toString) = some c := by
  unfold va_AOA Cond.before at h
  simp only [Cond.holds, Cond.value, beq_iff_eq] at h
  cases hc : s.vm.findClass (FieldType.array ty).toString with
  | none => simp [hc] at h
  | some comp =>
    simp only [hc, Option.bind_some, Option.bind_eq_some_iff, Option.map_eq_some_iff] at h
    obtain ⟨c, hi, k, hk, hb⟩ := h
    obtain ⟨hlt, hp, -⟩ := Array.findIdx?_eq_some_iff_getElem.mp hi
    have hkk : s.vm.classes[c] = k := (Array.getElem?_eq_some_iff.mp hk).2
    rw [hkk] at hp
    cases hkind : k.kind with
    | array component ty =>
      rw [hkind] at hb hp
      simp at hb hp
      exact ⟨comp, c, k, rfl, hi, hk, by rw [hkind, hp, hb.1], hb.2⟩
    | _ => rw [hkind] at hb; simp at hb
theorem va_AOA.moved {ty : FieldType} {u U : State} (hvm : u.vm.Alike U.vm) (h : va_AOA ty u) : va_AOA ty U := by
  obtain ⟨comp, c, k, h1, h2, h3, h4, h5⟩ := h.spec
  obtain ⟨k', hk', he⟩ := hvm.2.2 _ _ h3
  have e9 : u.vm.bare = U.vm.bare := by first | exact hvm.bare_eq | exact hvm.bare_eq.symm
  have hi2 := va_idx_bare u.vm comp
  have hi3 := va_idx_bare U.vm comp
  rw [e9] at hi2
  have hi := hi3.symm.trans (hi2.trans h2)
  have hkind : k'.kind = .array comp (.array ty) := by rw [he]; exact h4
  have f1 : U.vm.findClass (FieldType.array ty).toString = some comp := by rw [hvm.findClass]; exact h1
  have f2 : U.vm.findClass ("[" ++ (FieldType.array ty).toString) = some c := by rw [hvm.findClass]; exact h5
  unfold va_AOA Cond.before Cond.holds
  simp only [Cond.value]
  rw [f1, Option.bind_some]
  refine (congrArg (fun o : Option Nat => (o.bind (fun c => (U.vm.classes[c]?).map fun (k : Class) => match k.kind with | .array _ ty9 => decide (ty9 = FieldType.array ty) && decide (U.vm.findClass ("[" ++ (FieldType.array ty).toString) = some c) | _ => false) == some true)) hi).trans ?_
  simp [hk', hkind, f2]
/-- a text constant: its cell, its bytes -/
def qe_S (bs : List Int32) (a : Nat) (A : Nat → Prop) (U : State) (H : Heap) : Prop := ∃ av : Nat, va_O "java/lang/String" a A U H ∧ va_OF "java/lang/String" "coder" "B" (.int 0) a A U H ∧ va_OF "java/lang/String" "value" "[B" (.ref av) a A U H ∧ va_T .byte av bs.length (fun j => .int (bs.getD j 0)) A U H
theorem qe_S.moved {bs : List Int32} {a : Nat} {A : Nat → Prop} {u U : State} {H : Heap} (hvm : u.vm.Alike U.vm) (h : qe_S bs a A u H) : qe_S bs a A U H := by
  obtain ⟨av, h1, h2, h3, h4⟩ := h
  exact ⟨av, h1.moved hvm, h2.moved hvm, h3.moved hvm, h4.moved hvm⟩
theorem qe_S.kept {bs : List Int32} {a : Nat} {A : Nat → Prop} {U : State} {H H1 : Heap} (h : qe_S bs a A U H) (hq : ∀ a : Nat, a < H.size → ¬ A a → H1[a]? = H[a]?) : qe_S bs a A U H1 := by
  obtain ⟨av, h1, h2, h3, h4⟩ := h
  exact ⟨av, h1.kept hq, h2.kept hq, h3.kept hq, h4.kept hq⟩
theorem qe_S.narrow {bs : List Int32} {a : Nat} {A B : Nat → Prop} {U : State} {H : Heap} (h : qe_S bs a A U H) (hAB : ∀ q, B q → A q) : qe_S bs a B U H := by
  obtain ⟨av, h1, h2, h3, h4⟩ := h
  exact ⟨av, h1.narrow hAB, h2.narrow hAB, h3.narrow hAB, h4.narrow hAB⟩
def qe_bs (t : List Nat) : List Int32 := t.map Int32.ofNat
def qb_give : List Int32 := qe_bs [103, 105, 118, 101]
def qb_good : List Int32 := qe_bs [103, 111, 111, 100]
def qb_group : List Int32 := qe_bs [103, 114, 111, 117, 112]
def qb_house : List Int32 := qe_bs [104, 111, 117, 115, 101]
def qb_set : List Int32 := qe_bs [115, 101, 116]
def qb_shop : List Int32 := qe_bs [115, 104, 111, 112]
def qb_swap : List Int32 := qe_bs [115, 119, 97, 112]
def qb_take : List Int32 := qe_bs [116, 97, 107, 101]
def qb_tolerance : List Int32 := qe_bs [116, 111, 108, 101, 114, 97, 110, 99, 101]
def qe_strs : List (String × Nat × String × List Int32) := [(RX2, 62, "group", qb_group), (RX2, 71, "swap", qb_swap), (RX2, 76, "good", qb_good), (RX2, 81, "house", qb_house), (RX2, 86, "shop", qb_shop), (RX2, 91, "set", qb_set), (RX6, 50, "group", qb_group), (RX6, 56, "swap", qb_swap), (RX6, 58, "good", qb_good), (RX6, 60, "house", qb_house), (RX6, 62, "shop", qb_shop), (RX6, 64, "set", qb_set), (RX6, 66, "give", qb_give), (RX6, 68, "take", qb_take), (RX6, 70, "tolerance", qb_tolerance)]
def qe_nest : List (String × Nat × MethodName × String) := [(RX7, 15, yX2_init, "RationOffice"), (RX2, 11, yX6_init, "RationOffice"), (RX2, 24, yX3_init, "RationOffice"), (RX7, 29, yX0_init, "RationOffice"), (RX7, 39, yX3_init, "RationOffice"), (RX0, 90, yX7_quotient, "RationOffice")]
/-- the environment, where a method may write A -/
def qe_E (A : Nat → Prop) (s : State) : Prop :=
  (∀ q ∈ qe_nest, va_Nw (.methodLinkNest q.1 q.2.1 q.2.2.1 q.2.2.2) s) ∧ (∃ sa : Nat, vk_R RX7 340 "there is no such index" sa s) ∧
  vx_Zq Bundle.tN "UNASSIGNED_STACK" Bundle.steD A s s.heap ∧ vx_Zq Bundle.tN "SUPPRESSED_SENTINEL" Bundle.listD A s s.heap ∧
  (∃ t : Nat, va_Z "RationOffice" "FIRST_SETTINGS" "[I" (.ref t) A s s.heap ∧ va_T .int t 3 (fun j => .int (([20, 20, 10] : List Int32).getD j 0)) A s s.heap) ∧
  (∃ t : Nat, va_Z "RationOffice" "GREATEST_SETTINGS" "[I" (.ref t) A s s.heap ∧ va_T .int t 3 (fun j => .int (([999, 999, 9999] : List Int32).getD j 0)) A s s.heap) ∧
  (∀ q ∈ qe_strs, ∃ a : Nat, vk_R q.1 q.2.1 q.2.2.1 a s ∧ qe_S q.2.2.2 a A s s.heap) ∧
  va_Z "java/lang/String" "COMPACT_STRINGS" "Z" (.int 1) A s s.heap ∧ va_Zq "jdk/internal/util/Preconditions" "SIOOBE_FORMATTER" "Ljava/util/function/BiFunction;" A s s.heap ∧
  va_AO "RationOffice$State" s ∧ va_AOA .int s ∧ va_Nw (.castable "java/lang/IndexOutOfBoundsException" "java/lang/IndexOutOfBoundsException") s ∧ va_Nw (.declares (Bundle.initS "java/lang/RuntimeException")) s ∧ va_Nw (.declares (Bundle.initS "java/lang/Exception")) s ∧ va_Nw (.declares (Bundle.initS Bundle.tN)) s ∧
  va_Nw (.fieldLinkNest RX2 201 "RationOffice" "GREATEST_SETTINGS" "[I" "RationOffice") s ∧ va_Nw (.fieldLinkNest RX5 58 "RationOffice" "FIRST_SETTINGS" "[I" "RationOffice") s
theorem qe_E.go {A B : Nat → Prop} {s U : State} (h : qe_E A s) (hW : s.WarmedH U.vm) (hq : ∀ a : Nat, a < s.heap.size → ¬ A a → U.heap[a]? = s.heap[a]?) (hAB : ∀ q, B q → A q) : qe_E B U := by
  obtain ⟨h1, ⟨sa, h2⟩, h3, h4, ⟨t5, h5, h5t⟩, ⟨t6, h6, h6t⟩, h7, h8, h9, h10, h11, h12, h13, h14, h15, h16, h17⟩ := h
  have v := hW.alike
  refine ⟨fun q hq9 => va_Nw.warmM hW (h1 q hq9), ⟨sa, h2.warm hW⟩, ((h3.moved v).kept hq).narrow hAB, ((h4.moved v).kept hq).narrow hAB, ⟨t5, ((h5.moved v).kept hq).narrow hAB, ((h5t.moved v).kept hq).narrow hAB⟩, ⟨t6, ((h6.moved v).kept hq).narrow hAB, ((h6t.moved v).kept hq).narrow hAB⟩, fun q hq9 => ?_, ((h8.moved v).kept hq).narrow hAB, ((h9.moved v).kept hq).narrow hAB, h10.moved v, h11.moved v, va_Nw.warmC hW h12, va_Nw.warmD hW h13, va_Nw.warmD hW h14, va_Nw.warmD hW h15, va_Nw.warmF hW h16, va_Nw.warmF hW h17⟩
  obtain ⟨a, g1, g2⟩ := h7 q hq9
  exact ⟨a, g1.warm hW, ((g2.moved v).kept hq).narrow hAB⟩
theorem qe_E.pass {A B : Nat → Prop} {s U : State} {H : Heap} {locs : List Loc} (h : qe_E A s) (hW : s.WarmedH U.vm) (hU : U.heap = H) (hS : va_S A s.heap H locs) (hAB : ∀ q, B q → A q) : qe_E B U := h.go hW (fun a h1 h2 => by rw [hU]; exact hS.2.1 a h1 h2) hAB
theorem qe_E.same {A : Nat → Prop} {u U : State} (hv : U.vm = u.vm) (hh : U.heap = u.heap) (h : qe_E A u) : qe_E A U := h.go (by rw [hv]; exact State.WarmedH.refl u) (fun a _ _ => by rw [hh]) (fun _ h => h)
/-- a world inside a method: A is what it may write -/
def qw_V (D : va_G) (cy : Nat → ClassId) (A : Nat → Prop) (s : State) (ws : va_W) (H : Heap) (locs : List Loc) : Prop :=
  va_P D vwCl ws H ∧ va_K D vwCl (qw_T cy) s ∧ va_D A ws ∧ va_S A s.heap H locs ∧ (∀ q : Nat, s.heap.size ≤ q → A q) ∧ qe_E A s
/-- a method's start, and its end: the answer and the world are told -/
def qw_Pre (D : va_G) (cy : Nat → ClassId) (ws : va_W) (sz : Nat) : State → Prop := fun U => U.heap.size = sz ∧ va_P D vwCl ws U.heap ∧ va_K D vwCl (qw_T cy) U ∧ va_D (fun _ => True) ws ∧ qe_E (va_A ws sz) U
def qw_Q (rv : Option Value) (D : va_G) (ws' : va_W) (A1 : Nat → Prop) : Array Value → State → Outcome → State → Prop := fun _ st oc t => oc = .returned rv ∧ va_P D vwCl ws' t.heap ∧ va_D A1 ws' ∧ va_F A1 st t
def qw_R (rv : Option Value) : Array Value → State → Outcome → State → Prop := fun _ st oc t => oc = .returned rv ∧ t.heap = st.heap
theorem qw_Pre.calling {D : va_G} {cy : Nat → ClassId} {ws : va_W} {sz : Nat} {av : List Value} (a : Array Value) (U : State) (g : JFrame) (mk : MethodId) (q : va_Pc av (qw_Pre D cy ws sz) a U) : va_Pc av (qw_Pre D cy ws sz) a (U.calling g mk a) := by
  obtain ⟨q0, q1, qP, qK, qD, qE⟩ := q
  exact ⟨q0, q1, qP, va_K.moved (u := U) (U := U.calling g mk a) (Vm.Alike.refl U.vm) qK, qD, qe_E.same (u := U) (U := U.calling g mk a) rfl rfl qE⟩
theorem qw_V.sub {D : va_G} {cy : Nat → ClassId} {A : Nat → Prop} {s : State} {ws : va_W} {H : Heap} {locs : List Loc} (V : qw_V D cy A s ws H locs) : ∀ q, va_A ws H.size q → A q := by
  intro q h
  rcases h with ⟨k, e, h⟩ | h
  · exact V.2.2.1.2 k (q, e) h
  · exact V.2.2.2.2.1 q (Nat.le_trans V.2.2.2.1.1 h)
theorem qw_V.pre {D : va_G} {cy : Nat → ClassId} {A : Nat → Prop} {s : State} {ws : va_W} {H : Heap} {locs : List Loc} (V : qw_V D cy A s ws H locs) (U : State) (hU : U.heap = H) (hW : s.WarmedH U.vm) : qw_Pre D cy ws H.size U :=
  ⟨by rw [hU], by rw [hU]; exact V.1, va_K.moved hW.alike V.2.1, V.2.2.1.weaken (fun _ _ _ _ => trivial), V.2.2.2.2.2.pass hW hU V.2.2.2.1 V.sub⟩
section QW
variable {p : Program} {l : Launch} {e : Env} {R : Room} {s : State} {m : MethodId} {args : Array Value} {below : List Frame} {meth : Method} {c : Code} {H : Heap} {locs : List Loc} {cells slots : Nat} {Q : State → Prop}
variable {cc : ByteArray} {pc nL : Nat} {ls : Array Slot} {rest : List Value} {D : va_G} {cy : Nat → ClassId} {A : Nat → Prop} {a : Nat} {ws ws' : va_W} {own : String}
theorem qw_ild (S0 : CallFix p m c cc nL s args qw_big own) (V : qw_V D cy A s ws H locs) (q0 : Nat) {n : Nat} {f : Nat → Int32} (ha : ws[q0]? = some (a, .inl (cy 0, n, .inl f))) {i : Int32} (hin : vp_in i n) (hdg : decode cc pc = .ok (.iaload, 1))
    (kk : W p l e R s m args below meth c H locs cells slots Q (F0 m (pc + 1) ls (.int (f i.toNatClampNeg) :: rest))) : W p l e R s m args below meth c H locs cells slots Q (F0 m pc ls (.int i :: .ref a :: rest)) :=
  va_iald S0.1 S0.2.1 V.2.1 V.1 q0 0 ha rfl hin hdg kk
theorem qw_ist (S0 : CallFix p m c cc nL s args qw_big own) (V : qw_V D cy A s ws H locs) (q0 : Nat) {n : Nat} {f : Nat → Int32} (ha : ws[q0]? = some (a, .inl (cy 0, n, .inl f))) {i x : Int32} (hs : ws.set q0 (a, .inl (cy 0, n, .inl (upd f i.toNatClampNeg x))) = ws') (hin : vp_in i n) (hdg : decode cc pc = .ok (.iastore, 1))
    (kk : ∀ (H1 : Heap) (locs1 : List Loc), qw_V D cy A s ws' H1 locs1 → W p l e R s m args below meth c H1 locs1 cells slots Q (F0 m (pc + 1) ls rest)) : W p l e R s m args below meth c H locs cells slots Q (F0 m pc ls (.int x :: .int i :: .ref a :: rest)) := by
  subst hs
  exact va_iast S0.1 S0.2.1 V.2.1 V.1 V.2.2.1 V.2.2.2.1 q0 0 ha rfl hin hdg (fun H1 locs1 h1 h2 h3 => kk H1 locs1 ⟨h1, V.2.1, h2, h3, V.2.2.2.2⟩)
theorem qw_bld (S0 : CallFix p m c cc nL s args qw_big own) (V : qw_V D cy A s ws H locs) (q0 : Nat) {n : Nat} {f : Nat → Int32} (ha : ws[q0]? = some (a, .inl (cy 3, n, .inl f))) {i : Int32} (hin : vp_in i n) (hdg : decode cc pc = .ok (.baload, 1))
    (kk : W p l e R s m args below meth c H locs cells slots Q (F0 m (pc + 1) ls (.int (f i.toNatClampNeg) :: rest))) : W p l e R s m args below meth c H locs cells slots Q (F0 m pc ls (.int i :: .ref a :: rest)) :=
  va_bald S0.1 S0.2.1 V.2.1 V.1 q0 3 ha rfl hin hdg kk
theorem qw_bst (S0 : CallFix p m c cc nL s args qw_big own) (V : qw_V D cy A s ws H locs) (q0 : Nat) {n : Nat} {f : Nat → Int32} (ha : ws[q0]? = some (a, .inl (cy 3, n, .inl f))) {i x : Int32} (hs : ws.set q0 (a, .inl (cy 3, n, .inl (upd f i.toNatClampNeg (vp_nar .byte x)))) = ws') (hin : vp_in i n) (hdg : decode cc pc = .ok (.bastore, 1))
    (kk : ∀ (H1 : Heap) (locs1 : List Loc), qw_V D cy A s ws' H1 locs1 → W p l e R s m args below meth c H1 locs1 cells slots Q (F0 m (pc + 1) ls rest)) : W p l e R s m args below meth c H locs cells slots Q (F0 m pc ls (.int x :: .int i :: .ref a :: rest)) := by
  subst hs
  exact va_bast S0.1 S0.2.1 V.2.1 V.1 V.2.2.1 V.2.2.2.1 q0 3 ha rfl hin hdg (fun H1 locs1 h1 h2 h3 => kk H1 locs1 ⟨h1, V.2.1, h2, h3, V.2.2.2.2⟩)
theorem qw_len (S0 : CallFix p m c cc nL s args qw_big own) (V : qw_V D cy A s ws H locs) (q0 t0 : Nat) {cA : ClassId} {x : vp_A} (ha : ws[q0]? = some (a, .inl (cA, x))) {ty : FieldType} (ht : (qw_T cy)[t0]? = some (cA, ty)) {v : Int32} (hv : Int32.ofNat x.1 = v) (hdg : decode cc pc = .ok (.arraylength, 1))
    (kk : W p l e R s m args below meth c H locs cells slots Q (F0 m (pc + 1) ls (.int v :: rest))) : W p l e R s m args below meth c H locs cells slots Q (F0 m pc ls (.ref a :: rest)) :=
  va_alen S0.1 S0.2.1 V.2.1 V.1 q0 t0 ha ht hv hdg kk
theorem qw_get (S0 : CallFix p m c cc nL s args qw_big own) (V : qw_V D cy A s ws H locs) {ref C : String} {T : u_T} {N ci index : Nat} (hin : ∀ w ∈ u_ws C T N, w ∈ qw_big) (q0 : Nat) {fs : List Value} (he : ws[q0]? = some (a, .inr (ci, fs))) (hc : vwCl[ci]? = some (C, T, N)) (k : Nat) (hk : k < N)
    (hlink : Cond.fieldLink own index ref (T k).2.1 (T k).2.2.1 ∈ qw_big) (hsame : ∀ x, s.fieldFound? (T k).1 (T k).2.1 (T k).2.2.1 = some x → s.fieldFound? ref (T k).2.1 (T k).2.2.1 = some x) {v : Value} (hv : fs[k]? = some v) (hdg : decode cc pc = .ok (.getfield index, 3))
    (kk : W p l e R s m args below meth c H locs cells slots Q (F0 m (pc + 3) ls (v :: rest))) : W p l e R s m args below meth c H locs cells slots Q (F0 m pc ls (.ref a :: rest)) :=
  va_get S0.1 S0.2.1 S0.2.2.2.2 hin S0.2.2.2.1 V.2.1 V.1 q0 he hc k hk (S0.2.2.2.2 _ hlink) hsame hv hdg kk
theorem qw_put (S0 : CallFix p m c cc nL s args qw_big own) (V : qw_V D cy A s ws H locs) {ref C : String} {T : u_T} {N ci index : Nat} (hin : ∀ w ∈ u_ws C T N, w ∈ qw_big) (ty0 : Nat → FieldType) (hty : ∀ k, k < N → parseFieldDescriptor (T k).2.2.1 = some (ty0 k)) (hnm : ∀ a, a < N → ∀ b, b < N → a ≠ b → (T a).2.1 ≠ (T b).2.1) (q0 : Nat) {fs : List Value} (he : ws[q0]? = some (a, .inr (ci, fs))) (hc : vwCl[ci]? = some (C, T, N)) (k : Nat) (hk : k < N)
    (hlink : Cond.fieldLink own index ref (T k).2.1 (T k).2.2.1 ∈ qw_big) (hsame : ∀ x, s.fieldFound? (T k).1 (T k).2.1 (T k).2.2.1 = some x → s.fieldFound? ref (T k).2.1 (T k).2.2.1 = some x) (hfin : (T k).2.2.2 = false) {ty : FieldType} {v : Value} (hd : ty0 k = ty) (hn : narrow ty v = v) (hfit : fits ty v = true) (hl : k < fs.length)
    (hs : ws.set q0 (a, .inr (ci, fs.set k v)) = ws') (hdg : decode cc pc = .ok (.putfield index, 3))
    (kk : ∀ (H1 : Heap) (locs1 : List Loc), qw_V D cy A s ws' H1 locs1 → W p l e R s m args below meth c H1 locs1 cells slots Q (F0 m (pc + 3) ls rest)) : W p l e R s m args below meth c H locs cells slots Q (F0 m pc ls (v :: .ref a :: rest)) := by
  subst hs
  exact va_put S0.1 S0.2.1 S0.2.2.2.2 hin ty0 hty hnm S0.2.2.2.1 V.2.1 V.1 V.2.2.1 V.2.2.2.1 q0 he hc k hk (S0.2.2.2.2 _ hlink) hsame hfin (by rw [← hd]; exact hty k hk) hn hfit hl hdg (fun H1 locs1 h1 h2 h3 => kk H1 locs1 ⟨h1, V.2.1, h2, h3, V.2.2.2.2⟩)
/-- aaload of a row of an array of references -/
theorem qw_ald (S0 : CallFix p m c cc nL s args qw_big own) (V : qw_V D cy A s ws H locs) (q0 t0 : Nat) {cA : ClassId} {ty : FieldType} {n : Nat} {f : Nat → Option Nat} (ha : ws[q0]? = some (a, .inl (cA, n, .inr (.inr (.inr (.inr f)))))) (ht : (qw_T cy)[t0]? = some (cA, ty)) (hr : ty.isReference = true) {i : Int32} (hin : vp_in i n) {b : Nat} (hf : f i.toNatClampNeg = some b) (hdg : decode cc pc = .ok (.aaload, 1))
    (kk : W p l e R s m args below meth c H locs cells slots Q (F0 m (pc + 1) ls (.ref b :: rest))) : W p l e R s m args below meth c H locs cells slots Q (F0 m pc ls (.int i :: .ref a :: rest)) := by
  have hlt : i.toNatClampNeg < n := Nat.not_le.mp fun q => hin (Or.inr q)
  exact W.aald (v := .ref b) (ty := ty) S0.1 S0.2.1 (V.1 q0 _ ha) ((V.2.1.2 t0 _ ht).1 n (fun j => va_rf (f j))) hr (fun q => by cases q) (by show ¬ (i < 0 ∨ (arrV _ _ _).slots.size ≤ _); rw [arrV_size]; exact hin) (by show (arrV _ _ _).slots[_]? = _; rw [arrV_read _ _ hlt, hf]; rfl) rfl rfl hdg kk
theorem qw_cpi (S0 : CallFix p m c cc nL s args qw_big own) (V : qw_V D cy A s ws H locs) (hsz : ls.size = nL) {index : Nat} (hlink : Cond.methodLink own index arraycopyName ∈ qw_big)
    (q0 q1 : Nat) {a0 n0 n1 : Nat} {f g : Nat → Int32} (ha0 : ws[q0]? = some (a0, .inl (cy 0, n0, .inl f))) (ha1 : ws[q1]? = some (a, .inl (cy 0, n1, .inl g))) {sp dp n : Int32} (hc : (¬ sp < 0 ∧ ¬ dp < 0 ∧ ¬ n < 0) ∧ sp.toNatClampNeg + n.toNatClampNeg ≤ n0 ∧ dp.toNatClampNeg + n.toNatClampNeg ≤ n1)
    (hs : ws.set q1 (a, .inl (cy 0, n1, .inl (va_cpy f g sp.toNatClampNeg dp.toNatClampNeg n.toNatClampNeg))) = ws') (hframes : 1 ≤ R.frames) (hlocals : (rest.map fun v => v.category).sum + (nativeFrameWords "java/lang/System" "arraycopy" 5 + 11) ≤ R.locals) (hdg : decode cc pc = .ok (.invokestatic index, 3))
    (kk : ∀ (H1 : Heap) (locs1 : List Loc), qw_V D cy A s ws' H1 locs1 → W p l e R s m args below meth c H1 locs1 cells slots Q (F0 m (pc + 3) ls rest)) : W p l e R s m args below meth c H locs cells slots Q (F0 m pc ls (.int n :: .int dp :: .ref a :: .int sp :: .ref a0 :: rest)) := by
  subst hs
  exact va_copyi S0.1 S0.2.1 (S0.2.2.1.trans hsz.symm) S0.2.2.2.1 (S0.2.2.2.2 _ hlink) (S0.2.2.2.2 _ km_cp_n) (S0.2.2.2.2 _ km_cp_s) (S0.2.2.2.2 _ km_sys) V.2.1 V.1 V.2.2.1 V.2.2.2.1 q0 q1 0 0 ha0 ha1 rfl rfl rfl hc.1.1 hc.1.2.1 hc.1.2.2 hc.2.1 hc.2.2 (fun _ _ => rfl) hframes hlocals hdg (fun H1 locs1 h1 h2 h3 => kk H1 locs1 ⟨h1, V.2.1, h2, h3, V.2.2.2.2⟩)
theorem qw_min (S0 : CallFix p m c cc nL s args qw_big own) (hsz : ls.size = nL) {index : Nat} (hlink : Cond.methodLink own index Lib.Math.min.name ∈ qw_big)
    (hframes : 1 ≤ R.frames) (hlocals : (rest.map fun v => v.category).sum + 13 ≤ R.locals) (hc : cells ≤ R.cells) (hs : slots ≤ R.slots) {x y : Int32} (hdg : decode cc pc = .ok (.invokestatic index, 3))
    (kk : W p l e R s m args below meth c H locs cells slots Q (F0 m (pc + 3) ls (.int (if y < x then y else x) :: rest))) : W p l e R s m args below meth c H locs cells slots Q (F0 m pc ls (.int y :: .int x :: rest)) :=
  va_mmin S0.1 S0.2.1 (S0.2.2.1.trans hsz.symm) S0.2.2.2.1 (S0.2.2.2.2 _ hlink) (S0.2.2.2.2 _ km_min_s) (S0.2.2.2.2 _ km_math) (S0.2.2.2.2 _ km_min_c) hframes hlocals hc hs hdg kk
theorem qw_max (S0 : CallFix p m c cc nL s args qw_big own) (hsz : ls.size = nL) {index : Nat} (hlink : Cond.methodLink own index Lib.Math.max.name ∈ qw_big)
    (hframes : 1 ≤ R.frames) (hlocals : (rest.map fun v => v.category).sum + 13 ≤ R.locals) (hc : cells ≤ R.cells) (hs : slots ≤ R.slots) {x y : Int32} (hdg : decode cc pc = .ok (.invokestatic index, 3))
    (kk : W p l e R s m args below meth c H locs cells slots Q (F0 m (pc + 3) ls (.int (if x < y then y else x) :: rest))) : W p l e R s m args below meth c H locs cells slots Q (F0 m pc ls (.int y :: .int x :: rest)) :=
  va_mmax S0.1 S0.2.1 (S0.2.2.1.trans hsz.symm) S0.2.2.2.1 (S0.2.2.2.2 _ hlink) (S0.2.2.2.2 _ km_max_s) (S0.2.2.2.2 _ km_math) (S0.2.2.2.2 _ km_max_c) hframes hlocals hc hs hdg kk
theorem qw_abs (S0 : CallFix p m c cc nL s args qw_big own) (hsz : ls.size = nL) {index : Nat} (hlink : Cond.methodLink own index Lib.Math.abs.name ∈ qw_big)
    (hframes : 1 ≤ R.frames) (hlocals : (rest.map fun v => v.category).sum + 13 ≤ R.locals) (hc : cells ≤ R.cells) (hs : slots ≤ R.slots) {x : Int32} (hdg : decode cc pc = .ok (.invokestatic index, 3))
    (kk : W p l e R s m args below meth c H locs cells slots Q (F0 m (pc + 3) ls (.int (if 0 ≤ x then x else 0 - x) :: rest))) : W p l e R s m args below meth c H locs cells slots Q (F0 m pc ls (.int x :: rest)) :=
  va_mabs S0.1 S0.2.1 (S0.2.2.1.trans hsz.symm) S0.2.2.2.1 (S0.2.2.2.2 _ hlink) (S0.2.2.2.2 _ km_abs_s) (S0.2.2.2.2 _ km_math) (S0.2.2.2.2 _ km_abs_c) hframes hlocals hc hs hdg kk
/-- behind a call that wrote: the caller's whole world was the callee's -/
theorem qw_call {st0 st1 : List Value} {rv : Option Value} {mc ms : Nat} {a : Array Value} (V : qw_V D cy A s ws H locs) (hst : rv.toList ++ rest = st1) (hr : va_Run p l e R s m args below meth c H locs cells slots mc ms (F0 m pc ls st0) rest (qw_Q rv D ws' (va_A ws H.size) a) (va_A ws H.size))
    (kk : ∀ (H1 : Heap) (locs1 : List Loc), qw_V D cy A s ws' H1 locs1 → W p l e R s m args below meth c H1 locs1 (cells + mc) (slots + ms) Q (F0 m (pc + 3) ls st1)) : W p l e R s m args below meth c H locs cells slots Q (F0 m pc ls st0) := by
  subst hst
  intro T hT X
  obtain ⟨v, st₀, t, T', L, h0, X', hL, e1, e2, ⟨hv, hP1, hD1, hz, hk⟩, st⟩ := hr T hT X
  cases hv
  rw [h0] at hz hk
  have hS := V.2.2.2.1
  have hA := V.sub
  obtain ⟨t2, a1, b1⟩ := kk T'.heap (locs ++ L) ⟨by rw [e1]; exact hP1, V.2.1, hD1.weaken (fun k q _ h => hA q.1 h),
    ⟨Nat.le_trans hS.1 (by rw [e1]; exact hz), fun q h1 h2 => by rw [e1, hk q (Nat.lt_of_lt_of_le h1 hS.1) (fun z => h2 (hA q z))]; exact hS.2.1 q h1 h2, fun q hq => by
      rcases List.mem_append.mp hq with h | h
      · exact hS.2.2 q h
      · exact hA _ (hL q h)⟩, V.2.2.2.2⟩ T' rfl X'
  exact ⟨t2, st t2 a1, b1⟩
/-- behind a call that wrote nothing -/
theorem qw_callR {st0 st1 : List Value} {rv : Option Value} {a : Array Value} (hst : rv.toList ++ rest = st1) (hr : va_Run p l e R s m args below meth c H locs cells slots 0 0 (F0 m pc ls st0) rest (qw_R rv a) (fun _ => False))
    (kk : W p l e R s m args below meth c H locs cells slots Q (F0 m (pc + 3) ls st1)) : W p l e R s m args below meth c H locs cells slots Q (F0 m pc ls st0) := by
  subst hst
  intro T hT X
  obtain ⟨v, st₀, t, T', L, h0, X', hL, e1, e2, ⟨hv, hh⟩, st⟩ := hr T hT X
  cases hv
  have hL0 : L = [] := List.eq_nil_iff_forall_not_mem.mpr fun q h => hL q h
  subst hL0
  rw [List.append_nil] at X'
  obtain ⟨t2, a1, b1⟩ := kk T' (by rw [e1, hh, h0]) X'
  exact ⟨t2, st t2 a1, b1⟩
variable {lv : List (Nat × Value)} {y : MethodName} {bytes : ByteArray} {maxL mc ms n index ci q0 N : Nat} {ret : Option FieldType} {wsy ws0 : List Cond} {rm : Room} {C : String} {T : u_T} {b : Addr} {As st0 st1 : List Value} {rv : Option Value} {fs : List Value}
theorem qw_hf {cells slots : Nat} (h1 : cells ≤ R.cells) (h2 : slots ≤ R.slots) : cells + 0 ≤ R.cells ∧ slots + 0 ≤ R.slots := ⟨h1, h2⟩
/-- invokevirtual, the callee writes: As its arguments in order, ws' the world behind -/
theorem qw_cV (S0 : CallFix p m c cc nL s args qw_big own) (V : qw_V D cy A s ws H locs) (hl : lv_has ls nL lv) (q0 : Nat) (he : ws[q0]? = some (b, .inr (ci, fs))) (hc : vwCl[ci]? = some (C, T, N))
    (hM : Met l y wsy rm (va_Pc (.ref b :: As) (qw_Pre D cy ws H.size)) (qw_Q rv D ws' (va_A ws H.size)) mc ms (va_A ws H.size)) (hG : GoodIn qw_big (wsV own index C y wsy)) (hw : wsy = Cond.code y bytes maxL ret :: ws0) (hrm : rm.cells = mc ∧ rm.slots = ms)
    (hd : y.cls = C ∧ y.cls ≠ "java/lang/invoke/MethodHandle" ∧ y.cls ≠ "java/lang/invoke/VarHandle" ∧ (parseMethodDescriptor y.desc).map (fun d => d.parameters.length) = some n) (hR : rm.frames + 1 ≤ R.frames ∧ 8 + (maxL + 11) + rm.locals ≤ R.locals)
    (hn : As.length = n) (hstk : st0 = As.reverse ++ .ref b :: rest) (hro : (rest.map fun v => v.category).sum ≤ 8) (hf : cells + mc ≤ R.cells ∧ slots + ms ≤ R.slots) (hst : rv.toList ++ rest = st1) (hdg : decode cc pc = .ok (.invokevirtual index, 3))
    (kk : ∀ (H1 : Heap) (locs1 : List Loc), qw_V D cy A s ws' H1 locs1 → W p l e R s m args below meth c H1 locs1 (cells + mc) (slots + ms) Q (F0 m (pc + 3) ls st1)) : W p l e R s m args below meth c H locs cells slots Q (F0 m pc ls st0) :=
  qw_call V hst (va_runV S0 hM (cwV n S0.2.2.2.2 hG hw hrm.1 hrm.2 hd hR) ⟨qw_Pre.calling, va_recv V.2.1 V.1 hc he, fun U hU hW => ⟨rfl, V.pre U hU hW⟩⟩ rfl hn hl.1 hstk (lv_room hro) hdg hf) kk
/-- invokevirtual, the callee writes nothing -/
theorem qw_cVR (S0 : CallFix p m c cc nL s args qw_big own) (V : qw_V D cy A s ws H locs) (hl : lv_has ls nL lv) (q0 : Nat) (he : ws[q0]? = some (b, .inr (ci, fs))) (hc : vwCl[ci]? = some (C, T, N))
    (hM : Met l y wsy rm (va_Pc (.ref b :: As) (qw_Pre D cy ws H.size)) (qw_R rv) 0 0 (fun _ => False)) (hG : GoodIn qw_big (wsV own index C y wsy)) (hw : wsy = Cond.code y bytes maxL ret :: ws0) (hrm : rm.cells = 0 ∧ rm.slots = 0)
    (hd : y.cls = C ∧ y.cls ≠ "java/lang/invoke/MethodHandle" ∧ y.cls ≠ "java/lang/invoke/VarHandle" ∧ (parseMethodDescriptor y.desc).map (fun d => d.parameters.length) = some n) (hR : rm.frames + 1 ≤ R.frames ∧ 8 + (maxL + 11) + rm.locals ≤ R.locals)
    (hn : As.length = n) (hstk : st0 = As.reverse ++ .ref b :: rest) (hro : (rest.map fun v => v.category).sum ≤ 8) (hf : cells + 0 ≤ R.cells ∧ slots + 0 ≤ R.slots) (hst : rv.toList ++ rest = st1) (hdg : decode cc pc = .ok (.invokevirtual index, 3))
    (kk : W p l e R s m args below meth c H locs cells slots Q (F0 m (pc + 3) ls st1)) : W p l e R s m args below meth c H locs cells slots Q (F0 m pc ls st0) :=
  qw_callR hst (va_runV S0 hM (cwV n S0.2.2.2.2 hG hw hrm.1 hrm.2 hd hR) ⟨qw_Pre.calling, va_recv V.2.1 V.1 hc he, fun U hU hW => ⟨rfl, V.pre U hU hW⟩⟩ rfl hn hl.1 hstk (lv_room hro) hdg hf) kk
theorem qw_cS (S0 : CallFix p m c cc nL s args qw_big own) (V : qw_V D cy A s ws H locs) (hl : lv_has ls nL lv)
    (hM : Met l y wsy rm (va_Pc As (qw_Pre D cy ws H.size)) (qw_Q rv D ws' (va_A ws H.size)) mc ms (va_A ws H.size)) (hG : GoodIn qw_big (va_wsS own index y wsy)) (hw : wsy = Cond.code y bytes maxL ret :: ws0) (hrm : rm.cells = mc ∧ rm.slots = ms)
    (hd : y.cls ≠ "java/lang/invoke/MethodHandle" ∧ y.cls ≠ "java/lang/invoke/VarHandle" ∧ (parseMethodDescriptor y.desc).map (fun d => d.parameters.length) = some n) (hR : rm.frames + 1 ≤ R.frames ∧ 8 + (maxL + 11) + rm.locals ≤ R.locals)
    (hn : As.length = n) (hstk : st0 = As.reverse ++ rest) (hro : (rest.map fun v => v.category).sum ≤ 8) (hf : cells + mc ≤ R.cells ∧ slots + ms ≤ R.slots) (hst : rv.toList ++ rest = st1) (hdg : decode cc pc = .ok (.invokestatic index, 3))
    (kk : ∀ (H1 : Heap) (locs1 : List Loc), qw_V D cy A s ws' H1 locs1 → W p l e R s m args below meth c H1 locs1 (cells + mc) (slots + ms) Q (F0 m (pc + 3) ls st1)) : W p l e R s m args below meth c H locs cells slots Q (F0 m pc ls st0) :=
  qw_call V hst (va_runS S0 hM (va_cwS n S0.2.2.2.2 hG hw hrm.1 hrm.2 hd hR) ⟨qw_Pre.calling, fun U hU hW => ⟨rfl, V.pre U hU hW⟩⟩ rfl hn hl.1 hstk (lv_room hro) hdg hf) kk
theorem qw_cSR (S0 : CallFix p m c cc nL s args qw_big own) (V : qw_V D cy A s ws H locs) (hl : lv_has ls nL lv)
    (hM : Met l y wsy rm (va_Pc As (qw_Pre D cy ws H.size)) (qw_R rv) 0 0 (fun _ => False)) (hG : GoodIn qw_big (va_wsS own index y wsy)) (hw : wsy = Cond.code y bytes maxL ret :: ws0) (hrm : rm.cells = 0 ∧ rm.slots = 0)
    (hd : y.cls ≠ "java/lang/invoke/MethodHandle" ∧ y.cls ≠ "java/lang/invoke/VarHandle" ∧ (parseMethodDescriptor y.desc).map (fun d => d.parameters.length) = some n) (hR : rm.frames + 1 ≤ R.frames ∧ 8 + (maxL + 11) + rm.locals ≤ R.locals)
    (hn : As.length = n) (hstk : st0 = As.reverse ++ rest) (hro : (rest.map fun v => v.category).sum ≤ 8) (hf : cells + 0 ≤ R.cells ∧ slots + 0 ≤ R.slots) (hst : rv.toList ++ rest = st1) (hdg : decode cc pc = .ok (.invokestatic index, 3))
    (kk : W p l e R s m args below meth c H locs cells slots Q (F0 m (pc + 3) ls st1)) : W p l e R s m args below meth c H locs cells slots Q (F0 m pc ls st0) :=
  qw_callR hst (va_runS S0 hM (va_cwS n S0.2.2.2.2 hG hw hrm.1 hrm.2 hd hR) ⟨qw_Pre.calling, fun U hU hW => ⟨rfl, V.pre U hU hW⟩⟩ rfl hn hl.1 hstk (lv_room hro) hdg hf) kk
/-- a static call of a nest mate's private method, which writes nothing -/
theorem qw_cSRN {host : String} (S0 : CallFix p m c cc nL s args qw_big own) (V : qw_V D cy A s ws H locs) (hl : lv_has ls nL lv)
    (hM : Met l y wsy rm (va_Pc As (qw_Pre D cy ws H.size)) (qw_R rv) 0 0 (fun _ => False)) (hG : GoodIn qw_big wsy) (hlk : va_Nw (.methodLinkNest own index y host) s) (hini : Cond.initialized y.cls ∈ qw_big) (hsta : Cond.static y ∈ qw_big) (hw : wsy = Cond.code y bytes maxL ret :: ws0) (hrm : rm.cells = 0 ∧ rm.slots = 0)
    (hd : y.cls ≠ "java/lang/invoke/MethodHandle" ∧ y.cls ≠ "java/lang/invoke/VarHandle" ∧ (parseMethodDescriptor y.desc).map (fun d => d.parameters.length) = some n) (hR : rm.frames + 1 ≤ R.frames ∧ 8 + (maxL + 11) + rm.locals ≤ R.locals)
    (hn : As.length = n) (hstk : st0 = As.reverse ++ rest) (hro : (rest.map fun v => v.category).sum ≤ 8) (hf : cells + 0 ≤ R.cells ∧ slots + 0 ≤ R.slots) (hst : rv.toList ++ rest = st1) (hdg : decode cc pc = .ok (.invokestatic index, 3))
    (kk : W p l e R s m args below meth c H locs cells slots Q (F0 m (pc + 3) ls st1)) : W p l e R s m args below meth c H locs cells slots Q (F0 m pc ls st0) :=
  qw_callR hst (va_runSN S0 hM ⟨va_cnB n S0.2.2.2.2 hG hw hrm.1 hrm.2 hlk (S0.2.2.2.2 _ hini) hd hR, S0.2.2.2.2 _ hsta, trivial⟩ ⟨qw_Pre.calling, fun U hU hW => ⟨rfl, V.pre U hU hW⟩⟩ rfl hn hl.1 hstk (lv_room hro) hdg hf) kk
/-! ends -/
theorem qw_ireti {Z : Nat → Prop} (S0 : CallFix p m c cc nL s args qw_big own) (hr : meth.sig.returnType = some .int) (hlocks : meth.locks = false) {v v9 : Int32} {ws9 : va_W} (hQ : Q = MQ below (qw_Q (some (.int v9)) D ws9 Z) args s cells slots Z) (hv : v = v9) (hw : ws' = ws9) (V : qw_V D cy Z s ws' H locs) (hdg : decode cc pc = .ok (.ireturn, 1)) :
    W p l e R s m args below meth c H locs cells slots Q (F0 m pc ls [.int v]) := by
  subst hQ; subst hv; subst hw
  exact W.iret S0.1 S0.2.1 hr (fun t ht hW => ⟨rfl, by rw [ht]; exact V.1, V.2.2.1, V.2.2.2.1.F ht⟩) V.2.2.2.1.2.2 hdg hlocks
theorem qw_iretR (S0 : CallFix p m c cc nL s args qw_big own) (hr : meth.sig.returnType = some .int) (hlocks : meth.locks = false) {v v9 : Int32} (hQ : Q = MQ below (qw_R (some (.int v9))) args s cells slots (fun _ => False)) (hv : v = v9) (hdg : decode cc pc = .ok (.ireturn, 1)) :
    W p l e R s m args below meth c s.heap [] cells slots Q (F0 m pc ls [.int v]) := by
  subst hQ; subst hv
  exact W.iret S0.1 S0.2.1 hr (fun t ht hW => ⟨rfl, ht⟩) (fun _ h => nomatch h) hdg hlocks
theorem qw_zreti {Z : Nat → Prop} {ty : FieldType} (S0 : CallFix p m c cc nL s args qw_big own) (hr : meth.sig.returnType = some ty) (hlocks : meth.locks = false) {v v9 : Int32} {ws9 : va_W} (hQ : Q = MQ below (qw_Q (some (.int v9)) D ws9 Z) args s cells slots Z) (hv : v = v9) (hw : ws' = ws9) (hnr : narrow ty (.int v) = .int v) (V : qw_V D cy Z s ws' H locs) (hdg : decode cc pc = .ok (.ireturn, 1)) :
    W p l e R s m args below meth c H locs cells slots Q (F0 m pc ls [.int v]) := by
  subst hQ; subst hv; subst hw
  exact W.zret S0.1 S0.2.1 hr hnr (fun t ht hW => ⟨rfl, by rw [ht]; exact V.1, V.2.2.1, V.2.2.2.1.F ht⟩) V.2.2.2.1.2.2 hdg hlocks
theorem qw_zretR {ty : FieldType} (S0 : CallFix p m c cc nL s args qw_big own) (hr : meth.sig.returnType = some ty) (hlocks : meth.locks = false) {v v9 : Int32} (hQ : Q = MQ below (qw_R (some (.int v9))) args s cells slots (fun _ => False)) (hnr : narrow ty (.int v) = .int v) (hv : v = v9) (hdg : decode cc pc = .ok (.ireturn, 1)) :
    W p l e R s m args below meth c s.heap [] cells slots Q (F0 m pc ls [.int v]) := by
  subst hQ; subst hv
  exact W.zret S0.1 S0.2.1 hr hnr (fun t ht hW => ⟨rfl, ht⟩) (fun _ h => nomatch h) hdg hlocks
theorem qw_vreti {Z : Nat → Prop} (S0 : CallFix p m c cc nL s args qw_big own) (hr : meth.sig.returnType = none) (hlocks : meth.locks = false) {ws9 : va_W} (hQ : Q = MQ below (qw_Q none D ws9 Z) args s cells slots Z) (hw : ws' = ws9) (V : qw_V D cy Z s ws' H locs) (hdg : decode cc pc = .ok (.return_, 1)) :
    W p l e R s m args below meth c H locs cells slots Q (F0 m pc ls []) := by
  subst hQ; subst hw
  exact W.vret S0.1 S0.2.1 hr (fun t ht hW => ⟨rfl, by rw [ht]; exact V.1, V.2.2.1, V.2.2.2.1.F ht⟩) V.2.2.2.1.2.2 hdg hlocks
theorem qw_vretR (S0 : CallFix p m c cc nL s args qw_big own) (hr : meth.sig.returnType = none) (hlocks : meth.locks = false) (hQ : Q = MQ below (qw_R none) args s cells slots (fun _ => False)) (hdg : decode cc pc = .ok (.return_, 1)) :
    W p l e R s m args below meth c s.heap [] cells slots Q (F0 m pc ls []) := by
  subst hQ
  exact W.vret S0.1 S0.2.1 hr (fun t ht hW => ⟨rfl, ht⟩) (fun _ h => nomatch h) hdg hlocks
theorem qw_nz {r : Int32} (h : r = 0 ∨ r = 1) : narrow .boolean (.int r) = .int r := by rcases h with rfl | rfl <;> rfl
/-! one array of a world that is a variable -/
theorem qw_gq {α : Type} {w : List α} {q0 : Nat} {x y : α} (h : w[q0]? = some y) : (w.set q0 x)[q0]? = some x := List.getElem?_set_self (List.getElem?_eq_some_iff.mp h).1
theorem qw_gq2 {α : Type} {w : List α} {q0 q1 : Nat} {x y : α} (h : w[q0]? = some y) (hq : q1 ≠ q0) : (w.set q1 x)[q0]? = some y := by rw [List.getElem?_set_ne hq]; exact h
theorem qw_self {α : Type} {w : List α} {q0 : Nat} {x : α} (h : w[q0]? = some x) : w.set q0 x = w := by
  apply List.ext_getElem?
  intro k
  by_cases e : q0 = k
  · subst e; rw [qw_gq h, h]
  · rw [List.getElem?_set_ne e]
theorem qw_V.toq {q0 n : Nat} {f : Nat → Int32} (ha : ws[q0]? = some (a, .inl (cy 0, n, .inl f))) (V : qw_V D cy A s ws H locs) : qw_V D cy A s (ws.set q0 (a, .inl (cy 0, n, .inl f))) H locs := by rw [qw_self ha]; exact V
theorem qw_istq {n : Nat} {f f0 : Nat → Int32} {q : Nat} (S0 : CallFix p m c cc nL s args qw_big own) (V : qw_V D cy A s (ws.set q (a, .inl (cy 0, n, .inl f))) H locs) (q0 : Nat) (ha : ws[q]? = some (a, .inl (cy 0, n, .inl f0))) {i x : Int32} (hin : vp_in i n) (hdg : decode cc pc = .ok (.iastore, 1))
    (kk : ∀ (H1 : Heap) (locs1 : List Loc) (f1 : Nat → Int32), f1 = upd f i.toNatClampNeg x → qw_V D cy A s (ws.set q (a, .inl (cy 0, n, .inl f1))) H1 locs1 → W p l e R s m args below meth c H1 locs1 cells slots Q (F0 m (pc + 1) ls rest)) : W p l e R s m args below meth c H locs cells slots Q (F0 m pc ls (.int x :: .int i :: .ref a :: rest)) :=
  qw_ist S0 V q (qw_gq ha) (List.set_set _) hin hdg (fun H1 locs1 V1 => kk H1 locs1 _ rfl V1)
theorem qw_cpq {a0 n0 n1 q : Nat} {f g g0 : Nat → Int32} (S0 : CallFix p m c cc nL s args qw_big own) (V : qw_V D cy A s (ws.set q (a, .inl (cy 0, n1, .inl g))) H locs) (hsz : ls.size = nL) {index : Nat} (hlink : Cond.methodLink own index arraycopyName ∈ qw_big)
    (q0 q1 : Nat) (ha0 : (ws.set q (a, .inl (cy 0, n1, .inl g)))[q0]? = some (a0, .inl (cy 0, n0, .inl f))) (ha1 : ws[q]? = some (a, .inl (cy 0, n1, .inl g0))) {sp dp n : Int32} (hc : (¬ sp < 0 ∧ ¬ dp < 0 ∧ ¬ n < 0) ∧ sp.toNatClampNeg + n.toNatClampNeg ≤ n0 ∧ dp.toNatClampNeg + n.toNatClampNeg ≤ n1)
    (hframes : 1 ≤ R.frames) (hlocals : (rest.map fun v => v.category).sum + (nativeFrameWords "java/lang/System" "arraycopy" 5 + 11) ≤ R.locals) (hdg : decode cc pc = .ok (.invokestatic index, 3))
    (kk : ∀ (H1 : Heap) (locs1 : List Loc) (f1 : Nat → Int32), f1 = va_cpy f g sp.toNatClampNeg dp.toNatClampNeg n.toNatClampNeg → qw_V D cy A s (ws.set q (a, .inl (cy 0, n1, .inl f1))) H1 locs1 → W p l e R s m args below meth c H1 locs1 cells slots Q (F0 m (pc + 3) ls rest)) : W p l e R s m args below meth c H locs cells slots Q (F0 m pc ls (.int n :: .int dp :: .ref a :: .int sp :: .ref a0 :: rest)) :=
  qw_cpi S0 V hsz hlink q0 q ha0 (qw_gq ha1) hc (List.set_set _) hframes hlocals hdg (fun H1 locs1 V1 => kk H1 locs1 _ rfl V1)
theorem qw_tab {x : Int32} (n : Nat) (h : ∀ k : Nat, k ≤ n → x ≠ nI k) (hn : n < 2 ^ 31 := by decide) : x.toInt < 0 ∨ (n : Int) < x.toInt := by
  by_cases h0 : x.toInt < 0
  · exact Or.inl h0
  by_cases h1 : (n : Int) < x.toInt
  · exact Or.inr h1
  exfalso
  refine h x.toInt.toNat (by omega) ?_
  rw [← Int32.toInt_inj, nI_toInt (by omega)]
  omega
end QW
/-- a contract out of its walk -/
theorem qw_of {l : Launch} {y : MethodName} {rm : Room} {Qc : Array Value → State → Outcome → State → Prop} {mc ms : Nat} {free : Addr → Prop} {cc : ByteArray} {maxL : Nat} {ret : Option FieldType} {D : va_G} {cy : Nat → ClassId} {ws : va_W} {sz : Nat} {av : List Value}
    (hy : plainName y.cls = true) (hav : (lg_sl av).length ≤ maxL)
    (body : ∀ (p : Program) (e : Env) (s : State) (m : MethodId) (args : Array Value) (below : List Frame) (meth : Method) (c : Code) (ls : Array Slot), CallFix p m c cc maxL s args qw_big y.cls → meth.sig.returnType = ret → meth.locks = false → s.heap.size = sz → qw_V D cy (va_A ws sz) s ws s.heap [] → lv_has ls maxL (lv_args 0 av) →
      W p l e rm s m args below meth c s.heap [] 0 0 (MQ below Qc args s mc ms free) (F0 m 0 ls [])) : Met l y (Cond.code y cc maxL ret :: qw_big) rm (va_Pc av (qw_Pre D cy ws sz)) Qc mc ms free := by
  refine Met.ofW (cc := cc) (maxL := maxL) (ret := ret) hy rfl ?_
  intro p e s m args below meth c s₁ B hml hv
  obtain ⟨rfl, hsz, hP, hK, hD0, hE⟩ := hv
  rw [lg_entry_eq]
  exact body p e s m _ below meth c _ ⟨B.exec, B.bytes, hml, findClass_of_methodNamed B.named, fun w h => atoms_spec (ws := Cond.code y cc maxL ret :: qw_big) B.pre w (List.mem_cons_of_mem _ h)⟩ B.returns B.notSynchronized hsz ⟨hP, hK, by have := hD0.self (sz := sz); exact this, va_S.rf, fun q h => Or.inr (by rw [hsz] at h; exact h), hE⟩ (lv_entry av hav)
