def qc_a (a : Nat) (r : Nat → Nat) : Nat → Nat := fun k => if k = 0 then a else r k
def qc_set : Nat → Int32 := va_cpy (fun j => ([20, 20, 10] : List Int32).getD j 0) (fun _ => 0) 0 0 3
set_option maxRecDepth 100000 in
theorem qc_set_eq : f_X5_copy 3 3 (fun j => ([20, 20, 10] : List Int32).getD j 0) (fun _ => 0) = some qc_set := by rfl
def qc_I : Nat → Int32 := fun k => if k = 1 then -1 else if k = 4 then -1 else 0
def qc_A : Nat → Nat → Int32 := fun k => if k = 35 then qc_set else if k = 49 then qc_set else fun _ => 0
def qc_G : Nat → Int32 × (Nat → Nat → Int32) := fun _ => (0, fun k => if k = 2 then qc_set else fun _ => 0)
def qc_mI : Nat → Int32 := fun k => if k = 9 then -1 else 0
theorem qc_perm {D : va_G} {A : Nat → Prop} {B4 B' : va_W} {H : Heap} (is : List Nat) (hn : va_nd is = true) (hs : is.map (fun i => B4[i]?) = B'.map some) (hP : va_P D vwCl B4 H) (hD : va_D A B4) : va_P D vwCl B' H ∧ va_D A B' := by
  refine ⟨fun k q hk => ?_, hD.sub is hn hs⟩
  have h1 : (is.map (fun i => B4[i]?))[k]? = some (some q) := by rw [hs, List.getElem?_map, hk]; rfl
  rw [List.getElem?_map] at h1
  cases hi : is[k]? with
  | none => rw [hi] at h1; cases h1
  | some i => rw [hi] at h1; exact hP i q (Option.some.inj h1)
def W6c (cy : Nat → ClassId) (a : Nat) (r : Nat → Nat) : va_W := [(a, .inr (5, [.ref (r 0), .int 0, .int 0, .int 0, .int 0])),
  (r 0, .inl (cy 0, 0, .inl (fun _ => 0)))]
theorem kdi_X6 : yX6_init.cls ≠ "java/lang/invoke/MethodHandle" ∧ yX6_init.cls ≠ "java/lang/invoke/VarHandle" ∧ (parseMethodDescriptor yX6_init.desc).map (fun d => d.parameters.length) = some 0 := by decide +kernel
abbrev wz_X6_init : List Cond := Cond.code yX6_init cX6_init 1 none :: qw_big
def rm_X6_init : Room := { frames := 1, cells := 1, slots := 0, locals := 12 }
set_option maxHeartbeats 4000000 in
set_option maxRecDepth 100000 in
theorem c_X6_init (l : Launch) {D : va_G} {cy : Nat → ClassId} {a sz : Nat} : Met l yX6_init wz_X6_init rm_X6_init (va_Pc [.ref a] (qw_Pre D cy [(a, .inr (5, [.null, .int 0, .int 0, .int 0, .int 0]))] sz)) (qc_Q D (W6c cy a) (va_A [(a, .inr (5, [.null, .int 0, .int 0, .int 0, .int 0]))] sz)) 1 0 (va_A [(a, .inr (5, [.null, .int 0, .int 0, .int 0, .int 0]))] sz) := by
  refine qc_of (cc := cX6_init) (maxL := 1) (ret := none) (by decide) (Nat.le_of_ble_eq_true rfl) ?_
  intro p e s m args below meth c ls S0 hin2 hr hlocks hsz V hl
  have S0 : CallFix p m c cX6_init 1 s args qw_big RX6 := S0
  have hin2 : meth.name = "<init>" := hin2
  have hx := S0.1; have hb := S0.2.1; have hown := S0.2.2.2.1; have hts := S0.2.2.2.2
  have hl : lv_has ls 1 [(0, .ref a)] := hl
  generalize va_A [(a, .inr (5, [.null, .int 0, .int 0, .int 0, .int 0]))] sz = Z9 at V ⊢
  clear hsz
  have V : qw_V D cy Z9 s [(a, .inr (5, [.null, .int 0, .int 0, .int 0, .int 0]))] s.heap [] := V
  refine lv_aload_n hx hb dX6_init_0 rfl (lv_at hl 0 rfl) ?_
  refine qc_oi S0 hl.1 kml_X6_3 (Nat.le_of_ble_eq_true rfl) (Nat.le_of_ble_eq_true rfl) dX6_init_1 ?_
  refine lv_aload_n hx hb dX6_init_4 rfl (lv_at hl 0 rfl) ?_
  refine lv_iconst (v := 0) hx hb dX6_init_5 (by decide) ?_
  refine qc_newa (N := 0) S0 V (by decide) rfl (Nat.le_of_ble_eq_true rfl) (Nat.le_of_ble_eq_true rfl) (Nat.le_of_ble_eq_true rfl) dX6_init_6 (fun q0 H V => ?_)
  simp only [List.append_assoc, List.cons_append, List.nil_append] at V
  have V : qw_V D cy Z9 s [(a, .inr (5, [.null, .int 0, .int 0, .int 0, .int 0])), (q0, .inl (cy 0, 0, .inl (fun _ => 0)))] H [] := V
  refine qc_put (C := RX6) (T := TX6) (N := 5) (ci := 5) (ws' := [(a, .inr (5, [.ref q0, .int 0, .int 0, .int 0, .int 0])), (q0, .inl (cy 0, 0, .inl (fun _ => 0)))]) S0 V kc_X6 tyX6 tyX6_ok nmX6 hin2 0 rfl rfl 0 (by decide) kl_X6_9 (fun _ h => h) rfl (ty := .array .int) rfl rfl rfl (by show _ < 5; decide) rfl dX6_init_8 (fun H locs V => ?_)
  refine lv_aload_n hx hb dX6_init_11 rfl (lv_at hl 0 rfl) ?_
  refine lv_iconst (v := 0) hx hb dX6_init_12 (by decide) ?_
  refine qc_put (C := RX6) (T := TX6) (N := 5) (ci := 5) (ws' := [(a, .inr (5, [.ref q0, .int 0, .int 0, .int 0, .int 0])), (q0, .inl (cy 0, 0, .inl (fun _ => 0)))]) S0 V kc_X6 tyX6 tyX6_ok nmX6 hin2 0 rfl rfl 1 (by decide) kl_X6_15 (fun _ h => h) rfl (ty := .int) rfl rfl rfl (by show _ < 5; decide) rfl dX6_init_13 (fun H locs V => ?_)
  refine lv_aload_n hx hb dX6_init_16 rfl (lv_at hl 0 rfl) ?_
  refine lv_iconst (v := 0) hx hb dX6_init_17 (by decide) ?_
  refine qc_put (C := RX6) (T := TX6) (N := 5) (ci := 5) (ws' := [(a, .inr (5, [.ref q0, .int 0, .int 0, .int 0, .int 0])), (q0, .inl (cy 0, 0, .inl (fun _ => 0)))]) S0 V kc_X6 tyX6 tyX6_ok nmX6 hin2 0 rfl rfl 2 (by decide) kl_X6_19 (fun _ h => h) rfl (ty := .int) rfl rfl rfl (by show _ < 5; decide) rfl dX6_init_18 (fun H locs V => ?_)
  refine lv_aload_n hx hb dX6_init_21 rfl (lv_at hl 0 rfl) ?_
  refine lv_iconst (v := 0) hx hb dX6_init_22 (by decide) ?_
  refine qc_put (C := RX6) (T := TX6) (N := 5) (ci := 5) (ws' := [(a, .inr (5, [.ref q0, .int 0, .int 0, .int 0, .int 0])), (q0, .inl (cy 0, 0, .inl (fun _ => 0)))]) S0 V kc_X6 tyX6 tyX6_ok nmX6 hin2 0 rfl rfl 3 (by decide) kl_X6_22 (fun _ h => h) rfl (ty := .int) rfl rfl rfl (by show _ < 5; decide) rfl dX6_init_23 (fun H locs V => ?_)
  refine lv_aload_n hx hb dX6_init_26 rfl (lv_at hl 0 rfl) ?_
  refine lv_iconst (v := 0) hx hb dX6_init_27 (by decide) ?_
  refine qc_put (C := RX6) (T := TX6) (N := 5) (ci := 5) (ws' := [(a, .inr (5, [.ref q0, .int 0, .int 0, .int 0, .int 0])), (q0, .inl (cy 0, 0, .inl (fun _ => 0)))]) S0 V kc_X6 tyX6 tyX6_ok nmX6 hin2 0 rfl rfl 4 (by decide) kl_X6_25 (fun _ h => h) rfl (ty := .int) rfl rfl rfl (by show _ < 5; decide) rfl dX6_init_28 (fun H locs V => ?_)
  exact qc_ret S0 hr hlocks rfl rfl rfl (fun k => ([q0] : List Nat).getD k 0) V dX6_init_31
def W3c (cy : Nat → ClassId) (a : Nat) (r : Nat → Nat) : va_W := [(a, .inr (3, [.int 0, .int 0, .int 0, .int 0, .ref (r 0), .ref (r 1), .ref (r 2), .ref (r 3), .ref (r 4), .ref (r 5), .ref (r 6), .ref (r 7), .ref (r 8), .ref (r 9), .ref (r 10)])),
  (r 0, .inl (cy 0, 4, .inl (fun _ => 0))),
  (r 1, .inl (cy 0, 6, .inl (fun _ => 0))),
  (r 2, .inl (cy 0, 6, .inl (fun _ => 0))),
  (r 3, .inl (cy 0, 4, .inl (fun _ => 0))),
  (r 4, .inl (cy 0, 4, .inl (fun _ => 0))),
  (r 5, .inl (cy 0, 4, .inl (fun _ => 0))),
  (r 6, .inl (cy 0, 4, .inl (fun _ => 0))),
  (r 7, .inl (cy 0, 4, .inl (fun _ => 0))),
  (r 8, .inl (cy 0, 6, .inl (fun _ => 0))),
  (r 9, .inl (cy 0, 6, .inl (fun _ => 0))),
  (r 10, .inl (cy 0, 6, .inl (fun _ => 0)))]
theorem kdi_X3 : yX3_init.cls ≠ "java/lang/invoke/MethodHandle" ∧ yX3_init.cls ≠ "java/lang/invoke/VarHandle" ∧ (parseMethodDescriptor yX3_init.desc).map (fun d => d.parameters.length) = some 0 := by decide +kernel
abbrev wz_X3_init : List Cond := Cond.code yX3_init cX3_init 1 none :: qw_big
def rm_X3_init : Room := { frames := 1, cells := 11, slots := 54, locals := 12 }
set_option maxHeartbeats 4000000 in
set_option maxRecDepth 100000 in
theorem c_X3_init (l : Launch) {D : va_G} {cy : Nat → ClassId} {a sz : Nat} : Met l yX3_init wz_X3_init rm_X3_init (va_Pc [.ref a] (qw_Pre D cy [(a, .inr (3, [.int 0, .int 0, .int 0, .int 0, .null, .null, .null, .null, .null, .null, .null, .null, .null, .null, .null]))] sz)) (qc_Q D (W3c cy a) (va_A [(a, .inr (3, [.int 0, .int 0, .int 0, .int 0, .null, .null, .null, .null, .null, .null, .null, .null, .null, .null, .null]))] sz)) 11 54 (va_A [(a, .inr (3, [.int 0, .int 0, .int 0, .int 0, .null, .null, .null, .null, .null, .null, .null, .null, .null, .null, .null]))] sz) := by
  refine qc_of (cc := cX3_init) (maxL := 1) (ret := none) (by decide) (Nat.le_of_ble_eq_true rfl) ?_
  intro p e s m args below meth c ls S0 hin2 hr hlocks hsz V hl
  have S0 : CallFix p m c cX3_init 1 s args qw_big RX3 := S0
  have hin2 : meth.name = "<init>" := hin2
  have hx := S0.1; have hb := S0.2.1; have hown := S0.2.2.2.1; have hts := S0.2.2.2.2
  have hl : lv_has ls 1 [(0, .ref a)] := hl
  generalize va_A [(a, .inr (3, [.int 0, .int 0, .int 0, .int 0, .null, .null, .null, .null, .null, .null, .null, .null, .null, .null, .null]))] sz = Z9 at V ⊢
  clear hsz
  have V : qw_V D cy Z9 s [(a, .inr (3, [.int 0, .int 0, .int 0, .int 0, .null, .null, .null, .null, .null, .null, .null, .null, .null, .null, .null]))] s.heap [] := V
  refine lv_aload_n hx hb dX3_init_0 rfl (lv_at hl 0 rfl) ?_
  refine qc_oi S0 hl.1 kml_X3_3 (Nat.le_of_ble_eq_true rfl) (Nat.le_of_ble_eq_true rfl) dX3_init_1 ?_
  refine lv_aload_n hx hb dX3_init_4 rfl (lv_at hl 0 rfl) ?_
  refine lv_iconst (v := 0) hx hb dX3_init_5 (by decide) ?_
  refine qc_put (C := RX3) (T := TX3) (N := 15) (ci := 3) (ws' := [(a, .inr (3, [.int 0, .int 0, .int 0, .int 0, .null, .null, .null, .null, .null, .null, .null, .null, .null, .null, .null]))]) S0 V kc_X3 tyX3 tyX3_ok nmX3 hin2 0 rfl rfl 0 (by decide) kl_X3_9 (fun _ h => h) rfl (ty := .int) rfl rfl rfl (by show _ < 15; decide) rfl dX3_init_6 (fun H locs V => ?_)
  refine lv_aload_n hx hb dX3_init_9 rfl (lv_at hl 0 rfl) ?_
  refine lv_iconst (v := 0) hx hb dX3_init_10 (by decide) ?_
  refine qc_put (C := RX3) (T := TX3) (N := 15) (ci := 3) (ws' := [(a, .inr (3, [.int 0, .int 0, .int 0, .int 0, .null, .null, .null, .null, .null, .null, .null, .null, .null, .null, .null]))]) S0 V kc_X3 tyX3 tyX3_ok nmX3 hin2 0 rfl rfl 1 (by decide) kl_X3_15 (fun _ h => h) rfl (ty := .int) rfl rfl rfl (by show _ < 15; decide) rfl dX3_init_11 (fun H locs V => ?_)
  refine lv_aload_n hx hb dX3_init_14 rfl (lv_at hl 0 rfl) ?_
  refine lv_iconst (v := 0) hx hb dX3_init_15 (by decide) ?_
  refine qc_put (C := RX3) (T := TX3) (N := 15) (ci := 3) (ws' := [(a, .inr (3, [.int 0, .int 0, .int 0, .int 0, .null, .null, .null, .null, .null, .null, .null, .null, .null, .null, .null]))]) S0 V kc_X3 tyX3 tyX3_ok nmX3 hin2 0 rfl rfl 2 (by decide) kl_X3_18 (fun _ h => h) rfl (ty := .int) rfl rfl rfl (by show _ < 15; decide) rfl dX3_init_16 (fun H locs V => ?_)
  refine lv_aload_n hx hb dX3_init_19 rfl (lv_at hl 0 rfl) ?_
  refine lv_iconst (v := 0) hx hb dX3_init_20 (by decide) ?_
  refine qc_put (C := RX3) (T := TX3) (N := 15) (ci := 3) (ws' := [(a, .inr (3, [.int 0, .int 0, .int 0, .int 0, .null, .null, .null, .null, .null, .null, .null, .null, .null, .null, .null]))]) S0 V kc_X3 tyX3 tyX3_ok nmX3 hin2 0 rfl rfl 3 (by decide) kl_X3_21 (fun _ h => h) rfl (ty := .int) rfl rfl rfl (by show _ < 15; decide) rfl dX3_init_21 (fun H locs V => ?_)
  refine lv_aload_n hx hb dX3_init_24 rfl (lv_at hl 0 rfl) ?_
  refine lv_iconst (v := 4) hx hb dX3_init_25 (by decide) ?_
  refine qc_newa (N := 4) S0 V (by decide) rfl (Nat.le_of_ble_eq_true rfl) (Nat.le_of_ble_eq_true rfl) (Nat.le_of_ble_eq_true rfl) dX3_init_26 (fun q0 H V => ?_)
  simp only [List.append_assoc, List.cons_append, List.nil_append] at V
  have V : qw_V D cy Z9 s [(a, .inr (3, [.int 0, .int 0, .int 0, .int 0, .null, .null, .null, .null, .null, .null, .null, .null, .null, .null, .null])), (q0, .inl (cy 0, 4, .inl (fun _ => 0)))] H locs := V
  refine qc_put (C := RX3) (T := TX3) (N := 15) (ci := 3) (ws' := [(a, .inr (3, [.int 0, .int 0, .int 0, .int 0, .ref q0, .null, .null, .null, .null, .null, .null, .null, .null, .null, .null])), (q0, .inl (cy 0, 4, .inl (fun _ => 0)))]) S0 V kc_X3 tyX3 tyX3_ok nmX3 hin2 0 rfl rfl 4 (by decide) kl_X3_24 (fun _ h => h) rfl (ty := .array .int) rfl rfl rfl (by show _ < 15; decide) rfl dX3_init_28 (fun H locs V => ?_)
  refine lv_aload_n hx hb dX3_init_31 rfl (lv_at hl 0 rfl) ?_
  refine lv_bipush (v := 6) hx hb dX3_init_32 (by decide) ?_
  refine qc_newa (N := 6) S0 V (by decide) rfl (Nat.le_of_ble_eq_true rfl) (Nat.le_of_ble_eq_true rfl) (Nat.le_of_ble_eq_true rfl) dX3_init_34 (fun q1 H V => ?_)
  simp only [List.append_assoc, List.cons_append, List.nil_append] at V
  have V : qw_V D cy Z9 s [(a, .inr (3, [.int 0, .int 0, .int 0, .int 0, .ref q0, .null, .null, .null, .null, .null, .null, .null, .null, .null, .null])), (q0, .inl (cy 0, 4, .inl (fun _ => 0))), (q1, .inl (cy 0, 6, .inl (fun _ => 0)))] H locs := V
  refine qc_put (C := RX3) (T := TX3) (N := 15) (ci := 3) (ws' := [(a, .inr (3, [.int 0, .int 0, .int 0, .int 0, .ref q0, .ref q1, .null, .null, .null, .null, .null, .null, .null, .null, .null])), (q0, .inl (cy 0, 4, .inl (fun _ => 0))), (q1, .inl (cy 0, 6, .inl (fun _ => 0)))]) S0 V kc_X3 tyX3 tyX3_ok nmX3 hin2 0 rfl rfl 5 (by decide) kl_X3_28 (fun _ h => h) rfl (ty := .array .int) rfl rfl rfl (by show _ < 15; decide) rfl dX3_init_36 (fun H locs V => ?_)
  refine lv_aload_n hx hb dX3_init_39 rfl (lv_at hl 0 rfl) ?_
  refine lv_bipush (v := 6) hx hb dX3_init_40 (by decide) ?_
  refine qc_newa (N := 6) S0 V (by decide) rfl (Nat.le_of_ble_eq_true rfl) (Nat.le_of_ble_eq_true rfl) (Nat.le_of_ble_eq_true rfl) dX3_init_42 (fun q2 H V => ?_)
  simp only [List.append_assoc, List.cons_append, List.nil_append] at V
  have V : qw_V D cy Z9 s [(a, .inr (3, [.int 0, .int 0, .int 0, .int 0, .ref q0, .ref q1, .null, .null, .null, .null, .null, .null, .null, .null, .null])), (q0, .inl (cy 0, 4, .inl (fun _ => 0))), (q1, .inl (cy 0, 6, .inl (fun _ => 0))), (q2, .inl (cy 0, 6, .inl (fun _ => 0)))] H locs := V
  refine qc_put (C := RX3) (T := TX3) (N := 15) (ci := 3) (ws' := [(a, .inr (3, [.int 0, .int 0, .int 0, .int 0, .ref q0, .ref q1, .ref q2, .null, .null, .null, .null, .null, .null, .null, .null])), (q0, .inl (cy 0, 4, .inl (fun _ => 0))), (q1, .inl (cy 0, 6, .inl (fun _ => 0))), (q2, .inl (cy 0, 6, .inl (fun _ => 0)))]) S0 V kc_X3 tyX3 tyX3_ok nmX3 hin2 0 rfl rfl 6 (by decide) kl_X3_31 (fun _ h => h) rfl (ty := .array .int) rfl rfl rfl (by show _ < 15; decide) rfl dX3_init_44 (fun H locs V => ?_)
  refine lv_aload_n hx hb dX3_init_47 rfl (lv_at hl 0 rfl) ?_
  refine lv_iconst (v := 4) hx hb dX3_init_48 (by decide) ?_
  refine qc_newa (N := 4) S0 V (by decide) rfl (Nat.le_of_ble_eq_true rfl) (Nat.le_of_ble_eq_true rfl) (Nat.le_of_ble_eq_true rfl) dX3_init_49 (fun q3 H V => ?_)
  simp only [List.append_assoc, List.cons_append, List.nil_append] at V
  have V : qw_V D cy Z9 s [(a, .inr (3, [.int 0, .int 0, .int 0, .int 0, .ref q0, .ref q1, .ref q2, .null, .null, .null, .null, .null, .null, .null, .null])), (q0, .inl (cy 0, 4, .inl (fun _ => 0))), (q1, .inl (cy 0, 6, .inl (fun _ => 0))), (q2, .inl (cy 0, 6, .inl (fun _ => 0))), (q3, .inl (cy 0, 4, .inl (fun _ => 0)))] H locs := V
  refine qc_put (C := RX3) (T := TX3) (N := 15) (ci := 3) (ws' := [(a, .inr (3, [.int 0, .int 0, .int 0, .int 0, .ref q0, .ref q1, .ref q2, .ref q3, .null, .null, .null, .null, .null, .null, .null])), (q0, .inl (cy 0, 4, .inl (fun _ => 0))), (q1, .inl (cy 0, 6, .inl (fun _ => 0))), (q2, .inl (cy 0, 6, .inl (fun _ => 0))), (q3, .inl (cy 0, 4, .inl (fun _ => 0)))]) S0 V kc_X3 tyX3 tyX3_ok nmX3 hin2 0 rfl rfl 7 (by decide) kl_X3_34 (fun _ h => h) rfl (ty := .array .int) rfl rfl rfl (by show _ < 15; decide) rfl dX3_init_51 (fun H locs V => ?_)
  refine lv_aload_n hx hb dX3_init_54 rfl (lv_at hl 0 rfl) ?_
  refine lv_iconst (v := 4) hx hb dX3_init_55 (by decide) ?_
  refine qc_newa (N := 4) S0 V (by decide) rfl (Nat.le_of_ble_eq_true rfl) (Nat.le_of_ble_eq_true rfl) (Nat.le_of_ble_eq_true rfl) dX3_init_56 (fun q4 H V => ?_)
  simp only [List.append_assoc, List.cons_append, List.nil_append] at V
  have V : qw_V D cy Z9 s [(a, .inr (3, [.int 0, .int 0, .int 0, .int 0, .ref q0, .ref q1, .ref q2, .ref q3, .null, .null, .null, .null, .null, .null, .null])), (q0, .inl (cy 0, 4, .inl (fun _ => 0))), (q1, .inl (cy 0, 6, .inl (fun _ => 0))), (q2, .inl (cy 0, 6, .inl (fun _ => 0))), (q3, .inl (cy 0, 4, .inl (fun _ => 0))), (q4, .inl (cy 0, 4, .inl (fun _ => 0)))] H locs := V
  refine qc_put (C := RX3) (T := TX3) (N := 15) (ci := 3) (ws' := [(a, .inr (3, [.int 0, .int 0, .int 0, .int 0, .ref q0, .ref q1, .ref q2, .ref q3, .ref q4, .null, .null, .null, .null, .null, .null])), (q0, .inl (cy 0, 4, .inl (fun _ => 0))), (q1, .inl (cy 0, 6, .inl (fun _ => 0))), (q2, .inl (cy 0, 6, .inl (fun _ => 0))), (q3, .inl (cy 0, 4, .inl (fun _ => 0))), (q4, .inl (cy 0, 4, .inl (fun _ => 0)))]) S0 V kc_X3 tyX3 tyX3_ok nmX3 hin2 0 rfl rfl 8 (by decide) kl_X3_37 (fun _ h => h) rfl (ty := .array .int) rfl rfl rfl (by show _ < 15; decide) rfl dX3_init_58 (fun H locs V => ?_)
  refine lv_aload_n hx hb dX3_init_61 rfl (lv_at hl 0 rfl) ?_
  refine lv_iconst (v := 4) hx hb dX3_init_62 (by decide) ?_
  refine qc_newa (N := 4) S0 V (by decide) rfl (Nat.le_of_ble_eq_true rfl) (Nat.le_of_ble_eq_true rfl) (Nat.le_of_ble_eq_true rfl) dX3_init_63 (fun q5 H V => ?_)
  simp only [List.append_assoc, List.cons_append, List.nil_append] at V
  have V : qw_V D cy Z9 s [(a, .inr (3, [.int 0, .int 0, .int 0, .int 0, .ref q0, .ref q1, .ref q2, .ref q3, .ref q4, .null, .null, .null, .null, .null, .null])), (q0, .inl (cy 0, 4, .inl (fun _ => 0))), (q1, .inl (cy 0, 6, .inl (fun _ => 0))), (q2, .inl (cy 0, 6, .inl (fun _ => 0))), (q3, .inl (cy 0, 4, .inl (fun _ => 0))), (q4, .inl (cy 0, 4, .inl (fun _ => 0))), (q5, .inl (cy 0, 4, .inl (fun _ => 0)))] H locs := V
  refine qc_put (C := RX3) (T := TX3) (N := 15) (ci := 3) (ws' := [(a, .inr (3, [.int 0, .int 0, .int 0, .int 0, .ref q0, .ref q1, .ref q2, .ref q3, .ref q4, .ref q5, .null, .null, .null, .null, .null])), (q0, .inl (cy 0, 4, .inl (fun _ => 0))), (q1, .inl (cy 0, 6, .inl (fun _ => 0))), (q2, .inl (cy 0, 6, .inl (fun _ => 0))), (q3, .inl (cy 0, 4, .inl (fun _ => 0))), (q4, .inl (cy 0, 4, .inl (fun _ => 0))), (q5, .inl (cy 0, 4, .inl (fun _ => 0)))]) S0 V kc_X3 tyX3 tyX3_ok nmX3 hin2 0 rfl rfl 9 (by decide) kl_X3_40 (fun _ h => h) rfl (ty := .array .int) rfl rfl rfl (by show _ < 15; decide) rfl dX3_init_65 (fun H locs V => ?_)
  refine lv_aload_n hx hb dX3_init_68 rfl (lv_at hl 0 rfl) ?_
  refine lv_iconst (v := 4) hx hb dX3_init_69 (by decide) ?_
  refine qc_newa (N := 4) S0 V (by decide) rfl (Nat.le_of_ble_eq_true rfl) (Nat.le_of_ble_eq_true rfl) (Nat.le_of_ble_eq_true rfl) dX3_init_70 (fun q6 H V => ?_)
  simp only [List.append_assoc, List.cons_append, List.nil_append] at V
  have V : qw_V D cy Z9 s [(a, .inr (3, [.int 0, .int 0, .int 0, .int 0, .ref q0, .ref q1, .ref q2, .ref q3, .ref q4, .ref q5, .null, .null, .null, .null, .null])), (q0, .inl (cy 0, 4, .inl (fun _ => 0))), (q1, .inl (cy 0, 6, .inl (fun _ => 0))), (q2, .inl (cy 0, 6, .inl (fun _ => 0))), (q3, .inl (cy 0, 4, .inl (fun _ => 0))), (q4, .inl (cy 0, 4, .inl (fun _ => 0))), (q5, .inl (cy 0, 4, .inl (fun _ => 0))), (q6, .inl (cy 0, 4, .inl (fun _ => 0)))] H locs := V
  refine qc_put (C := RX3) (T := TX3) (N := 15) (ci := 3) (ws' := [(a, .inr (3, [.int 0, .int 0, .int 0, .int 0, .ref q0, .ref q1, .ref q2, .ref q3, .ref q4, .ref q5, .ref q6, .null, .null, .null, .null])), (q0, .inl (cy 0, 4, .inl (fun _ => 0))), (q1, .inl (cy 0, 6, .inl (fun _ => 0))), (q2, .inl (cy 0, 6, .inl (fun _ => 0))), (q3, .inl (cy 0, 4, .inl (fun _ => 0))), (q4, .inl (cy 0, 4, .inl (fun _ => 0))), (q5, .inl (cy 0, 4, .inl (fun _ => 0))), (q6, .inl (cy 0, 4, .inl (fun _ => 0)))]) S0 V kc_X3 tyX3 tyX3_ok nmX3 hin2 0 rfl rfl 10 (by decide) kl_X3_43 (fun _ h => h) rfl (ty := .array .int) rfl rfl rfl (by show _ < 15; decide) rfl dX3_init_72 (fun H locs V => ?_)
  refine lv_aload_n hx hb dX3_init_75 rfl (lv_at hl 0 rfl) ?_
  refine lv_iconst (v := 4) hx hb dX3_init_76 (by decide) ?_
  refine qc_newa (N := 4) S0 V (by decide) rfl (Nat.le_of_ble_eq_true rfl) (Nat.le_of_ble_eq_true rfl) (Nat.le_of_ble_eq_true rfl) dX3_init_77 (fun q7 H V => ?_)
  simp only [List.append_assoc, List.cons_append, List.nil_append] at V
  have V : qw_V D cy Z9 s [(a, .inr (3, [.int 0, .int 0, .int 0, .int 0, .ref q0, .ref q1, .ref q2, .ref q3, .ref q4, .ref q5, .ref q6, .null, .null, .null, .null])), (q0, .inl (cy 0, 4, .inl (fun _ => 0))), (q1, .inl (cy 0, 6, .inl (fun _ => 0))), (q2, .inl (cy 0, 6, .inl (fun _ => 0))), (q3, .inl (cy 0, 4, .inl (fun _ => 0))), (q4, .inl (cy 0, 4, .inl (fun _ => 0))), (q5, .inl (cy 0, 4, .inl (fun _ => 0))), (q6, .inl (cy 0, 4, .inl (fun _ => 0))), (q7, .inl (cy 0, 4, .inl (fun _ => 0)))] H locs := V
  refine qc_put (C := RX3) (T := TX3) (N := 15) (ci := 3) (ws' := [(a, .inr (3, [.int 0, .int 0, .int 0, .int 0, .ref q0, .ref q1, .ref q2, .ref q3, .ref q4, .ref q5, .ref q6, .ref q7, .null, .null, .null])), (q0, .inl (cy 0, 4, .inl (fun _ => 0))), (q1, .inl (cy 0, 6, .inl (fun _ => 0))), (q2, .inl (cy 0, 6, .inl (fun _ => 0))), (q3, .inl (cy 0, 4, .inl (fun _ => 0))), (q4, .inl (cy 0, 4, .inl (fun _ => 0))), (q5, .inl (cy 0, 4, .inl (fun _ => 0))), (q6, .inl (cy 0, 4, .inl (fun _ => 0))), (q7, .inl (cy 0, 4, .inl (fun _ => 0)))]) S0 V kc_X3 tyX3 tyX3_ok nmX3 hin2 0 rfl rfl 11 (by decide) kl_X3_46 (fun _ h => h) rfl (ty := .array .int) rfl rfl rfl (by show _ < 15; decide) rfl dX3_init_79 (fun H locs V => ?_)
  refine lv_aload_n hx hb dX3_init_82 rfl (lv_at hl 0 rfl) ?_
  refine lv_bipush (v := 6) hx hb dX3_init_83 (by decide) ?_
  refine qc_newa (N := 6) S0 V (by decide) rfl (Nat.le_of_ble_eq_true rfl) (Nat.le_of_ble_eq_true rfl) (Nat.le_of_ble_eq_true rfl) dX3_init_85 (fun q8 H V => ?_)
  simp only [List.append_assoc, List.cons_append, List.nil_append] at V
  have V : qw_V D cy Z9 s [(a, .inr (3, [.int 0, .int 0, .int 0, .int 0, .ref q0, .ref q1, .ref q2, .ref q3, .ref q4, .ref q5, .ref q6, .ref q7, .null, .null, .null])), (q0, .inl (cy 0, 4, .inl (fun _ => 0))), (q1, .inl (cy 0, 6, .inl (fun _ => 0))), (q2, .inl (cy 0, 6, .inl (fun _ => 0))), (q3, .inl (cy 0, 4, .inl (fun _ => 0))), (q4, .inl (cy 0, 4, .inl (fun _ => 0))), (q5, .inl (cy 0, 4, .inl (fun _ => 0))), (q6, .inl (cy 0, 4, .inl (fun _ => 0))), (q7, .inl (cy 0, 4, .inl (fun _ => 0))), (q8, .inl (cy 0, 6, .inl (fun _ => 0)))] H locs := V
  refine qc_put (C := RX3) (T := TX3) (N := 15) (ci := 3) (ws' := [(a, .inr (3, [.int 0, .int 0, .int 0, .int 0, .ref q0, .ref q1, .ref q2, .ref q3, .ref q4, .ref q5, .ref q6, .ref q7, .ref q8, .null, .null])), (q0, .inl (cy 0, 4, .inl (fun _ => 0))), (q1, .inl (cy 0, 6, .inl (fun _ => 0))), (q2, .inl (cy 0, 6, .inl (fun _ => 0))), (q3, .inl (cy 0, 4, .inl (fun _ => 0))), (q4, .inl (cy 0, 4, .inl (fun _ => 0))), (q5, .inl (cy 0, 4, .inl (fun _ => 0))), (q6, .inl (cy 0, 4, .inl (fun _ => 0))), (q7, .inl (cy 0, 4, .inl (fun _ => 0))), (q8, .inl (cy 0, 6, .inl (fun _ => 0)))]) S0 V kc_X3 tyX3 tyX3_ok nmX3 hin2 0 rfl rfl 12 (by decide) kl_X3_49 (fun _ h => h) rfl (ty := .array .int) rfl rfl rfl (by show _ < 15; decide) rfl dX3_init_87 (fun H locs V => ?_)
  refine lv_aload_n hx hb dX3_init_90 rfl (lv_at hl 0 rfl) ?_
  refine lv_bipush (v := 6) hx hb dX3_init_91 (by decide) ?_
  refine qc_newa (N := 6) S0 V (by decide) rfl (Nat.le_of_ble_eq_true rfl) (Nat.le_of_ble_eq_true rfl) (Nat.le_of_ble_eq_true rfl) dX3_init_93 (fun q9 H V => ?_)
  simp only [List.append_assoc, List.cons_append, List.nil_append] at V
  have V : qw_V D cy Z9 s [(a, .inr (3, [.int 0, .int 0, .int 0, .int 0, .ref q0, .ref q1, .ref q2, .ref q3, .ref q4, .ref q5, .ref q6, .ref q7, .ref q8, .null, .null])), (q0, .inl (cy 0, 4, .inl (fun _ => 0))), (q1, .inl (cy 0, 6, .inl (fun _ => 0))), (q2, .inl (cy 0, 6, .inl (fun _ => 0))), (q3, .inl (cy 0, 4, .inl (fun _ => 0))), (q4, .inl (cy 0, 4, .inl (fun _ => 0))), (q5, .inl (cy 0, 4, .inl (fun _ => 0))), (q6, .inl (cy 0, 4, .inl (fun _ => 0))), (q7, .inl (cy 0, 4, .inl (fun _ => 0))), (q8, .inl (cy 0, 6, .inl (fun _ => 0))), (q9, .inl (cy 0, 6, .inl (fun _ => 0)))] H locs := V
  refine qc_put (C := RX3) (T := TX3) (N := 15) (ci := 3) (ws' := [(a, .inr (3, [.int 0, .int 0, .int 0, .int 0, .ref q0, .ref q1, .ref q2, .ref q3, .ref q4, .ref q5, .ref q6, .ref q7, .ref q8, .ref q9, .null])), (q0, .inl (cy 0, 4, .inl (fun _ => 0))), (q1, .inl (cy 0, 6, .inl (fun _ => 0))), (q2, .inl (cy 0, 6, .inl (fun _ => 0))), (q3, .inl (cy 0, 4, .inl (fun _ => 0))), (q4, .inl (cy 0, 4, .inl (fun _ => 0))), (q5, .inl (cy 0, 4, .inl (fun _ => 0))), (q6, .inl (cy 0, 4, .inl (fun _ => 0))), (q7, .inl (cy 0, 4, .inl (fun _ => 0))), (q8, .inl (cy 0, 6, .inl (fun _ => 0))), (q9, .inl (cy 0, 6, .inl (fun _ => 0)))]) S0 V kc_X3 tyX3 tyX3_ok nmX3 hin2 0 rfl rfl 13 (by decide) kl_X3_52 (fun _ h => h) rfl (ty := .array .int) rfl rfl rfl (by show _ < 15; decide) rfl dX3_init_95 (fun H locs V => ?_)
  refine lv_aload_n hx hb dX3_init_98 rfl (lv_at hl 0 rfl) ?_
  refine lv_bipush (v := 6) hx hb dX3_init_99 (by decide) ?_
  refine qc_newa (N := 6) S0 V (by decide) rfl (Nat.le_of_ble_eq_true rfl) (Nat.le_of_ble_eq_true rfl) (Nat.le_of_ble_eq_true rfl) dX3_init_101 (fun q10 H V => ?_)
  simp only [List.append_assoc, List.cons_append, List.nil_append] at V
  have V : qw_V D cy Z9 s [(a, .inr (3, [.int 0, .int 0, .int 0, .int 0, .ref q0, .ref q1, .ref q2, .ref q3, .ref q4, .ref q5, .ref q6, .ref q7, .ref q8, .ref q9, .null])), (q0, .inl (cy 0, 4, .inl (fun _ => 0))), (q1, .inl (cy 0, 6, .inl (fun _ => 0))), (q2, .inl (cy 0, 6, .inl (fun _ => 0))), (q3, .inl (cy 0, 4, .inl (fun _ => 0))), (q4, .inl (cy 0, 4, .inl (fun _ => 0))), (q5, .inl (cy 0, 4, .inl (fun _ => 0))), (q6, .inl (cy 0, 4, .inl (fun _ => 0))), (q7, .inl (cy 0, 4, .inl (fun _ => 0))), (q8, .inl (cy 0, 6, .inl (fun _ => 0))), (q9, .inl (cy 0, 6, .inl (fun _ => 0))), (q10, .inl (cy 0, 6, .inl (fun _ => 0)))] H locs := V
  refine qc_put (C := RX3) (T := TX3) (N := 15) (ci := 3) (ws' := [(a, .inr (3, [.int 0, .int 0, .int 0, .int 0, .ref q0, .ref q1, .ref q2, .ref q3, .ref q4, .ref q5, .ref q6, .ref q7, .ref q8, .ref q9, .ref q10])), (q0, .inl (cy 0, 4, .inl (fun _ => 0))), (q1, .inl (cy 0, 6, .inl (fun _ => 0))), (q2, .inl (cy 0, 6, .inl (fun _ => 0))), (q3, .inl (cy 0, 4, .inl (fun _ => 0))), (q4, .inl (cy 0, 4, .inl (fun _ => 0))), (q5, .inl (cy 0, 4, .inl (fun _ => 0))), (q6, .inl (cy 0, 4, .inl (fun _ => 0))), (q7, .inl (cy 0, 4, .inl (fun _ => 0))), (q8, .inl (cy 0, 6, .inl (fun _ => 0))), (q9, .inl (cy 0, 6, .inl (fun _ => 0))), (q10, .inl (cy 0, 6, .inl (fun _ => 0)))]) S0 V kc_X3 tyX3 tyX3_ok nmX3 hin2 0 rfl rfl 14 (by decide) kl_X3_55 (fun _ h => h) rfl (ty := .array .int) rfl rfl rfl (by show _ < 15; decide) rfl dX3_init_103 (fun H locs V => ?_)
  exact qc_ret S0 hr hlocks rfl rfl rfl (fun k => ([q0, q1, q2, q3, q4, q5, q6, q7, q8, q9, q10] : List Nat).getD k 0) V dX3_init_106
def W5c (cy : Nat → ClassId) (a : Nat) (r : Nat → Nat) : va_W := [(a, .inr (4, [.int 0, .ref (r 0), .ref (r 1), .ref (r 2), .ref (r 3), .ref (r 4), .ref (r 5), .ref (r 6), .ref (r 7), .ref (r 8), .ref (r 9), .ref (r 10), .ref (r 11), .ref (r 12), .ref (r 13)])),
  (r 0, .inl (cy 0, 4, .inl (fun _ => 0))),
  (r 1, .inl (cy 0, 6, .inl (fun _ => 0))),
  (r 2, .inl (cy 0, 3, .inl qc_set)),
  (r 3, .inl (cy 0, 120, .inl (fun _ => 0))),
  (r 4, .inl (cy 0, 6, .inl (fun _ => 0))),
  (r 5, .inl (cy 0, 6, .inl (fun _ => 0))),
  (r 6, .inl (cy 0, 24, .inl (fun _ => 0))),
  (r 7, .inl (cy 0, 16, .inl (fun _ => 0))),
  (r 8, .inl (cy 0, 4, .inl (fun _ => 0))),
  (r 9, .inl (cy 0, 24, .inl (fun _ => 0))),
  (r 10, .inl (cy 0, 24, .inl (fun _ => 0))),
  (r 11, .inl (cy 0, 4, .inl (fun _ => 0))),
  (r 12, .inl (cy 0, 4, .inl (fun _ => 0))),
  (r 13, .inl (cy 0, 4, .inl (fun _ => 0)))]
theorem kdi_X5 : yX5_init.cls ≠ "java/lang/invoke/MethodHandle" ∧ yX5_init.cls ≠ "java/lang/invoke/VarHandle" ∧ (parseMethodDescriptor yX5_init.desc).map (fun d => d.parameters.length) = some 0 := by decide +kernel
abbrev wz_X5_init : List Cond := Cond.code yX5_init cX5_init 1 none :: qw_big
def rm_X5_init : Room := { frames := 2, cells := 14, slots := 249, locals := 81 }
set_option maxHeartbeats 4000000 in
set_option maxRecDepth 100000 in
theorem c_X5_init (l : Launch) {D : va_G} {cy : Nat → ClassId} {a sz : Nat} : Met l yX5_init wz_X5_init rm_X5_init (va_Pc [.ref a] (qw_Pre D cy [(a, .inr (4, [.int 0, .null, .null, .null, .null, .null, .null, .null, .null, .null, .null, .null, .null, .null, .null]))] sz)) (qc_Q D (W5c cy a) (va_A [(a, .inr (4, [.int 0, .null, .null, .null, .null, .null, .null, .null, .null, .null, .null, .null, .null, .null, .null]))] sz)) 14 249 (va_A [(a, .inr (4, [.int 0, .null, .null, .null, .null, .null, .null, .null, .null, .null, .null, .null, .null, .null, .null]))] sz) := by
  refine qc_of (cc := cX5_init) (maxL := 1) (ret := none) (by decide) (Nat.le_of_ble_eq_true rfl) ?_
  intro p e s m args below meth c ls S0 hin2 hr hlocks hsz V hl
  have S0 : CallFix p m c cX5_init 1 s args qw_big RX5 := S0
  have hin2 : meth.name = "<init>" := hin2
  have hx := S0.1; have hb := S0.2.1; have hown := S0.2.2.2.1; have hts := S0.2.2.2.2
  have hl : lv_has ls 1 [(0, .ref a)] := hl
  generalize va_A [(a, .inr (4, [.int 0, .null, .null, .null, .null, .null, .null, .null, .null, .null, .null, .null, .null, .null, .null]))] sz = Z9 at V ⊢
  clear hsz
  have V : qw_V D cy Z9 s [(a, .inr (4, [.int 0, .null, .null, .null, .null, .null, .null, .null, .null, .null, .null, .null, .null, .null, .null]))] s.heap [] := V
  refine lv_aload_n hx hb dX5_init_0 rfl (lv_at hl 0 rfl) ?_
  refine qc_oi S0 hl.1 kml_X5_3 (Nat.le_of_ble_eq_true rfl) (Nat.le_of_ble_eq_true rfl) dX5_init_1 ?_
  refine lv_aload_n hx hb dX5_init_4 rfl (lv_at hl 0 rfl) ?_
  refine lv_iconst (v := 0) hx hb dX5_init_5 (by decide) ?_
  refine qc_put (C := RX5) (T := TX5) (N := 15) (ci := 4) (ws' := [(a, .inr (4, [.int 0, .null, .null, .null, .null, .null, .null, .null, .null, .null, .null, .null, .null, .null, .null]))]) S0 V kc_X5 tyX5 tyX5_ok nmX5 hin2 0 rfl rfl 0 (by decide) kl_X5_9 (fun _ h => h) rfl (ty := .int) rfl rfl rfl (by show _ < 15; decide) rfl dX5_init_6 (fun H locs V => ?_)
  refine lv_aload_n hx hb dX5_init_9 rfl (lv_at hl 0 rfl) ?_
  refine lv_iconst (v := 4) hx hb dX5_init_10 (by decide) ?_
  refine qc_newa (N := 4) S0 V (by decide) rfl (Nat.le_of_ble_eq_true rfl) (Nat.le_of_ble_eq_true rfl) (Nat.le_of_ble_eq_true rfl) dX5_init_11 (fun q0 H V => ?_)
  simp only [List.append_assoc, List.cons_append, List.nil_append] at V
  have V : qw_V D cy Z9 s [(a, .inr (4, [.int 0, .null, .null, .null, .null, .null, .null, .null, .null, .null, .null, .null, .null, .null, .null])), (q0, .inl (cy 0, 4, .inl (fun _ => 0)))] H locs := V
  refine qc_put (C := RX5) (T := TX5) (N := 15) (ci := 4) (ws' := [(a, .inr (4, [.int 0, .ref q0, .null, .null, .null, .null, .null, .null, .null, .null, .null, .null, .null, .null, .null])), (q0, .inl (cy 0, 4, .inl (fun _ => 0)))]) S0 V kc_X5 tyX5 tyX5_ok nmX5 hin2 0 rfl rfl 1 (by decide) kl_X5_15 (fun _ h => h) rfl (ty := .array .int) rfl rfl rfl (by show _ < 15; decide) rfl dX5_init_13 (fun H locs V => ?_)
  refine lv_aload_n hx hb dX5_init_16 rfl (lv_at hl 0 rfl) ?_
  refine lv_bipush (v := 6) hx hb dX5_init_17 (by decide) ?_
  refine qc_newa (N := 6) S0 V (by decide) rfl (Nat.le_of_ble_eq_true rfl) (Nat.le_of_ble_eq_true rfl) (Nat.le_of_ble_eq_true rfl) dX5_init_19 (fun q1 H V => ?_)
  simp only [List.append_assoc, List.cons_append, List.nil_append] at V
  have V : qw_V D cy Z9 s [(a, .inr (4, [.int 0, .ref q0, .null, .null, .null, .null, .null, .null, .null, .null, .null, .null, .null, .null, .null])), (q0, .inl (cy 0, 4, .inl (fun _ => 0))), (q1, .inl (cy 0, 6, .inl (fun _ => 0)))] H locs := V
  refine qc_put (C := RX5) (T := TX5) (N := 15) (ci := 4) (ws' := [(a, .inr (4, [.int 0, .ref q0, .ref q1, .null, .null, .null, .null, .null, .null, .null, .null, .null, .null, .null, .null])), (q0, .inl (cy 0, 4, .inl (fun _ => 0))), (q1, .inl (cy 0, 6, .inl (fun _ => 0)))]) S0 V kc_X5 tyX5 tyX5_ok nmX5 hin2 0 rfl rfl 2 (by decide) kl_X5_19 (fun _ h => h) rfl (ty := .array .int) rfl rfl rfl (by show _ < 15; decide) rfl dX5_init_21 (fun H locs V => ?_)
  refine lv_aload_n hx hb dX5_init_24 rfl (lv_at hl 0 rfl) ?_
  refine lv_iconst (v := 3) hx hb dX5_init_25 (by decide) ?_
  refine qc_newa (N := 3) S0 V (by decide) rfl (Nat.le_of_ble_eq_true rfl) (Nat.le_of_ble_eq_true rfl) (Nat.le_of_ble_eq_true rfl) dX5_init_26 (fun q2 H V => ?_)
  simp only [List.append_assoc, List.cons_append, List.nil_append] at V
  have V : qw_V D cy Z9 s [(a, .inr (4, [.int 0, .ref q0, .ref q1, .null, .null, .null, .null, .null, .null, .null, .null, .null, .null, .null, .null])), (q0, .inl (cy 0, 4, .inl (fun _ => 0))), (q1, .inl (cy 0, 6, .inl (fun _ => 0))), (q2, .inl (cy 0, 3, .inl (fun _ => 0)))] H locs := V
  refine qc_put (C := RX5) (T := TX5) (N := 15) (ci := 4) (ws' := [(a, .inr (4, [.int 0, .ref q0, .ref q1, .ref q2, .null, .null, .null, .null, .null, .null, .null, .null, .null, .null, .null])), (q0, .inl (cy 0, 4, .inl (fun _ => 0))), (q1, .inl (cy 0, 6, .inl (fun _ => 0))), (q2, .inl (cy 0, 3, .inl (fun _ => 0)))]) S0 V kc_X5 tyX5 tyX5_ok nmX5 hin2 0 rfl rfl 3 (by decide) kl_X5_22 (fun _ h => h) rfl (ty := .array .int) rfl rfl rfl (by show _ < 15; decide) rfl dX5_init_28 (fun H locs V => ?_)
  refine lv_aload_n hx hb dX5_init_31 rfl (lv_at hl 0 rfl) ?_
  refine lv_bipush (v := 120) hx hb dX5_init_32 (by decide) ?_
  refine qc_newa (N := 120) S0 V (by decide) rfl (Nat.le_of_ble_eq_true rfl) (Nat.le_of_ble_eq_true rfl) (Nat.le_of_ble_eq_true rfl) dX5_init_34 (fun q3 H V => ?_)
  simp only [List.append_assoc, List.cons_append, List.nil_append] at V
  have V : qw_V D cy Z9 s [(a, .inr (4, [.int 0, .ref q0, .ref q1, .ref q2, .null, .null, .null, .null, .null, .null, .null, .null, .null, .null, .null])), (q0, .inl (cy 0, 4, .inl (fun _ => 0))), (q1, .inl (cy 0, 6, .inl (fun _ => 0))), (q2, .inl (cy 0, 3, .inl (fun _ => 0))), (q3, .inl (cy 0, 120, .inl (fun _ => 0)))] H locs := V
  refine qc_put (C := RX5) (T := TX5) (N := 15) (ci := 4) (ws' := [(a, .inr (4, [.int 0, .ref q0, .ref q1, .ref q2, .ref q3, .null, .null, .null, .null, .null, .null, .null, .null, .null, .null])), (q0, .inl (cy 0, 4, .inl (fun _ => 0))), (q1, .inl (cy 0, 6, .inl (fun _ => 0))), (q2, .inl (cy 0, 3, .inl (fun _ => 0))), (q3, .inl (cy 0, 120, .inl (fun _ => 0)))]) S0 V kc_X5 tyX5 tyX5_ok nmX5 hin2 0 rfl rfl 4 (by decide) kl_X5_25 (fun _ h => h) rfl (ty := .array .int) rfl rfl rfl (by show _ < 15; decide) rfl dX5_init_36 (fun H locs V => ?_)
  refine lv_aload_n hx hb dX5_init_39 rfl (lv_at hl 0 rfl) ?_
  refine lv_bipush (v := 6) hx hb dX5_init_40 (by decide) ?_
  refine qc_newa (N := 6) S0 V (by decide) rfl (Nat.le_of_ble_eq_true rfl) (Nat.le_of_ble_eq_true rfl) (Nat.le_of_ble_eq_true rfl) dX5_init_42 (fun q4 H V => ?_)
  simp only [List.append_assoc, List.cons_append, List.nil_append] at V
  have V : qw_V D cy Z9 s [(a, .inr (4, [.int 0, .ref q0, .ref q1, .ref q2, .ref q3, .null, .null, .null, .null, .null, .null, .null, .null, .null, .null])), (q0, .inl (cy 0, 4, .inl (fun _ => 0))), (q1, .inl (cy 0, 6, .inl (fun _ => 0))), (q2, .inl (cy 0, 3, .inl (fun _ => 0))), (q3, .inl (cy 0, 120, .inl (fun _ => 0))), (q4, .inl (cy 0, 6, .inl (fun _ => 0)))] H locs := V
  refine qc_put (C := RX5) (T := TX5) (N := 15) (ci := 4) (ws' := [(a, .inr (4, [.int 0, .ref q0, .ref q1, .ref q2, .ref q3, .ref q4, .null, .null, .null, .null, .null, .null, .null, .null, .null])), (q0, .inl (cy 0, 4, .inl (fun _ => 0))), (q1, .inl (cy 0, 6, .inl (fun _ => 0))), (q2, .inl (cy 0, 3, .inl (fun _ => 0))), (q3, .inl (cy 0, 120, .inl (fun _ => 0))), (q4, .inl (cy 0, 6, .inl (fun _ => 0)))]) S0 V kc_X5 tyX5 tyX5_ok nmX5 hin2 0 rfl rfl 5 (by decide) kl_X5_28 (fun _ h => h) rfl (ty := .array .int) rfl rfl rfl (by show _ < 15; decide) rfl dX5_init_44 (fun H locs V => ?_)
  refine lv_aload_n hx hb dX5_init_47 rfl (lv_at hl 0 rfl) ?_
  refine lv_bipush (v := 6) hx hb dX5_init_48 (by decide) ?_
  refine qc_newa (N := 6) S0 V (by decide) rfl (Nat.le_of_ble_eq_true rfl) (Nat.le_of_ble_eq_true rfl) (Nat.le_of_ble_eq_true rfl) dX5_init_50 (fun q5 H V => ?_)
  simp only [List.append_assoc, List.cons_append, List.nil_append] at V
  have V : qw_V D cy Z9 s [(a, .inr (4, [.int 0, .ref q0, .ref q1, .ref q2, .ref q3, .ref q4, .null, .null, .null, .null, .null, .null, .null, .null, .null])), (q0, .inl (cy 0, 4, .inl (fun _ => 0))), (q1, .inl (cy 0, 6, .inl (fun _ => 0))), (q2, .inl (cy 0, 3, .inl (fun _ => 0))), (q3, .inl (cy 0, 120, .inl (fun _ => 0))), (q4, .inl (cy 0, 6, .inl (fun _ => 0))), (q5, .inl (cy 0, 6, .inl (fun _ => 0)))] H locs := V
  refine qc_put (C := RX5) (T := TX5) (N := 15) (ci := 4) (ws' := [(a, .inr (4, [.int 0, .ref q0, .ref q1, .ref q2, .ref q3, .ref q4, .ref q5, .null, .null, .null, .null, .null, .null, .null, .null])), (q0, .inl (cy 0, 4, .inl (fun _ => 0))), (q1, .inl (cy 0, 6, .inl (fun _ => 0))), (q2, .inl (cy 0, 3, .inl (fun _ => 0))), (q3, .inl (cy 0, 120, .inl (fun _ => 0))), (q4, .inl (cy 0, 6, .inl (fun _ => 0))), (q5, .inl (cy 0, 6, .inl (fun _ => 0)))]) S0 V kc_X5 tyX5 tyX5_ok nmX5 hin2 0 rfl rfl 6 (by decide) kl_X5_31 (fun _ h => h) rfl (ty := .array .int) rfl rfl rfl (by show _ < 15; decide) rfl dX5_init_52 (fun H locs V => ?_)
  refine lv_aload_n hx hb dX5_init_55 rfl (lv_at hl 0 rfl) ?_
  refine lv_bipush (v := 24) hx hb dX5_init_56 (by decide) ?_
  refine qc_newa (N := 24) S0 V (by decide) rfl (Nat.le_of_ble_eq_true rfl) (Nat.le_of_ble_eq_true rfl) (Nat.le_of_ble_eq_true rfl) dX5_init_58 (fun q6 H V => ?_)
  simp only [List.append_assoc, List.cons_append, List.nil_append] at V
  have V : qw_V D cy Z9 s [(a, .inr (4, [.int 0, .ref q0, .ref q1, .ref q2, .ref q3, .ref q4, .ref q5, .null, .null, .null, .null, .null, .null, .null, .null])), (q0, .inl (cy 0, 4, .inl (fun _ => 0))), (q1, .inl (cy 0, 6, .inl (fun _ => 0))), (q2, .inl (cy 0, 3, .inl (fun _ => 0))), (q3, .inl (cy 0, 120, .inl (fun _ => 0))), (q4, .inl (cy 0, 6, .inl (fun _ => 0))), (q5, .inl (cy 0, 6, .inl (fun _ => 0))), (q6, .inl (cy 0, 24, .inl (fun _ => 0)))] H locs := V
  refine qc_put (C := RX5) (T := TX5) (N := 15) (ci := 4) (ws' := [(a, .inr (4, [.int 0, .ref q0, .ref q1, .ref q2, .ref q3, .ref q4, .ref q5, .ref q6, .null, .null, .null, .null, .null, .null, .null])), (q0, .inl (cy 0, 4, .inl (fun _ => 0))), (q1, .inl (cy 0, 6, .inl (fun _ => 0))), (q2, .inl (cy 0, 3, .inl (fun _ => 0))), (q3, .inl (cy 0, 120, .inl (fun _ => 0))), (q4, .inl (cy 0, 6, .inl (fun _ => 0))), (q5, .inl (cy 0, 6, .inl (fun _ => 0))), (q6, .inl (cy 0, 24, .inl (fun _ => 0)))]) S0 V kc_X5 tyX5 tyX5_ok nmX5 hin2 0 rfl rfl 7 (by decide) kl_X5_34 (fun _ h => h) rfl (ty := .array .int) rfl rfl rfl (by show _ < 15; decide) rfl dX5_init_60 (fun H locs V => ?_)
  refine lv_aload_n hx hb dX5_init_63 rfl (lv_at hl 0 rfl) ?_
  refine lv_bipush (v := 16) hx hb dX5_init_64 (by decide) ?_
  refine qc_newa (N := 16) S0 V (by decide) rfl (Nat.le_of_ble_eq_true rfl) (Nat.le_of_ble_eq_true rfl) (Nat.le_of_ble_eq_true rfl) dX5_init_66 (fun q7 H V => ?_)
  simp only [List.append_assoc, List.cons_append, List.nil_append] at V
  have V : qw_V D cy Z9 s [(a, .inr (4, [.int 0, .ref q0, .ref q1, .ref q2, .ref q3, .ref q4, .ref q5, .ref q6, .null, .null, .null, .null, .null, .null, .null])), (q0, .inl (cy 0, 4, .inl (fun _ => 0))), (q1, .inl (cy 0, 6, .inl (fun _ => 0))), (q2, .inl (cy 0, 3, .inl (fun _ => 0))), (q3, .inl (cy 0, 120, .inl (fun _ => 0))), (q4, .inl (cy 0, 6, .inl (fun _ => 0))), (q5, .inl (cy 0, 6, .inl (fun _ => 0))), (q6, .inl (cy 0, 24, .inl (fun _ => 0))), (q7, .inl (cy 0, 16, .inl (fun _ => 0)))] H locs := V
  refine qc_put (C := RX5) (T := TX5) (N := 15) (ci := 4) (ws' := [(a, .inr (4, [.int 0, .ref q0, .ref q1, .ref q2, .ref q3, .ref q4, .ref q5, .ref q6, .ref q7, .null, .null, .null, .null, .null, .null])), (q0, .inl (cy 0, 4, .inl (fun _ => 0))), (q1, .inl (cy 0, 6, .inl (fun _ => 0))), (q2, .inl (cy 0, 3, .inl (fun _ => 0))), (q3, .inl (cy 0, 120, .inl (fun _ => 0))), (q4, .inl (cy 0, 6, .inl (fun _ => 0))), (q5, .inl (cy 0, 6, .inl (fun _ => 0))), (q6, .inl (cy 0, 24, .inl (fun _ => 0))), (q7, .inl (cy 0, 16, .inl (fun _ => 0)))]) S0 V kc_X5 tyX5 tyX5_ok nmX5 hin2 0 rfl rfl 8 (by decide) kl_X5_37 (fun _ h => h) rfl (ty := .array .int) rfl rfl rfl (by show _ < 15; decide) rfl dX5_init_68 (fun H locs V => ?_)
  refine lv_aload_n hx hb dX5_init_71 rfl (lv_at hl 0 rfl) ?_
  refine lv_iconst (v := 4) hx hb dX5_init_72 (by decide) ?_
  refine qc_newa (N := 4) S0 V (by decide) rfl (Nat.le_of_ble_eq_true rfl) (Nat.le_of_ble_eq_true rfl) (Nat.le_of_ble_eq_true rfl) dX5_init_73 (fun q8 H V => ?_)
  simp only [List.append_assoc, List.cons_append, List.nil_append] at V
  have V : qw_V D cy Z9 s [(a, .inr (4, [.int 0, .ref q0, .ref q1, .ref q2, .ref q3, .ref q4, .ref q5, .ref q6, .ref q7, .null, .null, .null, .null, .null, .null])), (q0, .inl (cy 0, 4, .inl (fun _ => 0))), (q1, .inl (cy 0, 6, .inl (fun _ => 0))), (q2, .inl (cy 0, 3, .inl (fun _ => 0))), (q3, .inl (cy 0, 120, .inl (fun _ => 0))), (q4, .inl (cy 0, 6, .inl (fun _ => 0))), (q5, .inl (cy 0, 6, .inl (fun _ => 0))), (q6, .inl (cy 0, 24, .inl (fun _ => 0))), (q7, .inl (cy 0, 16, .inl (fun _ => 0))), (q8, .inl (cy 0, 4, .inl (fun _ => 0)))] H locs := V
  refine qc_put (C := RX5) (T := TX5) (N := 15) (ci := 4) (ws' := [(a, .inr (4, [.int 0, .ref q0, .ref q1, .ref q2, .ref q3, .ref q4, .ref q5, .ref q6, .ref q7, .ref q8, .null, .null, .null, .null, .null])), (q0, .inl (cy 0, 4, .inl (fun _ => 0))), (q1, .inl (cy 0, 6, .inl (fun _ => 0))), (q2, .inl (cy 0, 3, .inl (fun _ => 0))), (q3, .inl (cy 0, 120, .inl (fun _ => 0))), (q4, .inl (cy 0, 6, .inl (fun _ => 0))), (q5, .inl (cy 0, 6, .inl (fun _ => 0))), (q6, .inl (cy 0, 24, .inl (fun _ => 0))), (q7, .inl (cy 0, 16, .inl (fun _ => 0))), (q8, .inl (cy 0, 4, .inl (fun _ => 0)))]) S0 V kc_X5 tyX5 tyX5_ok nmX5 hin2 0 rfl rfl 9 (by decide) kl_X5_40 (fun _ h => h) rfl (ty := .array .int) rfl rfl rfl (by show _ < 15; decide) rfl dX5_init_75 (fun H locs V => ?_)
  refine lv_aload_n hx hb dX5_init_78 rfl (lv_at hl 0 rfl) ?_
  refine lv_bipush (v := 24) hx hb dX5_init_79 (by decide) ?_
  refine qc_newa (N := 24) S0 V (by decide) rfl (Nat.le_of_ble_eq_true rfl) (Nat.le_of_ble_eq_true rfl) (Nat.le_of_ble_eq_true rfl) dX5_init_81 (fun q9 H V => ?_)
  simp only [List.append_assoc, List.cons_append, List.nil_append] at V
  have V : qw_V D cy Z9 s [(a, .inr (4, [.int 0, .ref q0, .ref q1, .ref q2, .ref q3, .ref q4, .ref q5, .ref q6, .ref q7, .ref q8, .null, .null, .null, .null, .null])), (q0, .inl (cy 0, 4, .inl (fun _ => 0))), (q1, .inl (cy 0, 6, .inl (fun _ => 0))), (q2, .inl (cy 0, 3, .inl (fun _ => 0))), (q3, .inl (cy 0, 120, .inl (fun _ => 0))), (q4, .inl (cy 0, 6, .inl (fun _ => 0))), (q5, .inl (cy 0, 6, .inl (fun _ => 0))), (q6, .inl (cy 0, 24, .inl (fun _ => 0))), (q7, .inl (cy 0, 16, .inl (fun _ => 0))), (q8, .inl (cy 0, 4, .inl (fun _ => 0))), (q9, .inl (cy 0, 24, .inl (fun _ => 0)))] H locs := V
  refine qc_put (C := RX5) (T := TX5) (N := 15) (ci := 4) (ws' := [(a, .inr (4, [.int 0, .ref q0, .ref q1, .ref q2, .ref q3, .ref q4, .ref q5, .ref q6, .ref q7, .ref q8, .ref q9, .null, .null, .null, .null])), (q0, .inl (cy 0, 4, .inl (fun _ => 0))), (q1, .inl (cy 0, 6, .inl (fun _ => 0))), (q2, .inl (cy 0, 3, .inl (fun _ => 0))), (q3, .inl (cy 0, 120, .inl (fun _ => 0))), (q4, .inl (cy 0, 6, .inl (fun _ => 0))), (q5, .inl (cy 0, 6, .inl (fun _ => 0))), (q6, .inl (cy 0, 24, .inl (fun _ => 0))), (q7, .inl (cy 0, 16, .inl (fun _ => 0))), (q8, .inl (cy 0, 4, .inl (fun _ => 0))), (q9, .inl (cy 0, 24, .inl (fun _ => 0)))]) S0 V kc_X5 tyX5 tyX5_ok nmX5 hin2 0 rfl rfl 10 (by decide) kl_X5_43 (fun _ h => h) rfl (ty := .array .int) rfl rfl rfl (by show _ < 15; decide) rfl dX5_init_83 (fun H locs V => ?_)
  refine lv_aload_n hx hb dX5_init_86 rfl (lv_at hl 0 rfl) ?_
  refine lv_bipush (v := 24) hx hb dX5_init_87 (by decide) ?_
  refine qc_newa (N := 24) S0 V (by decide) rfl (Nat.le_of_ble_eq_true rfl) (Nat.le_of_ble_eq_true rfl) (Nat.le_of_ble_eq_true rfl) dX5_init_89 (fun q10 H V => ?_)
  simp only [List.append_assoc, List.cons_append, List.nil_append] at V
  have V : qw_V D cy Z9 s [(a, .inr (4, [.int 0, .ref q0, .ref q1, .ref q2, .ref q3, .ref q4, .ref q5, .ref q6, .ref q7, .ref q8, .ref q9, .null, .null, .null, .null])), (q0, .inl (cy 0, 4, .inl (fun _ => 0))), (q1, .inl (cy 0, 6, .inl (fun _ => 0))), (q2, .inl (cy 0, 3, .inl (fun _ => 0))), (q3, .inl (cy 0, 120, .inl (fun _ => 0))), (q4, .inl (cy 0, 6, .inl (fun _ => 0))), (q5, .inl (cy 0, 6, .inl (fun _ => 0))), (q6, .inl (cy 0, 24, .inl (fun _ => 0))), (q7, .inl (cy 0, 16, .inl (fun _ => 0))), (q8, .inl (cy 0, 4, .inl (fun _ => 0))), (q9, .inl (cy 0, 24, .inl (fun _ => 0))), (q10, .inl (cy 0, 24, .inl (fun _ => 0)))] H locs := V
  refine qc_put (C := RX5) (T := TX5) (N := 15) (ci := 4) (ws' := [(a, .inr (4, [.int 0, .ref q0, .ref q1, .ref q2, .ref q3, .ref q4, .ref q5, .ref q6, .ref q7, .ref q8, .ref q9, .ref q10, .null, .null, .null])), (q0, .inl (cy 0, 4, .inl (fun _ => 0))), (q1, .inl (cy 0, 6, .inl (fun _ => 0))), (q2, .inl (cy 0, 3, .inl (fun _ => 0))), (q3, .inl (cy 0, 120, .inl (fun _ => 0))), (q4, .inl (cy 0, 6, .inl (fun _ => 0))), (q5, .inl (cy 0, 6, .inl (fun _ => 0))), (q6, .inl (cy 0, 24, .inl (fun _ => 0))), (q7, .inl (cy 0, 16, .inl (fun _ => 0))), (q8, .inl (cy 0, 4, .inl (fun _ => 0))), (q9, .inl (cy 0, 24, .inl (fun _ => 0))), (q10, .inl (cy 0, 24, .inl (fun _ => 0)))]) S0 V kc_X5 tyX5 tyX5_ok nmX5 hin2 0 rfl rfl 11 (by decide) kl_X5_46 (fun _ h => h) rfl (ty := .array .int) rfl rfl rfl (by show _ < 15; decide) rfl dX5_init_91 (fun H locs V => ?_)
  refine lv_aload_n hx hb dX5_init_94 rfl (lv_at hl 0 rfl) ?_
  refine lv_iconst (v := 4) hx hb dX5_init_95 (by decide) ?_
  refine qc_newa (N := 4) S0 V (by decide) rfl (Nat.le_of_ble_eq_true rfl) (Nat.le_of_ble_eq_true rfl) (Nat.le_of_ble_eq_true rfl) dX5_init_96 (fun q11 H V => ?_)
  simp only [List.append_assoc, List.cons_append, List.nil_append] at V
  have V : qw_V D cy Z9 s [(a, .inr (4, [.int 0, .ref q0, .ref q1, .ref q2, .ref q3, .ref q4, .ref q5, .ref q6, .ref q7, .ref q8, .ref q9, .ref q10, .null, .null, .null])), (q0, .inl (cy 0, 4, .inl (fun _ => 0))), (q1, .inl (cy 0, 6, .inl (fun _ => 0))), (q2, .inl (cy 0, 3, .inl (fun _ => 0))), (q3, .inl (cy 0, 120, .inl (fun _ => 0))), (q4, .inl (cy 0, 6, .inl (fun _ => 0))), (q5, .inl (cy 0, 6, .inl (fun _ => 0))), (q6, .inl (cy 0, 24, .inl (fun _ => 0))), (q7, .inl (cy 0, 16, .inl (fun _ => 0))), (q8, .inl (cy 0, 4, .inl (fun _ => 0))), (q9, .inl (cy 0, 24, .inl (fun _ => 0))), (q10, .inl (cy 0, 24, .inl (fun _ => 0))), (q11, .inl (cy 0, 4, .inl (fun _ => 0)))] H locs := V
  refine qc_put (C := RX5) (T := TX5) (N := 15) (ci := 4) (ws' := [(a, .inr (4, [.int 0, .ref q0, .ref q1, .ref q2, .ref q3, .ref q4, .ref q5, .ref q6, .ref q7, .ref q8, .ref q9, .ref q10, .ref q11, .null, .null])), (q0, .inl (cy 0, 4, .inl (fun _ => 0))), (q1, .inl (cy 0, 6, .inl (fun _ => 0))), (q2, .inl (cy 0, 3, .inl (fun _ => 0))), (q3, .inl (cy 0, 120, .inl (fun _ => 0))), (q4, .inl (cy 0, 6, .inl (fun _ => 0))), (q5, .inl (cy 0, 6, .inl (fun _ => 0))), (q6, .inl (cy 0, 24, .inl (fun _ => 0))), (q7, .inl (cy 0, 16, .inl (fun _ => 0))), (q8, .inl (cy 0, 4, .inl (fun _ => 0))), (q9, .inl (cy 0, 24, .inl (fun _ => 0))), (q10, .inl (cy 0, 24, .inl (fun _ => 0))), (q11, .inl (cy 0, 4, .inl (fun _ => 0)))]) S0 V kc_X5 tyX5 tyX5_ok nmX5 hin2 0 rfl rfl 12 (by decide) kl_X5_49 (fun _ h => h) rfl (ty := .array .int) rfl rfl rfl (by show _ < 15; decide) rfl dX5_init_98 (fun H locs V => ?_)
  refine lv_aload_n hx hb dX5_init_101 rfl (lv_at hl 0 rfl) ?_
  refine lv_iconst (v := 4) hx hb dX5_init_102 (by decide) ?_
  refine qc_newa (N := 4) S0 V (by decide) rfl (Nat.le_of_ble_eq_true rfl) (Nat.le_of_ble_eq_true rfl) (Nat.le_of_ble_eq_true rfl) dX5_init_103 (fun q12 H V => ?_)
  simp only [List.append_assoc, List.cons_append, List.nil_append] at V
  have V : qw_V D cy Z9 s [(a, .inr (4, [.int 0, .ref q0, .ref q1, .ref q2, .ref q3, .ref q4, .ref q5, .ref q6, .ref q7, .ref q8, .ref q9, .ref q10, .ref q11, .null, .null])), (q0, .inl (cy 0, 4, .inl (fun _ => 0))), (q1, .inl (cy 0, 6, .inl (fun _ => 0))), (q2, .inl (cy 0, 3, .inl (fun _ => 0))), (q3, .inl (cy 0, 120, .inl (fun _ => 0))), (q4, .inl (cy 0, 6, .inl (fun _ => 0))), (q5, .inl (cy 0, 6, .inl (fun _ => 0))), (q6, .inl (cy 0, 24, .inl (fun _ => 0))), (q7, .inl (cy 0, 16, .inl (fun _ => 0))), (q8, .inl (cy 0, 4, .inl (fun _ => 0))), (q9, .inl (cy 0, 24, .inl (fun _ => 0))), (q10, .inl (cy 0, 24, .inl (fun _ => 0))), (q11, .inl (cy 0, 4, .inl (fun _ => 0))), (q12, .inl (cy 0, 4, .inl (fun _ => 0)))] H locs := V
  refine qc_put (C := RX5) (T := TX5) (N := 15) (ci := 4) (ws' := [(a, .inr (4, [.int 0, .ref q0, .ref q1, .ref q2, .ref q3, .ref q4, .ref q5, .ref q6, .ref q7, .ref q8, .ref q9, .ref q10, .ref q11, .ref q12, .null])), (q0, .inl (cy 0, 4, .inl (fun _ => 0))), (q1, .inl (cy 0, 6, .inl (fun _ => 0))), (q2, .inl (cy 0, 3, .inl (fun _ => 0))), (q3, .inl (cy 0, 120, .inl (fun _ => 0))), (q4, .inl (cy 0, 6, .inl (fun _ => 0))), (q5, .inl (cy 0, 6, .inl (fun _ => 0))), (q6, .inl (cy 0, 24, .inl (fun _ => 0))), (q7, .inl (cy 0, 16, .inl (fun _ => 0))), (q8, .inl (cy 0, 4, .inl (fun _ => 0))), (q9, .inl (cy 0, 24, .inl (fun _ => 0))), (q10, .inl (cy 0, 24, .inl (fun _ => 0))), (q11, .inl (cy 0, 4, .inl (fun _ => 0))), (q12, .inl (cy 0, 4, .inl (fun _ => 0)))]) S0 V kc_X5 tyX5 tyX5_ok nmX5 hin2 0 rfl rfl 13 (by decide) kl_X5_52 (fun _ h => h) rfl (ty := .array .int) rfl rfl rfl (by show _ < 15; decide) rfl dX5_init_105 (fun H locs V => ?_)
  refine lv_aload_n hx hb dX5_init_108 rfl (lv_at hl 0 rfl) ?_
  refine lv_iconst (v := 4) hx hb dX5_init_109 (by decide) ?_
  refine qc_newa (N := 4) S0 V (by decide) rfl (Nat.le_of_ble_eq_true rfl) (Nat.le_of_ble_eq_true rfl) (Nat.le_of_ble_eq_true rfl) dX5_init_110 (fun q13 H V => ?_)
  simp only [List.append_assoc, List.cons_append, List.nil_append] at V
  have V : qw_V D cy Z9 s [(a, .inr (4, [.int 0, .ref q0, .ref q1, .ref q2, .ref q3, .ref q4, .ref q5, .ref q6, .ref q7, .ref q8, .ref q9, .ref q10, .ref q11, .ref q12, .null])), (q0, .inl (cy 0, 4, .inl (fun _ => 0))), (q1, .inl (cy 0, 6, .inl (fun _ => 0))), (q2, .inl (cy 0, 3, .inl (fun _ => 0))), (q3, .inl (cy 0, 120, .inl (fun _ => 0))), (q4, .inl (cy 0, 6, .inl (fun _ => 0))), (q5, .inl (cy 0, 6, .inl (fun _ => 0))), (q6, .inl (cy 0, 24, .inl (fun _ => 0))), (q7, .inl (cy 0, 16, .inl (fun _ => 0))), (q8, .inl (cy 0, 4, .inl (fun _ => 0))), (q9, .inl (cy 0, 24, .inl (fun _ => 0))), (q10, .inl (cy 0, 24, .inl (fun _ => 0))), (q11, .inl (cy 0, 4, .inl (fun _ => 0))), (q12, .inl (cy 0, 4, .inl (fun _ => 0))), (q13, .inl (cy 0, 4, .inl (fun _ => 0)))] H locs := V
  refine qc_put (C := RX5) (T := TX5) (N := 15) (ci := 4) (ws' := [(a, .inr (4, [.int 0, .ref q0, .ref q1, .ref q2, .ref q3, .ref q4, .ref q5, .ref q6, .ref q7, .ref q8, .ref q9, .ref q10, .ref q11, .ref q12, .ref q13])), (q0, .inl (cy 0, 4, .inl (fun _ => 0))), (q1, .inl (cy 0, 6, .inl (fun _ => 0))), (q2, .inl (cy 0, 3, .inl (fun _ => 0))), (q3, .inl (cy 0, 120, .inl (fun _ => 0))), (q4, .inl (cy 0, 6, .inl (fun _ => 0))), (q5, .inl (cy 0, 6, .inl (fun _ => 0))), (q6, .inl (cy 0, 24, .inl (fun _ => 0))), (q7, .inl (cy 0, 16, .inl (fun _ => 0))), (q8, .inl (cy 0, 4, .inl (fun _ => 0))), (q9, .inl (cy 0, 24, .inl (fun _ => 0))), (q10, .inl (cy 0, 24, .inl (fun _ => 0))), (q11, .inl (cy 0, 4, .inl (fun _ => 0))), (q12, .inl (cy 0, 4, .inl (fun _ => 0))), (q13, .inl (cy 0, 4, .inl (fun _ => 0)))]) S0 V kc_X5 tyX5 tyX5_ok nmX5 hin2 0 rfl rfl 14 (by decide) kl_X5_55 (fun _ h => h) rfl (ty := .array .int) rfl rfl rfl (by show _ < 15; decide) rfl dX5_init_112 (fun H locs V => ?_)
  obtain ⟨tF, hZF, hTF⟩ := V.2.2.2.2.2.2.2.2.2.1
  refine va_getsN hx hb hZF V.2.2.2.1 hown (va_Nw.use rfl V.2.2.2.2.2.2.2.2.2.2.2.2.2.2.2.2.2.2.2.2.2) (fun _ h => h) dX5_init_115 ?_
  refine lv_aload_n hx hb dX5_init_118 rfl (lv_at hl 0 rfl) ?_
  refine qw_get (C := RX5) (T := TX5) (N := 15) (ci := 4) S0 V kc_X5 0 rfl rfl 3 (by decide) kl_X5_22 (fun _ h => h) rfl dX5_init_119 ?_
  refine qs_cS (rest := []) (st1 := []) S0 V hl (qs_T V hTF) qs_Tc (c_X5_copyS l (ws9 := [(a, .inr (4, [.int 0, .ref q0, .ref q1, .ref q2, .ref q3, .ref q4, .ref q5, .ref q6, .ref q7, .ref q8, .ref q9, .ref q10, .ref q11, .ref q12, .ref q13])), (q0, .inl (cy 0, 4, .inl (fun _ => 0))), (q1, .inl (cy 0, 6, .inl (fun _ => 0))), (q2, .inl (cy 0, 3, .inl qc_set)), (q3, .inl (cy 0, 120, .inl (fun _ => 0))), (q4, .inl (cy 0, 6, .inl (fun _ => 0))), (q5, .inl (cy 0, 6, .inl (fun _ => 0))), (q6, .inl (cy 0, 24, .inl (fun _ => 0))), (q7, .inl (cy 0, 16, .inl (fun _ => 0))), (q8, .inl (cy 0, 4, .inl (fun _ => 0))), (q9, .inl (cy 0, 24, .inl (fun _ => 0))), (q10, .inl (cy 0, 24, .inl (fun _ => 0))), (q11, .inl (cy 0, 4, .inl (fun _ => 0))), (q12, .inl (cy 0, 4, .inl (fun _ => 0))), (q13, .inl (cy 0, 4, .inl (fun _ => 0)))]) (q1 := 3) (f1 := (fun _ => 0)) (n1 := 3) (hs := rfl) rfl qc_set_eq) kg_X5_61 rfl ⟨rfl, rfl⟩ kd_X5_copy ⟨(Nat.le_of_ble_eq_true rfl), (Nat.le_of_ble_eq_true rfl)⟩ rfl rfl (Nat.le_of_ble_eq_true rfl) ⟨(Nat.le_of_ble_eq_true rfl), (Nat.le_of_ble_eq_true rfl)⟩ rfl dX5_init_122 (fun H locs V => ?_)
  exact qc_ret S0 hr hlocks rfl rfl rfl (fun k => ([q0, q1, q2, q3, q4, q5, q6, q7, q8, q9, q10, q11, q12, q13] : List Nat).getD k 0) V dX5_init_125
