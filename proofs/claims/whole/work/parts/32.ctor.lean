def W2c (cy : Nat → ClassId) (a : Nat) (r : Nat → Nat) : va_W := [(a, .inr (2, [.ref (r 0), .int 0, .ref (r 2), .ref (r 14), .int 0, .int (-1)])),
  (r 0, .inr (5, [.ref (r 1), .int 0, .int 0, .int 0, .int 0])),
  (r 1, .inl (cy 0, 0, .inl (fun _ => 0))),
  (r 2, .inr (3, [.int 0, .int 0, .int 0, .int 0, .ref (r 3), .ref (r 4), .ref (r 5), .ref (r 6), .ref (r 7), .ref (r 8), .ref (r 9), .ref (r 10), .ref (r 11), .ref (r 12), .ref (r 13)])),
  (r 3, .inl (cy 0, 4, .inl (fun _ => 0))),
  (r 4, .inl (cy 0, 6, .inl (fun _ => 0))),
  (r 5, .inl (cy 0, 6, .inl (fun _ => 0))),
  (r 6, .inl (cy 0, 4, .inl (fun _ => 0))),
  (r 7, .inl (cy 0, 4, .inl (fun _ => 0))),
  (r 8, .inl (cy 0, 4, .inl (fun _ => 0))),
  (r 9, .inl (cy 0, 4, .inl (fun _ => 0))),
  (r 10, .inl (cy 0, 4, .inl (fun _ => 0))),
  (r 11, .inl (cy 0, 6, .inl (fun _ => 0))),
  (r 12, .inl (cy 0, 6, .inl (fun _ => 0))),
  (r 13, .inl (cy 0, 6, .inl (fun _ => 0))),
  (r 14, .inr (4, [.int 0, .ref (r 15), .ref (r 16), .ref (r 17), .ref (r 18), .ref (r 19), .ref (r 20), .ref (r 21), .ref (r 22), .ref (r 23), .ref (r 24), .ref (r 25), .ref (r 26), .ref (r 27), .ref (r 28)])),
  (r 15, .inl (cy 0, 4, .inl (fun _ => 0))),
  (r 16, .inl (cy 0, 6, .inl (fun _ => 0))),
  (r 17, .inl (cy 0, 3, .inl qc_set)),
  (r 18, .inl (cy 0, 120, .inl (fun _ => 0))),
  (r 19, .inl (cy 0, 6, .inl (fun _ => 0))),
  (r 20, .inl (cy 0, 6, .inl (fun _ => 0))),
  (r 21, .inl (cy 0, 24, .inl (fun _ => 0))),
  (r 22, .inl (cy 0, 16, .inl (fun _ => 0))),
  (r 23, .inl (cy 0, 4, .inl (fun _ => 0))),
  (r 24, .inl (cy 0, 24, .inl (fun _ => 0))),
  (r 25, .inl (cy 0, 24, .inl (fun _ => 0))),
  (r 26, .inl (cy 0, 4, .inl (fun _ => 0))),
  (r 27, .inl (cy 0, 4, .inl (fun _ => 0))),
  (r 28, .inl (cy 0, 4, .inl (fun _ => 0)))]
theorem kdi_X2 : yX2_init.cls ≠ "java/lang/invoke/MethodHandle" ∧ yX2_init.cls ≠ "java/lang/invoke/VarHandle" ∧ (parseMethodDescriptor yX2_init.desc).map (fun d => d.parameters.length) = some 0 := by decide +kernel
abbrev wz_X2_init : List Cond := Cond.code yX2_init cX2_init 1 none :: qw_big
def rm_X2_init : Room := { frames := 3, cells := 29, slots := 338, locals := 101 }
set_option maxHeartbeats 4000000 in
set_option maxRecDepth 100000 in
theorem c_X2_init (l : Launch) {D : va_G} {cy : Nat → ClassId} {a sz : Nat} : Met l yX2_init wz_X2_init rm_X2_init (va_Pc [.ref a] (qw_Pre D cy [(a, .inr (2, [.null, .int 0, .null, .null, .int 0, .int 0]))] sz)) (qc_Q D (W2c cy a) (va_A [(a, .inr (2, [.null, .int 0, .null, .null, .int 0, .int 0]))] sz)) 29 338 (va_A [(a, .inr (2, [.null, .int 0, .null, .null, .int 0, .int 0]))] sz) := by
  refine qc_of (cc := cX2_init) (maxL := 1) (ret := none) (by decide) (Nat.le_of_ble_eq_true rfl) ?_
  intro p e s m args below meth c ls S0 hin2 hr hlocks hsz V hl
  have S0 : CallFix p m c cX2_init 1 s args qw_big RX2 := S0
  have hin2 : meth.name = "<init>" := hin2
  have hx := S0.1; have hb := S0.2.1; have hown := S0.2.2.2.1; have hts := S0.2.2.2.2
  have hl : lv_has ls 1 [(0, .ref a)] := hl
  generalize va_A [(a, .inr (2, [.null, .int 0, .null, .null, .int 0, .int 0]))] sz = Z9 at V ⊢
  clear hsz
  have V : qw_V D cy Z9 s [(a, .inr (2, [.null, .int 0, .null, .null, .int 0, .int 0]))] s.heap [] := V
  refine lv_aload_n hx hb dX2_init_0 rfl (lv_at hl 0 rfl) ?_
  refine qc_oi S0 hl.1 kml_X2_3 (Nat.le_of_ble_eq_true rfl) (Nat.le_of_ble_eq_true rfl) dX2_init_1 ?_
  refine lv_aload_n hx hb dX2_init_4 rfl (lv_at hl 0 rfl) ?_
  refine qc_new (C := RX6) (T := TX6) (N := 5) (ci := 5) (fs := [.null, .int 0, .int 0, .int 0, .int 0]) S0 V kc_X6 tyX6 tyX6_ok kcl_X2_9 kinst_X6 kini_X6 rfl (by decide) (Nat.le_of_ble_eq_true rfl) (Nat.le_of_ble_eq_true rfl) dX2_init_5 (fun q0 H V => ?_)
  refine lv_dup hx hb dX2_init_8 rfl ?_
  refine qc_cIN (wr := [(a, .inr (2, [.null, .int 0, .null, .null, .int 0, .int 0]))]) (Wf := W6c cy q0) (host := "RationOffice") S0 V hl (c_X6_init l) kw_X6_init rfl ⟨rfl, rfl⟩ kini_X6 (V.2.2.2.2.2.1 _ (List.mem_of_getElem? (i := 1) rfl)) kin_X6_init rfl kdi_X6 ⟨(Nat.le_of_ble_eq_true rfl), (Nat.le_of_ble_eq_true rfl)⟩ (Nat.le_of_ble_eq_true rfl) ⟨(Nat.le_of_ble_eq_true rfl), (Nat.le_of_ble_eq_true rfl)⟩ dX2_init_9 (fun H locs r1 V => ?_)
  simp only [List.append_assoc, List.cons_append, List.nil_append] at V
  have V : qw_V D cy Z9 s ((a, .inr (2, [.null, .int 0, .null, .null, .int 0, .int 0])) :: W6c cy q0 r1) H locs := V
  refine qc_put (C := RX2) (T := TX2) (N := 6) (ci := 2) (ws' := ((a, .inr (2, [.ref q0, .int 0, .null, .null, .int 0, .int 0])) :: W6c cy q0 r1)) S0 V kc_X2 tyX2 tyX2_ok nmX2 hin2 0 rfl rfl 0 (by decide) kl_X2_12 (fun _ h => h) rfl (ty := .object "RationOffice$Tokens") rfl rfl rfl (by show _ < 6; decide) rfl dX2_init_12 (fun H locs V => ?_)
  refine lv_aload_n hx hb dX2_init_15 rfl (lv_at hl 0 rfl) ?_
  refine lv_iconst (v := 0) hx hb dX2_init_16 (by decide) ?_
  refine qc_put (C := RX2) (T := TX2) (N := 6) (ci := 2) (ws' := ((a, .inr (2, [.ref q0, .int 0, .null, .null, .int 0, .int 0])) :: W6c cy q0 r1)) S0 V kc_X2 tyX2 tyX2_ok nmX2 hin2 0 rfl rfl 1 (by decide) kl_X2_18 (fun _ h => h) rfl (ty := .int) rfl rfl rfl (by show _ < 6; decide) rfl dX2_init_17 (fun H locs V => ?_)
  refine lv_aload_n hx hb dX2_init_20 rfl (lv_at hl 0 rfl) ?_
  refine qc_new (C := RX3) (T := TX3) (N := 15) (ci := 3) (fs := [.int 0, .int 0, .int 0, .int 0, .null, .null, .null, .null, .null, .null, .null, .null, .null, .null, .null]) S0 V kc_X3 tyX3 tyX3_ok kcl_X2_22 kinst_X3 kini_X3 rfl (by decide) (Nat.le_of_ble_eq_true rfl) (Nat.le_of_ble_eq_true rfl) dX2_init_21 (fun q2 H V => ?_)
  refine lv_dup hx hb dX2_init_24 rfl ?_
  refine qc_cIN (wr := ((a, .inr (2, [.ref q0, .int 0, .null, .null, .int 0, .int 0])) :: W6c cy q0 r1)) (Wf := W3c cy q2) (host := "RationOffice") S0 V hl (c_X3_init l) kw_X3_init rfl ⟨rfl, rfl⟩ kini_X3 (V.2.2.2.2.2.1 _ (List.mem_of_getElem? (i := 2) rfl)) kin_X3_init rfl kdi_X3 ⟨(Nat.le_of_ble_eq_true rfl), (Nat.le_of_ble_eq_true rfl)⟩ (Nat.le_of_ble_eq_true rfl) ⟨(Nat.le_of_ble_eq_true rfl), (Nat.le_of_ble_eq_true rfl)⟩ dX2_init_25 (fun H locs r3 V => ?_)
  simp only [List.append_assoc, List.cons_append, List.nil_append] at V
  have V : qw_V D cy Z9 s ((a, .inr (2, [.ref q0, .int 0, .null, .null, .int 0, .int 0])) :: (W6c cy q0 r1 ++ W3c cy q2 r3)) H locs := V
  refine qc_put (C := RX2) (T := TX2) (N := 6) (ci := 2) (ws' := ((a, .inr (2, [.ref q0, .int 0, .ref q2, .null, .int 0, .int 0])) :: (W6c cy q0 r1 ++ W3c cy q2 r3))) S0 V kc_X2 tyX2 tyX2_ok nmX2 hin2 0 rfl rfl 2 (by decide) kl_X2_25 (fun _ h => h) rfl (ty := .object "RationOffice$Plan") rfl rfl rfl (by show _ < 6; decide) rfl dX2_init_28 (fun H locs V => ?_)
  refine lv_aload_n hx hb dX2_init_31 rfl (lv_at hl 0 rfl) ?_
  refine qc_new (C := RX5) (T := TX5) (N := 15) (ci := 4) (fs := [.int 0, .null, .null, .null, .null, .null, .null, .null, .null, .null, .null, .null, .null, .null, .null]) S0 V kc_X5 tyX5 tyX5_ok kcl_X2_29 kinst_X5 kini_X5 rfl (by decide) (Nat.le_of_ble_eq_true rfl) (Nat.le_of_ble_eq_true rfl) dX2_init_32 (fun q4 H V => ?_)
  refine lv_dup hx hb dX2_init_35 rfl ?_
  refine qc_cI (wr := ((a, .inr (2, [.ref q0, .int 0, .ref q2, .null, .int 0, .int 0])) :: (W6c cy q0 r1 ++ W3c cy q2 r3))) (Wf := W5c cy q4) S0 V hl (c_X5_init l) kw_X5_init rfl ⟨rfl, rfl⟩ kini_X5 kml_X2_31 kin_X5_init rfl kdi_X5 ⟨(Nat.le_of_ble_eq_true rfl), (Nat.le_of_ble_eq_true rfl)⟩ (Nat.le_of_ble_eq_true rfl) ⟨(Nat.le_of_ble_eq_true rfl), (Nat.le_of_ble_eq_true rfl)⟩ dX2_init_36 (fun H locs r5 V => ?_)
  simp only [List.append_assoc, List.cons_append, List.nil_append] at V
  have V : qw_V D cy Z9 s ((a, .inr (2, [.ref q0, .int 0, .ref q2, .null, .int 0, .int 0])) :: (W6c cy q0 r1 ++ (W3c cy q2 r3 ++ W5c cy q4 r5))) H locs := V
  refine qc_put (C := RX2) (T := TX2) (N := 6) (ci := 2) (ws' := ((a, .inr (2, [.ref q0, .int 0, .ref q2, .ref q4, .int 0, .int 0])) :: (W6c cy q0 r1 ++ (W3c cy q2 r3 ++ W5c cy q4 r5)))) S0 V kc_X2 tyX2 tyX2_ok nmX2 hin2 0 rfl rfl 3 (by decide) kl_X2_32 (fun _ h => h) rfl (ty := .object "RationOffice$State") rfl rfl rfl (by show _ < 6; decide) rfl dX2_init_39 (fun H locs V => ?_)
  refine lv_aload_n hx hb dX2_init_42 rfl (lv_at hl 0 rfl) ?_
  refine lv_iconst (v := 0) hx hb dX2_init_43 (by decide) ?_
  refine qc_put (C := RX2) (T := TX2) (N := 6) (ci := 2) (ws' := ((a, .inr (2, [.ref q0, .int 0, .ref q2, .ref q4, .int 0, .int 0])) :: (W6c cy q0 r1 ++ (W3c cy q2 r3 ++ W5c cy q4 r5)))) S0 V kc_X2 tyX2 tyX2_ok nmX2 hin2 0 rfl rfl 4 (by decide) kl_X2_36 (fun _ h => h) rfl (ty := .int) rfl rfl rfl (by show _ < 6; decide) rfl dX2_init_44 (fun H locs V => ?_)
  refine lv_aload_n hx hb dX2_init_47 rfl (lv_at hl 0 rfl) ?_
  refine lv_iconst (v := -1) hx hb dX2_init_48 (by decide) ?_
  refine qc_put (C := RX2) (T := TX2) (N := 6) (ci := 2) (ws' := ((a, .inr (2, [.ref q0, .int 0, .ref q2, .ref q4, .int 0, .int (-1)])) :: (W6c cy q0 r1 ++ (W3c cy q2 r3 ++ W5c cy q4 r5)))) S0 V kc_X2 tyX2 tyX2_ok nmX2 hin2 0 rfl rfl 5 (by decide) kl_X2_39 (fun _ h => h) rfl (ty := .int) rfl rfl rfl (by show _ < 6; decide) rfl dX2_init_49 (fun H locs V => ?_)
  exact qc_ret S0 hr hlocks rfl rfl rfl (fun k => ([q0, (r1 0), q2, (r3 0), (r3 1), (r3 2), (r3 3), (r3 4), (r3 5), (r3 6), (r3 7), (r3 8), (r3 9), (r3 10), q4, (r5 0), (r5 1), (r5 2), (r5 3), (r5 4), (r5 5), (r5 6), (r5 7), (r5 8), (r5 9), (r5 10), (r5 11), (r5 12), (r5 13)] : List Nat).getD k 0) V dX2_init_52
def W0c (cy : Nat → ClassId) (a : Nat) (r : Nat → Nat) : va_W := [(a, .inr (0, [.ref (r 0), .ref (r 8), .ref (r 9), .int 0])),
  (r 0, .inl (cy 2, 7, .inr (.inr (.inr (.inr (fun j => ([some (r 1), some (r 2), some (r 3), some (r 4), some (r 5), some (r 6), some (r 7)] : List (Option Nat)).getD j none)))))),
  (r 1, .inl (cy 0, 401, .inl (fun _ => 0))),
  (r 2, .inl (cy 0, 401, .inl (fun _ => 0))),
  (r 3, .inl (cy 0, 401, .inl (fun _ => 0))),
  (r 4, .inl (cy 0, 401, .inl (fun _ => 0))),
  (r 5, .inl (cy 0, 401, .inl (fun _ => 0))),
  (r 6, .inl (cy 0, 401, .inl (fun _ => 0))),
  (r 7, .inl (cy 0, 401, .inl (fun _ => 0))),
  (r 8, .inl (cy 0, 6, .inl (fun _ => 0))),
  (r 9, .inl (cy 0, 4, .inl (fun _ => 0)))]
theorem kdi_X0 : yX0_init.cls ≠ "java/lang/invoke/MethodHandle" ∧ yX0_init.cls ≠ "java/lang/invoke/VarHandle" ∧ (parseMethodDescriptor yX0_init.desc).map (fun d => d.parameters.length) = some 0 := by decide +kernel
abbrev wz_X0_init : List Cond := Cond.code yX0_init cX0_init 1 none :: qw_big
def rm_X0_init : Room := { frames := 1, cells := 10, slots := 2824, locals := 12 }
set_option maxHeartbeats 4000000 in
set_option maxRecDepth 100000 in
theorem c_X0_init (l : Launch) {D : va_G} {cy : Nat → ClassId} {a sz : Nat} : Met l yX0_init wz_X0_init rm_X0_init (va_Pc [.ref a] (qw_Pre D cy [(a, .inr (0, [.null, .null, .null, .int 0]))] sz)) (qc_Q D (W0c cy a) (va_A [(a, .inr (0, [.null, .null, .null, .int 0]))] sz)) 10 2824 (va_A [(a, .inr (0, [.null, .null, .null, .int 0]))] sz) := by
  refine qc_of (cc := cX0_init) (maxL := 1) (ret := none) (by decide) (Nat.le_of_ble_eq_true rfl) ?_
  intro p e s m args below meth c ls S0 hin2 hr hlocks hsz V hl
  have S0 : CallFix p m c cX0_init 1 s args qw_big RX0 := S0
  have hin2 : meth.name = "<init>" := hin2
  have hx := S0.1; have hb := S0.2.1; have hown := S0.2.2.2.1; have hts := S0.2.2.2.2
  have hl : lv_has ls 1 [(0, .ref a)] := hl
  generalize va_A [(a, .inr (0, [.null, .null, .null, .int 0]))] sz = Z9 at V ⊢
  clear hsz
  have V : qw_V D cy Z9 s [(a, .inr (0, [.null, .null, .null, .int 0]))] s.heap [] := V
  refine lv_aload_n hx hb dX0_init_0 rfl (lv_at hl 0 rfl) ?_
  refine qc_oi S0 hl.1 kml_X0_3 (Nat.le_of_ble_eq_true rfl) (Nat.le_of_ble_eq_true rfl) dX0_init_1 ?_
  refine lv_aload_n hx hb dX0_init_4 rfl (lv_at hl 0 rfl) ?_
  refine lv_bipush (v := 7) hx hb dX0_init_5 (by decide) ?_
  refine lv_sipush (v := 401) hx hb dX0_init_7 (by decide) ?_
  refine qc_mna S0 V kcl_X0_9 (Nat.le_of_ble_eq_true rfl) (Nat.le_of_ble_eq_true rfl) dX0_init_10 (fun q0 r1 H V => ?_)
  simp only [List.append_assoc, List.cons_append, List.nil_append] at V
  have V : qw_V D cy Z9 s [(a, .inr (0, [.null, .null, .null, .int 0])), (q0, .inl (cy 2, 7, .inr (.inr (.inr (.inr (fun j => ([some (r1 0), some (r1 1), some (r1 2), some (r1 3), some (r1 4), some (r1 5), some (r1 6)] : List (Option Nat)).getD j none)))))), (r1 0, .inl (cy 0, 401, .inl (fun _ => 0))), (r1 1, .inl (cy 0, 401, .inl (fun _ => 0))), (r1 2, .inl (cy 0, 401, .inl (fun _ => 0))), (r1 3, .inl (cy 0, 401, .inl (fun _ => 0))), (r1 4, .inl (cy 0, 401, .inl (fun _ => 0))), (r1 5, .inl (cy 0, 401, .inl (fun _ => 0))), (r1 6, .inl (cy 0, 401, .inl (fun _ => 0)))] H [] := V
  refine qc_put (C := RX0) (T := TX0) (N := 4) (ci := 0) (ws' := [(a, .inr (0, [.ref q0, .null, .null, .int 0])), (q0, .inl (cy 2, 7, .inr (.inr (.inr (.inr (fun j => ([some (r1 0), some (r1 1), some (r1 2), some (r1 3), some (r1 4), some (r1 5), some (r1 6)] : List (Option Nat)).getD j none)))))), (r1 0, .inl (cy 0, 401, .inl (fun _ => 0))), (r1 1, .inl (cy 0, 401, .inl (fun _ => 0))), (r1 2, .inl (cy 0, 401, .inl (fun _ => 0))), (r1 3, .inl (cy 0, 401, .inl (fun _ => 0))), (r1 4, .inl (cy 0, 401, .inl (fun _ => 0))), (r1 5, .inl (cy 0, 401, .inl (fun _ => 0))), (r1 6, .inl (cy 0, 401, .inl (fun _ => 0)))]) S0 V kc_X0 tyX0 tyX0_ok nmX0 hin2 0 rfl rfl 0 (by decide) kl_X0_11 (fun _ h => h) rfl (ty := .array (.array .int)) rfl rfl rfl (by show _ < 4; decide) rfl dX0_init_14 (fun H locs V => ?_)
  refine lv_aload_n hx hb dX0_init_17 rfl (lv_at hl 0 rfl) ?_
  refine lv_bipush (v := 6) hx hb dX0_init_18 (by decide) ?_
  refine qc_newa (N := 6) S0 V (by decide) rfl (Nat.le_of_ble_eq_true rfl) (Nat.le_of_ble_eq_true rfl) (Nat.le_of_ble_eq_true rfl) dX0_init_20 (fun q2 H V => ?_)
  simp only [List.append_assoc, List.cons_append, List.nil_append] at V
  have V : qw_V D cy Z9 s [(a, .inr (0, [.ref q0, .null, .null, .int 0])), (q0, .inl (cy 2, 7, .inr (.inr (.inr (.inr (fun j => ([some (r1 0), some (r1 1), some (r1 2), some (r1 3), some (r1 4), some (r1 5), some (r1 6)] : List (Option Nat)).getD j none)))))), (r1 0, .inl (cy 0, 401, .inl (fun _ => 0))), (r1 1, .inl (cy 0, 401, .inl (fun _ => 0))), (r1 2, .inl (cy 0, 401, .inl (fun _ => 0))), (r1 3, .inl (cy 0, 401, .inl (fun _ => 0))), (r1 4, .inl (cy 0, 401, .inl (fun _ => 0))), (r1 5, .inl (cy 0, 401, .inl (fun _ => 0))), (r1 6, .inl (cy 0, 401, .inl (fun _ => 0))), (q2, .inl (cy 0, 6, .inl (fun _ => 0)))] H locs := V
  refine qc_put (C := RX0) (T := TX0) (N := 4) (ci := 0) (ws' := [(a, .inr (0, [.ref q0, .ref q2, .null, .int 0])), (q0, .inl (cy 2, 7, .inr (.inr (.inr (.inr (fun j => ([some (r1 0), some (r1 1), some (r1 2), some (r1 3), some (r1 4), some (r1 5), some (r1 6)] : List (Option Nat)).getD j none)))))), (r1 0, .inl (cy 0, 401, .inl (fun _ => 0))), (r1 1, .inl (cy 0, 401, .inl (fun _ => 0))), (r1 2, .inl (cy 0, 401, .inl (fun _ => 0))), (r1 3, .inl (cy 0, 401, .inl (fun _ => 0))), (r1 4, .inl (cy 0, 401, .inl (fun _ => 0))), (r1 5, .inl (cy 0, 401, .inl (fun _ => 0))), (r1 6, .inl (cy 0, 401, .inl (fun _ => 0))), (q2, .inl (cy 0, 6, .inl (fun _ => 0)))]) S0 V kc_X0 tyX0 tyX0_ok nmX0 hin2 0 rfl rfl 1 (by decide) kl_X0_16 (fun _ h => h) rfl (ty := .array .int) rfl rfl rfl (by show _ < 4; decide) rfl dX0_init_22 (fun H locs V => ?_)
  refine lv_aload_n hx hb dX0_init_25 rfl (lv_at hl 0 rfl) ?_
  refine lv_iconst (v := 4) hx hb dX0_init_26 (by decide) ?_
  refine qc_newa (N := 4) S0 V (by decide) rfl (Nat.le_of_ble_eq_true rfl) (Nat.le_of_ble_eq_true rfl) (Nat.le_of_ble_eq_true rfl) dX0_init_27 (fun q3 H V => ?_)
  simp only [List.append_assoc, List.cons_append, List.nil_append] at V
  have V : qw_V D cy Z9 s [(a, .inr (0, [.ref q0, .ref q2, .null, .int 0])), (q0, .inl (cy 2, 7, .inr (.inr (.inr (.inr (fun j => ([some (r1 0), some (r1 1), some (r1 2), some (r1 3), some (r1 4), some (r1 5), some (r1 6)] : List (Option Nat)).getD j none)))))), (r1 0, .inl (cy 0, 401, .inl (fun _ => 0))), (r1 1, .inl (cy 0, 401, .inl (fun _ => 0))), (r1 2, .inl (cy 0, 401, .inl (fun _ => 0))), (r1 3, .inl (cy 0, 401, .inl (fun _ => 0))), (r1 4, .inl (cy 0, 401, .inl (fun _ => 0))), (r1 5, .inl (cy 0, 401, .inl (fun _ => 0))), (r1 6, .inl (cy 0, 401, .inl (fun _ => 0))), (q2, .inl (cy 0, 6, .inl (fun _ => 0))), (q3, .inl (cy 0, 4, .inl (fun _ => 0)))] H locs := V
  refine qc_put (C := RX0) (T := TX0) (N := 4) (ci := 0) (ws' := [(a, .inr (0, [.ref q0, .ref q2, .ref q3, .int 0])), (q0, .inl (cy 2, 7, .inr (.inr (.inr (.inr (fun j => ([some (r1 0), some (r1 1), some (r1 2), some (r1 3), some (r1 4), some (r1 5), some (r1 6)] : List (Option Nat)).getD j none)))))), (r1 0, .inl (cy 0, 401, .inl (fun _ => 0))), (r1 1, .inl (cy 0, 401, .inl (fun _ => 0))), (r1 2, .inl (cy 0, 401, .inl (fun _ => 0))), (r1 3, .inl (cy 0, 401, .inl (fun _ => 0))), (r1 4, .inl (cy 0, 401, .inl (fun _ => 0))), (r1 5, .inl (cy 0, 401, .inl (fun _ => 0))), (r1 6, .inl (cy 0, 401, .inl (fun _ => 0))), (q2, .inl (cy 0, 6, .inl (fun _ => 0))), (q3, .inl (cy 0, 4, .inl (fun _ => 0)))]) S0 V kc_X0 tyX0 tyX0_ok nmX0 hin2 0 rfl rfl 2 (by decide) kl_X0_20 (fun _ h => h) rfl (ty := .array .int) rfl rfl rfl (by show _ < 4; decide) rfl dX0_init_29 (fun H locs V => ?_)
  refine lv_aload_n hx hb dX0_init_32 rfl (lv_at hl 0 rfl) ?_
  refine lv_iconst (v := 0) hx hb dX0_init_33 (by decide) ?_
  refine qc_put (C := RX0) (T := TX0) (N := 4) (ci := 0) (ws' := [(a, .inr (0, [.ref q0, .ref q2, .ref q3, .int 0])), (q0, .inl (cy 2, 7, .inr (.inr (.inr (.inr (fun j => ([some (r1 0), some (r1 1), some (r1 2), some (r1 3), some (r1 4), some (r1 5), some (r1 6)] : List (Option Nat)).getD j none)))))), (r1 0, .inl (cy 0, 401, .inl (fun _ => 0))), (r1 1, .inl (cy 0, 401, .inl (fun _ => 0))), (r1 2, .inl (cy 0, 401, .inl (fun _ => 0))), (r1 3, .inl (cy 0, 401, .inl (fun _ => 0))), (r1 4, .inl (cy 0, 401, .inl (fun _ => 0))), (r1 5, .inl (cy 0, 401, .inl (fun _ => 0))), (r1 6, .inl (cy 0, 401, .inl (fun _ => 0))), (q2, .inl (cy 0, 6, .inl (fun _ => 0))), (q3, .inl (cy 0, 4, .inl (fun _ => 0)))]) S0 V kc_X0 tyX0 tyX0_ok nmX0 hin2 0 rfl rfl 3 (by decide) kl_X0_23 (fun _ h => h) rfl (ty := .int) rfl rfl rfl (by show _ < 4; decide) rfl dX0_init_34 (fun H locs V => ?_)
  exact qc_ret S0 hr hlocks rfl rfl rfl (fun k => ([q0, (r1 0), (r1 1), (r1 2), (r1 3), (r1 4), (r1 5), (r1 6), q2, q3] : List Nat).getD k 0) V dX0_init_37
