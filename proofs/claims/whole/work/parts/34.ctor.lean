def W1c (cy : Nat → ClassId) (a : Nat) (r : Nat → Nat) : va_W := [(a, .inr (1, [.ref (r 0), .int 0, .int 0])),
  (r 0, .inl (cy 1, 10, .inr (.inr (.inr (.inr (fun j => ([some (r 1), some (r 16), some (r 31), some (r 46), some (r 61), some (r 76), some (r 91), some (r 106), some (r 121), some (r 136)] : List (Option Nat)).getD j none)))))),
  (r 1, .inr (4, [.int 0, .ref (r 2), .ref (r 3), .ref (r 4), .ref (r 5), .ref (r 6), .ref (r 7), .ref (r 8), .ref (r 9), .ref (r 10), .ref (r 11), .ref (r 12), .ref (r 13), .ref (r 14), .ref (r 15)])),
  (r 2, .inl (cy 0, 4, .inl (fun _ => 0))),
  (r 3, .inl (cy 0, 6, .inl (fun _ => 0))),
  (r 4, .inl (cy 0, 3, .inl qc_set)),
  (r 5, .inl (cy 0, 120, .inl (fun _ => 0))),
  (r 6, .inl (cy 0, 6, .inl (fun _ => 0))),
  (r 7, .inl (cy 0, 6, .inl (fun _ => 0))),
  (r 8, .inl (cy 0, 24, .inl (fun _ => 0))),
  (r 9, .inl (cy 0, 16, .inl (fun _ => 0))),
  (r 10, .inl (cy 0, 4, .inl (fun _ => 0))),
  (r 11, .inl (cy 0, 24, .inl (fun _ => 0))),
  (r 12, .inl (cy 0, 24, .inl (fun _ => 0))),
  (r 13, .inl (cy 0, 4, .inl (fun _ => 0))),
  (r 14, .inl (cy 0, 4, .inl (fun _ => 0))),
  (r 15, .inl (cy 0, 4, .inl (fun _ => 0))),
  (r 16, .inr (4, [.int 0, .ref (r 17), .ref (r 18), .ref (r 19), .ref (r 20), .ref (r 21), .ref (r 22), .ref (r 23), .ref (r 24), .ref (r 25), .ref (r 26), .ref (r 27), .ref (r 28), .ref (r 29), .ref (r 30)])),
  (r 17, .inl (cy 0, 4, .inl (fun _ => 0))),
  (r 18, .inl (cy 0, 6, .inl (fun _ => 0))),
  (r 19, .inl (cy 0, 3, .inl qc_set)),
  (r 20, .inl (cy 0, 120, .inl (fun _ => 0))),
  (r 21, .inl (cy 0, 6, .inl (fun _ => 0))),
  (r 22, .inl (cy 0, 6, .inl (fun _ => 0))),
  (r 23, .inl (cy 0, 24, .inl (fun _ => 0))),
  (r 24, .inl (cy 0, 16, .inl (fun _ => 0))),
  (r 25, .inl (cy 0, 4, .inl (fun _ => 0))),
  (r 26, .inl (cy 0, 24, .inl (fun _ => 0))),
  (r 27, .inl (cy 0, 24, .inl (fun _ => 0))),
  (r 28, .inl (cy 0, 4, .inl (fun _ => 0))),
  (r 29, .inl (cy 0, 4, .inl (fun _ => 0))),
  (r 30, .inl (cy 0, 4, .inl (fun _ => 0))),
  (r 31, .inr (4, [.int 0, .ref (r 32), .ref (r 33), .ref (r 34), .ref (r 35), .ref (r 36), .ref (r 37), .ref (r 38), .ref (r 39), .ref (r 40), .ref (r 41), .ref (r 42), .ref (r 43), .ref (r 44), .ref (r 45)])),
  (r 32, .inl (cy 0, 4, .inl (fun _ => 0))),
  (r 33, .inl (cy 0, 6, .inl (fun _ => 0))),
  (r 34, .inl (cy 0, 3, .inl qc_set)),
  (r 35, .inl (cy 0, 120, .inl (fun _ => 0))),
  (r 36, .inl (cy 0, 6, .inl (fun _ => 0))),
  (r 37, .inl (cy 0, 6, .inl (fun _ => 0))),
  (r 38, .inl (cy 0, 24, .inl (fun _ => 0))),
  (r 39, .inl (cy 0, 16, .inl (fun _ => 0))),
  (r 40, .inl (cy 0, 4, .inl (fun _ => 0))),
  (r 41, .inl (cy 0, 24, .inl (fun _ => 0))),
  (r 42, .inl (cy 0, 24, .inl (fun _ => 0))),
  (r 43, .inl (cy 0, 4, .inl (fun _ => 0))),
  (r 44, .inl (cy 0, 4, .inl (fun _ => 0))),
  (r 45, .inl (cy 0, 4, .inl (fun _ => 0))),
  (r 46, .inr (4, [.int 0, .ref (r 47), .ref (r 48), .ref (r 49), .ref (r 50), .ref (r 51), .ref (r 52), .ref (r 53), .ref (r 54), .ref (r 55), .ref (r 56), .ref (r 57), .ref (r 58), .ref (r 59), .ref (r 60)])),
  (r 47, .inl (cy 0, 4, .inl (fun _ => 0))),
  (r 48, .inl (cy 0, 6, .inl (fun _ => 0))),
  (r 49, .inl (cy 0, 3, .inl qc_set)),
  (r 50, .inl (cy 0, 120, .inl (fun _ => 0))),
  (r 51, .inl (cy 0, 6, .inl (fun _ => 0))),
  (r 52, .inl (cy 0, 6, .inl (fun _ => 0))),
  (r 53, .inl (cy 0, 24, .inl (fun _ => 0))),
  (r 54, .inl (cy 0, 16, .inl (fun _ => 0))),
  (r 55, .inl (cy 0, 4, .inl (fun _ => 0))),
  (r 56, .inl (cy 0, 24, .inl (fun _ => 0))),
  (r 57, .inl (cy 0, 24, .inl (fun _ => 0))),
  (r 58, .inl (cy 0, 4, .inl (fun _ => 0))),
  (r 59, .inl (cy 0, 4, .inl (fun _ => 0))),
  (r 60, .inl (cy 0, 4, .inl (fun _ => 0))),
  (r 61, .inr (4, [.int 0, .ref (r 62), .ref (r 63), .ref (r 64), .ref (r 65), .ref (r 66), .ref (r 67), .ref (r 68), .ref (r 69), .ref (r 70), .ref (r 71), .ref (r 72), .ref (r 73), .ref (r 74), .ref (r 75)])),
  (r 62, .inl (cy 0, 4, .inl (fun _ => 0))),
  (r 63, .inl (cy 0, 6, .inl (fun _ => 0))),
  (r 64, .inl (cy 0, 3, .inl qc_set)),
  (r 65, .inl (cy 0, 120, .inl (fun _ => 0))),
  (r 66, .inl (cy 0, 6, .inl (fun _ => 0))),
  (r 67, .inl (cy 0, 6, .inl (fun _ => 0))),
  (r 68, .inl (cy 0, 24, .inl (fun _ => 0))),
  (r 69, .inl (cy 0, 16, .inl (fun _ => 0))),
  (r 70, .inl (cy 0, 4, .inl (fun _ => 0))),
  (r 71, .inl (cy 0, 24, .inl (fun _ => 0))),
  (r 72, .inl (cy 0, 24, .inl (fun _ => 0))),
  (r 73, .inl (cy 0, 4, .inl (fun _ => 0))),
  (r 74, .inl (cy 0, 4, .inl (fun _ => 0))),
  (r 75, .inl (cy 0, 4, .inl (fun _ => 0))),
  (r 76, .inr (4, [.int 0, .ref (r 77), .ref (r 78), .ref (r 79), .ref (r 80), .ref (r 81), .ref (r 82), .ref (r 83), .ref (r 84), .ref (r 85), .ref (r 86), .ref (r 87), .ref (r 88), .ref (r 89), .ref (r 90)])),
  (r 77, .inl (cy 0, 4, .inl (fun _ => 0))),
  (r 78, .inl (cy 0, 6, .inl (fun _ => 0))),
  (r 79, .inl (cy 0, 3, .inl qc_set)),
  (r 80, .inl (cy 0, 120, .inl (fun _ => 0))),
  (r 81, .inl (cy 0, 6, .inl (fun _ => 0))),
  (r 82, .inl (cy 0, 6, .inl (fun _ => 0))),
  (r 83, .inl (cy 0, 24, .inl (fun _ => 0))),
  (r 84, .inl (cy 0, 16, .inl (fun _ => 0))),
  (r 85, .inl (cy 0, 4, .inl (fun _ => 0))),
  (r 86, .inl (cy 0, 24, .inl (fun _ => 0))),
  (r 87, .inl (cy 0, 24, .inl (fun _ => 0))),
  (r 88, .inl (cy 0, 4, .inl (fun _ => 0))),
  (r 89, .inl (cy 0, 4, .inl (fun _ => 0))),
  (r 90, .inl (cy 0, 4, .inl (fun _ => 0))),
  (r 91, .inr (4, [.int 0, .ref (r 92), .ref (r 93), .ref (r 94), .ref (r 95), .ref (r 96), .ref (r 97), .ref (r 98), .ref (r 99), .ref (r 100), .ref (r 101), .ref (r 102), .ref (r 103), .ref (r 104), .ref (r 105)])),
  (r 92, .inl (cy 0, 4, .inl (fun _ => 0))),
  (r 93, .inl (cy 0, 6, .inl (fun _ => 0))),
  (r 94, .inl (cy 0, 3, .inl qc_set)),
  (r 95, .inl (cy 0, 120, .inl (fun _ => 0))),
  (r 96, .inl (cy 0, 6, .inl (fun _ => 0))),
  (r 97, .inl (cy 0, 6, .inl (fun _ => 0))),
  (r 98, .inl (cy 0, 24, .inl (fun _ => 0))),
  (r 99, .inl (cy 0, 16, .inl (fun _ => 0))),
  (r 100, .inl (cy 0, 4, .inl (fun _ => 0))),
  (r 101, .inl (cy 0, 24, .inl (fun _ => 0))),
  (r 102, .inl (cy 0, 24, .inl (fun _ => 0))),
  (r 103, .inl (cy 0, 4, .inl (fun _ => 0))),
  (r 104, .inl (cy 0, 4, .inl (fun _ => 0))),
  (r 105, .inl (cy 0, 4, .inl (fun _ => 0))),
  (r 106, .inr (4, [.int 0, .ref (r 107), .ref (r 108), .ref (r 109), .ref (r 110), .ref (r 111), .ref (r 112), .ref (r 113), .ref (r 114), .ref (r 115), .ref (r 116), .ref (r 117), .ref (r 118), .ref (r 119), .ref (r 120)])),
  (r 107, .inl (cy 0, 4, .inl (fun _ => 0))),
  (r 108, .inl (cy 0, 6, .inl (fun _ => 0))),
  (r 109, .inl (cy 0, 3, .inl qc_set)),
  (r 110, .inl (cy 0, 120, .inl (fun _ => 0))),
  (r 111, .inl (cy 0, 6, .inl (fun _ => 0))),
  (r 112, .inl (cy 0, 6, .inl (fun _ => 0))),
  (r 113, .inl (cy 0, 24, .inl (fun _ => 0))),
  (r 114, .inl (cy 0, 16, .inl (fun _ => 0))),
  (r 115, .inl (cy 0, 4, .inl (fun _ => 0))),
  (r 116, .inl (cy 0, 24, .inl (fun _ => 0))),
  (r 117, .inl (cy 0, 24, .inl (fun _ => 0))),
  (r 118, .inl (cy 0, 4, .inl (fun _ => 0))),
  (r 119, .inl (cy 0, 4, .inl (fun _ => 0))),
  (r 120, .inl (cy 0, 4, .inl (fun _ => 0))),
  (r 121, .inr (4, [.int 0, .ref (r 122), .ref (r 123), .ref (r 124), .ref (r 125), .ref (r 126), .ref (r 127), .ref (r 128), .ref (r 129), .ref (r 130), .ref (r 131), .ref (r 132), .ref (r 133), .ref (r 134), .ref (r 135)])),
  (r 122, .inl (cy 0, 4, .inl (fun _ => 0))),
  (r 123, .inl (cy 0, 6, .inl (fun _ => 0))),
  (r 124, .inl (cy 0, 3, .inl qc_set)),
  (r 125, .inl (cy 0, 120, .inl (fun _ => 0))),
  (r 126, .inl (cy 0, 6, .inl (fun _ => 0))),
  (r 127, .inl (cy 0, 6, .inl (fun _ => 0))),
  (r 128, .inl (cy 0, 24, .inl (fun _ => 0))),
  (r 129, .inl (cy 0, 16, .inl (fun _ => 0))),
  (r 130, .inl (cy 0, 4, .inl (fun _ => 0))),
  (r 131, .inl (cy 0, 24, .inl (fun _ => 0))),
  (r 132, .inl (cy 0, 24, .inl (fun _ => 0))),
  (r 133, .inl (cy 0, 4, .inl (fun _ => 0))),
  (r 134, .inl (cy 0, 4, .inl (fun _ => 0))),
  (r 135, .inl (cy 0, 4, .inl (fun _ => 0))),
  (r 136, .inr (4, [.int 0, .ref (r 137), .ref (r 138), .ref (r 139), .ref (r 140), .ref (r 141), .ref (r 142), .ref (r 143), .ref (r 144), .ref (r 145), .ref (r 146), .ref (r 147), .ref (r 148), .ref (r 149), .ref (r 150)])),
  (r 137, .inl (cy 0, 4, .inl (fun _ => 0))),
  (r 138, .inl (cy 0, 6, .inl (fun _ => 0))),
  (r 139, .inl (cy 0, 3, .inl qc_set)),
  (r 140, .inl (cy 0, 120, .inl (fun _ => 0))),
  (r 141, .inl (cy 0, 6, .inl (fun _ => 0))),
  (r 142, .inl (cy 0, 6, .inl (fun _ => 0))),
  (r 143, .inl (cy 0, 24, .inl (fun _ => 0))),
  (r 144, .inl (cy 0, 16, .inl (fun _ => 0))),
  (r 145, .inl (cy 0, 4, .inl (fun _ => 0))),
  (r 146, .inl (cy 0, 24, .inl (fun _ => 0))),
  (r 147, .inl (cy 0, 24, .inl (fun _ => 0))),
  (r 148, .inl (cy 0, 4, .inl (fun _ => 0))),
  (r 149, .inl (cy 0, 4, .inl (fun _ => 0))),
  (r 150, .inl (cy 0, 4, .inl (fun _ => 0)))]
theorem kdi_X1 : yX1_init.cls ≠ "java/lang/invoke/MethodHandle" ∧ yX1_init.cls ≠ "java/lang/invoke/VarHandle" ∧ (parseMethodDescriptor yX1_init.desc).map (fun d => d.parameters.length) = some 0 := by decide +kernel
abbrev wz_X1_init : List Cond := Cond.code yX1_init cX1_init 2 none :: qw_big
def rm_X1_init : Room := { frames := 3, cells := 151, slots := 2650, locals := 101 }
set_option maxHeartbeats 4000000 in
set_option maxRecDepth 100000 in
theorem c_X1_init (l : Launch) {D : va_G} {cy : Nat → ClassId} {a sz : Nat} : Met l yX1_init wz_X1_init rm_X1_init (va_Pc [.ref a] (qw_Pre D cy [(a, .inr (1, [.null, .int 0, .int 0]))] sz)) (qc_Q D (W1c cy a) (va_A [(a, .inr (1, [.null, .int 0, .int 0]))] sz)) 151 2650 (va_A [(a, .inr (1, [.null, .int 0, .int 0]))] sz) := by
  refine qc_of (cc := cX1_init) (maxL := 2) (ret := none) (by decide) (Nat.le_of_ble_eq_true rfl) ?_
  intro p e s m args below meth c ls S0 hin2 hr hlocks hsz V hl
  have S0 : CallFix p m c cX1_init 2 s args qw_big RX1 := S0
  have hin2 : meth.name = "<init>" := hin2
  have hx := S0.1; have hb := S0.2.1; have hown := S0.2.2.2.1; have hts := S0.2.2.2.2
  have hl : lv_has ls 2 [(0, .ref a)] := hl
  generalize va_A [(a, .inr (1, [.null, .int 0, .int 0]))] sz = Z9 at V ⊢
  clear hsz
  have V : qw_V D cy Z9 s [(a, .inr (1, [.null, .int 0, .int 0]))] s.heap [] := V
  refine lv_aload_n hx hb dX1_init_0 rfl (lv_at hl 0 rfl) ?_
  refine qc_oi S0 hl.1 kml_X1_3 (Nat.le_of_ble_eq_true rfl) (Nat.le_of_ble_eq_true rfl) dX1_init_1 ?_
  refine lv_aload_n hx hb dX1_init_4 rfl (lv_at hl 0 rfl) ?_
  refine lv_bipush (v := 10) hx hb dX1_init_5 (by decide) ?_
  refine qc_newq (N := 10) S0 V kcl_X1_9 (by decide) rfl (Nat.le_of_ble_eq_true rfl) (Nat.le_of_ble_eq_true rfl) (Nat.le_of_ble_eq_true rfl) dX1_init_7 (fun q0 H V => ?_)
  simp only [List.append_assoc, List.cons_append, List.nil_append] at V
  have V : qw_V D cy Z9 s [(a, .inr (1, [.null, .int 0, .int 0])), (q0, .inl (cy 1, 10, .inr (.inr (.inr (.inr (fun _ => none))))))] H [] := V
  refine qc_put (C := RX1) (T := TX1) (N := 3) (ci := 1) (ws' := [(a, .inr (1, [.ref q0, .int 0, .int 0])), (q0, .inl (cy 1, 10, .inr (.inr (.inr (.inr (fun _ => none))))))]) S0 V kc_X1 tyX1 tyX1_ok nmX1 hin2 0 rfl rfl 0 (by decide) kl_X1_11 (fun _ h => h) rfl (ty := .array (.object "RationOffice$State")) rfl rfl rfl (by show _ < 3; decide) rfl dX1_init_10 (fun H locs V => ?_)
  refine lv_aload_n hx hb dX1_init_13 rfl (lv_at hl 0 rfl) ?_
  refine lv_iconst (v := 0) hx hb dX1_init_14 (by decide) ?_
  refine qc_put (C := RX1) (T := TX1) (N := 3) (ci := 1) (ws' := [(a, .inr (1, [.ref q0, .int 0, .int 0])), (q0, .inl (cy 1, 10, .inr (.inr (.inr (.inr (fun _ => none))))))]) S0 V kc_X1 tyX1 tyX1_ok nmX1 hin2 0 rfl rfl 1 (by decide) kl_X1_17 (fun _ h => h) rfl (ty := .int) rfl rfl rfl (by show _ < 3; decide) rfl dX1_init_15 (fun H locs V => ?_)
  refine lv_aload_n hx hb dX1_init_18 rfl (lv_at hl 0 rfl) ?_
  refine lv_iconst (v := 0) hx hb dX1_init_19 (by decide) ?_
  refine qc_put (C := RX1) (T := TX1) (N := 3) (ci := 1) (ws' := [(a, .inr (1, [.ref q0, .int 0, .int 0])), (q0, .inl (cy 1, 10, .inr (.inr (.inr (.inr (fun _ => none))))))]) S0 V kc_X1 tyX1 tyX1_ok nmX1 hin2 0 rfl rfl 2 (by decide) kl_X1_21 (fun _ h => h) rfl (ty := .int) rfl rfl rfl (by show _ < 3; decide) rfl dX1_init_20 (fun H locs V => ?_)
  refine lv_iconst (v := 0) hx hb dX1_init_23 (by decide) ?_
  refine lv_istore_n (lv' := [(1, .int (0 : Int32)), (0, .ref a)]) hx hb dX1_init_24 rfl hl (by decide) rfl (fun ls hl => ?_)
  refine lv_iload_n hx hb dX1_init_25 rfl (lv_at hl 0 rfl) ?_
  refine lv_bipush (v := 10) hx hb dX1_init_26 (by decide) ?_
  refine lv_icmp_ge (tgt := 50) hx hb dX1_init_28 (by decide) (fun c_17 => absurd c_17 (by decide)) (fun c_17 => ?_)
  refine lv_aload_n hx hb dX1_init_31 rfl (lv_at hl 1 rfl) ?_
  refine qw_get (C := RX1) (T := TX1) (N := 3) (ci := 1) S0 V kc_X1 0 rfl rfl 0 (by decide) kl_X1_11 (fun _ h => h) rfl dX1_init_32 ?_
  refine lv_iload_n hx hb dX1_init_35 rfl (lv_at hl 0 rfl) ?_
  refine qc_new (C := RX5) (T := TX5) (N := 15) (ci := 4) (fs := [.int 0, .null, .null, .null, .null, .null, .null, .null, .null, .null, .null, .null, .null, .null, .null]) S0 V kc_X5 tyX5 tyX5_ok kcl_X1_9 kinst_X5 kini_X5 rfl (by decide) (Nat.le_of_ble_eq_true rfl) (Nat.le_of_ble_eq_true rfl) dX1_init_36 (fun q1 H V => ?_)
  refine lv_dup hx hb dX1_init_39 rfl ?_
  refine qc_cI (wr := [(a, .inr (1, [.ref q0, .int 0, .int 0])), (q0, .inl (cy 1, 10, .inr (.inr (.inr (.inr (fun _ => none))))))]) (Wf := W5c cy q1) S0 V hl (c_X5_init l) kw_X5_init rfl ⟨rfl, rfl⟩ kini_X5 kml_X1_24 kin_X5_init rfl kdi_X5 ⟨(Nat.le_of_ble_eq_true rfl), (Nat.le_of_ble_eq_true rfl)⟩ (Nat.le_of_ble_eq_true rfl) ⟨(Nat.le_of_ble_eq_true rfl), (Nat.le_of_ble_eq_true rfl)⟩ dX1_init_40 (fun H locs r2 V => ?_)
  simp only [List.append_assoc, List.cons_append, List.nil_append] at V
  have V : qw_V D cy Z9 s ((a, .inr (1, [.ref q0, .int 0, .int 0])) :: ((q0, .inl (cy 1, 10, .inr (.inr (.inr (.inr (fun _ => none)))))) :: W5c cy q1 r2)) H locs := V
  refine qc_ast (ws' := ((a, .inr (1, [.ref q0, .int 0, .int 0])) :: ((q0, .inl (cy 1, 10, .inr (.inr (.inr (.inr (va_up (fun _ => none) 0 (some q1))))))) :: W5c cy q1 r2))) (j := 0) S0 V 1 2 rfl rfl (by unfold vp_in; decide) rfl rfl dX1_init_43 (fun H locs V => ?_)
  refine lv_iinc (v := 1) (lv' := [(1, .int (1 : Int32)), (0, .ref a)]) hx hb dX1_init_44 hl (k := 0) rfl (by decide) (by decide) rfl (fun ls hl => ?_)
  refine lv_goto (tgt := 25) hx hb dX1_init_47 (by decide) ?_
  refine lv_iload_n hx hb dX1_init_25 rfl (lv_at hl 0 rfl) ?_
  refine lv_bipush (v := 10) hx hb dX1_init_26 (by decide) ?_
  refine lv_icmp_ge (tgt := 50) hx hb dX1_init_28 (by decide) (fun c_29 => absurd c_29 (by decide)) (fun c_29 => ?_)
  refine lv_aload_n hx hb dX1_init_31 rfl (lv_at hl 1 rfl) ?_
  refine qw_get (C := RX1) (T := TX1) (N := 3) (ci := 1) S0 V kc_X1 0 rfl rfl 0 (by decide) kl_X1_11 (fun _ h => h) rfl dX1_init_32 ?_
  refine lv_iload_n hx hb dX1_init_35 rfl (lv_at hl 0 rfl) ?_
  refine qc_new (C := RX5) (T := TX5) (N := 15) (ci := 4) (fs := [.int 0, .null, .null, .null, .null, .null, .null, .null, .null, .null, .null, .null, .null, .null, .null]) S0 V kc_X5 tyX5 tyX5_ok kcl_X1_9 kinst_X5 kini_X5 rfl (by decide) (Nat.le_of_ble_eq_true rfl) (Nat.le_of_ble_eq_true rfl) dX1_init_36 (fun q3 H V => ?_)
  refine lv_dup hx hb dX1_init_39 rfl ?_
  refine qc_cI (wr := ((a, .inr (1, [.ref q0, .int 0, .int 0])) :: ((q0, .inl (cy 1, 10, .inr (.inr (.inr (.inr (va_up (fun _ => none) 0 (some q1))))))) :: W5c cy q1 r2))) (Wf := W5c cy q3) S0 V hl (c_X5_init l) kw_X5_init rfl ⟨rfl, rfl⟩ kini_X5 kml_X1_24 kin_X5_init rfl kdi_X5 ⟨(Nat.le_of_ble_eq_true rfl), (Nat.le_of_ble_eq_true rfl)⟩ (Nat.le_of_ble_eq_true rfl) ⟨(Nat.le_of_ble_eq_true rfl), (Nat.le_of_ble_eq_true rfl)⟩ dX1_init_40 (fun H locs r4 V => ?_)
  simp only [List.append_assoc, List.cons_append, List.nil_append] at V
  have V : qw_V D cy Z9 s ((a, .inr (1, [.ref q0, .int 0, .int 0])) :: ((q0, .inl (cy 1, 10, .inr (.inr (.inr (.inr (va_up (fun _ => none) 0 (some q1))))))) :: (W5c cy q1 r2 ++ W5c cy q3 r4))) H locs := V
  refine qc_ast (ws' := ((a, .inr (1, [.ref q0, .int 0, .int 0])) :: ((q0, .inl (cy 1, 10, .inr (.inr (.inr (.inr (va_up (va_up (fun _ => none) 0 (some q1)) 1 (some q3))))))) :: (W5c cy q1 r2 ++ W5c cy q3 r4)))) (j := 1) S0 V 1 17 rfl rfl (by unfold vp_in; decide) rfl rfl dX1_init_43 (fun H locs V => ?_)
  refine lv_iinc (v := 2) (lv' := [(1, .int (2 : Int32)), (0, .ref a)]) hx hb dX1_init_44 hl (k := 0) rfl (by decide) (by decide) rfl (fun ls hl => ?_)
  refine lv_goto (tgt := 25) hx hb dX1_init_47 (by decide) ?_
  refine lv_iload_n hx hb dX1_init_25 rfl (lv_at hl 0 rfl) ?_
  refine lv_bipush (v := 10) hx hb dX1_init_26 (by decide) ?_
  refine lv_icmp_ge (tgt := 50) hx hb dX1_init_28 (by decide) (fun c_41 => absurd c_41 (by decide)) (fun c_41 => ?_)
  refine lv_aload_n hx hb dX1_init_31 rfl (lv_at hl 1 rfl) ?_
  refine qw_get (C := RX1) (T := TX1) (N := 3) (ci := 1) S0 V kc_X1 0 rfl rfl 0 (by decide) kl_X1_11 (fun _ h => h) rfl dX1_init_32 ?_
  refine lv_iload_n hx hb dX1_init_35 rfl (lv_at hl 0 rfl) ?_
  refine qc_new (C := RX5) (T := TX5) (N := 15) (ci := 4) (fs := [.int 0, .null, .null, .null, .null, .null, .null, .null, .null, .null, .null, .null, .null, .null, .null]) S0 V kc_X5 tyX5 tyX5_ok kcl_X1_9 kinst_X5 kini_X5 rfl (by decide) (Nat.le_of_ble_eq_true rfl) (Nat.le_of_ble_eq_true rfl) dX1_init_36 (fun q5 H V => ?_)
  refine lv_dup hx hb dX1_init_39 rfl ?_
  refine qc_cI (wr := ((a, .inr (1, [.ref q0, .int 0, .int 0])) :: ((q0, .inl (cy 1, 10, .inr (.inr (.inr (.inr (va_up (va_up (fun _ => none) 0 (some q1)) 1 (some q3))))))) :: (W5c cy q1 r2 ++ W5c cy q3 r4)))) (Wf := W5c cy q5) S0 V hl (c_X5_init l) kw_X5_init rfl ⟨rfl, rfl⟩ kini_X5 kml_X1_24 kin_X5_init rfl kdi_X5 ⟨(Nat.le_of_ble_eq_true rfl), (Nat.le_of_ble_eq_true rfl)⟩ (Nat.le_of_ble_eq_true rfl) ⟨(Nat.le_of_ble_eq_true rfl), (Nat.le_of_ble_eq_true rfl)⟩ dX1_init_40 (fun H locs r6 V => ?_)
  simp only [List.append_assoc, List.cons_append, List.nil_append] at V
  have V : qw_V D cy Z9 s ((a, .inr (1, [.ref q0, .int 0, .int 0])) :: ((q0, .inl (cy 1, 10, .inr (.inr (.inr (.inr (va_up (va_up (fun _ => none) 0 (some q1)) 1 (some q3))))))) :: (W5c cy q1 r2 ++ (W5c cy q3 r4 ++ W5c cy q5 r6)))) H locs := V
  refine qc_ast (ws' := ((a, .inr (1, [.ref q0, .int 0, .int 0])) :: ((q0, .inl (cy 1, 10, .inr (.inr (.inr (.inr (va_up (va_up (va_up (fun _ => none) 0 (some q1)) 1 (some q3)) 2 (some q5))))))) :: (W5c cy q1 r2 ++ (W5c cy q3 r4 ++ W5c cy q5 r6))))) (j := 2) S0 V 1 32 rfl rfl (by unfold vp_in; decide) rfl rfl dX1_init_43 (fun H locs V => ?_)
  refine lv_iinc (v := 3) (lv' := [(1, .int (3 : Int32)), (0, .ref a)]) hx hb dX1_init_44 hl (k := 0) rfl (by decide) (by decide) rfl (fun ls hl => ?_)
  refine lv_goto (tgt := 25) hx hb dX1_init_47 (by decide) ?_
  refine lv_iload_n hx hb dX1_init_25 rfl (lv_at hl 0 rfl) ?_
  refine lv_bipush (v := 10) hx hb dX1_init_26 (by decide) ?_
  refine lv_icmp_ge (tgt := 50) hx hb dX1_init_28 (by decide) (fun c_53 => absurd c_53 (by decide)) (fun c_53 => ?_)
  refine lv_aload_n hx hb dX1_init_31 rfl (lv_at hl 1 rfl) ?_
  refine qw_get (C := RX1) (T := TX1) (N := 3) (ci := 1) S0 V kc_X1 0 rfl rfl 0 (by decide) kl_X1_11 (fun _ h => h) rfl dX1_init_32 ?_
  refine lv_iload_n hx hb dX1_init_35 rfl (lv_at hl 0 rfl) ?_
  refine qc_new (C := RX5) (T := TX5) (N := 15) (ci := 4) (fs := [.int 0, .null, .null, .null, .null, .null, .null, .null, .null, .null, .null, .null, .null, .null, .null]) S0 V kc_X5 tyX5 tyX5_ok kcl_X1_9 kinst_X5 kini_X5 rfl (by decide) (Nat.le_of_ble_eq_true rfl) (Nat.le_of_ble_eq_true rfl) dX1_init_36 (fun q7 H V => ?_)
  refine lv_dup hx hb dX1_init_39 rfl ?_
  refine qc_cI (wr := ((a, .inr (1, [.ref q0, .int 0, .int 0])) :: ((q0, .inl (cy 1, 10, .inr (.inr (.inr (.inr (va_up (va_up (va_up (fun _ => none) 0 (some q1)) 1 (some q3)) 2 (some q5))))))) :: (W5c cy q1 r2 ++ (W5c cy q3 r4 ++ W5c cy q5 r6))))) (Wf := W5c cy q7) S0 V hl (c_X5_init l) kw_X5_init rfl ⟨rfl, rfl⟩ kini_X5 kml_X1_24 kin_X5_init rfl kdi_X5 ⟨(Nat.le_of_ble_eq_true rfl), (Nat.le_of_ble_eq_true rfl)⟩ (Nat.le_of_ble_eq_true rfl) ⟨(Nat.le_of_ble_eq_true rfl), (Nat.le_of_ble_eq_true rfl)⟩ dX1_init_40 (fun H locs r8 V => ?_)
  simp only [List.append_assoc, List.cons_append, List.nil_append] at V
  have V : qw_V D cy Z9 s ((a, .inr (1, [.ref q0, .int 0, .int 0])) :: ((q0, .inl (cy 1, 10, .inr (.inr (.inr (.inr (va_up (va_up (va_up (fun _ => none) 0 (some q1)) 1 (some q3)) 2 (some q5))))))) :: (W5c cy q1 r2 ++ (W5c cy q3 r4 ++ (W5c cy q5 r6 ++ W5c cy q7 r8))))) H locs := V
  refine qc_ast (ws' := ((a, .inr (1, [.ref q0, .int 0, .int 0])) :: ((q0, .inl (cy 1, 10, .inr (.inr (.inr (.inr (va_up (va_up (va_up (va_up (fun _ => none) 0 (some q1)) 1 (some q3)) 2 (some q5)) 3 (some q7))))))) :: (W5c cy q1 r2 ++ (W5c cy q3 r4 ++ (W5c cy q5 r6 ++ W5c cy q7 r8)))))) (j := 3) S0 V 1 47 rfl rfl (by unfold vp_in; decide) rfl rfl dX1_init_43 (fun H locs V => ?_)
  refine lv_iinc (v := 4) (lv' := [(1, .int (4 : Int32)), (0, .ref a)]) hx hb dX1_init_44 hl (k := 0) rfl (by decide) (by decide) rfl (fun ls hl => ?_)
  refine lv_goto (tgt := 25) hx hb dX1_init_47 (by decide) ?_
  refine lv_iload_n hx hb dX1_init_25 rfl (lv_at hl 0 rfl) ?_
  refine lv_bipush (v := 10) hx hb dX1_init_26 (by decide) ?_
  refine lv_icmp_ge (tgt := 50) hx hb dX1_init_28 (by decide) (fun c_65 => absurd c_65 (by decide)) (fun c_65 => ?_)
  refine lv_aload_n hx hb dX1_init_31 rfl (lv_at hl 1 rfl) ?_
  refine qw_get (C := RX1) (T := TX1) (N := 3) (ci := 1) S0 V kc_X1 0 rfl rfl 0 (by decide) kl_X1_11 (fun _ h => h) rfl dX1_init_32 ?_
  refine lv_iload_n hx hb dX1_init_35 rfl (lv_at hl 0 rfl) ?_
  refine qc_new (C := RX5) (T := TX5) (N := 15) (ci := 4) (fs := [.int 0, .null, .null, .null, .null, .null, .null, .null, .null, .null, .null, .null, .null, .null, .null]) S0 V kc_X5 tyX5 tyX5_ok kcl_X1_9 kinst_X5 kini_X5 rfl (by decide) (Nat.le_of_ble_eq_true rfl) (Nat.le_of_ble_eq_true rfl) dX1_init_36 (fun q9 H V => ?_)
  refine lv_dup hx hb dX1_init_39 rfl ?_
  refine qc_cI (wr := ((a, .inr (1, [.ref q0, .int 0, .int 0])) :: ((q0, .inl (cy 1, 10, .inr (.inr (.inr (.inr (va_up (va_up (va_up (va_up (fun _ => none) 0 (some q1)) 1 (some q3)) 2 (some q5)) 3 (some q7))))))) :: (W5c cy q1 r2 ++ (W5c cy q3 r4 ++ (W5c cy q5 r6 ++ W5c cy q7 r8)))))) (Wf := W5c cy q9) S0 V hl (c_X5_init l) kw_X5_init rfl ⟨rfl, rfl⟩ kini_X5 kml_X1_24 kin_X5_init rfl kdi_X5 ⟨(Nat.le_of_ble_eq_true rfl), (Nat.le_of_ble_eq_true rfl)⟩ (Nat.le_of_ble_eq_true rfl) ⟨(Nat.le_of_ble_eq_true rfl), (Nat.le_of_ble_eq_true rfl)⟩ dX1_init_40 (fun H locs r10 V => ?_)
  simp only [List.append_assoc, List.cons_append, List.nil_append] at V
  have V : qw_V D cy Z9 s ((a, .inr (1, [.ref q0, .int 0, .int 0])) :: ((q0, .inl (cy 1, 10, .inr (.inr (.inr (.inr (va_up (va_up (va_up (va_up (fun _ => none) 0 (some q1)) 1 (some q3)) 2 (some q5)) 3 (some q7))))))) :: (W5c cy q1 r2 ++ (W5c cy q3 r4 ++ (W5c cy q5 r6 ++ (W5c cy q7 r8 ++ W5c cy q9 r10)))))) H locs := V
  refine qc_ast (ws' := ((a, .inr (1, [.ref q0, .int 0, .int 0])) :: ((q0, .inl (cy 1, 10, .inr (.inr (.inr (.inr (va_up (va_up (va_up (va_up (va_up (fun _ => none) 0 (some q1)) 1 (some q3)) 2 (some q5)) 3 (some q7)) 4 (some q9))))))) :: (W5c cy q1 r2 ++ (W5c cy q3 r4 ++ (W5c cy q5 r6 ++ (W5c cy q7 r8 ++ W5c cy q9 r10))))))) (j := 4) S0 V 1 62 rfl rfl (by unfold vp_in; decide) rfl rfl dX1_init_43 (fun H locs V => ?_)
  refine lv_iinc (v := 5) (lv' := [(1, .int (5 : Int32)), (0, .ref a)]) hx hb dX1_init_44 hl (k := 0) rfl (by decide) (by decide) rfl (fun ls hl => ?_)
  refine lv_goto (tgt := 25) hx hb dX1_init_47 (by decide) ?_
  refine lv_iload_n hx hb dX1_init_25 rfl (lv_at hl 0 rfl) ?_
  refine lv_bipush (v := 10) hx hb dX1_init_26 (by decide) ?_
  refine lv_icmp_ge (tgt := 50) hx hb dX1_init_28 (by decide) (fun c_77 => absurd c_77 (by decide)) (fun c_77 => ?_)
  refine lv_aload_n hx hb dX1_init_31 rfl (lv_at hl 1 rfl) ?_
  refine qw_get (C := RX1) (T := TX1) (N := 3) (ci := 1) S0 V kc_X1 0 rfl rfl 0 (by decide) kl_X1_11 (fun _ h => h) rfl dX1_init_32 ?_
  refine lv_iload_n hx hb dX1_init_35 rfl (lv_at hl 0 rfl) ?_
  refine qc_new (C := RX5) (T := TX5) (N := 15) (ci := 4) (fs := [.int 0, .null, .null, .null, .null, .null, .null, .null, .null, .null, .null, .null, .null, .null, .null]) S0 V kc_X5 tyX5 tyX5_ok kcl_X1_9 kinst_X5 kini_X5 rfl (by decide) (Nat.le_of_ble_eq_true rfl) (Nat.le_of_ble_eq_true rfl) dX1_init_36 (fun q11 H V => ?_)
  refine lv_dup hx hb dX1_init_39 rfl ?_
  refine qc_cI (wr := ((a, .inr (1, [.ref q0, .int 0, .int 0])) :: ((q0, .inl (cy 1, 10, .inr (.inr (.inr (.inr (va_up (va_up (va_up (va_up (va_up (fun _ => none) 0 (some q1)) 1 (some q3)) 2 (some q5)) 3 (some q7)) 4 (some q9))))))) :: (W5c cy q1 r2 ++ (W5c cy q3 r4 ++ (W5c cy q5 r6 ++ (W5c cy q7 r8 ++ W5c cy q9 r10))))))) (Wf := W5c cy q11) S0 V hl (c_X5_init l) kw_X5_init rfl ⟨rfl, rfl⟩ kini_X5 kml_X1_24 kin_X5_init rfl kdi_X5 ⟨(Nat.le_of_ble_eq_true rfl), (Nat.le_of_ble_eq_true rfl)⟩ (Nat.le_of_ble_eq_true rfl) ⟨(Nat.le_of_ble_eq_true rfl), (Nat.le_of_ble_eq_true rfl)⟩ dX1_init_40 (fun H locs r12 V => ?_)
  simp only [List.append_assoc, List.cons_append, List.nil_append] at V
  have V : qw_V D cy Z9 s ((a, .inr (1, [.ref q0, .int 0, .int 0])) :: ((q0, .inl (cy 1, 10, .inr (.inr (.inr (.inr (va_up (va_up (va_up (va_up (va_up (fun _ => none) 0 (some q1)) 1 (some q3)) 2 (some q5)) 3 (some q7)) 4 (some q9))))))) :: (W5c cy q1 r2 ++ (W5c cy q3 r4 ++ (W5c cy q5 r6 ++ (W5c cy q7 r8 ++ (W5c cy q9 r10 ++ W5c cy q11 r12))))))) H locs := V
  refine qc_ast (ws' := ((a, .inr (1, [.ref q0, .int 0, .int 0])) :: ((q0, .inl (cy 1, 10, .inr (.inr (.inr (.inr (va_up (va_up (va_up (va_up (va_up (va_up (fun _ => none) 0 (some q1)) 1 (some q3)) 2 (some q5)) 3 (some q7)) 4 (some q9)) 5 (some q11))))))) :: (W5c cy q1 r2 ++ (W5c cy q3 r4 ++ (W5c cy q5 r6 ++ (W5c cy q7 r8 ++ (W5c cy q9 r10 ++ W5c cy q11 r12)))))))) (j := 5) S0 V 1 77 rfl rfl (by unfold vp_in; decide) rfl rfl dX1_init_43 (fun H locs V => ?_)
  refine lv_iinc (v := 6) (lv' := [(1, .int (6 : Int32)), (0, .ref a)]) hx hb dX1_init_44 hl (k := 0) rfl (by decide) (by decide) rfl (fun ls hl => ?_)
  refine lv_goto (tgt := 25) hx hb dX1_init_47 (by decide) ?_
  refine lv_iload_n hx hb dX1_init_25 rfl (lv_at hl 0 rfl) ?_
  refine lv_bipush (v := 10) hx hb dX1_init_26 (by decide) ?_
  refine lv_icmp_ge (tgt := 50) hx hb dX1_init_28 (by decide) (fun c_89 => absurd c_89 (by decide)) (fun c_89 => ?_)
  refine lv_aload_n hx hb dX1_init_31 rfl (lv_at hl 1 rfl) ?_
  refine qw_get (C := RX1) (T := TX1) (N := 3) (ci := 1) S0 V kc_X1 0 rfl rfl 0 (by decide) kl_X1_11 (fun _ h => h) rfl dX1_init_32 ?_
  refine lv_iload_n hx hb dX1_init_35 rfl (lv_at hl 0 rfl) ?_
  refine qc_new (C := RX5) (T := TX5) (N := 15) (ci := 4) (fs := [.int 0, .null, .null, .null, .null, .null, .null, .null, .null, .null, .null, .null, .null, .null, .null]) S0 V kc_X5 tyX5 tyX5_ok kcl_X1_9 kinst_X5 kini_X5 rfl (by decide) (Nat.le_of_ble_eq_true rfl) (Nat.le_of_ble_eq_true rfl) dX1_init_36 (fun q13 H V => ?_)
  refine lv_dup hx hb dX1_init_39 rfl ?_
  refine qc_cI (wr := ((a, .inr (1, [.ref q0, .int 0, .int 0])) :: ((q0, .inl (cy 1, 10, .inr (.inr (.inr (.inr (va_up (va_up (va_up (va_up (va_up (va_up (fun _ => none) 0 (some q1)) 1 (some q3)) 2 (some q5)) 3 (some q7)) 4 (some q9)) 5 (some q11))))))) :: (W5c cy q1 r2 ++ (W5c cy q3 r4 ++ (W5c cy q5 r6 ++ (W5c cy q7 r8 ++ (W5c cy q9 r10 ++ W5c cy q11 r12)))))))) (Wf := W5c cy q13) S0 V hl (c_X5_init l) kw_X5_init rfl ⟨rfl, rfl⟩ kini_X5 kml_X1_24 kin_X5_init rfl kdi_X5 ⟨(Nat.le_of_ble_eq_true rfl), (Nat.le_of_ble_eq_true rfl)⟩ (Nat.le_of_ble_eq_true rfl) ⟨(Nat.le_of_ble_eq_true rfl), (Nat.le_of_ble_eq_true rfl)⟩ dX1_init_40 (fun H locs r14 V => ?_)
  simp only [List.append_assoc, List.cons_append, List.nil_append] at V
  have V : qw_V D cy Z9 s ((a, .inr (1, [.ref q0, .int 0, .int 0])) :: ((q0, .inl (cy 1, 10, .inr (.inr (.inr (.inr (va_up (va_up (va_up (va_up (va_up (va_up (fun _ => none) 0 (some q1)) 1 (some q3)) 2 (some q5)) 3 (some q7)) 4 (some q9)) 5 (some q11))))))) :: (W5c cy q1 r2 ++ (W5c cy q3 r4 ++ (W5c cy q5 r6 ++ (W5c cy q7 r8 ++ (W5c cy q9 r10 ++ (W5c cy q11 r12 ++ W5c cy q13 r14)))))))) H locs := V
  refine qc_ast (ws' := ((a, .inr (1, [.ref q0, .int 0, .int 0])) :: ((q0, .inl (cy 1, 10, .inr (.inr (.inr (.inr (va_up (va_up (va_up (va_up (va_up (va_up (va_up (fun _ => none) 0 (some q1)) 1 (some q3)) 2 (some q5)) 3 (some q7)) 4 (some q9)) 5 (some q11)) 6 (some q13))))))) :: (W5c cy q1 r2 ++ (W5c cy q3 r4 ++ (W5c cy q5 r6 ++ (W5c cy q7 r8 ++ (W5c cy q9 r10 ++ (W5c cy q11 r12 ++ W5c cy q13 r14))))))))) (j := 6) S0 V 1 92 rfl rfl (by unfold vp_in; decide) rfl rfl dX1_init_43 (fun H locs V => ?_)
  refine lv_iinc (v := 7) (lv' := [(1, .int (7 : Int32)), (0, .ref a)]) hx hb dX1_init_44 hl (k := 0) rfl (by decide) (by decide) rfl (fun ls hl => ?_)
  refine lv_goto (tgt := 25) hx hb dX1_init_47 (by decide) ?_
  refine lv_iload_n hx hb dX1_init_25 rfl (lv_at hl 0 rfl) ?_
  refine lv_bipush (v := 10) hx hb dX1_init_26 (by decide) ?_
  refine lv_icmp_ge (tgt := 50) hx hb dX1_init_28 (by decide) (fun c_101 => absurd c_101 (by decide)) (fun c_101 => ?_)
  refine lv_aload_n hx hb dX1_init_31 rfl (lv_at hl 1 rfl) ?_
  refine qw_get (C := RX1) (T := TX1) (N := 3) (ci := 1) S0 V kc_X1 0 rfl rfl 0 (by decide) kl_X1_11 (fun _ h => h) rfl dX1_init_32 ?_
  refine lv_iload_n hx hb dX1_init_35 rfl (lv_at hl 0 rfl) ?_
  refine qc_new (C := RX5) (T := TX5) (N := 15) (ci := 4) (fs := [.int 0, .null, .null, .null, .null, .null, .null, .null, .null, .null, .null, .null, .null, .null, .null]) S0 V kc_X5 tyX5 tyX5_ok kcl_X1_9 kinst_X5 kini_X5 rfl (by decide) (Nat.le_of_ble_eq_true rfl) (Nat.le_of_ble_eq_true rfl) dX1_init_36 (fun q15 H V => ?_)
  refine lv_dup hx hb dX1_init_39 rfl ?_
  refine qc_cI (wr := ((a, .inr (1, [.ref q0, .int 0, .int 0])) :: ((q0, .inl (cy 1, 10, .inr (.inr (.inr (.inr (va_up (va_up (va_up (va_up (va_up (va_up (va_up (fun _ => none) 0 (some q1)) 1 (some q3)) 2 (some q5)) 3 (some q7)) 4 (some q9)) 5 (some q11)) 6 (some q13))))))) :: (W5c cy q1 r2 ++ (W5c cy q3 r4 ++ (W5c cy q5 r6 ++ (W5c cy q7 r8 ++ (W5c cy q9 r10 ++ (W5c cy q11 r12 ++ W5c cy q13 r14))))))))) (Wf := W5c cy q15) S0 V hl (c_X5_init l) kw_X5_init rfl ⟨rfl, rfl⟩ kini_X5 kml_X1_24 kin_X5_init rfl kdi_X5 ⟨(Nat.le_of_ble_eq_true rfl), (Nat.le_of_ble_eq_true rfl)⟩ (Nat.le_of_ble_eq_true rfl) ⟨(Nat.le_of_ble_eq_true rfl), (Nat.le_of_ble_eq_true rfl)⟩ dX1_init_40 (fun H locs r16 V => ?_)
  simp only [List.append_assoc, List.cons_append, List.nil_append] at V
  have V : qw_V D cy Z9 s ((a, .inr (1, [.ref q0, .int 0, .int 0])) :: ((q0, .inl (cy 1, 10, .inr (.inr (.inr (.inr (va_up (va_up (va_up (va_up (va_up (va_up (va_up (fun _ => none) 0 (some q1)) 1 (some q3)) 2 (some q5)) 3 (some q7)) 4 (some q9)) 5 (some q11)) 6 (some q13))))))) :: (W5c cy q1 r2 ++ (W5c cy q3 r4 ++ (W5c cy q5 r6 ++ (W5c cy q7 r8 ++ (W5c cy q9 r10 ++ (W5c cy q11 r12 ++ (W5c cy q13 r14 ++ W5c cy q15 r16))))))))) H locs := V
  refine qc_ast (ws' := ((a, .inr (1, [.ref q0, .int 0, .int 0])) :: ((q0, .inl (cy 1, 10, .inr (.inr (.inr (.inr (va_up (va_up (va_up (va_up (va_up (va_up (va_up (va_up (fun _ => none) 0 (some q1)) 1 (some q3)) 2 (some q5)) 3 (some q7)) 4 (some q9)) 5 (some q11)) 6 (some q13)) 7 (some q15))))))) :: (W5c cy q1 r2 ++ (W5c cy q3 r4 ++ (W5c cy q5 r6 ++ (W5c cy q7 r8 ++ (W5c cy q9 r10 ++ (W5c cy q11 r12 ++ (W5c cy q13 r14 ++ W5c cy q15 r16)))))))))) (j := 7) S0 V 1 107 rfl rfl (by unfold vp_in; decide) rfl rfl dX1_init_43 (fun H locs V => ?_)
  refine lv_iinc (v := 8) (lv' := [(1, .int (8 : Int32)), (0, .ref a)]) hx hb dX1_init_44 hl (k := 0) rfl (by decide) (by decide) rfl (fun ls hl => ?_)
  refine lv_goto (tgt := 25) hx hb dX1_init_47 (by decide) ?_
  refine lv_iload_n hx hb dX1_init_25 rfl (lv_at hl 0 rfl) ?_
  refine lv_bipush (v := 10) hx hb dX1_init_26 (by decide) ?_
  refine lv_icmp_ge (tgt := 50) hx hb dX1_init_28 (by decide) (fun c_113 => absurd c_113 (by decide)) (fun c_113 => ?_)
  refine lv_aload_n hx hb dX1_init_31 rfl (lv_at hl 1 rfl) ?_
  refine qw_get (C := RX1) (T := TX1) (N := 3) (ci := 1) S0 V kc_X1 0 rfl rfl 0 (by decide) kl_X1_11 (fun _ h => h) rfl dX1_init_32 ?_
  refine lv_iload_n hx hb dX1_init_35 rfl (lv_at hl 0 rfl) ?_
  refine qc_new (C := RX5) (T := TX5) (N := 15) (ci := 4) (fs := [.int 0, .null, .null, .null, .null, .null, .null, .null, .null, .null, .null, .null, .null, .null, .null]) S0 V kc_X5 tyX5 tyX5_ok kcl_X1_9 kinst_X5 kini_X5 rfl (by decide) (Nat.le_of_ble_eq_true rfl) (Nat.le_of_ble_eq_true rfl) dX1_init_36 (fun q17 H V => ?_)
  refine lv_dup hx hb dX1_init_39 rfl ?_
  refine qc_cI (wr := ((a, .inr (1, [.ref q0, .int 0, .int 0])) :: ((q0, .inl (cy 1, 10, .inr (.inr (.inr (.inr (va_up (va_up (va_up (va_up (va_up (va_up (va_up (va_up (fun _ => none) 0 (some q1)) 1 (some q3)) 2 (some q5)) 3 (some q7)) 4 (some q9)) 5 (some q11)) 6 (some q13)) 7 (some q15))))))) :: (W5c cy q1 r2 ++ (W5c cy q3 r4 ++ (W5c cy q5 r6 ++ (W5c cy q7 r8 ++ (W5c cy q9 r10 ++ (W5c cy q11 r12 ++ (W5c cy q13 r14 ++ W5c cy q15 r16)))))))))) (Wf := W5c cy q17) S0 V hl (c_X5_init l) kw_X5_init rfl ⟨rfl, rfl⟩ kini_X5 kml_X1_24 kin_X5_init rfl kdi_X5 ⟨(Nat.le_of_ble_eq_true rfl), (Nat.le_of_ble_eq_true rfl)⟩ (Nat.le_of_ble_eq_true rfl) ⟨(Nat.le_of_ble_eq_true rfl), (Nat.le_of_ble_eq_true rfl)⟩ dX1_init_40 (fun H locs r18 V => ?_)
  simp only [List.append_assoc, List.cons_append, List.nil_append] at V
  have V : qw_V D cy Z9 s ((a, .inr (1, [.ref q0, .int 0, .int 0])) :: ((q0, .inl (cy 1, 10, .inr (.inr (.inr (.inr (va_up (va_up (va_up (va_up (va_up (va_up (va_up (va_up (fun _ => none) 0 (some q1)) 1 (some q3)) 2 (some q5)) 3 (some q7)) 4 (some q9)) 5 (some q11)) 6 (some q13)) 7 (some q15))))))) :: (W5c cy q1 r2 ++ (W5c cy q3 r4 ++ (W5c cy q5 r6 ++ (W5c cy q7 r8 ++ (W5c cy q9 r10 ++ (W5c cy q11 r12 ++ (W5c cy q13 r14 ++ (W5c cy q15 r16 ++ W5c cy q17 r18)))))))))) H locs := V
  refine qc_ast (ws' := ((a, .inr (1, [.ref q0, .int 0, .int 0])) :: ((q0, .inl (cy 1, 10, .inr (.inr (.inr (.inr (va_up (va_up (va_up (va_up (va_up (va_up (va_up (va_up (va_up (fun _ => none) 0 (some q1)) 1 (some q3)) 2 (some q5)) 3 (some q7)) 4 (some q9)) 5 (some q11)) 6 (some q13)) 7 (some q15)) 8 (some q17))))))) :: (W5c cy q1 r2 ++ (W5c cy q3 r4 ++ (W5c cy q5 r6 ++ (W5c cy q7 r8 ++ (W5c cy q9 r10 ++ (W5c cy q11 r12 ++ (W5c cy q13 r14 ++ (W5c cy q15 r16 ++ W5c cy q17 r18))))))))))) (j := 8) S0 V 1 122 rfl rfl (by unfold vp_in; decide) rfl rfl dX1_init_43 (fun H locs V => ?_)
  refine lv_iinc (v := 9) (lv' := [(1, .int (9 : Int32)), (0, .ref a)]) hx hb dX1_init_44 hl (k := 0) rfl (by decide) (by decide) rfl (fun ls hl => ?_)
  refine lv_goto (tgt := 25) hx hb dX1_init_47 (by decide) ?_
  refine lv_iload_n hx hb dX1_init_25 rfl (lv_at hl 0 rfl) ?_
  refine lv_bipush (v := 10) hx hb dX1_init_26 (by decide) ?_
  refine lv_icmp_ge (tgt := 50) hx hb dX1_init_28 (by decide) (fun c_125 => absurd c_125 (by decide)) (fun c_125 => ?_)
  refine lv_aload_n hx hb dX1_init_31 rfl (lv_at hl 1 rfl) ?_
  refine qw_get (C := RX1) (T := TX1) (N := 3) (ci := 1) S0 V kc_X1 0 rfl rfl 0 (by decide) kl_X1_11 (fun _ h => h) rfl dX1_init_32 ?_
  refine lv_iload_n hx hb dX1_init_35 rfl (lv_at hl 0 rfl) ?_
  refine qc_new (C := RX5) (T := TX5) (N := 15) (ci := 4) (fs := [.int 0, .null, .null, .null, .null, .null, .null, .null, .null, .null, .null, .null, .null, .null, .null]) S0 V kc_X5 tyX5 tyX5_ok kcl_X1_9 kinst_X5 kini_X5 rfl (by decide) (Nat.le_of_ble_eq_true rfl) (Nat.le_of_ble_eq_true rfl) dX1_init_36 (fun q19 H V => ?_)
  refine lv_dup hx hb dX1_init_39 rfl ?_
  refine qc_cI (wr := ((a, .inr (1, [.ref q0, .int 0, .int 0])) :: ((q0, .inl (cy 1, 10, .inr (.inr (.inr (.inr (va_up (va_up (va_up (va_up (va_up (va_up (va_up (va_up (va_up (fun _ => none) 0 (some q1)) 1 (some q3)) 2 (some q5)) 3 (some q7)) 4 (some q9)) 5 (some q11)) 6 (some q13)) 7 (some q15)) 8 (some q17))))))) :: (W5c cy q1 r2 ++ (W5c cy q3 r4 ++ (W5c cy q5 r6 ++ (W5c cy q7 r8 ++ (W5c cy q9 r10 ++ (W5c cy q11 r12 ++ (W5c cy q13 r14 ++ (W5c cy q15 r16 ++ W5c cy q17 r18))))))))))) (Wf := W5c cy q19) S0 V hl (c_X5_init l) kw_X5_init rfl ⟨rfl, rfl⟩ kini_X5 kml_X1_24 kin_X5_init rfl kdi_X5 ⟨(Nat.le_of_ble_eq_true rfl), (Nat.le_of_ble_eq_true rfl)⟩ (Nat.le_of_ble_eq_true rfl) ⟨(Nat.le_of_ble_eq_true rfl), (Nat.le_of_ble_eq_true rfl)⟩ dX1_init_40 (fun H locs r20 V => ?_)
  simp only [List.append_assoc, List.cons_append, List.nil_append] at V
  have V : qw_V D cy Z9 s ((a, .inr (1, [.ref q0, .int 0, .int 0])) :: ((q0, .inl (cy 1, 10, .inr (.inr (.inr (.inr (va_up (va_up (va_up (va_up (va_up (va_up (va_up (va_up (va_up (fun _ => none) 0 (some q1)) 1 (some q3)) 2 (some q5)) 3 (some q7)) 4 (some q9)) 5 (some q11)) 6 (some q13)) 7 (some q15)) 8 (some q17))))))) :: (W5c cy q1 r2 ++ (W5c cy q3 r4 ++ (W5c cy q5 r6 ++ (W5c cy q7 r8 ++ (W5c cy q9 r10 ++ (W5c cy q11 r12 ++ (W5c cy q13 r14 ++ (W5c cy q15 r16 ++ (W5c cy q17 r18 ++ W5c cy q19 r20))))))))))) H locs := V
  refine qc_ast (ws' := ((a, .inr (1, [.ref q0, .int 0, .int 0])) :: ((q0, .inl (cy 1, 10, .inr (.inr (.inr (.inr (va_up (va_up (va_up (va_up (va_up (va_up (va_up (va_up (va_up (va_up (fun _ => none) 0 (some q1)) 1 (some q3)) 2 (some q5)) 3 (some q7)) 4 (some q9)) 5 (some q11)) 6 (some q13)) 7 (some q15)) 8 (some q17)) 9 (some q19))))))) :: (W5c cy q1 r2 ++ (W5c cy q3 r4 ++ (W5c cy q5 r6 ++ (W5c cy q7 r8 ++ (W5c cy q9 r10 ++ (W5c cy q11 r12 ++ (W5c cy q13 r14 ++ (W5c cy q15 r16 ++ (W5c cy q17 r18 ++ W5c cy q19 r20)))))))))))) (j := 9) S0 V 1 137 rfl rfl (by unfold vp_in; decide) rfl rfl dX1_init_43 (fun H locs V => ?_)
  refine lv_iinc (v := 10) (lv' := [(1, .int (10 : Int32)), (0, .ref a)]) hx hb dX1_init_44 hl (k := 0) rfl (by decide) (by decide) rfl (fun ls hl => ?_)
  refine lv_goto (tgt := 25) hx hb dX1_init_47 (by decide) ?_
  refine lv_iload_n hx hb dX1_init_25 rfl (lv_at hl 0 rfl) ?_
  refine lv_bipush (v := 10) hx hb dX1_init_26 (by decide) ?_
  refine lv_icmp_ge (tgt := 50) hx hb dX1_init_28 (by decide) (fun c_137 => ?_) (fun c_137 => absurd (by decide) c_137)
  have eR : (va_up (va_up (va_up (va_up (va_up (va_up (va_up (va_up (va_up (va_up (fun _ => none) 0 (some q1)) 1 (some q3)) 2 (some q5)) 3 (some q7)) 4 (some q9)) 5 (some q11)) 6 (some q13)) 7 (some q15)) 8 (some q17)) 9 (some q19)) = (fun j => ([some q1, some q3, some q5, some q7, some q9, some q11, some q13, some q15, some q17, some q19] : List (Option Nat)).getD j none) := by
    funext j
    match j with
    | 0 => rfl
    | 1 => rfl
    | 2 => rfl
    | 3 => rfl
    | 4 => rfl
    | 5 => rfl
    | 6 => rfl
    | 7 => rfl
    | 8 => rfl
    | 9 => rfl
    | n + 10 => rfl
  rw [eR] at V
  exact qc_ret S0 hr hlocks rfl rfl rfl (fun k => ([q0, q1, (r2 0), (r2 1), (r2 2), (r2 3), (r2 4), (r2 5), (r2 6), (r2 7), (r2 8), (r2 9), (r2 10), (r2 11), (r2 12), (r2 13), q3, (r4 0), (r4 1), (r4 2), (r4 3), (r4 4), (r4 5), (r4 6), (r4 7), (r4 8), (r4 9), (r4 10), (r4 11), (r4 12), (r4 13), q5, (r6 0), (r6 1), (r6 2), (r6 3), (r6 4), (r6 5), (r6 6), (r6 7), (r6 8), (r6 9), (r6 10), (r6 11), (r6 12), (r6 13), q7, (r8 0), (r8 1), (r8 2), (r8 3), (r8 4), (r8 5), (r8 6), (r8 7), (r8 8), (r8 9), (r8 10), (r8 11), (r8 12), (r8 13), q9, (r10 0), (r10 1), (r10 2), (r10 3), (r10 4), (r10 5), (r10 6), (r10 7), (r10 8), (r10 9), (r10 10), (r10 11), (r10 12), (r10 13), q11, (r12 0), (r12 1), (r12 2), (r12 3), (r12 4), (r12 5), (r12 6), (r12 7), (r12 8), (r12 9), (r12 10), (r12 11), (r12 12), (r12 13), q13, (r14 0), (r14 1), (r14 2), (r14 3), (r14 4), (r14 5), (r14 6), (r14 7), (r14 8), (r14 9), (r14 10), (r14 11), (r14 12), (r14 13), q15, (r16 0), (r16 1), (r16 2), (r16 3), (r16 4), (r16 5), (r16 6), (r16 7), (r16 8), (r16 9), (r16 10), (r16 11), (r16 12), (r16 13), q17, (r18 0), (r18 1), (r18 2), (r18 3), (r18 4), (r18 5), (r18 6), (r18 7), (r18 8), (r18 9), (r18 10), (r18 11), (r18 12), (r18 13), q19, (r20 0), (r20 1), (r20 2), (r20 3), (r20 4), (r20 5), (r20 6), (r20 7), (r20 8), (r20 9), (r20 10), (r20 11), (r20 12), (r20 13)] : List Nat).getD k 0) V dX1_init_50
