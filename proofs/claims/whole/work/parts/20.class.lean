theorem kd_X7_append : yX7_append.cls = RX7 ∧ yX7_append.cls ≠ "java/lang/invoke/MethodHandle" ∧ yX7_append.cls ≠ "java/lang/invoke/VarHandle" ∧ (parseMethodDescriptor yX7_append.desc).map (fun d => d.parameters.length) = some 1 := by decide +kernel
def f_X7_append_l3   (y1 : Int32) : Nat → (Nat → Int32) → (Nat → Nat → Int32) → Int32 → Option ((Nat → Int32) × (Nat → Nat → Int32))
  | 0, _, _, _ => none
  | n + 1, I, A, y2 =>
  if y2 < 0 then (some (I, A)) else (if (800 : Int32) ≤ (I 0) then (some (I, A)) else (qf_let ((((y1.toUInt32 >>> (y2.toUInt32 &&& Int32.toUInt32 31)).toInt32) &&& (255 : Int32))) fun x1 =>
      qf_st 800 (I 0) fun i3 =>
      qf_let (qf_up A 0 (upd (A 0) i3 x1)) fun A2 =>
      qf_let (upd I 0 ((I 0) + (1 : Int32))) fun I4 =>
      qf_let (y2 + (-8 : Int32)) fun x5 =>
      f_X7_append_l3 y1 n I4 A2 x5))
def f_X7_append (I : Nat → Int32) (A : Nat → Nat → Int32) (p1 : Int32) : Option ((Nat → Int32) × (Nat → Nat → Int32)) :=
  f_X7_append_l3 p1 100000 I A (24 : Int32)
abbrev wz_X7_append : List Cond := Cond.code yX7_append cX7_append 3 none :: qw_big
def rm_X7_append : Room := { frames := 0, cells := 0, slots := 0, locals := 0 }
set_option maxHeartbeats 4000000 in
set_option maxRecDepth 100000 in
theorem c_X7_append (l : Launch) {D : va_G} {cy : Nat → ClassId} {ad : Nat → Nat} {I : Nat → Int32} {A : Nat → Nat → Int32} {G : Nat → Int32 × (Nat → Nat → Int32)} {T : Nat} {p1 : Int32} {I9 : Nat → Int32} {A9 : Nat → Nat → Int32} {sz : Nat} (hf : f_X7_append I A p1 = some (I9, A9)) : Met l yX7_append wz_X7_append rm_X7_append (va_Pc [.ref (ad 0), .int p1] (qw_Pre D cy (Wo cy ad I A G T) sz)) (qw_Q none D (Wo cy ad I9 A9 G T) (va_A (Wo cy ad I A G T) sz)) 0 0 (va_A (Wo cy ad I A G T) sz) := by
  refine qw_of (cc := cX7_append) (maxL := 3) (ret := none) (by decide) (Nat.le_of_ble_eq_true rfl) ?_
  intro p e s m args below meth c ls S0 hr hlocks hsz V hl
  have S0 : CallFix p m c cX7_append 3 s args qw_big RX7 := S0
  have hx := S0.1; have hb := S0.2.1; have hown := S0.2.2.2.1; have hts := S0.2.2.2.2
  have hl : lv_has ls 3 [(0, .ref (ad 0)), (1, .int p1)] := hl
  generalize va_A (Wo cy ad I A G T) sz = Z9 at V ⊢
  obtain ⟨Q9, hQ⟩ : ∃ q, q = MQ below (qw_Q none D (Wo cy ad I9 A9 G T) Z9) args s 0 0 Z9 := ⟨_, rfl⟩
  rw [← hQ]
  clear hsz
  have L_3 : ∀  {y1 : Int32} {n : Nat} {I : Nat → Int32} {A : Nat → Nat → Int32} {y2 : Int32} {H : Heap} {locs : List Loc} {ls : Array Slot}, f_X7_append_l3 y1 n I A y2 = some (I9, A9) → qw_V D cy Z9 s (Wo cy ad I A G T) H locs → lv_has ls 3 [(0, .ref (ad 0)), (1, .int y1), (2, .int y2)] → W p l e rm_X7_append s m args below meth c H locs 0 0 Q9 (F0 m 3 ls []) := by
    intro y1 n
    induction n with
    | zero => intro I A y2 H locs ls hf V hl; exact qf_no hf
    | succ n ih =>
      intro I A y2 H locs ls hf V hl
      rw [f_X7_append_l3] at hf
      refine lv_iload_n hx hb dX7_append_3 rfl (lv_at hl 2 rfl) ?_
      refine lv_if_lt (tgt := 49) hx hb dX7_append_4 (by decide) (fun c_4 => ?_) (fun c_4 => ?_)
      · replace hf := qf_t c_4 hf
        have hE := Option.some.inj hf
        obtain ⟨e0, hE⟩ := qf_pr hE
        exact qw_vreti S0 hr hlocks hQ (by rw [e0, hE]) V dX7_append_49
      · replace hf := qf_f c_4 hf
        refine lv_aload_n hx hb dX7_append_7 rfl (lv_at hl 0 rfl) ?_
        refine gfO_0_7 S0 V kl_X7_51 dX7_append_8 ?_
        refine lv_sipush (v := 800) hx hb dX7_append_11 (by decide) ?_
        refine lv_icmp_ge (tgt := 49) hx hb dX7_append_14 (by decide) (fun c_14 => ?_) (fun c_14 => ?_)
        · replace hf := qf_t c_14 hf
          have hE := Option.some.inj hf
          obtain ⟨e0, hE⟩ := qf_pr hE
          exact qw_vreti S0 hr hlocks hQ (by rw [e0, hE]) V dX7_append_49
        · replace hf := qf_f c_14 hf
          refine lv_aload_n hx hb dX7_append_17 rfl (lv_at hl 0 rfl) ?_
          refine gfO_0_0 S0 V kl_X7_9 dX7_append_18 ?_
          refine lv_aload_n hx hb dX7_append_21 rfl (lv_at hl 0 rfl) ?_
          refine gfO_0_7 S0 V kl_X7_51 dX7_append_22 ?_
          refine lv_iload_n hx hb dX7_append_25 rfl (lv_at hl 1 rfl) ?_
          refine lv_iload_n hx hb dX7_append_26 rfl (lv_at hl 2 rfl) ?_
          refine lv_iushr hx hb dX7_append_27 rfl ?_
          refine lv_sipush (v := 255) hx hb dX7_append_28 (by decide) ?_
          refine lv_iand hx hb dX7_append_31 ?_
          refine lv_topi (fun x1 e_x1 => ?_)
          replace hf := qf_let_e e_x1 hf
          have h_32 := qf_st_in hf
          replace hf := qf_st_e hf
          refine asO_1 S0 V h_32 dX7_append_32 (fun H locs A2 e_A2 V => ?_)
          replace hf := qf_let_e e_A2 hf
          refine lv_aload_n hx hb dX7_append_33 rfl (lv_at hl 0 rfl) ?_
          refine lv_dup hx hb dX7_append_34 rfl ?_
          refine gfO_0_7 S0 V kl_X7_51 dX7_append_35 ?_
          refine lv_iconst (v := 1) hx hb dX7_append_38 (by decide) ?_
          refine lv_iadd hx hb dX7_append_39 ?_
          refine pfO_0_7 S0 V kl_X7_51 dX7_append_40 (fun H locs I4 e_I4 V => ?_)
          replace hf := qf_let_e e_I4 hf
          obtain ⟨x5, e_x5⟩ : ∃ y : Int32, y = y2 + (-8 : Int32) := ⟨_, rfl⟩
          refine lv_iinc (v := x5) (lv' := [(2, .int x5), (0, .ref (ad 0)), (1, .int y1)]) hx hb dX7_append_43 hl (k := 2) rfl (by rw [e_x5]; rfl) (by decide) rfl (fun ls hl => ?_)
          replace hf := qf_let_e e_x5 hf
          refine lv_goto (tgt := 3) hx hb dX7_append_46 (by decide) ?_
          exact ih hf V (lv_sub hl [1, 2, 0] rfl)
  unfold f_X7_append at hf
  refine lv_bipush (v := 24) hx hb dX7_append_0 (by decide) ?_
  refine lv_istore_n (lv' := [(2, .int (24 : Int32)), (0, .ref (ad 0)), (1, .int p1)]) hx hb dX7_append_2 rfl hl (by decide) rfl (fun ls hl => ?_)
  exact L_3 hf V (lv_sub hl [1, 2, 0] rfl)
theorem kd_X7_feed : yX7_feed.cls = RX7 ∧ yX7_feed.cls ≠ "java/lang/invoke/MethodHandle" ∧ yX7_feed.cls ≠ "java/lang/invoke/VarHandle" ∧ (parseMethodDescriptor yX7_feed.desc).map (fun d => d.parameters.length) = some 5 := by decide +kernel
def f_X7_feed (I : Nat → Int32) (A : Nat → Nat → Int32) (p1 : Int32) (p2 : Int32) (p3 : Int32) (p4 : Int32) (p5 : Int32) : Option (Int32 × (Nat → Int32) × (Nat → Nat → Int32)) :=
  if ((I 0) + (20 : Int32)) ≤ (800 : Int32) then (qf_bd2 (f_X7_append I A p1) fun I1 A2 =>
    qf_bd2 (f_X7_append I1 A2 p2) fun I3 A4 =>
    qf_bd2 (f_X7_append I3 A4 p3) fun I5 A6 =>
    qf_bd2 (f_X7_append I5 A6 p4) fun I7 A8 =>
    qf_bd2 (f_X7_append I7 A8 p5) fun I9 A10 =>
    some ((I9 0), I9, A10)) else (some ((-3 : Int32), I, A))
abbrev wz_X7_feed : List Cond := Cond.code yX7_feed cX7_feed 6 (some .int) :: qw_big
def rm_X7_feed : Room := { frames := 1, cells := 0, slots := 0, locals := 22 }
set_option maxHeartbeats 4000000 in
set_option maxRecDepth 100000 in
theorem c_X7_feed (l : Launch) {D : va_G} {cy : Nat → ClassId} {ad : Nat → Nat} {I : Nat → Int32} {A : Nat → Nat → Int32} {G : Nat → Int32 × (Nat → Nat → Int32)} {T : Nat} {p1 : Int32} {p2 : Int32} {p3 : Int32} {p4 : Int32} {p5 : Int32} {rv : Int32} {I9 : Nat → Int32} {A9 : Nat → Nat → Int32} {sz : Nat} (hf : f_X7_feed I A p1 p2 p3 p4 p5 = some (rv, I9, A9)) : Met l yX7_feed wz_X7_feed rm_X7_feed (va_Pc [.ref (ad 0), .int p1, .int p2, .int p3, .int p4, .int p5] (qw_Pre D cy (Wo cy ad I A G T) sz)) (qw_Q (some (.int rv)) D (Wo cy ad I9 A9 G T) (va_A (Wo cy ad I A G T) sz)) 0 0 (va_A (Wo cy ad I A G T) sz) := by
  refine qw_of (cc := cX7_feed) (maxL := 6) (ret := (some .int)) (by decide) (Nat.le_of_ble_eq_true rfl) ?_
  intro p e s m args below meth c ls S0 hr hlocks hsz V hl
  have S0 : CallFix p m c cX7_feed 6 s args qw_big RX7 := S0
  have hx := S0.1; have hb := S0.2.1; have hown := S0.2.2.2.1; have hts := S0.2.2.2.2
  have hl : lv_has ls 6 [(0, .ref (ad 0)), (1, .int p1), (2, .int p2), (3, .int p3), (4, .int p4), (5, .int p5)] := hl
  generalize va_A (Wo cy ad I A G T) sz = Z9 at V ⊢
  obtain ⟨Q9, hQ⟩ : ∃ q, q = MQ below (qw_Q (some (.int rv)) D (Wo cy ad I9 A9 G T) Z9) args s 0 0 Z9 := ⟨_, rfl⟩
  rw [← hQ]
  clear hsz
  unfold f_X7_feed at hf
  refine lv_aload_n hx hb dX7_feed_0 rfl (lv_at hl 0 rfl) ?_
  refine gfO_0_7 S0 V kl_X7_51 dX7_feed_1 ?_
  refine lv_bipush (v := 20) hx hb dX7_feed_4 (by decide) ?_
  refine lv_iadd hx hb dX7_feed_6 ?_
  refine lv_sipush (v := 800) hx hb dX7_feed_7 (by decide) ?_
  refine lv_icmp_le (tgt := 16) hx hb dX7_feed_10 (by decide) (fun c_10 => ?_) (fun c_10 => ?_)
  · replace hf := qf_t c_10 hf
    refine lv_aload_n hx hb dX7_feed_16 rfl (lv_at hl 0 rfl) ?_
    refine lv_iload_n hx hb dX7_feed_17 rfl (lv_at hl 1 rfl) ?_
    obtain ⟨I1, A2, hc_18, hf⟩ := qf_bd2_e hf
    refine qw_cV (rest := []) (st1 := []) S0 V hl 0 gO_0 rfl (c_X7_append l hc_18) kg_X7_58 rfl ⟨rfl, rfl⟩ kd_X7_append ⟨Nat.le_of_ble_eq_true rfl, Nat.le_of_ble_eq_true rfl⟩ rfl rfl (Nat.le_of_ble_eq_true rfl) ⟨Nat.zero_le _, Nat.zero_le _⟩ rfl dX7_feed_18 (fun H locs V => ?_)
    refine lv_aload_n hx hb dX7_feed_21 rfl (lv_at hl 0 rfl) ?_
    refine lv_iload_n hx hb dX7_feed_22 rfl (lv_at hl 2 rfl) ?_
    obtain ⟨I3, A4, hc_23, hf⟩ := qf_bd2_e hf
    refine qw_cV (rest := []) (st1 := []) S0 V hl 0 gO_0 rfl (c_X7_append l hc_23) kg_X7_58 rfl ⟨rfl, rfl⟩ kd_X7_append ⟨Nat.le_of_ble_eq_true rfl, Nat.le_of_ble_eq_true rfl⟩ rfl rfl (Nat.le_of_ble_eq_true rfl) ⟨Nat.zero_le _, Nat.zero_le _⟩ rfl dX7_feed_23 (fun H locs V => ?_)
    refine lv_aload_n hx hb dX7_feed_26 rfl (lv_at hl 0 rfl) ?_
    refine lv_iload_n hx hb dX7_feed_27 rfl (lv_at hl 3 rfl) ?_
    obtain ⟨I5, A6, hc_28, hf⟩ := qf_bd2_e hf
    refine qw_cV (rest := []) (st1 := []) S0 V hl 0 gO_0 rfl (c_X7_append l hc_28) kg_X7_58 rfl ⟨rfl, rfl⟩ kd_X7_append ⟨Nat.le_of_ble_eq_true rfl, Nat.le_of_ble_eq_true rfl⟩ rfl rfl (Nat.le_of_ble_eq_true rfl) ⟨Nat.zero_le _, Nat.zero_le _⟩ rfl dX7_feed_28 (fun H locs V => ?_)
    refine lv_aload_n hx hb dX7_feed_31 rfl (lv_at hl 0 rfl) ?_
    refine lv_iload hx hb dX7_feed_32 (lv_at hl 4 rfl) ?_
    obtain ⟨I7, A8, hc_34, hf⟩ := qf_bd2_e hf
    refine qw_cV (rest := []) (st1 := []) S0 V hl 0 gO_0 rfl (c_X7_append l hc_34) kg_X7_58 rfl ⟨rfl, rfl⟩ kd_X7_append ⟨Nat.le_of_ble_eq_true rfl, Nat.le_of_ble_eq_true rfl⟩ rfl rfl (Nat.le_of_ble_eq_true rfl) ⟨Nat.zero_le _, Nat.zero_le _⟩ rfl dX7_feed_34 (fun H locs V => ?_)
    refine lv_aload_n hx hb dX7_feed_37 rfl (lv_at hl 0 rfl) ?_
    refine lv_iload hx hb dX7_feed_38 (lv_at hl 5 rfl) ?_
    obtain ⟨I9, A10, hc_40, hf⟩ := qf_bd2_e hf
    refine qw_cV (rest := []) (st1 := []) S0 V hl 0 gO_0 rfl (c_X7_append l hc_40) kg_X7_58 rfl ⟨rfl, rfl⟩ kd_X7_append ⟨Nat.le_of_ble_eq_true rfl, Nat.le_of_ble_eq_true rfl⟩ rfl rfl (Nat.le_of_ble_eq_true rfl) ⟨Nat.zero_le _, Nat.zero_le _⟩ rfl dX7_feed_40 (fun H locs V => ?_)
    refine lv_aload_n hx hb dX7_feed_43 rfl (lv_at hl 0 rfl) ?_
    refine gfO_0_7 S0 V kl_X7_51 dX7_feed_44 ?_
    have hE := Option.some.inj hf
    obtain ⟨e0, hE⟩ := qf_pr hE
    obtain ⟨e1, hE⟩ := qf_pr hE
    exact qw_ireti S0 hr hlocks hQ e0 (by rw [e1, hE]) V dX7_feed_47
  · replace hf := qf_f c_10 hf
    refine lv_bipush (v := -3) hx hb dX7_feed_13 (by decide) ?_
    have hE := Option.some.inj hf
    obtain ⟨e0, hE⟩ := qf_pr hE
    obtain ⟨e1, hE⟩ := qf_pr hE
    exact qw_ireti S0 hr hlocks hQ e0 (by rw [e1, hE]) V dX7_feed_15
theorem kd_X3_clear : yX3_clear.cls = RX3 ∧ yX3_clear.cls ≠ "java/lang/invoke/MethodHandle" ∧ yX3_clear.cls ≠ "java/lang/invoke/VarHandle" ∧ (parseMethodDescriptor yX3_clear.desc).map (fun d => d.parameters.length) = some 0 := by decide +kernel
def f_X3_clear_t31 (I : Nat → Int32) : Option ((Nat → Int32)) :=
  qf_let (upd I 16 (0 : Int32)) fun I1 =>
  qf_let (upd I1 17 (0 : Int32)) fun I2 =>
  qf_let (upd I2 18 (0 : Int32)) fun I3 =>
  qf_let (upd I3 19 (0 : Int32)) fun I4 =>
  some (I4)
abbrev wz_X3_clear : List Cond := Cond.code yX3_clear cX3_clear 1 none :: qw_big
def rm_X3_clear_t31 : Room := { frames := 0, cells := 0, slots := 0, locals := 0 }
set_option maxHeartbeats 4000000 in
set_option maxRecDepth 100000 in
theorem c_X3_clear_t31 (l : Launch) {D : va_G} {cy : Nat → ClassId} {ad : Nat → Nat} {I : Nat → Int32} {A : Nat → Nat → Int32} {G : Nat → Int32 × (Nat → Nat → Int32)} {T : Nat}  {I9 : Nat → Int32} {sz : Nat} (hf : f_X3_clear_t31 I = some (I9)) : Met l yX3_clear wz_X3_clear rm_X3_clear_t31 (va_Pc [.ref (ad 31)] (qw_Pre D cy (Wo cy ad I A G T) sz)) (qw_Q none D (Wo cy ad I9 A G T) (va_A (Wo cy ad I A G T) sz)) 0 0 (va_A (Wo cy ad I A G T) sz) := by
  refine qw_of (cc := cX3_clear) (maxL := 1) (ret := none) (by decide) (Nat.le_of_ble_eq_true rfl) ?_
  intro p e s m args below meth c ls S0 hr hlocks hsz V hl
  have S0 : CallFix p m c cX3_clear 1 s args qw_big RX3 := S0
  have hx := S0.1; have hb := S0.2.1; have hown := S0.2.2.2.1; have hts := S0.2.2.2.2
  have hl : lv_has ls 1 [(0, .ref (ad 31))] := hl
  generalize va_A (Wo cy ad I A G T) sz = Z9 at V ⊢
  obtain ⟨Q9, hQ⟩ : ∃ q, q = MQ below (qw_Q none D (Wo cy ad I9 A G T) Z9) args s 0 0 Z9 := ⟨_, rfl⟩
  rw [← hQ]
  clear hsz
  unfold f_X3_clear_t31 at hf
  refine lv_aload_n hx hb dX3_clear_0 rfl (lv_at hl 0 rfl) ?_
  refine lv_iconst (v := 0) hx hb dX3_clear_1 (by decide) ?_
  refine pfO_31_0 S0 V kl_X3_9 dX3_clear_2 (fun H locs I1 e_I1 V => ?_)
  replace hf := qf_let_e e_I1 hf
  refine lv_aload_n hx hb dX3_clear_5 rfl (lv_at hl 0 rfl) ?_
  refine lv_iconst (v := 0) hx hb dX3_clear_6 (by decide) ?_
  refine pfO_31_1 S0 V kl_X3_15 dX3_clear_7 (fun H locs I2 e_I2 V => ?_)
  replace hf := qf_let_e e_I2 hf
  refine lv_aload_n hx hb dX3_clear_10 rfl (lv_at hl 0 rfl) ?_
  refine lv_iconst (v := 0) hx hb dX3_clear_11 (by decide) ?_
  refine pfO_31_2 S0 V kl_X3_18 dX3_clear_12 (fun H locs I3 e_I3 V => ?_)
  replace hf := qf_let_e e_I3 hf
  refine lv_aload_n hx hb dX3_clear_15 rfl (lv_at hl 0 rfl) ?_
  refine lv_iconst (v := 0) hx hb dX3_clear_16 (by decide) ?_
  refine pfO_31_3 S0 V kl_X3_21 dX3_clear_17 (fun H locs I4 e_I4 V => ?_)
  replace hf := qf_let_e e_I4 hf
  have hE := Option.some.inj hf
  exact qw_vreti S0 hr hlocks hQ (by rw [hE]) V dX3_clear_20
theorem kd_J7_fill_53178 : yJ7_fill_53178.cls ≠ "java/lang/invoke/MethodHandle" ∧ yJ7_fill_53178.cls ≠ "java/lang/invoke/VarHandle" ∧ (parseMethodDescriptor yJ7_fill_53178.desc).map (fun d => d.parameters.length) = some 2 := by decide +kernel
def f_J7_fill_53178_l5 (n0 : Nat)  (y1 : Int32) (y3 : Int32) : Nat → (Nat → Int32) → Int32 → Option ((Nat → Int32))
  | 0, _, _ => none
  | n + 1, f0, y2 =>
  if y3 ≤ y2 then (some (f0)) else (qf_st n0 y2 fun i3 =>
    qf_let (upd f0 i3 y1) fun A2 =>
    qf_let (y2 + (1 : Int32)) fun x4 =>
    f_J7_fill_53178_l5 n0 y1 y3 n A2 x4)
def f_J7_fill_53178 (n0 : Nat) (f0 : Nat → Int32) (p1 : Int32) : Option ((Nat → Int32)) :=
  qf_let ((Int32.ofNat n0)) fun x1 =>
  f_J7_fill_53178_l5 n0 p1 x1 100000 f0 (0 : Int32)
abbrev wz_J7_fill_53178 : List Cond := Cond.code yJ7_fill_53178 cJ7_fill_53178 4 none :: qw_big
def rm_J7_fill_53178 : Room := { frames := 0, cells := 0, slots := 0, locals := 0 }
set_option maxHeartbeats 4000000 in
set_option maxRecDepth 100000 in
theorem c_J7_fill_53178 (l : Launch) {D : va_G} {cy : Nat → ClassId} {ws : va_W} {q0 a0 n0 : Nat} {f0 : Nat → Int32} (ha0 : ws[q0]? = some (a0, .inl (cy 0, n0, .inl f0))) {p1 : Int32} {f09 : Nat → Int32} {ws9 : va_W} (hs : ws.set q0 (a0, .inl (cy 0, n0, .inl f09)) = ws9) {sz : Nat} (hf : f_J7_fill_53178 n0 f0 p1 = some (f09)) : Met l yJ7_fill_53178 wz_J7_fill_53178 rm_J7_fill_53178 (va_Pc [.ref a0, .int p1] (qw_Pre D cy ws sz)) (qw_Q none D ws9 (va_A ws sz)) 0 0 (va_A ws sz) := by
  refine qw_of (cc := cJ7_fill_53178) (maxL := 4) (ret := none) (by decide) (Nat.le_of_ble_eq_true rfl) ?_
  intro p e s m args below meth c ls S0 hr hlocks hsz V hl
  have S0 : CallFix p m c cJ7_fill_53178 4 s args qw_big RJ7 := S0
  have hx := S0.1; have hb := S0.2.1; have hown := S0.2.2.2.1; have hts := S0.2.2.2.2
  have hl : lv_has ls 4 [(0, .ref a0), (1, .int p1)] := hl
  generalize va_A ws sz = Z9 at V ⊢
  obtain ⟨Q9, hQ⟩ : ∃ q, q = MQ below (qw_Q none D ws9 Z9) args s 0 0 Z9 := ⟨_, rfl⟩
  rw [← hQ]
  have V := qw_V.toq ha0 V
  subst hs
  clear hsz
  have L_5 : ∀  {y1 : Int32} {y3 : Int32} {n : Nat} {f0 : Nat → Int32} {y2 : Int32} {H : Heap} {locs : List Loc} {ls : Array Slot}, f_J7_fill_53178_l5 n0 y1 y3 n f0 y2 = some (f09) → qw_V D cy Z9 s (ws.set q0 (a0, .inl (cy 0, n0, .inl f0))) H locs → lv_has ls 4 [(0, .ref a0), (1, .int y1), (2, .int y2), (3, .int y3)] → W p l e rm_J7_fill_53178 s m args below meth c H locs 0 0 Q9 (F0 m 5 ls []) := by
    intro y1 y3 n
    induction n with
    | zero => intro f0 y2 H locs ls hf V hl; exact qf_no hf
    | succ n ih =>
      intro f0 y2 H locs ls hf V hl
      rw [f_J7_fill_53178_l5] at hf
      refine lv_iload_n hx hb dJ7_fill_53178_5 rfl (lv_at hl 2 rfl) ?_
      refine lv_iload_n hx hb dJ7_fill_53178_6 rfl (lv_at hl 3 rfl) ?_
      refine lv_icmp_ge (tgt := 20) hx hb dJ7_fill_53178_7 (by decide) (fun c_7 => ?_) (fun c_7 => ?_)
      · replace hf := qf_t c_7 hf
        have hE := Option.some.inj hf
        exact qw_vreti S0 hr hlocks hQ (by rw [hE]) V dJ7_fill_53178_20
      · replace hf := qf_f c_7 hf
        refine lv_aload_n hx hb dJ7_fill_53178_10 rfl (lv_at hl 0 rfl) ?_
        refine lv_iload_n hx hb dJ7_fill_53178_11 rfl (lv_at hl 2 rfl) ?_
        refine lv_iload_n hx hb dJ7_fill_53178_12 rfl (lv_at hl 1 rfl) ?_
        have h_13 := qf_st_in hf
        replace hf := qf_st_e hf
        refine qw_istq S0 V q0 ha0 h_13 dJ7_fill_53178_13 (fun H locs A2 e_A2 V => ?_)
        replace hf := qf_let_e e_A2 hf
        obtain ⟨x4, e_x4⟩ : ∃ y : Int32, y = y2 + (1 : Int32) := ⟨_, rfl⟩
        refine lv_iinc (v := x4) (lv' := [(2, .int x4), (0, .ref a0), (1, .int y1), (3, .int y3)]) hx hb dJ7_fill_53178_14 hl (k := 2) rfl (by rw [e_x4]; rfl) (by decide) rfl (fun ls hl => ?_)
        replace hf := qf_let_e e_x4 hf
        refine lv_goto (tgt := 5) hx hb dJ7_fill_53178_17 (by decide) ?_
        exact ih hf V (lv_sub hl [1, 2, 0, 3] rfl)
  unfold f_J7_fill_53178 at hf
  refine lv_iconst (v := 0) hx hb dJ7_fill_53178_0 (by decide) ?_
  refine lv_istore_n (lv' := [(2, .int (0 : Int32)), (0, .ref a0), (1, .int p1)]) hx hb dJ7_fill_53178_1 rfl hl (by decide) rfl (fun ls hl => ?_)
  refine lv_aload_n hx hb dJ7_fill_53178_2 rfl (lv_at hl 1 rfl) ?_
  refine qw_len S0 V q0 0 (qw_gq ha0) rfl rfl dJ7_fill_53178_3 ?_
  refine lv_topi (fun x1 e_x1 => ?_)
  replace hf := qf_let_e e_x1 hf
  refine lv_istore_n (lv' := [(3, .int x1), (2, .int (0 : Int32)), (0, .ref a0), (1, .int p1)]) hx hb dJ7_fill_53178_4 rfl hl (by decide) rfl (fun ls hl => ?_)
  exact L_5 hf V (lv_sub hl [2, 3, 1, 0] rfl)
theorem kd_X5_copy : yX5_copy.cls ≠ "java/lang/invoke/MethodHandle" ∧ yX5_copy.cls ≠ "java/lang/invoke/VarHandle" ∧ (parseMethodDescriptor yX5_copy.desc).map (fun d => d.parameters.length) = some 2 := by decide +kernel
def f_X5_copy (n0 : Nat) (n1 : Nat) (f0 : Nat → Int32) (f1 : Nat → Int32) : Option ((Nat → Int32)) :=
  qf_let ((if (Int32.ofNat n1) < (Int32.ofNat n0) then (Int32.ofNat n1) else (Int32.ofNat n0))) fun x1 =>
  qf_ck ((¬ (0 : Int32) < 0 ∧ ¬ (0 : Int32) < 0 ∧ ¬ x1 < 0) ∧ (0 : Int32).toNatClampNeg + x1.toNatClampNeg ≤ n0 ∧ (0 : Int32).toNatClampNeg + x1.toNatClampNeg ≤ n1) <|
  qf_let (va_cpy f0 f1 (0 : Int32).toNatClampNeg (0 : Int32).toNatClampNeg x1.toNatClampNeg) fun A2 =>
  some (A2)
abbrev wz_X5_copy : List Cond := Cond.code yX5_copy cX5_copy 2 none :: qw_big
def rm_X5_copy : Room := { frames := 1, cells := 0, slots := 0, locals := 60 }
set_option maxHeartbeats 4000000 in
set_option maxRecDepth 100000 in
theorem c_X5_copy (l : Launch) {D : va_G} {cy : Nat → ClassId} {ws : va_W} {q0 a0 n0 : Nat} {f0 : Nat → Int32} (ha0 : ws[q0]? = some (a0, .inl (cy 0, n0, .inl f0))) {q1 a1 n1 : Nat} {f1 : Nat → Int32} (ha1 : ws[q1]? = some (a1, .inl (cy 0, n1, .inl f1))) (hq : q1 ≠ q0)  {f19 : Nat → Int32} {ws9 : va_W} (hs : ws.set q1 (a1, .inl (cy 0, n1, .inl f19)) = ws9) {sz : Nat} (hf : f_X5_copy n0 n1 f0 f1 = some (f19)) : Met l yX5_copy wz_X5_copy rm_X5_copy (va_Pc [.ref a0, .ref a1] (qw_Pre D cy ws sz)) (qw_Q none D ws9 (va_A ws sz)) 0 0 (va_A ws sz) := by
  refine qw_of (cc := cX5_copy) (maxL := 2) (ret := none) (by decide) (Nat.le_of_ble_eq_true rfl) ?_
  intro p e s m args below meth c ls S0 hr hlocks hsz V hl
  have S0 : CallFix p m c cX5_copy 2 s args qw_big RX5 := S0
  have hx := S0.1; have hb := S0.2.1; have hown := S0.2.2.2.1; have hts := S0.2.2.2.2
  have hl : lv_has ls 2 [(0, .ref a0), (1, .ref a1)] := hl
  generalize va_A ws sz = Z9 at V ⊢
  obtain ⟨Q9, hQ⟩ : ∃ q, q = MQ below (qw_Q none D ws9 Z9) args s 0 0 Z9 := ⟨_, rfl⟩
  rw [← hQ]
  have V := qw_V.toq ha1 V
  subst hs
  clear hsz
  unfold f_X5_copy at hf
  refine lv_aload_n hx hb dX5_copy_0 rfl (lv_at hl 0 rfl) ?_
  refine lv_iconst (v := 0) hx hb dX5_copy_1 (by decide) ?_
  refine lv_aload_n hx hb dX5_copy_2 rfl (lv_at hl 1 rfl) ?_
  refine lv_iconst (v := 0) hx hb dX5_copy_3 (by decide) ?_
  refine lv_aload_n hx hb dX5_copy_4 rfl (lv_at hl 0 rfl) ?_
  refine qw_len S0 V q0 0 (qw_gq2 ha0 hq) rfl rfl dX5_copy_5 ?_
  refine lv_aload_n hx hb dX5_copy_6 rfl (lv_at hl 1 rfl) ?_
  refine qw_len S0 V q1 0 (qw_gq ha1) rfl rfl dX5_copy_7 ?_
  refine qw_min S0 hl.1 kml_X5_65 (Nat.le_of_ble_eq_true rfl) (Nat.le_of_ble_eq_true rfl) (Nat.zero_le _) (Nat.zero_le _) dX5_copy_8 ?_
  refine lv_topi (fun x1 e_x1 => ?_)
  replace hf := qf_let_e e_x1 hf
  obtain ⟨h_11, hf⟩ := qf_ck_e hf
  refine qw_cpq S0 V hl.1 kml_X5_71 q0 q1 (qw_gq2 ha0 hq) ha1 h_11 (Nat.le_of_ble_eq_true rfl) (Nat.le_of_ble_eq_true rfl) dX5_copy_11 (fun H locs A2 e_A2 V => ?_)
  replace hf := qf_let_e e_A2 hf
  have hE := Option.some.inj hf
  exact qw_vreti S0 hr hlocks hQ (by rw [hE]) V dX5_copy_14
set_option maxHeartbeats 4000000 in
set_option maxRecDepth 100000 in
theorem c_X5_copyS (l : Launch) {D : va_G} {cy : Nat → ClassId} {ws : va_W} {t0 n0 : Nat} {f0 : Nat → Int32} {q1 a1 n1 : Nat} {f1 : Nat → Int32} {f19 : Nat → Int32} {ws9 : va_W} (hs : ws.set q1 (a1, .inl (cy 0, n1, .inl f19)) = ws9) (ha1 : ws[q1]? = some (a1, .inl (cy 0, n1, .inl f1))) {sz : Nat} (hf : f_X5_copy n0 n1 f0 f1 = some (f19)) : Met l yX5_copy wz_X5_copy rm_X5_copy (va_Pc [.ref t0, .ref a1] (fun U => qw_Pre D cy ws sz U ∧ va_T .int t0 n0 (fun j => .int (f0 j)) (va_A ws sz) U U.heap)) (qw_Q none D ws9 (va_A ws sz)) 0 0 (va_A ws sz) := by
  refine qs_of (cc := cX5_copy) (maxL := 2) (ret := none) (by decide) (Nat.le_of_ble_eq_true rfl) ?_
  intro p e s m args below meth c ls S0 hr hlocks hsz V hX hl
  have S0 : CallFix p m c cX5_copy 2 s args qw_big RX5 := S0
  have hx := S0.1; have hb := S0.2.1; have hown := S0.2.2.2.1; have hts := S0.2.2.2.2
  have hl : lv_has ls 2 [(0, .ref t0), (1, .ref a1)] := hl
  generalize va_A ws sz = Z9 at V hX ⊢
  clear hsz
  unfold f_X5_copy at hf
  refine lv_aload_n hx hb dX5_copy_0 rfl (lv_at hl 0 rfl) ?_
  refine lv_iconst (v := 0) hx hb dX5_copy_1 (by decide) ?_
  refine lv_aload_n hx hb dX5_copy_2 rfl (lv_at hl 1 rfl) ?_
  refine lv_iconst (v := 0) hx hb dX5_copy_3 (by decide) ?_
  refine lv_aload_n hx hb dX5_copy_4 rfl (lv_at hl 0 rfl) ?_
  refine va_tlen (v := Int32.ofNat n0) hx hb hX V.2.2.2.1 rfl dX5_copy_5 ?_
  refine lv_aload_n hx hb dX5_copy_6 rfl (lv_at hl 1 rfl) ?_
  refine qw_len S0 V q1 0 ha1 rfl rfl dX5_copy_7 ?_
  refine qw_min S0 hl.1 kml_X5_65 (Nat.le_of_ble_eq_true rfl) (Nat.le_of_ble_eq_true rfl) (Nat.zero_le _) (Nat.zero_le _) dX5_copy_8 ?_
  refine lv_topi (fun x1 e_x1 => ?_)
  replace hf := qf_let_e e_x1 hf
  obtain ⟨h_11, hf⟩ := qf_ck_e hf
  have hE := Option.some.inj hf
  refine qs_cpt (ws' := ws9) S0 V hl.1 kml_X5_71 hX q1 ha1 h_11 (by rw [← hs, ← hE]) (Nat.le_of_ble_eq_true rfl) (Nat.le_of_ble_eq_true rfl) dX5_copy_11 (fun H locs V => ?_)
  exact qw_vreti S0 hr hlocks rfl rfl V dX5_copy_14

theorem kd_X5_clear : yX5_clear.cls = RX5 ∧ yX5_clear.cls ≠ "java/lang/invoke/MethodHandle" ∧ yX5_clear.cls ≠ "java/lang/invoke/VarHandle" ∧ (parseMethodDescriptor yX5_clear.desc).map (fun d => d.parameters.length) = some 0 := by decide +kernel
def f_X5_clear_t58 (I : Nat → Int32) (A : Nat → Nat → Int32) : Option ((Nat → Int32) × (Nat → Nat → Int32)) :=
  qf_let (upd I 21 (0 : Int32)) fun I1 =>
  qf_bd (f_J7_fill_53178 4 (A 47) (0 : Int32)) fun f2 =>
  qf_let (qf_up A 47 f2) fun A3 =>
  qf_bd (f_J7_fill_53178 6 (A3 48) (0 : Int32)) fun f4 =>
  qf_let (qf_up A3 48 f4) fun A5 =>
  qf_bd (f_X5_copy 3 3 (fun j => ([20, 20, 10] : List Int32).getD j 0) (A5 49)) fun f6 =>
  qf_let (qf_up A5 49 f6) fun A7 =>
  qf_bd (f_J7_fill_53178 120 (A7 50) (0 : Int32)) fun f8 =>
  qf_let (qf_up A7 50 f8) fun A9 =>
  qf_bd (f_J7_fill_53178 6 (A9 51) (0 : Int32)) fun f10 =>
  qf_let (qf_up A9 51 f10) fun A11 =>
  qf_bd (f_J7_fill_53178 6 (A11 52) (0 : Int32)) fun f12 =>
  qf_let (qf_up A11 52 f12) fun A13 =>
  qf_bd (f_J7_fill_53178 24 (A13 53) (0 : Int32)) fun f14 =>
  qf_let (qf_up A13 53 f14) fun A15 =>
  qf_bd (f_J7_fill_53178 16 (A15 54) (0 : Int32)) fun f16 =>
  qf_let (qf_up A15 54 f16) fun A17 =>
  qf_bd (f_J7_fill_53178 4 (A17 55) (0 : Int32)) fun f18 =>
  qf_let (qf_up A17 55 f18) fun A19 =>
  qf_bd (f_J7_fill_53178 24 (A19 56) (0 : Int32)) fun f20 =>
  qf_let (qf_up A19 56 f20) fun A21 =>
  qf_bd (f_J7_fill_53178 24 (A21 57) (0 : Int32)) fun f22 =>
  qf_let (qf_up A21 57 f22) fun A23 =>
  qf_bd (f_J7_fill_53178 4 (A23 58) (0 : Int32)) fun f24 =>
  qf_let (qf_up A23 58 f24) fun A25 =>
  qf_bd (f_J7_fill_53178 4 (A25 59) (0 : Int32)) fun f26 =>
  qf_let (qf_up A25 59 f26) fun A27 =>
  qf_bd (f_J7_fill_53178 4 (A27 60) (0 : Int32)) fun f28 =>
  qf_let (qf_up A27 60 f28) fun A29 =>
  some (I1, A29)
abbrev wz_X5_clear : List Cond := Cond.code yX5_clear cX5_clear 1 none :: qw_big
def rm_X5_clear_t58 : Room := { frames := 2, cells := 0, slots := 0, locals := 81 }
set_option maxHeartbeats 4000000 in
set_option maxRecDepth 100000 in
theorem c_X5_clear_t58 (l : Launch) {D : va_G} {cy : Nat → ClassId} {ad : Nat → Nat} {I : Nat → Int32} {A : Nat → Nat → Int32} {G : Nat → Int32 × (Nat → Nat → Int32)} {T : Nat}  {I9 : Nat → Int32} {A9 : Nat → Nat → Int32} {sz : Nat} (hf : f_X5_clear_t58 I A = some (I9, A9)) : Met l yX5_clear wz_X5_clear rm_X5_clear_t58 (va_Pc [.ref (ad 58)] (qw_Pre D cy (Wo cy ad I A G T) sz)) (qw_Q none D (Wo cy ad I9 A9 G T) (va_A (Wo cy ad I A G T) sz)) 0 0 (va_A (Wo cy ad I A G T) sz) := by
  refine qw_of (cc := cX5_clear) (maxL := 1) (ret := none) (by decide) (Nat.le_of_ble_eq_true rfl) ?_
  intro p e s m args below meth c ls S0 hr hlocks hsz V hl
  have S0 : CallFix p m c cX5_clear 1 s args qw_big RX5 := S0
  have hx := S0.1; have hb := S0.2.1; have hown := S0.2.2.2.1; have hts := S0.2.2.2.2
  have hl : lv_has ls 1 [(0, .ref (ad 58))] := hl
  generalize va_A (Wo cy ad I A G T) sz = Z9 at V ⊢
  obtain ⟨Q9, hQ⟩ : ∃ q, q = MQ below (qw_Q none D (Wo cy ad I9 A9 G T) Z9) args s 0 0 Z9 := ⟨_, rfl⟩
  rw [← hQ]
  clear hsz
  unfold f_X5_clear_t58 at hf
  refine lv_aload_n hx hb dX5_clear_0 rfl (lv_at hl 0 rfl) ?_
  refine lv_iconst (v := 0) hx hb dX5_clear_1 (by decide) ?_
  refine pfO_58_0 S0 V kl_X5_9 dX5_clear_2 (fun H locs I1 e_I1 V => ?_)
  replace hf := qf_let_e e_I1 hf
  refine lv_aload_n hx hb dX5_clear_5 rfl (lv_at hl 0 rfl) ?_
  refine gfO_58_1 S0 V kl_X5_15 dX5_clear_6 ?_
  refine lv_iconst (v := 0) hx hb dX5_clear_9 (by decide) ?_
  obtain ⟨f2, hc_10, hf⟩ := qf_bd_e hf
  obtain ⟨A3, e_A3⟩ : ∃ y : Nat → Nat → Int32, y = qf_up A 47 f2 := ⟨_, rfl⟩
  replace hf := qf_let_e e_A3 hf
  refine qw_cS (rest := []) (st1 := []) S0 V hl (c_J7_fill_53178 l (hs := (sO_59 e_A3)) (q0 := 59) gO_59 hc_10) kg_X5_77 rfl ⟨rfl, rfl⟩ kd_J7_fill_53178 ⟨Nat.le_of_ble_eq_true rfl, Nat.le_of_ble_eq_true rfl⟩ rfl rfl (Nat.le_of_ble_eq_true rfl) ⟨Nat.zero_le _, Nat.zero_le _⟩ rfl dX5_clear_10 (fun H locs V => ?_)
  refine lv_aload_n hx hb dX5_clear_13 rfl (lv_at hl 0 rfl) ?_
  refine gfO_58_2 S0 V kl_X5_19 dX5_clear_14 ?_
  refine lv_iconst (v := 0) hx hb dX5_clear_17 (by decide) ?_
  obtain ⟨f4, hc_18, hf⟩ := qf_bd_e hf
  obtain ⟨A5, e_A5⟩ : ∃ y : Nat → Nat → Int32, y = qf_up A3 48 f4 := ⟨_, rfl⟩
  replace hf := qf_let_e e_A5 hf
  refine qw_cS (rest := []) (st1 := []) S0 V hl (c_J7_fill_53178 l (hs := (sO_60 e_A5)) (q0 := 60) gO_60 hc_18) kg_X5_77 rfl ⟨rfl, rfl⟩ kd_J7_fill_53178 ⟨Nat.le_of_ble_eq_true rfl, Nat.le_of_ble_eq_true rfl⟩ rfl rfl (Nat.le_of_ble_eq_true rfl) ⟨Nat.zero_le _, Nat.zero_le _⟩ rfl dX5_clear_18 (fun H locs V => ?_)
  obtain ⟨tF, hZF, hTF⟩ := V.2.2.2.2.2.2.2.2.2.1
  refine va_getsN hx hb hZF V.2.2.2.1 hown (va_Nw.use rfl V.2.2.2.2.2.2.2.2.2.2.2.2.2.2.2.2.2.2.2.2.2) (fun _ h => h) dX5_clear_21 ?_
  refine lv_aload_n hx hb dX5_clear_24 rfl (lv_at hl 0 rfl) ?_
  refine gfO_58_3 S0 V kl_X5_22 dX5_clear_25 ?_
  obtain ⟨f6, hc_28, hf⟩ := qf_bd_e hf
  obtain ⟨A7, e_A7⟩ : ∃ y : Nat → Nat → Int32, y = qf_up A5 49 f6 := ⟨_, rfl⟩
  replace hf := qf_let_e e_A7 hf
  refine qs_cS (rest := []) (st1 := []) S0 V hl (qs_T V hTF) qs_Tc (c_X5_copyS l (hs := sO_61 e_A7) gO_61 hc_28) kg_X5_61 rfl ⟨rfl, rfl⟩ kd_X5_copy ⟨Nat.le_of_ble_eq_true rfl, Nat.le_of_ble_eq_true rfl⟩ rfl rfl (Nat.le_of_ble_eq_true rfl) ⟨Nat.zero_le _, Nat.zero_le _⟩ rfl dX5_clear_28 (fun H locs V => ?_)
  refine lv_aload_n hx hb dX5_clear_31 rfl (lv_at hl 0 rfl) ?_
  refine gfO_58_4 S0 V kl_X5_25 dX5_clear_32 ?_
  refine lv_iconst (v := 0) hx hb dX5_clear_35 (by decide) ?_
  obtain ⟨f8, hc_36, hf⟩ := qf_bd_e hf
  obtain ⟨A9, e_A9⟩ : ∃ y : Nat → Nat → Int32, y = qf_up A7 50 f8 := ⟨_, rfl⟩
  replace hf := qf_let_e e_A9 hf
  refine qw_cS (rest := []) (st1 := []) S0 V hl (c_J7_fill_53178 l (hs := (sO_62 e_A9)) (q0 := 62) gO_62 hc_36) kg_X5_77 rfl ⟨rfl, rfl⟩ kd_J7_fill_53178 ⟨Nat.le_of_ble_eq_true rfl, Nat.le_of_ble_eq_true rfl⟩ rfl rfl (Nat.le_of_ble_eq_true rfl) ⟨Nat.zero_le _, Nat.zero_le _⟩ rfl dX5_clear_36 (fun H locs V => ?_)
  refine lv_aload_n hx hb dX5_clear_39 rfl (lv_at hl 0 rfl) ?_
  refine gfO_58_5 S0 V kl_X5_28 dX5_clear_40 ?_
  refine lv_iconst (v := 0) hx hb dX5_clear_43 (by decide) ?_
  obtain ⟨f10, hc_44, hf⟩ := qf_bd_e hf
  obtain ⟨A11, e_A11⟩ : ∃ y : Nat → Nat → Int32, y = qf_up A9 51 f10 := ⟨_, rfl⟩
  replace hf := qf_let_e e_A11 hf
  refine qw_cS (rest := []) (st1 := []) S0 V hl (c_J7_fill_53178 l (hs := (sO_63 e_A11)) (q0 := 63) gO_63 hc_44) kg_X5_77 rfl ⟨rfl, rfl⟩ kd_J7_fill_53178 ⟨Nat.le_of_ble_eq_true rfl, Nat.le_of_ble_eq_true rfl⟩ rfl rfl (Nat.le_of_ble_eq_true rfl) ⟨Nat.zero_le _, Nat.zero_le _⟩ rfl dX5_clear_44 (fun H locs V => ?_)
  refine lv_aload_n hx hb dX5_clear_47 rfl (lv_at hl 0 rfl) ?_
  refine gfO_58_6 S0 V kl_X5_31 dX5_clear_48 ?_
  refine lv_iconst (v := 0) hx hb dX5_clear_51 (by decide) ?_
  obtain ⟨f12, hc_52, hf⟩ := qf_bd_e hf
  obtain ⟨A13, e_A13⟩ : ∃ y : Nat → Nat → Int32, y = qf_up A11 52 f12 := ⟨_, rfl⟩
  replace hf := qf_let_e e_A13 hf
  refine qw_cS (rest := []) (st1 := []) S0 V hl (c_J7_fill_53178 l (hs := (sO_64 e_A13)) (q0 := 64) gO_64 hc_52) kg_X5_77 rfl ⟨rfl, rfl⟩ kd_J7_fill_53178 ⟨Nat.le_of_ble_eq_true rfl, Nat.le_of_ble_eq_true rfl⟩ rfl rfl (Nat.le_of_ble_eq_true rfl) ⟨Nat.zero_le _, Nat.zero_le _⟩ rfl dX5_clear_52 (fun H locs V => ?_)
  refine lv_aload_n hx hb dX5_clear_55 rfl (lv_at hl 0 rfl) ?_
  refine gfO_58_7 S0 V kl_X5_34 dX5_clear_56 ?_
  refine lv_iconst (v := 0) hx hb dX5_clear_59 (by decide) ?_
  obtain ⟨f14, hc_60, hf⟩ := qf_bd_e hf
  obtain ⟨A15, e_A15⟩ : ∃ y : Nat → Nat → Int32, y = qf_up A13 53 f14 := ⟨_, rfl⟩
  replace hf := qf_let_e e_A15 hf
  refine qw_cS (rest := []) (st1 := []) S0 V hl (c_J7_fill_53178 l (hs := (sO_65 e_A15)) (q0 := 65) gO_65 hc_60) kg_X5_77 rfl ⟨rfl, rfl⟩ kd_J7_fill_53178 ⟨Nat.le_of_ble_eq_true rfl, Nat.le_of_ble_eq_true rfl⟩ rfl rfl (Nat.le_of_ble_eq_true rfl) ⟨Nat.zero_le _, Nat.zero_le _⟩ rfl dX5_clear_60 (fun H locs V => ?_)
  refine lv_aload_n hx hb dX5_clear_63 rfl (lv_at hl 0 rfl) ?_
  refine gfO_58_8 S0 V kl_X5_37 dX5_clear_64 ?_
  refine lv_iconst (v := 0) hx hb dX5_clear_67 (by decide) ?_
  obtain ⟨f16, hc_68, hf⟩ := qf_bd_e hf
  obtain ⟨A17, e_A17⟩ : ∃ y : Nat → Nat → Int32, y = qf_up A15 54 f16 := ⟨_, rfl⟩
  replace hf := qf_let_e e_A17 hf
  refine qw_cS (rest := []) (st1 := []) S0 V hl (c_J7_fill_53178 l (hs := (sO_66 e_A17)) (q0 := 66) gO_66 hc_68) kg_X5_77 rfl ⟨rfl, rfl⟩ kd_J7_fill_53178 ⟨Nat.le_of_ble_eq_true rfl, Nat.le_of_ble_eq_true rfl⟩ rfl rfl (Nat.le_of_ble_eq_true rfl) ⟨Nat.zero_le _, Nat.zero_le _⟩ rfl dX5_clear_68 (fun H locs V => ?_)
  refine lv_aload_n hx hb dX5_clear_71 rfl (lv_at hl 0 rfl) ?_
  refine gfO_58_9 S0 V kl_X5_40 dX5_clear_72 ?_
  refine lv_iconst (v := 0) hx hb dX5_clear_75 (by decide) ?_
  obtain ⟨f18, hc_76, hf⟩ := qf_bd_e hf
  obtain ⟨A19, e_A19⟩ : ∃ y : Nat → Nat → Int32, y = qf_up A17 55 f18 := ⟨_, rfl⟩
  replace hf := qf_let_e e_A19 hf
  refine qw_cS (rest := []) (st1 := []) S0 V hl (c_J7_fill_53178 l (hs := (sO_67 e_A19)) (q0 := 67) gO_67 hc_76) kg_X5_77 rfl ⟨rfl, rfl⟩ kd_J7_fill_53178 ⟨Nat.le_of_ble_eq_true rfl, Nat.le_of_ble_eq_true rfl⟩ rfl rfl (Nat.le_of_ble_eq_true rfl) ⟨Nat.zero_le _, Nat.zero_le _⟩ rfl dX5_clear_76 (fun H locs V => ?_)
  refine lv_aload_n hx hb dX5_clear_79 rfl (lv_at hl 0 rfl) ?_
  refine gfO_58_10 S0 V kl_X5_43 dX5_clear_80 ?_
  refine lv_iconst (v := 0) hx hb dX5_clear_83 (by decide) ?_
  obtain ⟨f20, hc_84, hf⟩ := qf_bd_e hf
  obtain ⟨A21, e_A21⟩ : ∃ y : Nat → Nat → Int32, y = qf_up A19 56 f20 := ⟨_, rfl⟩
  replace hf := qf_let_e e_A21 hf
  refine qw_cS (rest := []) (st1 := []) S0 V hl (c_J7_fill_53178 l (hs := (sO_68 e_A21)) (q0 := 68) gO_68 hc_84) kg_X5_77 rfl ⟨rfl, rfl⟩ kd_J7_fill_53178 ⟨Nat.le_of_ble_eq_true rfl, Nat.le_of_ble_eq_true rfl⟩ rfl rfl (Nat.le_of_ble_eq_true rfl) ⟨Nat.zero_le _, Nat.zero_le _⟩ rfl dX5_clear_84 (fun H locs V => ?_)
  refine lv_aload_n hx hb dX5_clear_87 rfl (lv_at hl 0 rfl) ?_
  refine gfO_58_11 S0 V kl_X5_46 dX5_clear_88 ?_
  refine lv_iconst (v := 0) hx hb dX5_clear_91 (by decide) ?_
  obtain ⟨f22, hc_92, hf⟩ := qf_bd_e hf
  obtain ⟨A23, e_A23⟩ : ∃ y : Nat → Nat → Int32, y = qf_up A21 57 f22 := ⟨_, rfl⟩
  replace hf := qf_let_e e_A23 hf
  refine qw_cS (rest := []) (st1 := []) S0 V hl (c_J7_fill_53178 l (hs := (sO_69 e_A23)) (q0 := 69) gO_69 hc_92) kg_X5_77 rfl ⟨rfl, rfl⟩ kd_J7_fill_53178 ⟨Nat.le_of_ble_eq_true rfl, Nat.le_of_ble_eq_true rfl⟩ rfl rfl (Nat.le_of_ble_eq_true rfl) ⟨Nat.zero_le _, Nat.zero_le _⟩ rfl dX5_clear_92 (fun H locs V => ?_)
  refine lv_aload_n hx hb dX5_clear_95 rfl (lv_at hl 0 rfl) ?_
  refine gfO_58_12 S0 V kl_X5_49 dX5_clear_96 ?_
  refine lv_iconst (v := 0) hx hb dX5_clear_99 (by decide) ?_
  obtain ⟨f24, hc_100, hf⟩ := qf_bd_e hf
  obtain ⟨A25, e_A25⟩ : ∃ y : Nat → Nat → Int32, y = qf_up A23 58 f24 := ⟨_, rfl⟩
  replace hf := qf_let_e e_A25 hf
  refine qw_cS (rest := []) (st1 := []) S0 V hl (c_J7_fill_53178 l (hs := (sO_70 e_A25)) (q0 := 70) gO_70 hc_100) kg_X5_77 rfl ⟨rfl, rfl⟩ kd_J7_fill_53178 ⟨Nat.le_of_ble_eq_true rfl, Nat.le_of_ble_eq_true rfl⟩ rfl rfl (Nat.le_of_ble_eq_true rfl) ⟨Nat.zero_le _, Nat.zero_le _⟩ rfl dX5_clear_100 (fun H locs V => ?_)
  refine lv_aload_n hx hb dX5_clear_103 rfl (lv_at hl 0 rfl) ?_
  refine gfO_58_13 S0 V kl_X5_52 dX5_clear_104 ?_
  refine lv_iconst (v := 0) hx hb dX5_clear_107 (by decide) ?_
  obtain ⟨f26, hc_108, hf⟩ := qf_bd_e hf
  obtain ⟨A27, e_A27⟩ : ∃ y : Nat → Nat → Int32, y = qf_up A25 59 f26 := ⟨_, rfl⟩
  replace hf := qf_let_e e_A27 hf
  refine qw_cS (rest := []) (st1 := []) S0 V hl (c_J7_fill_53178 l (hs := (sO_71 e_A27)) (q0 := 71) gO_71 hc_108) kg_X5_77 rfl ⟨rfl, rfl⟩ kd_J7_fill_53178 ⟨Nat.le_of_ble_eq_true rfl, Nat.le_of_ble_eq_true rfl⟩ rfl rfl (Nat.le_of_ble_eq_true rfl) ⟨Nat.zero_le _, Nat.zero_le _⟩ rfl dX5_clear_108 (fun H locs V => ?_)
  refine lv_aload_n hx hb dX5_clear_111 rfl (lv_at hl 0 rfl) ?_
  refine gfO_58_14 S0 V kl_X5_55 dX5_clear_112 ?_
  refine lv_iconst (v := 0) hx hb dX5_clear_115 (by decide) ?_
  obtain ⟨f28, hc_116, hf⟩ := qf_bd_e hf
  obtain ⟨A29, e_A29⟩ : ∃ y : Nat → Nat → Int32, y = qf_up A27 60 f28 := ⟨_, rfl⟩
  replace hf := qf_let_e e_A29 hf
  refine qw_cS (rest := []) (st1 := []) S0 V hl (c_J7_fill_53178 l (hs := (sO_72 e_A29)) (q0 := 72) gO_72 hc_116) kg_X5_77 rfl ⟨rfl, rfl⟩ kd_J7_fill_53178 ⟨Nat.le_of_ble_eq_true rfl, Nat.le_of_ble_eq_true rfl⟩ rfl rfl (Nat.le_of_ble_eq_true rfl) ⟨Nat.zero_le _, Nat.zero_le _⟩ rfl dX5_clear_116 (fun H locs V => ?_)
  have hE := Option.some.inj hf
  obtain ⟨e0, hE⟩ := qf_pr hE
  exact qw_vreti S0 hr hlocks hQ (by rw [e0, hE]) V dX5_clear_119
theorem kd_X6_kindAt : yX6_kindAt.cls = RX6 ∧ yX6_kindAt.cls ≠ "java/lang/invoke/MethodHandle" ∧ yX6_kindAt.cls ≠ "java/lang/invoke/VarHandle" ∧ (parseMethodDescriptor yX6_kindAt.desc).map (fun d => d.parameters.length) = some 1 := by decide +kernel
def f_X6_kindAt_j45 (I : Nat → Int32) (A : Nat → Nat → Int32) (T : Nat)  (y2 : Int32) : Option (Int32) :=
  if y2 = (59 : Int32) then (some ((3 : Int32))) else (some ((4 : Int32)))
def f_X6_kindAt_j31 (I : Nat → Int32) (A : Nat → Nat → Int32) (T : Nat)  (y2 : Int32) : Option (Int32) :=
  if y2 < (48 : Int32) then (f_X6_kindAt_j45 I A T y2) else (if (57 : Int32) < y2 then (f_X6_kindAt_j45 I A T y2) else (some ((2 : Int32))))
def f_X6_kindAt (I : Nat → Int32) (A : Nat → Nat → Int32) (T : Nat) (p1 : Int32) : Option (Int32) :=
  if p1 < (I 5) then (qf_ck (T = 1) <|
    qf_ld 800 (A 0) p1 fun x1 =>
    if x1 < (97 : Int32) then (f_X6_kindAt_j31 I A T x1) else (if (122 : Int32) < x1 then (f_X6_kindAt_j31 I A T x1) else (some ((1 : Int32))))) else (some ((0 : Int32)))
abbrev wz_X6_kindAt : List Cond := Cond.code yX6_kindAt cX6_kindAt 3 (some .int) :: qw_big
def rm_X6_kindAt : Room := { frames := 0, cells := 0, slots := 0, locals := 0 }
set_option maxHeartbeats 4000000 in
set_option maxRecDepth 100000 in
theorem c_X6_kindAt (l : Launch) {D : va_G} {cy : Nat → ClassId} {ad : Nat → Nat} {I : Nat → Int32} {A : Nat → Nat → Int32} {G : Nat → Int32 × (Nat → Nat → Int32)} {T : Nat} {p1 : Int32} {rv : Int32} {sz : Nat} (hf : f_X6_kindAt I A T p1 = some (rv)) : Met l yX6_kindAt wz_X6_kindAt rm_X6_kindAt (va_Pc [.ref (ad 4), .int p1] (qw_Pre D cy (Wo cy ad I A G T) sz)) (qw_R (some (.int rv))) 0 0 (fun _ => False) := by
  refine qw_of (cc := cX6_kindAt) (maxL := 3) (ret := (some .int)) (by decide) (Nat.le_of_ble_eq_true rfl) ?_
  intro p e s m args below meth c ls S0 hr hlocks hsz V hl
  have S0 : CallFix p m c cX6_kindAt 3 s args qw_big RX6 := S0
  have hx := S0.1; have hb := S0.2.1; have hown := S0.2.2.2.1; have hts := S0.2.2.2.2
  have hl : lv_has ls 3 [(0, .ref (ad 4)), (1, .int p1)] := hl
  obtain ⟨Q9, hQ⟩ : ∃ q, q = MQ below (qw_R (some (.int rv))) args s 0 0 (fun _ => False) := ⟨_, rfl⟩
  rw [← hQ]
  generalize va_A (Wo cy ad I A G T) sz = Z9 at V
  have J_45 : ∀   {y2 : Int32} {ls : Array Slot}, f_X6_kindAt_j45 I A T y2 = some (rv) → lv_has ls 3 [(2, .int y2)] → W p l e rm_X6_kindAt s m args below meth c s.heap [] 0 0 Q9 (F0 m 45 ls []) := by
    intro y2 ls hf hl
    unfold f_X6_kindAt_j45 at hf
    refine lv_iload_n hx hb dX6_kindAt_45 rfl (lv_at hl 0 rfl) ?_
    refine lv_bipush (v := 59) hx hb dX6_kindAt_46 (by decide) ?_
    refine lv_icmp_ne (tgt := 55) hx hb dX6_kindAt_48 (by decide) (fun c_48 => ?_) (fun c_48 => ?_)
    · replace hf := qf_f c_48 hf
      refine lv_iconst (v := 4) hx hb dX6_kindAt_55 (by decide) ?_
      have hE := Option.some.inj hf
      exact qw_iretR S0 hr hlocks hQ hE dX6_kindAt_56
    · replace hf := qf_t c_48 hf
      refine lv_iconst (v := 3) hx hb dX6_kindAt_51 (by decide) ?_
      refine lv_goto (tgt := 56) hx hb dX6_kindAt_52 (by decide) ?_
      have hE := Option.some.inj hf
      exact qw_iretR S0 hr hlocks hQ hE dX6_kindAt_56
  have J_31 : ∀   {y2 : Int32} {ls : Array Slot}, f_X6_kindAt_j31 I A T y2 = some (rv) → lv_has ls 3 [(2, .int y2)] → W p l e rm_X6_kindAt s m args below meth c s.heap [] 0 0 Q9 (F0 m 31 ls []) := by
    intro y2 ls hf hl
    unfold f_X6_kindAt_j31 at hf
    refine lv_iload_n hx hb dX6_kindAt_31 rfl (lv_at hl 0 rfl) ?_
    refine lv_bipush (v := 48) hx hb dX6_kindAt_32 (by decide) ?_
    refine lv_icmp_lt (tgt := 45) hx hb dX6_kindAt_34 (by decide) (fun c_34 => ?_) (fun c_34 => ?_)
    · replace hf := qf_t c_34 hf
      exact J_45 hf (lv_sub hl [0] rfl)
    · replace hf := qf_f c_34 hf
      refine lv_iload_n hx hb dX6_kindAt_37 rfl (lv_at hl 0 rfl) ?_
      refine lv_bipush (v := 57) hx hb dX6_kindAt_38 (by decide) ?_
      refine lv_icmp_gt (tgt := 45) hx hb dX6_kindAt_40 (by decide) (fun c_40 => ?_) (fun c_40 => ?_)
      · replace hf := qf_t c_40 hf
        exact J_45 hf (lv_sub hl [0] rfl)
      · replace hf := qf_f c_40 hf
        refine lv_iconst (v := 2) hx hb dX6_kindAt_43 (by decide) ?_
        have hE := Option.some.inj hf
        exact qw_iretR S0 hr hlocks hQ hE dX6_kindAt_44
  unfold f_X6_kindAt at hf
  refine lv_iload_n hx hb dX6_kindAt_0 rfl (lv_at hl 1 rfl) ?_
  refine lv_aload_n hx hb dX6_kindAt_1 rfl (lv_at hl 0 rfl) ?_
  refine gfO_4_1 S0 V kl_X6_15 dX6_kindAt_2 ?_
  refine lv_icmp_lt (tgt := 10) hx hb dX6_kindAt_5 (by decide) (fun c_5 => ?_) (fun c_5 => ?_)
  · replace hf := qf_t c_5 hf
    refine lv_aload_n hx hb dX6_kindAt_10 rfl (lv_at hl 0 rfl) ?_
    refine gfO_4_0 S0 V kl_X6_9 dX6_kindAt_11 ?_
    obtain ⟨h_T, hf⟩ := qf_ck_e hf
    rw [h_T]
    refine lv_iload_n hx hb dX6_kindAt_14 rfl (lv_at hl 1 rfl) ?_
    have h_15 := qf_ld_in hf
    refine alO_1 S0 V h_15 dX6_kindAt_15 ?_
    refine lv_topi (fun x1 e_x1 => ?_)
    replace hf := qf_ld_e e_x1 hf
    refine lv_istore_n (lv' := [(2, .int x1), (0, .ref (ad 4)), (1, .int p1)]) hx hb dX6_kindAt_16 rfl hl (by decide) rfl (fun ls hl => ?_)
    refine lv_iload_n hx hb dX6_kindAt_17 rfl (lv_at hl 0 rfl) ?_
    refine lv_bipush (v := 97) hx hb dX6_kindAt_18 (by decide) ?_
    refine lv_icmp_lt (tgt := 31) hx hb dX6_kindAt_20 (by decide) (fun c_20 => ?_) (fun c_20 => ?_)
    · replace hf := qf_t c_20 hf
      exact J_31 hf (lv_sub hl [0] rfl)
    · replace hf := qf_f c_20 hf
      refine lv_iload_n hx hb dX6_kindAt_23 rfl (lv_at hl 0 rfl) ?_
      refine lv_bipush (v := 122) hx hb dX6_kindAt_24 (by decide) ?_
      refine lv_icmp_gt (tgt := 31) hx hb dX6_kindAt_26 (by decide) (fun c_26 => ?_) (fun c_26 => ?_)
      · replace hf := qf_t c_26 hf
        exact J_31 hf (lv_sub hl [0] rfl)
      · replace hf := qf_f c_26 hf
        refine lv_iconst (v := 1) hx hb dX6_kindAt_29 (by decide) ?_
        have hE := Option.some.inj hf
        exact qw_iretR S0 hr hlocks hQ hE dX6_kindAt_30
  · replace hf := qf_f c_5 hf
    refine lv_iconst (v := 0) hx hb dX6_kindAt_8 (by decide) ?_
    have hE := Option.some.inj hf
    exact qw_iretR S0 hr hlocks hQ hE dX6_kindAt_9
theorem kd_X6_advance : yX6_advance.cls = RX6 ∧ yX6_advance.cls ≠ "java/lang/invoke/MethodHandle" ∧ yX6_advance.cls ≠ "java/lang/invoke/VarHandle" ∧ (parseMethodDescriptor yX6_advance.desc).map (fun d => d.parameters.length) = some 0 := by decide +kernel
def f_X6_advance_j35 (I : Nat → Int32) (A : Nat → Nat → Int32) (T : Nat) (K5 : Int32 → Option ((Nat → Int32))) (y1 : Int32) : Option ((Nat → Int32)) :=
  qf_let (y1 + (1 : Int32)) fun x8 =>
  K5 x8
def f_X6_advance_j118 (A : Nat → Nat → Int32) (T : Nat)  (I : Nat → Int32) (y1 : Int32) : Option ((Nat → Int32)) :=
  qf_let (upd I 6 y1) fun I11 =>
  some (I11)
def f_X6_advance_l88 (A : Nat → Nat → Int32) (T : Nat)  (y2 : Int32) : Nat → (Nat → Int32) → Int32 → Option ((Nat → Int32))
  | 0, _, _ => none
  | n + 1, I, y1 =>
  if y2 = 0 then (f_X6_advance_j118 A T I y1) else (if (I 5) ≤ y1 then (f_X6_advance_j118 A T I y1) else (qf_bd (f_X6_kindAt I A T y1) fun r9 =>
      if r9 = (I 8) then (qf_let (y1 + (1 : Int32)) fun x10 =>
        f_X6_advance_l88 A T y2 n I x10) else (f_X6_advance_j118 A T I y1)))
def f_X6_advance_j87 (A : Nat → Nat → Int32) (T : Nat)  (I : Nat → Int32) (y1 : Int32) (s0 : Int32) : Option ((Nat → Int32)) :=
  f_X6_advance_l88 A T s0 100000 I y1
def f_X6_advance_j82 (A : Nat → Nat → Int32) (T : Nat)  (I : Nat → Int32) (y1 : Int32) : Option ((Nat → Int32)) :=
  f_X6_advance_j87 A T I y1 (1 : Int32)
def f_X6_advance_j41 (I : Nat → Int32) (A : Nat → Nat → Int32) (T : Nat)  (y1 : Int32) : Option ((Nat → Int32)) :=
  qf_let (upd I 7 y1) fun I4 =>
  qf_bd (f_X6_kindAt I4 A T y1) fun r5 =>
  qf_let (upd I4 8 r5) fun I6 =>
  qf_let ((if (I6 5) < (y1 + (1 : Int32)) then (I6 5) else (y1 + (1 : Int32)))) fun x7 =>
  if (I6 8) = (1 : Int32) then (f_X6_advance_j82 A T I6 x7) else (if (I6 8) = (2 : Int32) then (f_X6_advance_j82 A T I6 x7) else (f_X6_advance_j87 A T I6 x7 (0 : Int32)))
def f_X6_advance_l5 (I : Nat → Int32) (A : Nat → Nat → Int32) (T : Nat)   : Nat → Int32 → Option ((Nat → Int32))
  | 0, _ => none
  | n + 1, y1 =>
  if (I 5) ≤ y1 then (f_X6_advance_j41 I A T y1) else (qf_ck (T = 1) <|
    qf_ld 800 (A 0) y1 fun x2 =>
    if x2 = (32 : Int32) then (f_X6_advance_j35 I A T (fun z0 => f_X6_advance_l5 I A T n z0) y1) else (qf_ck (T = 1) <|
      qf_ld 800 (A 0) y1 fun x3 =>
      if x3 = (10 : Int32) then (f_X6_advance_j35 I A T (fun z0 => f_X6_advance_l5 I A T n z0) y1) else (f_X6_advance_j41 I A T y1)))
def f_X6_advance (A : Nat → Nat → Int32) (T : Nat) (I : Nat → Int32) : Option ((Nat → Int32)) :=
  qf_let ((I 6)) fun x1 =>
  f_X6_advance_l5 I A T 100000 x1
abbrev wz_X6_advance : List Cond := Cond.code yX6_advance cX6_advance 3 none :: qw_big
def rm_X6_advance : Room := { frames := 1, cells := 0, slots := 0, locals := 60 }
set_option maxHeartbeats 4000000 in
set_option maxRecDepth 100000 in
theorem c_X6_advance (l : Launch) {D : va_G} {cy : Nat → ClassId} {ad : Nat → Nat} {I : Nat → Int32} {A : Nat → Nat → Int32} {G : Nat → Int32 × (Nat → Nat → Int32)} {T : Nat}  {I9 : Nat → Int32} {sz : Nat} (hf : f_X6_advance A T I = some (I9)) : Met l yX6_advance wz_X6_advance rm_X6_advance (va_Pc [.ref (ad 4)] (qw_Pre D cy (Wo cy ad I A G T) sz)) (qw_Q none D (Wo cy ad I9 A G T) (va_A (Wo cy ad I A G T) sz)) 0 0 (va_A (Wo cy ad I A G T) sz) := by
  refine qw_of (cc := cX6_advance) (maxL := 3) (ret := none) (by decide) (Nat.le_of_ble_eq_true rfl) ?_
  intro p e s m args below meth c ls S0 hr hlocks hsz V hl
  have S0 : CallFix p m c cX6_advance 3 s args qw_big RX6 := S0
  have hx := S0.1; have hb := S0.2.1; have hown := S0.2.2.2.1; have hts := S0.2.2.2.2
  have hl : lv_has ls 3 [(0, .ref (ad 4))] := hl
  generalize va_A (Wo cy ad I A G T) sz = Z9 at V ⊢
  obtain ⟨Q9, hQ⟩ : ∃ q, q = MQ below (qw_Q none D (Wo cy ad I9 A G T) Z9) args s 0 0 Z9 := ⟨_, rfl⟩
  rw [← hQ]
  clear hsz
  have J_35 : ∀ {K5 : Int32 → Option ((Nat → Int32))}  (hK5 : ∀  {y1 : Int32} {H : Heap} {locs : List Loc} {ls : Array Slot}, K5 y1 = some (I9) → qw_V D cy Z9 s (Wo cy ad I A G T) H locs → lv_has ls 3 [(0, .ref (ad 4)), (1, .int y1)] → W p l e rm_X6_advance s m args below meth c H locs 0 0 Q9 (F0 m 5 ls []))  {y1 : Int32} {H : Heap} {locs : List Loc} {ls : Array Slot}, f_X6_advance_j35 I A T K5 y1 = some (I9) → qw_V D cy Z9 s (Wo cy ad I A G T) H locs → lv_has ls 3 [(0, .ref (ad 4)), (1, .int y1)] → W p l e rm_X6_advance s m args below meth c H locs 0 0 Q9 (F0 m 35 ls []) := by
    intro K5 hK5 y1 H locs ls hf V hl
    unfold f_X6_advance_j35 at hf
    obtain ⟨x8, e_x8⟩ : ∃ y : Int32, y = y1 + (1 : Int32) := ⟨_, rfl⟩
    refine lv_iinc (v := x8) (lv' := [(1, .int x8), (0, .ref (ad 4))]) hx hb dX6_advance_35 hl (k := 1) rfl (by rw [e_x8]; rfl) (by decide) rfl (fun ls hl => ?_)
    replace hf := qf_let_e e_x8 hf
    refine lv_goto (tgt := 5) hx hb dX6_advance_38 (by decide) ?_
    exact hK5 hf V (lv_sub hl [1, 0] rfl)
  have J_118 : ∀  {I : Nat → Int32} {y1 : Int32} {H : Heap} {locs : List Loc} {ls : Array Slot}, f_X6_advance_j118 A T I y1 = some (I9) → qw_V D cy Z9 s (Wo cy ad I A G T) H locs → lv_has ls 3 [(0, .ref (ad 4)), (1, .int y1)] → W p l e rm_X6_advance s m args below meth c H locs 0 0 Q9 (F0 m 118 ls []) := by
    intro I y1 H locs ls hf V hl
    unfold f_X6_advance_j118 at hf
    refine lv_aload_n hx hb dX6_advance_118 rfl (lv_at hl 0 rfl) ?_
    refine lv_iload_n hx hb dX6_advance_119 rfl (lv_at hl 1 rfl) ?_
    refine pfO_4_2 S0 V kl_X6_19 dX6_advance_120 (fun H locs I11 e_I11 V => ?_)
    replace hf := qf_let_e e_I11 hf
    have hE := Option.some.inj hf
    exact qw_vreti S0 hr hlocks hQ (by rw [hE]) V dX6_advance_123
  have L_88 : ∀  {y2 : Int32} {n : Nat} {I : Nat → Int32} {y1 : Int32} {H : Heap} {locs : List Loc} {ls : Array Slot}, f_X6_advance_l88 A T y2 n I y1 = some (I9) → qw_V D cy Z9 s (Wo cy ad I A G T) H locs → lv_has ls 3 [(0, .ref (ad 4)), (1, .int y1), (2, .int y2)] → W p l e rm_X6_advance s m args below meth c H locs 0 0 Q9 (F0 m 88 ls []) := by
    intro y2 n
    induction n with
    | zero => intro I y1 H locs ls hf V hl; exact qf_no hf
    | succ n ih =>
      intro I y1 H locs ls hf V hl
      rw [f_X6_advance_l88] at hf
      refine lv_iload_n hx hb dX6_advance_88 rfl (lv_at hl 2 rfl) ?_
      refine lv_if_eq (tgt := 118) hx hb dX6_advance_89 (by decide) (fun c_89 => ?_) (fun c_89 => ?_)
      · replace hf := qf_t c_89 hf
        exact J_118 hf V (lv_sub hl [0, 1] rfl)
      · replace hf := qf_f c_89 hf
        refine lv_iload_n hx hb dX6_advance_92 rfl (lv_at hl 1 rfl) ?_
        refine lv_aload_n hx hb dX6_advance_93 rfl (lv_at hl 0 rfl) ?_
        refine gfO_4_1 S0 V kl_X6_15 dX6_advance_94 ?_
        refine lv_icmp_ge (tgt := 118) hx hb dX6_advance_97 (by decide) (fun c_97 => ?_) (fun c_97 => ?_)
        · replace hf := qf_t c_97 hf
          exact J_118 hf V (lv_sub hl [0, 1] rfl)
        · replace hf := qf_f c_97 hf
          refine lv_aload_n hx hb dX6_advance_100 rfl (lv_at hl 0 rfl) ?_
          refine lv_iload_n hx hb dX6_advance_101 rfl (lv_at hl 1 rfl) ?_
          obtain ⟨r9, hc_102, hf⟩ := qf_bd_e hf
          refine qw_cVR (rest := []) (st1 := [.int r9]) S0 V hl 4 gO_4 rfl (c_X6_kindAt l hc_102) kg_X6_37 rfl ⟨rfl, rfl⟩ kd_X6_kindAt ⟨Nat.le_of_ble_eq_true rfl, Nat.le_of_ble_eq_true rfl⟩ rfl rfl (Nat.le_of_ble_eq_true rfl) ⟨Nat.zero_le _, Nat.zero_le _⟩ rfl dX6_advance_102 ?_
          refine lv_aload_n hx hb dX6_advance_105 rfl (lv_at hl 0 rfl) ?_
          refine gfO_4_4 S0 V kl_X6_25 dX6_advance_106 ?_
          refine lv_icmp_ne (tgt := 118) hx hb dX6_advance_109 (by decide) (fun c_109 => ?_) (fun c_109 => ?_)
          · replace hf := qf_f c_109 hf
            exact J_118 hf V (lv_sub hl [0, 1] rfl)
          · replace hf := qf_t c_109 hf
            obtain ⟨x10, e_x10⟩ : ∃ y : Int32, y = y1 + (1 : Int32) := ⟨_, rfl⟩
            refine lv_iinc (v := x10) (lv' := [(1, .int x10), (0, .ref (ad 4)), (2, .int y2)]) hx hb dX6_advance_112 hl (k := 1) rfl (by rw [e_x10]; rfl) (by decide) rfl (fun ls hl => ?_)
            replace hf := qf_let_e e_x10 hf
            refine lv_goto (tgt := 88) hx hb dX6_advance_115 (by decide) ?_
            exact ih hf V (lv_sub hl [1, 0, 2] rfl)
  have J_87 : ∀  {I : Nat → Int32} {y1 : Int32} {s0 : Int32} {H : Heap} {locs : List Loc} {ls : Array Slot}, f_X6_advance_j87 A T I y1 s0 = some (I9) → qw_V D cy Z9 s (Wo cy ad I A G T) H locs → lv_has ls 3 [(0, .ref (ad 4)), (1, .int y1)] → W p l e rm_X6_advance s m args below meth c H locs 0 0 Q9 (F0 m 87 ls [.int s0]) := by
    intro I y1 s0 H locs ls hf V hl
    unfold f_X6_advance_j87 at hf
    refine lv_istore_n (lv' := [(2, .int s0), (0, .ref (ad 4)), (1, .int y1)]) hx hb dX6_advance_87 rfl hl (by decide) rfl (fun ls hl => ?_)
    exact L_88 hf V (lv_sub hl [1, 2, 0] rfl)
  have J_82 : ∀  {I : Nat → Int32} {y1 : Int32} {H : Heap} {locs : List Loc} {ls : Array Slot}, f_X6_advance_j82 A T I y1 = some (I9) → qw_V D cy Z9 s (Wo cy ad I A G T) H locs → lv_has ls 3 [(0, .ref (ad 4)), (1, .int y1)] → W p l e rm_X6_advance s m args below meth c H locs 0 0 Q9 (F0 m 82 ls []) := by
    intro I y1 H locs ls hf V hl
    unfold f_X6_advance_j82 at hf
    refine lv_iconst (v := 1) hx hb dX6_advance_82 (by decide) ?_
    refine lv_goto (tgt := 87) hx hb dX6_advance_83 (by decide) ?_
    exact J_87 hf V (lv_sub hl [0, 1] rfl)
  have J_41 : ∀   {y1 : Int32} {H : Heap} {locs : List Loc} {ls : Array Slot}, f_X6_advance_j41 I A T y1 = some (I9) → qw_V D cy Z9 s (Wo cy ad I A G T) H locs → lv_has ls 3 [(0, .ref (ad 4)), (1, .int y1)] → W p l e rm_X6_advance s m args below meth c H locs 0 0 Q9 (F0 m 41 ls []) := by
    intro y1 H locs ls hf V hl
    unfold f_X6_advance_j41 at hf
    refine lv_aload_n hx hb dX6_advance_41 rfl (lv_at hl 0 rfl) ?_
    refine lv_iload_n hx hb dX6_advance_42 rfl (lv_at hl 1 rfl) ?_
    refine pfO_4_3 S0 V kl_X6_22 dX6_advance_43 (fun H locs I4 e_I4 V => ?_)
    replace hf := qf_let_e e_I4 hf
    refine lv_aload_n hx hb dX6_advance_46 rfl (lv_at hl 0 rfl) ?_
    refine lv_aload_n hx hb dX6_advance_47 rfl (lv_at hl 0 rfl) ?_
    refine lv_iload_n hx hb dX6_advance_48 rfl (lv_at hl 1 rfl) ?_
    obtain ⟨r5, hc_49, hf⟩ := qf_bd_e hf
    refine qw_cVR (rest := [.ref (ad 4)]) (st1 := [.int r5, .ref (ad 4)]) S0 V hl 4 gO_4 rfl (c_X6_kindAt l hc_49) kg_X6_37 rfl ⟨rfl, rfl⟩ kd_X6_kindAt ⟨Nat.le_of_ble_eq_true rfl, Nat.le_of_ble_eq_true rfl⟩ rfl rfl (Nat.le_of_ble_eq_true rfl) ⟨Nat.zero_le _, Nat.zero_le _⟩ rfl dX6_advance_49 ?_
    refine pfO_4_4 S0 V kl_X6_25 dX6_advance_52 (fun H locs I6 e_I6 V => ?_)
    replace hf := qf_let_e e_I6 hf
    refine lv_iload_n hx hb dX6_advance_55 rfl (lv_at hl 1 rfl) ?_
    refine lv_iconst (v := 1) hx hb dX6_advance_56 (by decide) ?_
    refine lv_iadd hx hb dX6_advance_57 ?_
    refine lv_aload_n hx hb dX6_advance_58 rfl (lv_at hl 0 rfl) ?_
    refine gfO_4_1 S0 V kl_X6_15 dX6_advance_59 ?_
    refine qw_min S0 hl.1 kml_X6_28 (Nat.le_of_ble_eq_true rfl) (Nat.le_of_ble_eq_true rfl) (Nat.zero_le _) (Nat.zero_le _) dX6_advance_62 ?_
    refine lv_topi (fun x7 e_x7 => ?_)
    replace hf := qf_let_e e_x7 hf
    refine lv_istore_n (lv' := [(1, .int x7), (0, .ref (ad 4))]) hx hb dX6_advance_65 rfl hl (by decide) rfl (fun ls hl => ?_)
    refine lv_aload_n hx hb dX6_advance_66 rfl (lv_at hl 1 rfl) ?_
    refine gfO_4_4 S0 V kl_X6_25 dX6_advance_67 ?_
    refine lv_iconst (v := 1) hx hb dX6_advance_70 (by decide) ?_
    refine lv_icmp_eq (tgt := 82) hx hb dX6_advance_71 (by decide) (fun c_71 => ?_) (fun c_71 => ?_)
    · replace hf := qf_t c_71 hf
      exact J_82 hf V (lv_sub hl [1, 0] rfl)
    · replace hf := qf_f c_71 hf
      refine lv_aload_n hx hb dX6_advance_74 rfl (lv_at hl 1 rfl) ?_
      refine gfO_4_4 S0 V kl_X6_25 dX6_advance_75 ?_
      refine lv_iconst (v := 2) hx hb dX6_advance_78 (by decide) ?_
      refine lv_icmp_ne (tgt := 86) hx hb dX6_advance_79 (by decide) (fun c_79 => ?_) (fun c_79 => ?_)
      · replace hf := qf_f c_79 hf
        refine lv_iconst (v := 0) hx hb dX6_advance_86 (by decide) ?_
        exact J_87 hf V (lv_sub hl [1, 0] rfl)
      · replace hf := qf_t c_79 hf
        exact J_82 hf V (lv_sub hl [1, 0] rfl)
  have L_5 : ∀   {n : Nat}  {y1 : Int32} {H : Heap} {locs : List Loc} {ls : Array Slot}, f_X6_advance_l5 I A T n y1 = some (I9) → qw_V D cy Z9 s (Wo cy ad I A G T) H locs → lv_has ls 3 [(0, .ref (ad 4)), (1, .int y1)] → W p l e rm_X6_advance s m args below meth c H locs 0 0 Q9 (F0 m 5 ls []) := by
    intro n
    induction n with
    | zero => intro y1 H locs ls hf V hl; exact qf_no hf
    | succ n ih =>
      intro y1 H locs ls hf V hl
      rw [f_X6_advance_l5] at hf
      refine lv_iload_n hx hb dX6_advance_5 rfl (lv_at hl 1 rfl) ?_
      refine lv_aload_n hx hb dX6_advance_6 rfl (lv_at hl 0 rfl) ?_
      refine gfO_4_1 S0 V kl_X6_15 dX6_advance_7 ?_
      refine lv_icmp_ge (tgt := 41) hx hb dX6_advance_10 (by decide) (fun c_10 => ?_) (fun c_10 => ?_)
      · replace hf := qf_t c_10 hf
        exact J_41 hf V (lv_sub hl [0, 1] rfl)
      · replace hf := qf_f c_10 hf
        refine lv_aload_n hx hb dX6_advance_13 rfl (lv_at hl 0 rfl) ?_
        refine gfO_4_0 S0 V kl_X6_9 dX6_advance_14 ?_
        obtain ⟨h_T, hf⟩ := qf_ck_e hf
        rw [h_T]
        refine lv_iload_n hx hb dX6_advance_17 rfl (lv_at hl 1 rfl) ?_
        have h_18 := qf_ld_in hf
        refine alO_1 S0 V h_18 dX6_advance_18 ?_
        refine lv_topi (fun x2 e_x2 => ?_)
        replace hf := qf_ld_e e_x2 hf
        refine lv_bipush (v := 32) hx hb dX6_advance_19 (by decide) ?_
        refine lv_icmp_eq (tgt := 35) hx hb dX6_advance_21 (by decide) (fun c_21 => ?_) (fun c_21 => ?_)
        · replace hf := qf_t c_21 hf
          exact J_35 (fun hf V hl => ih hf V hl) hf V (lv_sub hl [0, 1] rfl)
        · replace hf := qf_f c_21 hf
          refine lv_aload_n hx hb dX6_advance_24 rfl (lv_at hl 0 rfl) ?_
          refine gfO_4_0 S0 V kl_X6_9 dX6_advance_25 ?_
          obtain ⟨h_T, hf⟩ := qf_ck_e hf
          rw [h_T]
          refine lv_iload_n hx hb dX6_advance_28 rfl (lv_at hl 1 rfl) ?_
          have h_29 := qf_ld_in hf
          refine alO_1 S0 V h_29 dX6_advance_29 ?_
          refine lv_topi (fun x3 e_x3 => ?_)
          replace hf := qf_ld_e e_x3 hf
          refine lv_bipush (v := 10) hx hb dX6_advance_30 (by decide) ?_
          refine lv_icmp_ne (tgt := 41) hx hb dX6_advance_32 (by decide) (fun c_32 => ?_) (fun c_32 => ?_)
          · replace hf := qf_f c_32 hf
            exact J_41 hf V (lv_sub hl [0, 1] rfl)
          · replace hf := qf_t c_32 hf
            exact J_35 (fun hf V hl => ih hf V hl) hf V (lv_sub hl [0, 1] rfl)
  unfold f_X6_advance at hf
  refine lv_aload_n hx hb dX6_advance_0 rfl (lv_at hl 0 rfl) ?_
  refine gfO_4_2 S0 V kl_X6_19 dX6_advance_1 ?_
  refine lv_topi (fun x1 e_x1 => ?_)
  replace hf := qf_let_e e_x1 hf
  refine lv_istore_n (lv' := [(1, .int x1), (0, .ref (ad 4))]) hx hb dX6_advance_4 rfl hl (by decide) rfl (fun ls hl => ?_)
  exact L_5 hf V (lv_sub hl [1, 0] rfl)
theorem kd_X6_open : yX6_open.cls = RX6 ∧ yX6_open.cls ≠ "java/lang/invoke/MethodHandle" ∧ yX6_open.cls ≠ "java/lang/invoke/VarHandle" ∧ (parseMethodDescriptor yX6_open.desc).map (fun d => d.parameters.length) = some 2 := by decide +kernel
def f_X6_open_r1 (A : Nat → Nat → Int32) (I : Nat → Int32) (T : Nat) (p1 : Int32) : Option ((Nat → Int32) × (Nat)) :=
  qf_let ((if (800 : Int32) < p1 then (800 : Int32) else p1)) fun x1 =>
  qf_let (upd I 5 x1) fun I2 =>
  qf_let (upd I2 6 (0 : Int32)) fun I3 =>
  qf_bd (f_X6_advance A 1 I3) fun I4 =>
  some (I4, 1)
abbrev wz_X6_open : List Cond := Cond.code yX6_open cX6_open 3 none :: qw_big
def rm_X6_open_r1 : Room := { frames := 2, cells := 0, slots := 0, locals := 82 }
set_option maxHeartbeats 4000000 in
set_option maxRecDepth 100000 in
theorem c_X6_open_r1 (l : Launch) {D : va_G} {cy : Nat → ClassId} {ad : Nat → Nat} {I : Nat → Int32} {A : Nat → Nat → Int32} {G : Nat → Int32 × (Nat → Nat → Int32)} {T : Nat} {p1 : Int32} {I9 : Nat → Int32} {T9 : Nat} {sz : Nat} (hf : f_X6_open_r1 A I T p1 = some (I9, T9)) : Met l yX6_open wz_X6_open rm_X6_open_r1 (va_Pc [.ref (ad 4), .ref (ad 1), .int p1] (qw_Pre D cy (Wo cy ad I A G T) sz)) (qw_Q none D (Wo cy ad I9 A G T9) (va_A (Wo cy ad I A G T) sz)) 0 0 (va_A (Wo cy ad I A G T) sz) := by
  refine qw_of (cc := cX6_open) (maxL := 3) (ret := none) (by decide) (Nat.le_of_ble_eq_true rfl) ?_
  intro p e s m args below meth c ls S0 hr hlocks hsz V hl
  have S0 : CallFix p m c cX6_open 3 s args qw_big RX6 := S0
  have hx := S0.1; have hb := S0.2.1; have hown := S0.2.2.2.1; have hts := S0.2.2.2.2
  have hl : lv_has ls 3 [(0, .ref (ad 4)), (1, .ref (ad 1)), (2, .int p1)] := hl
  generalize va_A (Wo cy ad I A G T) sz = Z9 at V ⊢
  obtain ⟨Q9, hQ⟩ : ∃ q, q = MQ below (qw_Q none D (Wo cy ad I9 A G T9) Z9) args s 0 0 Z9 := ⟨_, rfl⟩
  rw [← hQ]
  clear hsz
  unfold f_X6_open_r1 at hf
  refine lv_aload_n hx hb dX6_open_0 rfl (lv_at hl 0 rfl) ?_
  refine lv_aload_n hx hb dX6_open_1 rfl (lv_at hl 1 rfl) ?_
  refine pfO_4_0 (x := 1) S0 V kl_X6_9 dX6_open_2 (fun H locs V => ?_)
  refine lv_aload_n hx hb dX6_open_5 rfl (lv_at hl 0 rfl) ?_
  refine lv_iload_n hx hb dX6_open_6 rfl (lv_at hl 2 rfl) ?_
  refine lv_aload_n hx hb dX6_open_7 rfl (lv_at hl 1 rfl) ?_
  refine qw_len (v := 800) S0 V 1 0 gO_1 rfl rfl dX6_open_8 ?_
  refine qw_min S0 hl.1 kml_X6_28 (Nat.le_of_ble_eq_true rfl) (Nat.le_of_ble_eq_true rfl) (Nat.zero_le _) (Nat.zero_le _) dX6_open_9 ?_
  refine lv_topi (fun x1 e_x1 => ?_)
  replace hf := qf_let_e e_x1 hf
  refine pfO_4_1 S0 V kl_X6_15 dX6_open_12 (fun H locs I2 e_I2 V => ?_)
  replace hf := qf_let_e e_I2 hf
  refine lv_aload_n hx hb dX6_open_15 rfl (lv_at hl 0 rfl) ?_
  refine lv_iconst (v := 0) hx hb dX6_open_16 (by decide) ?_
  refine pfO_4_2 S0 V kl_X6_19 dX6_open_17 (fun H locs I3 e_I3 V => ?_)
  replace hf := qf_let_e e_I3 hf
  refine lv_aload_n hx hb dX6_open_20 rfl (lv_at hl 0 rfl) ?_
  obtain ⟨I4, hc_21, hf⟩ := qf_bd_e hf
  refine qw_cV (rest := []) (st1 := []) S0 V hl 4 gO_4 rfl (c_X6_advance l hc_21) kg_X6_34 rfl ⟨rfl, rfl⟩ kd_X6_advance ⟨Nat.le_of_ble_eq_true rfl, Nat.le_of_ble_eq_true rfl⟩ rfl rfl (Nat.le_of_ble_eq_true rfl) ⟨Nat.zero_le _, Nat.zero_le _⟩ rfl dX6_open_21 (fun H locs V => ?_)
  have hE := Option.some.inj hf
  obtain ⟨e0, hE⟩ := qf_pr hE
  exact qw_vreti S0 hr hlocks hQ (by rw [e0, hE]) V dX6_open_24
theorem kd_X6_isWord : yX6_isWord.cls = RX6 ∧ yX6_isWord.cls ≠ "java/lang/invoke/MethodHandle" ∧ yX6_isWord.cls ≠ "java/lang/invoke/VarHandle" ∧ (parseMethodDescriptor yX6_isWord.desc).map (fun d => d.parameters.length) = some 1 := by decide +kernel
def f_X6_isWord_l28 (bs : List Int32) (I : Nat → Int32) (A : Nat → Nat → Int32) (T : Nat)   : Nat → Int32 → Option (Int32)
  | 0, _ => none
  | n + 1, y2 =>
  if (qs_len bs) ≤ y2 then (some ((1 : Int32))) else (qf_ck (T = 1) <|
    qf_ld 800 (A 0) ((I 7) + y2) fun x1 =>
    qf_ck ((0 : Int32) ≤ y2 ∧ y2 < Int32.ofNat bs.length) <|
    if x1 = (qs_chr bs y2) then (qf_let (y2 + (1 : Int32)) fun x2 =>
      f_X6_isWord_l28 bs I A T n x2) else (some ((0 : Int32))))
def f_X6_isWord (I : Nat → Int32) (A : Nat → Nat → Int32) (T : Nat) (bs : List Int32) : Option (Int32) :=
  if (I 8) = (1 : Int32) then (if ((I 6) - (I 7)) = (qs_len bs) then (f_X6_isWord_l28 bs I A T 100000 (0 : Int32)) else (some ((0 : Int32)))) else (some ((0 : Int32)))
abbrev wz_X6_isWord : List Cond := Cond.code yX6_isWord cX6_isWord 3 (some .boolean) :: qw_big
def rm_X6_isWord : Room := { frames := 4, cells := 0, slots := 0, locals := 131 }
set_option maxHeartbeats 4000000 in
set_option maxRecDepth 100000 in
theorem c_X6_isWord (l : Launch) {D : va_G} {cy : Nat → ClassId} {ad : Nat → Nat} {I : Nat → Int32} {A : Nat → Nat → Int32} {G : Nat → Int32 × (Nat → Nat → Int32)} {T : Nat} {bs : List Int32} {aS : Nat} (hlen : bs.length < 2 ^ 31)  {rv : Int32} {sz : Nat} (hf : f_X6_isWord I A T bs = some (rv)) : Met l yX6_isWord wz_X6_isWord rm_X6_isWord (va_Pc [.ref (ad 4), .ref aS] (fun U => qw_Pre D cy (Wo cy ad I A G T) sz U ∧ qe_S bs aS (va_A (Wo cy ad I A G T) sz) U U.heap)) (qw_R (some (.int rv))) 0 0 (fun _ => False) := by
  refine qs_of (cc := cX6_isWord) (maxL := 3) (ret := (some .boolean)) (by decide) (Nat.le_of_ble_eq_true rfl) ?_
  intro p e s m args below meth c ls S0 hr hlocks hsz V hX hl
  have S0 : CallFix p m c cX6_isWord 3 s args qw_big RX6 := S0
  have hx := S0.1; have hb := S0.2.1; have hown := S0.2.2.2.1; have hts := S0.2.2.2.2
  have hl : lv_has ls 3 [(0, .ref (ad 4)), (1, .ref aS)] := hl
  obtain ⟨Q9, hQ⟩ : ∃ q, q = MQ below (qw_R (some (.int rv))) args s 0 0 (fun _ => False) := ⟨_, rfl⟩
  rw [← hQ]
  generalize va_A (Wo cy ad I A G T) sz = Z9 at V hX
  have L_28 : ∀   {n : Nat}  {y2 : Int32} {ls : Array Slot}, f_X6_isWord_l28 bs I A T n y2 = some (rv) → lv_has ls 3 [(0, .ref (ad 4)), (1, .ref aS), (2, .int y2)] → W p l e rm_X6_isWord s m args below meth c s.heap [] 0 0 Q9 (F0 m 28 ls []) := by
    intro n
    induction n with
    | zero => intro y2 ls hf hl; exact qf_no hf
    | succ n ih =>
      intro y2 ls hf hl
      rw [f_X6_isWord_l28] at hf
      refine lv_iload_n hx hb dX6_isWord_28 rfl (lv_at hl 2 rfl) ?_
      refine lv_aload_n hx hb dX6_isWord_29 rfl (lv_at hl 1 rfl) ?_
      refine qs_cVR (rest := [.int y2]) (st1 := [.int (qs_len bs), .int y2]) S0 V hl (qs_rc V hX) (qs_S V hX) qs_Sc (c_J0_length l (bs := bs)) kg_X6_41 rfl ⟨rfl, rfl⟩ kd_J0_length ⟨Nat.le_of_ble_eq_true rfl, Nat.le_of_ble_eq_true rfl⟩ rfl rfl (Nat.le_of_ble_eq_true rfl) ⟨Nat.zero_le _, Nat.zero_le _⟩ rfl dX6_isWord_30 ?_
      refine lv_icmp_ge (tgt := 63) hx hb dX6_isWord_33 (by decide) (fun c_33 => ?_) (fun c_33 => ?_)
      · replace hf := qf_t c_33 hf
        refine lv_iconst (v := 1) hx hb dX6_isWord_63 (by decide) ?_
        have hE := Option.some.inj hf
        exact qw_zretR S0 hr hlocks hQ rfl hE dX6_isWord_64
      · replace hf := qf_f c_33 hf
        refine lv_aload_n hx hb dX6_isWord_36 rfl (lv_at hl 0 rfl) ?_
        refine gfO_4_0 S0 V kl_X6_9 dX6_isWord_37 ?_
        obtain ⟨h_T, hf⟩ := qf_ck_e hf
        rw [h_T]
        refine lv_aload_n hx hb dX6_isWord_40 rfl (lv_at hl 0 rfl) ?_
        refine gfO_4_3 S0 V kl_X6_22 dX6_isWord_41 ?_
        refine lv_iload_n hx hb dX6_isWord_44 rfl (lv_at hl 2 rfl) ?_
        refine lv_iadd hx hb dX6_isWord_45 ?_
        have h_46 := qf_ld_in hf
        refine alO_1 S0 V h_46 dX6_isWord_46 ?_
        refine lv_topi (fun x1 e_x1 => ?_)
        replace hf := qf_ld_e e_x1 hf
        refine lv_aload_n hx hb dX6_isWord_47 rfl (lv_at hl 1 rfl) ?_
        refine lv_iload_n hx hb dX6_isWord_48 rfl (lv_at hl 2 rfl) ?_
        obtain ⟨h_49, hf⟩ := qf_ck_e hf
        refine qs_cVR (rest := [.int x1]) (st1 := [.int (qs_chr bs y2), .int x1]) S0 V hl (qs_rc V hX) (qs_S V hX) qs_Sc (c_J0_charAt l (bs := bs) h_49.1 h_49.2 hlen) kg_X6_46 rfl ⟨rfl, rfl⟩ kd_J0_charAt ⟨Nat.le_of_ble_eq_true rfl, Nat.le_of_ble_eq_true rfl⟩ rfl rfl (Nat.le_of_ble_eq_true rfl) ⟨Nat.zero_le _, Nat.zero_le _⟩ rfl dX6_isWord_49 ?_
        refine lv_icmp_eq (tgt := 57) hx hb dX6_isWord_52 (by decide) (fun c_52 => ?_) (fun c_52 => ?_)
        · replace hf := qf_t c_52 hf
          obtain ⟨x2, e_x2⟩ : ∃ y : Int32, y = y2 + (1 : Int32) := ⟨_, rfl⟩
          refine lv_iinc (v := x2) (lv' := [(2, .int x2), (0, .ref (ad 4)), (1, .ref aS)]) hx hb dX6_isWord_57 hl (k := 2) rfl (by rw [e_x2]; rfl) (by decide) rfl (fun ls hl => ?_)
          replace hf := qf_let_e e_x2 hf
          refine lv_goto (tgt := 28) hx hb dX6_isWord_60 (by decide) ?_
          exact ih hf (lv_sub hl [1, 2, 0] rfl)
        · replace hf := qf_f c_52 hf
          refine lv_iconst (v := 0) hx hb dX6_isWord_55 (by decide) ?_
          have hE := Option.some.inj hf
          exact qw_zretR S0 hr hlocks hQ rfl hE dX6_isWord_56
  unfold f_X6_isWord at hf
  refine lv_aload_n hx hb dX6_isWord_0 rfl (lv_at hl 0 rfl) ?_
  refine gfO_4_4 S0 V kl_X6_25 dX6_isWord_1 ?_
  refine lv_iconst (v := 1) hx hb dX6_isWord_4 (by decide) ?_
  refine lv_icmp_ne (tgt := 24) hx hb dX6_isWord_5 (by decide) (fun c_5 => ?_) (fun c_5 => ?_)
  · replace hf := qf_f c_5 hf
    refine lv_iconst (v := 0) hx hb dX6_isWord_24 (by decide) ?_
    have hE := Option.some.inj hf
    exact qw_zretR S0 hr hlocks hQ rfl hE dX6_isWord_25
  · replace hf := qf_t c_5 hf
    refine lv_aload_n hx hb dX6_isWord_8 rfl (lv_at hl 0 rfl) ?_
    refine gfO_4_2 S0 V kl_X6_19 dX6_isWord_9 ?_
    refine lv_aload_n hx hb dX6_isWord_12 rfl (lv_at hl 0 rfl) ?_
    refine gfO_4_3 S0 V kl_X6_22 dX6_isWord_13 ?_
    refine lv_isub hx hb dX6_isWord_16 ?_
    refine lv_aload_n hx hb dX6_isWord_17 rfl (lv_at hl 1 rfl) ?_
    refine qs_cVR (rest := [.int ((I 6) - (I 7))]) (st1 := [.int (qs_len bs), .int ((I 6) - (I 7))]) S0 V hl (qs_rc V hX) (qs_S V hX) qs_Sc (c_J0_length l (bs := bs)) kg_X6_41 rfl ⟨rfl, rfl⟩ kd_J0_length ⟨Nat.le_of_ble_eq_true rfl, Nat.le_of_ble_eq_true rfl⟩ rfl rfl (Nat.le_of_ble_eq_true rfl) ⟨Nat.zero_le _, Nat.zero_le _⟩ rfl dX6_isWord_18 ?_
    refine lv_icmp_eq (tgt := 26) hx hb dX6_isWord_21 (by decide) (fun c_21 => ?_) (fun c_21 => ?_)
    · replace hf := qf_t c_21 hf
      refine lv_iconst (v := 0) hx hb dX6_isWord_26 (by decide) ?_
      refine lv_istore_n (lv' := [(2, .int (0 : Int32)), (0, .ref (ad 4)), (1, .ref aS)]) hx hb dX6_isWord_27 rfl hl (by decide) rfl (fun ls hl => ?_)
      exact L_28 hf (lv_sub hl [1, 2, 0] rfl)
    · replace hf := qf_f c_21 hf
      refine lv_iconst (v := 0) hx hb dX6_isWord_24 (by decide) ?_
      have hE := Option.some.inj hf
      exact qw_zretR S0 hr hlocks hQ rfl hE dX6_isWord_25
theorem kd_X2_fail : yX2_fail.cls = RX2 ∧ yX2_fail.cls ≠ "java/lang/invoke/MethodHandle" ∧ yX2_fail.cls ≠ "java/lang/invoke/VarHandle" ∧ (parseMethodDescriptor yX2_fail.desc).map (fun d => d.parameters.length) = some 1 := by decide +kernel
def f_X2_fail (I : Nat → Int32) (p1 : Int32) : Option ((Nat → Int32)) :=
  if (I 3) = 0 then (qf_let (upd I 3 p1) fun I1 =>
    qf_let (upd I1 4 (I1 7)) fun I2 =>
    some (I2)) else (some (I))
abbrev wz_X2_fail : List Cond := Cond.code yX2_fail cX2_fail 2 none :: qw_big
def rm_X2_fail : Room := { frames := 0, cells := 0, slots := 0, locals := 0 }
set_option maxHeartbeats 4000000 in
set_option maxRecDepth 100000 in
theorem c_X2_fail (l : Launch) {D : va_G} {cy : Nat → ClassId} {ad : Nat → Nat} {I : Nat → Int32} {A : Nat → Nat → Int32} {G : Nat → Int32 × (Nat → Nat → Int32)} {T : Nat} {p1 : Int32} {I9 : Nat → Int32} {sz : Nat} (hf : f_X2_fail I p1 = some (I9)) : Met l yX2_fail wz_X2_fail rm_X2_fail (va_Pc [.ref (ad 3), .int p1] (qw_Pre D cy (Wo cy ad I A G T) sz)) (qw_Q none D (Wo cy ad I9 A G T) (va_A (Wo cy ad I A G T) sz)) 0 0 (va_A (Wo cy ad I A G T) sz) := by
  refine qw_of (cc := cX2_fail) (maxL := 2) (ret := none) (by decide) (Nat.le_of_ble_eq_true rfl) ?_
  intro p e s m args below meth c ls S0 hr hlocks hsz V hl
  have S0 : CallFix p m c cX2_fail 2 s args qw_big RX2 := S0
  have hx := S0.1; have hb := S0.2.1; have hown := S0.2.2.2.1; have hts := S0.2.2.2.2
  have hl : lv_has ls 2 [(0, .ref (ad 3)), (1, .int p1)] := hl
  generalize va_A (Wo cy ad I A G T) sz = Z9 at V ⊢
  obtain ⟨Q9, hQ⟩ : ∃ q, q = MQ below (qw_Q none D (Wo cy ad I9 A G T) Z9) args s 0 0 Z9 := ⟨_, rfl⟩
  rw [← hQ]
  clear hsz
  unfold f_X2_fail at hf
  refine lv_aload_n hx hb dX2_fail_0 rfl (lv_at hl 0 rfl) ?_
  refine gfO_3_4 S0 V kl_X2_36 dX2_fail_1 ?_
  refine lv_if_ne (tgt := 23) hx hb dX2_fail_4 (by decide) (fun c_4 => ?_) (fun c_4 => ?_)
  · replace hf := qf_f c_4 hf
    have hE := Option.some.inj hf
    exact qw_vreti S0 hr hlocks hQ (by rw [hE]) V dX2_fail_23
  · replace hf := qf_t c_4 hf
    refine lv_aload_n hx hb dX2_fail_7 rfl (lv_at hl 0 rfl) ?_
    refine lv_iload_n hx hb dX2_fail_8 rfl (lv_at hl 1 rfl) ?_
    refine pfO_3_4 S0 V kl_X2_36 dX2_fail_9 (fun H locs I1 e_I1 V => ?_)
    replace hf := qf_let_e e_I1 hf
    refine lv_aload_n hx hb dX2_fail_12 rfl (lv_at hl 0 rfl) ?_
    refine lv_aload_n hx hb dX2_fail_13 rfl (lv_at hl 0 rfl) ?_
    refine gfO_3_0 S0 V kl_X2_12 dX2_fail_14 ?_
    refine gfO_4_3 S0 V kl_X2_59 dX2_fail_17 ?_
    refine pfO_3_5 S0 V kl_X2_39 dX2_fail_20 (fun H locs I2 e_I2 V => ?_)
    replace hf := qf_let_e e_I2 hf
    have hE := Option.some.inj hf
    exact qw_vreti S0 hr hlocks hQ (by rw [hE]) V dX2_fail_23
theorem kd_X6_settingWord : yX6_settingWord.cls = RX6 ∧ yX6_settingWord.cls ≠ "java/lang/invoke/MethodHandle" ∧ yX6_settingWord.cls ≠ "java/lang/invoke/VarHandle" ∧ (parseMethodDescriptor yX6_settingWord.desc).map (fun d => d.parameters.length) = some 0 := by decide +kernel
def f_X6_settingWord (I : Nat → Int32) (A : Nat → Nat → Int32) (T : Nat) : Option (Int32) :=
  qf_bd (f_X6_isWord I A T qb_give) fun r1 =>
  if r1 = 0 then (qf_bd (f_X6_isWord I A T qb_take) fun r2 =>
    if r2 = 0 then (qf_bd (f_X6_isWord I A T qb_tolerance) fun r3 =>
      if r3 = 0 then (some ((-1 : Int32))) else (some ((2 : Int32)))) else (some ((1 : Int32)))) else (some ((0 : Int32)))
abbrev wz_X6_settingWord : List Cond := Cond.code yX6_settingWord cX6_settingWord 1 (some .int) :: qw_big
def rm_X6_settingWord : Room := { frames := 5, cells := 0, slots := 0, locals := 153 }
set_option maxHeartbeats 4000000 in
set_option maxRecDepth 100000 in
theorem c_X6_settingWord (l : Launch) {D : va_G} {cy : Nat → ClassId} {ad : Nat → Nat} {I : Nat → Int32} {A : Nat → Nat → Int32} {G : Nat → Int32 × (Nat → Nat → Int32)} {T : Nat}  {rv : Int32} {sz : Nat} (hf : f_X6_settingWord I A T = some (rv)) : Met l yX6_settingWord wz_X6_settingWord rm_X6_settingWord (va_Pc [.ref (ad 4)] (qw_Pre D cy (Wo cy ad I A G T) sz)) (qw_R (some (.int rv))) 0 0 (fun _ => False) := by
  refine qw_of (cc := cX6_settingWord) (maxL := 1) (ret := (some .int)) (by decide) (Nat.le_of_ble_eq_true rfl) ?_
  intro p e s m args below meth c ls S0 hr hlocks hsz V hl
  have S0 : CallFix p m c cX6_settingWord 1 s args qw_big RX6 := S0
  have hx := S0.1; have hb := S0.2.1; have hown := S0.2.2.2.1; have hts := S0.2.2.2.2
  have hl : lv_has ls 1 [(0, .ref (ad 4))] := hl
  obtain ⟨Q9, hQ⟩ : ∃ q, q = MQ below (qw_R (some (.int rv))) args s 0 0 (fun _ => False) := ⟨_, rfl⟩
  rw [← hQ]
  generalize va_A (Wo cy ad I A G T) sz = Z9 at V
  unfold f_X6_settingWord at hf
  refine lv_aload_n hx hb dX6_settingWord_0 rfl (lv_at hl 0 rfl) ?_
  obtain ⟨a_1, hR_1, hS_1⟩ := V.2.2.2.2.2.2.2.2.2.2.2.1 _ (List.mem_of_getElem? (i := 12) rfl)
  refine va_ldcS hx hb hown hR_1 dX6_settingWord_1 ?_
  obtain ⟨r1, hc_3, hf⟩ := qf_bd_e hf
  refine qs_cVR (rest := []) (st1 := [.int r1]) S0 V hl (va_recv (ci := 5) V.2.1 V.1 rfl gO_4) (qs_S V hS_1) qs_Sc (c_X6_isWord l (bs := qb_give) (by decide) hc_3) kg_X6_52 rfl ⟨rfl, rfl⟩ kd_X6_isWord ⟨Nat.le_of_ble_eq_true rfl, Nat.le_of_ble_eq_true rfl⟩ rfl rfl (Nat.le_of_ble_eq_true rfl) ⟨Nat.zero_le _, Nat.zero_le _⟩ rfl dX6_settingWord_3 ?_
  refine lv_if_eq (tgt := 11) hx hb dX6_settingWord_6 (by decide) (fun c_6 => ?_) (fun c_6 => ?_)
  · replace hf := qf_t c_6 hf
    refine lv_aload_n hx hb dX6_settingWord_11 rfl (lv_at hl 0 rfl) ?_
    obtain ⟨a_12, hR_12, hS_12⟩ := V.2.2.2.2.2.2.2.2.2.2.2.1 _ (List.mem_of_getElem? (i := 13) rfl)
    refine va_ldcS hx hb hown hR_12 dX6_settingWord_12 ?_
    obtain ⟨r2, hc_14, hf⟩ := qf_bd_e hf
    refine qs_cVR (rest := []) (st1 := [.int r2]) S0 V hl (va_recv (ci := 5) V.2.1 V.1 rfl gO_4) (qs_S V hS_12) qs_Sc (c_X6_isWord l (bs := qb_take) (by decide) hc_14) kg_X6_52 rfl ⟨rfl, rfl⟩ kd_X6_isWord ⟨Nat.le_of_ble_eq_true rfl, Nat.le_of_ble_eq_true rfl⟩ rfl rfl (Nat.le_of_ble_eq_true rfl) ⟨Nat.zero_le _, Nat.zero_le _⟩ rfl dX6_settingWord_14 ?_
    refine lv_if_eq (tgt := 22) hx hb dX6_settingWord_17 (by decide) (fun c_17 => ?_) (fun c_17 => ?_)
    · replace hf := qf_t c_17 hf
      refine lv_aload_n hx hb dX6_settingWord_22 rfl (lv_at hl 0 rfl) ?_
      obtain ⟨a_23, hR_23, hS_23⟩ := V.2.2.2.2.2.2.2.2.2.2.2.1 _ (List.mem_of_getElem? (i := 14) rfl)
      refine va_ldcS hx hb hown hR_23 dX6_settingWord_23 ?_
      obtain ⟨r3, hc_25, hf⟩ := qf_bd_e hf
      refine qs_cVR (rest := []) (st1 := [.int r3]) S0 V hl (va_recv (ci := 5) V.2.1 V.1 rfl gO_4) (qs_S V hS_23) qs_Sc (c_X6_isWord l (bs := qb_tolerance) (by decide) hc_25) kg_X6_52 rfl ⟨rfl, rfl⟩ kd_X6_isWord ⟨Nat.le_of_ble_eq_true rfl, Nat.le_of_ble_eq_true rfl⟩ rfl rfl (Nat.le_of_ble_eq_true rfl) ⟨Nat.zero_le _, Nat.zero_le _⟩ rfl dX6_settingWord_25 ?_
      refine lv_if_eq (tgt := 35) hx hb dX6_settingWord_28 (by decide) (fun c_28 => ?_) (fun c_28 => ?_)
      · replace hf := qf_t c_28 hf
        refine lv_iconst (v := -1) hx hb dX6_settingWord_35 (by decide) ?_
        have hE := Option.some.inj hf
        exact qw_iretR S0 hr hlocks hQ hE dX6_settingWord_36
      · replace hf := qf_f c_28 hf
        refine lv_iconst (v := 2) hx hb dX6_settingWord_31 (by decide) ?_
        refine lv_goto (tgt := 36) hx hb dX6_settingWord_32 (by decide) ?_
        have hE := Option.some.inj hf
        exact qw_iretR S0 hr hlocks hQ hE dX6_settingWord_36
    · replace hf := qf_f c_17 hf
      refine lv_iconst (v := 1) hx hb dX6_settingWord_20 (by decide) ?_
      have hE := Option.some.inj hf
      exact qw_iretR S0 hr hlocks hQ hE dX6_settingWord_21
  · replace hf := qf_f c_6 hf
    refine lv_iconst (v := 0) hx hb dX6_settingWord_9 (by decide) ?_
    have hE := Option.some.inj hf
    exact qw_iretR S0 hr hlocks hQ hE dX6_settingWord_10
theorem kd_X2_passUnless : yX2_passUnless.cls = RX2 ∧ yX2_passUnless.cls ≠ "java/lang/invoke/MethodHandle" ∧ yX2_passUnless.cls ≠ "java/lang/invoke/VarHandle" ∧ (parseMethodDescriptor yX2_passUnless.desc).map (fun d => d.parameters.length) = some 1 := by decide +kernel
def f_X2_passUnless_j10 (A : Nat → Nat → Int32) (T : Nat)  (I : Nat → Int32) : Option ((Nat → Int32)) :=
  if (I 3) = 0 then (qf_bd (f_X6_advance A T I) fun I2 =>
    some (I2)) else (some (I))
def f_X2_passUnless (A : Nat → Nat → Int32) (T : Nat) (I : Nat → Int32) (p1 : Int32) : Option ((Nat → Int32)) :=
  if p1 = 0 then (f_X2_passUnless_j10 A T I) else (qf_bd (f_X2_fail I (-14 : Int32)) fun I1 =>
    f_X2_passUnless_j10 A T I1)
abbrev wz_X2_passUnless : List Cond := Cond.code yX2_passUnless cX2_passUnless 2 none :: qw_big
def rm_X2_passUnless : Room := { frames := 2, cells := 0, slots := 0, locals := 82 }
set_option maxHeartbeats 4000000 in
set_option maxRecDepth 100000 in
theorem c_X2_passUnless (l : Launch) {D : va_G} {cy : Nat → ClassId} {ad : Nat → Nat} {I : Nat → Int32} {A : Nat → Nat → Int32} {G : Nat → Int32 × (Nat → Nat → Int32)} {T : Nat} {p1 : Int32} {I9 : Nat → Int32} {sz : Nat} (hf : f_X2_passUnless A T I p1 = some (I9)) : Met l yX2_passUnless wz_X2_passUnless rm_X2_passUnless (va_Pc [.ref (ad 3), .int p1] (qw_Pre D cy (Wo cy ad I A G T) sz)) (qw_Q none D (Wo cy ad I9 A G T) (va_A (Wo cy ad I A G T) sz)) 0 0 (va_A (Wo cy ad I A G T) sz) := by
  refine qw_of (cc := cX2_passUnless) (maxL := 2) (ret := none) (by decide) (Nat.le_of_ble_eq_true rfl) ?_
  intro p e s m args below meth c ls S0 hr hlocks hsz V hl
  have S0 : CallFix p m c cX2_passUnless 2 s args qw_big RX2 := S0
  have hx := S0.1; have hb := S0.2.1; have hown := S0.2.2.2.1; have hts := S0.2.2.2.2
  have hl : lv_has ls 2 [(0, .ref (ad 3)), (1, .int p1)] := hl
  generalize va_A (Wo cy ad I A G T) sz = Z9 at V ⊢
  obtain ⟨Q9, hQ⟩ : ∃ q, q = MQ below (qw_Q none D (Wo cy ad I9 A G T) Z9) args s 0 0 Z9 := ⟨_, rfl⟩
  rw [← hQ]
  clear hsz
  have J_10 : ∀  {I : Nat → Int32}  {H : Heap} {locs : List Loc} {ls : Array Slot}, f_X2_passUnless_j10 A T I = some (I9) → qw_V D cy Z9 s (Wo cy ad I A G T) H locs → lv_has ls 2 [(0, .ref (ad 3))] → W p l e rm_X2_passUnless s m args below meth c H locs 0 0 Q9 (F0 m 10 ls []) := by
    intro I H locs ls hf V hl
    unfold f_X2_passUnless_j10 at hf
    refine lv_aload_n hx hb dX2_passUnless_10 rfl (lv_at hl 0 rfl) ?_
    refine gfO_3_4 S0 V kl_X2_36 dX2_passUnless_11 ?_
    refine lv_if_ne (tgt := 24) hx hb dX2_passUnless_14 (by decide) (fun c_14 => ?_) (fun c_14 => ?_)
    · replace hf := qf_f c_14 hf
      have hE := Option.some.inj hf
      exact qw_vreti S0 hr hlocks hQ (by rw [hE]) V dX2_passUnless_24
    · replace hf := qf_t c_14 hf
      refine lv_aload_n hx hb dX2_passUnless_17 rfl (lv_at hl 0 rfl) ?_
      refine gfO_3_0 S0 V kl_X2_12 dX2_passUnless_18 ?_
      obtain ⟨I2, hc_21, hf⟩ := qf_bd_e hf
      refine qw_cV (rest := []) (st1 := []) S0 V hl 4 gO_4 rfl (c_X6_advance l hc_21) kg_X2_100 rfl ⟨rfl, rfl⟩ kd_X6_advance ⟨Nat.le_of_ble_eq_true rfl, Nat.le_of_ble_eq_true rfl⟩ rfl rfl (Nat.le_of_ble_eq_true rfl) ⟨Nat.zero_le _, Nat.zero_le _⟩ rfl dX2_passUnless_21 (fun H locs V => ?_)
      have hE := Option.some.inj hf
      exact qw_vreti S0 hr hlocks hQ (by rw [hE]) V dX2_passUnless_24
  unfold f_X2_passUnless at hf
  refine lv_iload_n hx hb dX2_passUnless_0 rfl (lv_at hl 1 rfl) ?_
  refine lv_if_eq (tgt := 10) hx hb dX2_passUnless_1 (by decide) (fun c_1 => ?_) (fun c_1 => ?_)
  · replace hf := qf_t c_1 hf
    exact J_10 hf V (lv_sub hl [0] rfl)
  · replace hf := qf_f c_1 hf
    refine lv_aload_n hx hb dX2_passUnless_4 rfl (lv_at hl 0 rfl) ?_
    refine lv_bipush (v := -14) hx hb dX2_passUnless_5 (by decide) ?_
    obtain ⟨I1, hc_7, hf⟩ := qf_bd_e hf
    refine qw_cV (rest := []) (st1 := []) S0 V hl 3 gO_3 rfl (c_X2_fail l hc_7) kg_X2_96 rfl ⟨rfl, rfl⟩ kd_X2_fail ⟨Nat.le_of_ble_eq_true rfl, Nat.le_of_ble_eq_true rfl⟩ rfl rfl (Nat.le_of_ble_eq_true rfl) ⟨Nat.zero_le _, Nat.zero_le _⟩ rfl dX2_passUnless_7 (fun H locs V => ?_)
    exact J_10 hf V (lv_sub hl [0] rfl)
theorem kd_X6_integer : yX6_integer.cls = RX6 ∧ yX6_integer.cls ≠ "java/lang/invoke/MethodHandle" ∧ yX6_integer.cls ≠ "java/lang/invoke/VarHandle" ∧ (parseMethodDescriptor yX6_integer.desc).map (fun d => d.parameters.length) = some 0 := by decide +kernel
def f_X6_integer_l7 (I : Nat → Int32) (A : Nat → Nat → Int32) (T : Nat)   : Nat → Int32 → Int32 → Option (Int32)
  | 0, _, _ => none
  | n + 1, y1, y2 =>
  if (I 6) ≤ y2 then (some (y1)) else (qf_ck (T = 1) <|
    qf_ld 800 (A 0) y2 fun x2 =>
    qf_let ((if (100000 : Int32) < (((y1 * (10 : Int32)) + x2) - (48 : Int32)) then (100000 : Int32) else (((y1 * (10 : Int32)) + x2) - (48 : Int32)))) fun x3 =>
    qf_let (y2 + (1 : Int32)) fun x4 =>
    f_X6_integer_l7 I A T n x3 x4)
def f_X6_integer (I : Nat → Int32) (A : Nat → Nat → Int32) (T : Nat) : Option (Int32) :=
  qf_let ((I 7)) fun x1 =>
  f_X6_integer_l7 I A T 100000 (0 : Int32) x1
abbrev wz_X6_integer : List Cond := Cond.code yX6_integer cX6_integer 3 (some .int) :: qw_big
def rm_X6_integer : Room := { frames := 1, cells := 0, slots := 0, locals := 60 }
set_option maxHeartbeats 4000000 in
set_option maxRecDepth 100000 in
theorem c_X6_integer (l : Launch) {D : va_G} {cy : Nat → ClassId} {ad : Nat → Nat} {I : Nat → Int32} {A : Nat → Nat → Int32} {G : Nat → Int32 × (Nat → Nat → Int32)} {T : Nat}  {rv : Int32} {sz : Nat} (hf : f_X6_integer I A T = some (rv)) : Met l yX6_integer wz_X6_integer rm_X6_integer (va_Pc [.ref (ad 4)] (qw_Pre D cy (Wo cy ad I A G T) sz)) (qw_R (some (.int rv))) 0 0 (fun _ => False) := by
  refine qw_of (cc := cX6_integer) (maxL := 3) (ret := (some .int)) (by decide) (Nat.le_of_ble_eq_true rfl) ?_
  intro p e s m args below meth c ls S0 hr hlocks hsz V hl
  have S0 : CallFix p m c cX6_integer 3 s args qw_big RX6 := S0
  have hx := S0.1; have hb := S0.2.1; have hown := S0.2.2.2.1; have hts := S0.2.2.2.2
  have hl : lv_has ls 3 [(0, .ref (ad 4))] := hl
  obtain ⟨Q9, hQ⟩ : ∃ q, q = MQ below (qw_R (some (.int rv))) args s 0 0 (fun _ => False) := ⟨_, rfl⟩
  rw [← hQ]
  generalize va_A (Wo cy ad I A G T) sz = Z9 at V
  have L_7 : ∀   {n : Nat}  {y1 : Int32} {y2 : Int32} {ls : Array Slot}, f_X6_integer_l7 I A T n y1 y2 = some (rv) → lv_has ls 3 [(0, .ref (ad 4)), (1, .int y1), (2, .int y2)] → W p l e rm_X6_integer s m args below meth c s.heap [] 0 0 Q9 (F0 m 7 ls []) := by
    intro n
    induction n with
    | zero => intro y1 y2 ls hf hl; exact qf_no hf
    | succ n ih =>
      intro y1 y2 ls hf hl
      rw [f_X6_integer_l7] at hf
      refine lv_iload_n hx hb dX6_integer_7 rfl (lv_at hl 2 rfl) ?_
      refine lv_aload_n hx hb dX6_integer_8 rfl (lv_at hl 0 rfl) ?_
      refine gfO_4_2 S0 V kl_X6_19 dX6_integer_9 ?_
      refine lv_icmp_ge (tgt := 41) hx hb dX6_integer_12 (by decide) (fun c_12 => ?_) (fun c_12 => ?_)
      · replace hf := qf_t c_12 hf
        refine lv_iload_n hx hb dX6_integer_41 rfl (lv_at hl 1 rfl) ?_
        have hE := Option.some.inj hf
        exact qw_iretR S0 hr hlocks hQ hE dX6_integer_42
      · replace hf := qf_f c_12 hf
        refine lv_iload_n hx hb dX6_integer_15 rfl (lv_at hl 1 rfl) ?_
        refine lv_bipush (v := 10) hx hb dX6_integer_16 (by decide) ?_
        refine lv_imul hx hb dX6_integer_18 ?_
        refine lv_aload_n hx hb dX6_integer_19 rfl (lv_at hl 0 rfl) ?_
        refine gfO_4_0 S0 V kl_X6_9 dX6_integer_20 ?_
        obtain ⟨h_T, hf⟩ := qf_ck_e hf
        rw [h_T]
        refine lv_iload_n hx hb dX6_integer_23 rfl (lv_at hl 2 rfl) ?_
        have h_24 := qf_ld_in hf
        refine alO_1 S0 V h_24 dX6_integer_24 ?_
        refine lv_topi (fun x2 e_x2 => ?_)
        replace hf := qf_ld_e e_x2 hf
        refine lv_iadd hx hb dX6_integer_25 ?_
        refine lv_bipush (v := 48) hx hb dX6_integer_26 (by decide) ?_
        refine lv_isub hx hb dX6_integer_28 ?_
        refine lv_ldc (v := 100000) hx hb hown (hts _ kct_X6_72) dX6_integer_29 ?_
        refine qw_min S0 hl.1 kml_X6_28 (Nat.le_of_ble_eq_true rfl) (Nat.le_of_ble_eq_true rfl) (Nat.zero_le _) (Nat.zero_le _) dX6_integer_31 ?_
        refine lv_topi (fun x3 e_x3 => ?_)
        replace hf := qf_let_e e_x3 hf
        refine lv_istore_n (lv' := [(1, .int x3), (0, .ref (ad 4)), (2, .int y2)]) hx hb dX6_integer_34 rfl hl (by decide) rfl (fun ls hl => ?_)
        obtain ⟨x4, e_x4⟩ : ∃ y : Int32, y = y2 + (1 : Int32) := ⟨_, rfl⟩
        refine lv_iinc (v := x4) (lv' := [(2, .int x4), (1, .int x3), (0, .ref (ad 4))]) hx hb dX6_integer_35 hl (k := 2) rfl (by rw [e_x4]; rfl) (by decide) rfl (fun ls hl => ?_)
        replace hf := qf_let_e e_x4 hf
        refine lv_goto (tgt := 7) hx hb dX6_integer_38 (by decide) ?_
        exact ih hf (lv_sub hl [2, 1, 0] rfl)
  unfold f_X6_integer at hf
  refine lv_iconst (v := 0) hx hb dX6_integer_0 (by decide) ?_
  refine lv_istore_n (lv' := [(1, .int (0 : Int32)), (0, .ref (ad 4))]) hx hb dX6_integer_1 rfl hl (by decide) rfl (fun ls hl => ?_)
  refine lv_aload_n hx hb dX6_integer_2 rfl (lv_at hl 1 rfl) ?_
  refine gfO_4_3 S0 V kl_X6_22 dX6_integer_3 ?_
  refine lv_topi (fun x1 e_x1 => ?_)
  replace hf := qf_let_e e_x1 hf
  refine lv_istore_n (lv' := [(2, .int x1), (1, .int (0 : Int32)), (0, .ref (ad 4))]) hx hb dX6_integer_6 rfl hl (by decide) rfl (fun ls hl => ?_)
  exact L_7 hf (lv_sub hl [2, 1, 0] rfl)
theorem kd_X2_readInteger : yX2_readInteger.cls = RX2 ∧ yX2_readInteger.cls ≠ "java/lang/invoke/MethodHandle" ∧ yX2_readInteger.cls ≠ "java/lang/invoke/VarHandle" ∧ (parseMethodDescriptor yX2_readInteger.desc).map (fun d => d.parameters.length) = some 2 := by decide +kernel
def f_X2_readInteger_j41 (A : Nat → Nat → Int32) (T : Nat)  (I : Nat → Int32) (y3 : Int32) : Option (Int32 × (Nat → Int32)) :=
  if (I 3) = 0 then (qf_bd (f_X6_advance A T I) fun I4 =>
    some (y3, I4)) else (some ((0 : Int32), I))
def f_X2_readInteger_j35 (A : Nat → Nat → Int32) (T : Nat)  (I : Nat → Int32) (y3 : Int32) : Option (Int32 × (Nat → Int32)) :=
  qf_bd (f_X2_fail I (-12 : Int32)) fun I3 =>
  f_X2_readInteger_j41 A T I3 y3
def f_X2_readInteger_j17 (A : Nat → Nat → Int32) (T : Nat)  (I : Nat → Int32) (y1 : Int32) (y2 : Int32) : Option (Int32 × (Nat → Int32)) :=
  qf_bd (f_X6_integer I A T) fun r2 =>
  if r2 < y1 then (f_X2_readInteger_j35 A T I r2) else (if r2 ≤ y2 then (f_X2_readInteger_j41 A T I r2) else (f_X2_readInteger_j35 A T I r2))
def f_X2_readInteger (A : Nat → Nat → Int32) (T : Nat) (I : Nat → Int32) (p1 : Int32) (p2 : Int32) : Option (Int32 × (Nat → Int32)) :=
  if (I 8) = (2 : Int32) then (f_X2_readInteger_j17 A T I p1 p2) else (qf_bd (f_X2_fail I (-11 : Int32)) fun I1 =>
    f_X2_readInteger_j17 A T I1 p1 p2)
abbrev wz_X2_readInteger : List Cond := Cond.code yX2_readInteger cX2_readInteger 4 (some .int) :: qw_big
def rm_X2_readInteger : Room := { frames := 2, cells := 0, slots := 0, locals := 82 }
set_option maxHeartbeats 4000000 in
set_option maxRecDepth 100000 in
theorem c_X2_readInteger (l : Launch) {D : va_G} {cy : Nat → ClassId} {ad : Nat → Nat} {I : Nat → Int32} {A : Nat → Nat → Int32} {G : Nat → Int32 × (Nat → Nat → Int32)} {T : Nat} {p1 : Int32} {p2 : Int32} {rv : Int32} {I9 : Nat → Int32} {sz : Nat} (hf : f_X2_readInteger A T I p1 p2 = some (rv, I9)) : Met l yX2_readInteger wz_X2_readInteger rm_X2_readInteger (va_Pc [.ref (ad 3), .int p1, .int p2] (qw_Pre D cy (Wo cy ad I A G T) sz)) (qw_Q (some (.int rv)) D (Wo cy ad I9 A G T) (va_A (Wo cy ad I A G T) sz)) 0 0 (va_A (Wo cy ad I A G T) sz) := by
  refine qw_of (cc := cX2_readInteger) (maxL := 4) (ret := (some .int)) (by decide) (Nat.le_of_ble_eq_true rfl) ?_
  intro p e s m args below meth c ls S0 hr hlocks hsz V hl
  have S0 : CallFix p m c cX2_readInteger 4 s args qw_big RX2 := S0
  have hx := S0.1; have hb := S0.2.1; have hown := S0.2.2.2.1; have hts := S0.2.2.2.2
  have hl : lv_has ls 4 [(0, .ref (ad 3)), (1, .int p1), (2, .int p2)] := hl
  generalize va_A (Wo cy ad I A G T) sz = Z9 at V ⊢
  obtain ⟨Q9, hQ⟩ : ∃ q, q = MQ below (qw_Q (some (.int rv)) D (Wo cy ad I9 A G T) Z9) args s 0 0 Z9 := ⟨_, rfl⟩
  rw [← hQ]
  clear hsz
  have J_41 : ∀  {I : Nat → Int32} {y3 : Int32} {H : Heap} {locs : List Loc} {ls : Array Slot}, f_X2_readInteger_j41 A T I y3 = some (rv, I9) → qw_V D cy Z9 s (Wo cy ad I A G T) H locs → lv_has ls 4 [(0, .ref (ad 3)), (3, .int y3)] → W p l e rm_X2_readInteger s m args below meth c H locs 0 0 Q9 (F0 m 41 ls []) := by
    intro I y3 H locs ls hf V hl
    unfold f_X2_readInteger_j41 at hf
    refine lv_aload_n hx hb dX2_readInteger_41 rfl (lv_at hl 0 rfl) ?_
    refine gfO_3_4 S0 V kl_X2_36 dX2_readInteger_42 ?_
    refine lv_if_eq (tgt := 50) hx hb dX2_readInteger_45 (by decide) (fun c_45 => ?_) (fun c_45 => ?_)
    · replace hf := qf_t c_45 hf
      refine lv_aload_n hx hb dX2_readInteger_50 rfl (lv_at hl 0 rfl) ?_
      refine gfO_3_0 S0 V kl_X2_12 dX2_readInteger_51 ?_
      obtain ⟨I4, hc_54, hf⟩ := qf_bd_e hf
      refine qw_cV (rest := []) (st1 := []) S0 V hl 4 gO_4 rfl (c_X6_advance l hc_54) kg_X2_100 rfl ⟨rfl, rfl⟩ kd_X6_advance ⟨Nat.le_of_ble_eq_true rfl, Nat.le_of_ble_eq_true rfl⟩ rfl rfl (Nat.le_of_ble_eq_true rfl) ⟨Nat.zero_le _, Nat.zero_le _⟩ rfl dX2_readInteger_54 (fun H locs V => ?_)
      refine lv_iload_n hx hb dX2_readInteger_57 rfl (lv_at hl 1 rfl) ?_
      have hE := Option.some.inj hf
      obtain ⟨e0, hE⟩ := qf_pr hE
      exact qw_ireti S0 hr hlocks hQ e0 (by rw [hE]) V dX2_readInteger_58
    · replace hf := qf_f c_45 hf
      refine lv_iconst (v := 0) hx hb dX2_readInteger_48 (by decide) ?_
      have hE := Option.some.inj hf
      obtain ⟨e0, hE⟩ := qf_pr hE
      exact qw_ireti S0 hr hlocks hQ e0 (by rw [hE]) V dX2_readInteger_49
  have J_35 : ∀  {I : Nat → Int32} {y3 : Int32} {H : Heap} {locs : List Loc} {ls : Array Slot}, f_X2_readInteger_j35 A T I y3 = some (rv, I9) → qw_V D cy Z9 s (Wo cy ad I A G T) H locs → lv_has ls 4 [(0, .ref (ad 3)), (3, .int y3)] → W p l e rm_X2_readInteger s m args below meth c H locs 0 0 Q9 (F0 m 35 ls []) := by
    intro I y3 H locs ls hf V hl
    unfold f_X2_readInteger_j35 at hf
    refine lv_aload_n hx hb dX2_readInteger_35 rfl (lv_at hl 0 rfl) ?_
    refine lv_bipush (v := -12) hx hb dX2_readInteger_36 (by decide) ?_
    obtain ⟨I3, hc_38, hf⟩ := qf_bd_e hf
    refine qw_cV (rest := []) (st1 := []) S0 V hl 3 gO_3 rfl (c_X2_fail l hc_38) kg_X2_96 rfl ⟨rfl, rfl⟩ kd_X2_fail ⟨Nat.le_of_ble_eq_true rfl, Nat.le_of_ble_eq_true rfl⟩ rfl rfl (Nat.le_of_ble_eq_true rfl) ⟨Nat.zero_le _, Nat.zero_le _⟩ rfl dX2_readInteger_38 (fun H locs V => ?_)
    exact J_41 hf V (lv_sub hl [0, 1] rfl)
  have J_17 : ∀  {I : Nat → Int32} {y1 : Int32} {y2 : Int32} {H : Heap} {locs : List Loc} {ls : Array Slot}, f_X2_readInteger_j17 A T I y1 y2 = some (rv, I9) → qw_V D cy Z9 s (Wo cy ad I A G T) H locs → lv_has ls 4 [(0, .ref (ad 3)), (1, .int y1), (2, .int y2)] → W p l e rm_X2_readInteger s m args below meth c H locs 0 0 Q9 (F0 m 17 ls []) := by
    intro I y1 y2 H locs ls hf V hl
    unfold f_X2_readInteger_j17 at hf
    refine lv_aload_n hx hb dX2_readInteger_17 rfl (lv_at hl 0 rfl) ?_
    refine gfO_3_0 S0 V kl_X2_12 dX2_readInteger_18 ?_
    obtain ⟨r2, hc_21, hf⟩ := qf_bd_e hf
    refine qw_cVR (rest := []) (st1 := [.int r2]) S0 V hl 4 gO_4 rfl (c_X6_integer l hc_21) kg_X2_103 rfl ⟨rfl, rfl⟩ kd_X6_integer ⟨Nat.le_of_ble_eq_true rfl, Nat.le_of_ble_eq_true rfl⟩ rfl rfl (Nat.le_of_ble_eq_true rfl) ⟨Nat.zero_le _, Nat.zero_le _⟩ rfl dX2_readInteger_21 ?_
    refine lv_istore_n (lv' := [(3, .int r2), (0, .ref (ad 3)), (1, .int y1), (2, .int y2)]) hx hb dX2_readInteger_24 rfl hl (by decide) rfl (fun ls hl => ?_)
    refine lv_iload_n hx hb dX2_readInteger_25 rfl (lv_at hl 0 rfl) ?_
    refine lv_iload_n hx hb dX2_readInteger_26 rfl (lv_at hl 2 rfl) ?_
    refine lv_icmp_lt (tgt := 35) hx hb dX2_readInteger_27 (by decide) (fun c_27 => ?_) (fun c_27 => ?_)
    · replace hf := qf_t c_27 hf
      exact J_35 hf V (lv_sub hl [1, 0] rfl)
    · replace hf := qf_f c_27 hf
      refine lv_iload_n hx hb dX2_readInteger_30 rfl (lv_at hl 0 rfl) ?_
      refine lv_iload_n hx hb dX2_readInteger_31 rfl (lv_at hl 3 rfl) ?_
      refine lv_icmp_le (tgt := 41) hx hb dX2_readInteger_32 (by decide) (fun c_32 => ?_) (fun c_32 => ?_)
      · replace hf := qf_t c_32 hf
        exact J_41 hf V (lv_sub hl [1, 0] rfl)
      · replace hf := qf_f c_32 hf
        exact J_35 hf V (lv_sub hl [1, 0] rfl)
  unfold f_X2_readInteger at hf
  refine lv_aload_n hx hb dX2_readInteger_0 rfl (lv_at hl 0 rfl) ?_
  refine gfO_3_0 S0 V kl_X2_12 dX2_readInteger_1 ?_
  refine gfO_4_4 S0 V kl_X2_50 dX2_readInteger_4 ?_
  refine lv_iconst (v := 2) hx hb dX2_readInteger_7 (by decide) ?_
  refine lv_icmp_eq (tgt := 17) hx hb dX2_readInteger_8 (by decide) (fun c_8 => ?_) (fun c_8 => ?_)
  · replace hf := qf_t c_8 hf
    exact J_17 hf V (lv_sub hl [0, 1, 2] rfl)
  · replace hf := qf_f c_8 hf
    refine lv_aload_n hx hb dX2_readInteger_11 rfl (lv_at hl 0 rfl) ?_
    refine lv_bipush (v := -11) hx hb dX2_readInteger_12 (by decide) ?_
    obtain ⟨I1, hc_14, hf⟩ := qf_bd_e hf
    refine qw_cV (rest := []) (st1 := []) S0 V hl 3 gO_3 rfl (c_X2_fail l hc_14) kg_X2_96 rfl ⟨rfl, rfl⟩ kd_X2_fail ⟨Nat.le_of_ble_eq_true rfl, Nat.le_of_ble_eq_true rfl⟩ rfl rfl (Nat.le_of_ble_eq_true rfl) ⟨Nat.zero_le _, Nat.zero_le _⟩ rfl dX2_readInteger_14 (fun H locs V => ?_)
    exact J_17 hf V (lv_sub hl [0, 1, 2] rfl)
theorem kd_X2_readSetting : yX2_readSetting.cls = RX2 ∧ yX2_readSetting.cls ≠ "java/lang/invoke/MethodHandle" ∧ yX2_readSetting.cls ≠ "java/lang/invoke/VarHandle" ∧ (parseMethodDescriptor yX2_readSetting.desc).map (fun d => d.parameters.length) = some 0 := by decide +kernel
def f_X2_readSetting_j43 (A : Nat → Nat → Int32) (T : Nat)  (I : Nat → Int32) (y1 : Int32) (s0 : Int32) : Option ((Nat → Int32) × (Nat → Nat → Int32)) :=
  qf_bd (f_X2_passUnless A T I s0) fun I4 =>
  qf_let (upd I4 2 ((I4 2) ||| ((1 : Int32) <<< (y1 &&& 31)))) fun I5 =>
  qf_ld 3 (fun j => ([999, 999, 9999] : List Int32).getD j 0) y1 fun x6 =>
  qf_bd2 (f_X2_readInteger A T I5 (0 : Int32) x6) fun r7 I8 =>
  qf_st 3 y1 fun i10 =>
  qf_let (qf_up A 49 (upd (A 49) i10 r7)) fun A9 =>
  some (I8, A9)
def f_X2_readSetting (T : Nat) (I : Nat → Int32) (A : Nat → Nat → Int32) : Option ((Nat → Int32) × (Nat → Nat → Int32)) :=
  qf_bd (f_X6_advance A T I) fun I1 =>
  qf_bd (f_X6_settingWord I1 A T) fun r2 =>
  if 0 ≤ r2 then (if ((I1 2) &&& ((1 : Int32) <<< (r2 &&& 31))) = 0 then (f_X2_readSetting_j43 A T I1 r2 (0 : Int32)) else (f_X2_readSetting_j43 A T I1 r2 (1 : Int32))) else (qf_bd (f_X2_fail I1 (-11 : Int32)) fun I3 =>
    some (I3, A))
abbrev wz_X2_readSetting : List Cond := Cond.code yX2_readSetting cX2_readSetting 2 none :: qw_big
def rm_X2_readSetting : Room := { frames := 6, cells := 0, slots := 0, locals := 173 }
set_option maxHeartbeats 4000000 in
set_option maxRecDepth 100000 in
theorem c_X2_readSetting (l : Launch) {D : va_G} {cy : Nat → ClassId} {ad : Nat → Nat} {I : Nat → Int32} {A : Nat → Nat → Int32} {G : Nat → Int32 × (Nat → Nat → Int32)} {T : Nat}  {I9 : Nat → Int32} {A9 : Nat → Nat → Int32} {sz : Nat} (hf : f_X2_readSetting T I A = some (I9, A9)) : Met l yX2_readSetting wz_X2_readSetting rm_X2_readSetting (va_Pc [.ref (ad 3)] (qw_Pre D cy (Wo cy ad I A G T) sz)) (qw_Q none D (Wo cy ad I9 A9 G T) (va_A (Wo cy ad I A G T) sz)) 0 0 (va_A (Wo cy ad I A G T) sz) := by
  refine qw_of (cc := cX2_readSetting) (maxL := 2) (ret := none) (by decide) (Nat.le_of_ble_eq_true rfl) ?_
  intro p e s m args below meth c ls S0 hr hlocks hsz V hl
  have S0 : CallFix p m c cX2_readSetting 2 s args qw_big RX2 := S0
  have hx := S0.1; have hb := S0.2.1; have hown := S0.2.2.2.1; have hts := S0.2.2.2.2
  have hl : lv_has ls 2 [(0, .ref (ad 3))] := hl
  generalize va_A (Wo cy ad I A G T) sz = Z9 at V ⊢
  obtain ⟨Q9, hQ⟩ : ∃ q, q = MQ below (qw_Q none D (Wo cy ad I9 A9 G T) Z9) args s 0 0 Z9 := ⟨_, rfl⟩
  rw [← hQ]
  clear hsz
  have J_43 : ∀  {I : Nat → Int32} {y1 : Int32} {s0 : Int32} {H : Heap} {locs : List Loc} {ls : Array Slot}, f_X2_readSetting_j43 A T I y1 s0 = some (I9, A9) → qw_V D cy Z9 s (Wo cy ad I A G T) H locs → lv_has ls 2 [(0, .ref (ad 3)), (1, .int y1)] → W p l e rm_X2_readSetting s m args below meth c H locs 0 0 Q9 (F0 m 43 ls [.int s0, .ref (ad 3)]) := by
    intro I y1 s0 H locs ls hf V hl
    unfold f_X2_readSetting_j43 at hf
    obtain ⟨I4, hc_43, hf⟩ := qf_bd_e hf
    refine qw_cV (rest := []) (st1 := []) S0 V hl 3 gO_3 rfl (c_X2_passUnless l hc_43) kg_X2_155 rfl ⟨rfl, rfl⟩ kd_X2_passUnless ⟨Nat.le_of_ble_eq_true rfl, Nat.le_of_ble_eq_true rfl⟩ rfl rfl (Nat.le_of_ble_eq_true rfl) ⟨Nat.zero_le _, Nat.zero_le _⟩ rfl dX2_readSetting_43 (fun H locs V => ?_)
    refine lv_aload_n hx hb dX2_readSetting_46 rfl (lv_at hl 0 rfl) ?_
    refine lv_dup hx hb dX2_readSetting_47 rfl ?_
    refine gfO_3_1 S0 V kl_X2_18 dX2_readSetting_48 ?_
    refine lv_iconst (v := 1) hx hb dX2_readSetting_51 (by decide) ?_
    refine lv_iload_n hx hb dX2_readSetting_52 rfl (lv_at hl 1 rfl) ?_
    refine lv_ishl hx hb dX2_readSetting_53 ?_
    refine lv_ior hx hb dX2_readSetting_54 ?_
    refine pfO_3_1 S0 V kl_X2_18 dX2_readSetting_55 (fun H locs I5 e_I5 V => ?_)
    replace hf := qf_let_e e_I5 hf
    refine lv_aload_n hx hb dX2_readSetting_58 rfl (lv_at hl 0 rfl) ?_
    refine gfO_3_3 S0 V kl_X2_32 dX2_readSetting_59 ?_
    refine gfO_58_3 S0 V kl_X2_198 dX2_readSetting_62 ?_
    refine lv_iload_n hx hb dX2_readSetting_65 rfl (lv_at hl 1 rfl) ?_
    refine lv_aload_n hx hb dX2_readSetting_66 rfl (lv_at hl 0 rfl) ?_
    refine lv_iconst (v := 0) hx hb dX2_readSetting_67 (by decide) ?_
    obtain ⟨tG, hZG, hTG⟩ := V.2.2.2.2.2.2.2.2.2.2.1
    refine va_getsN hx hb hZG V.2.2.2.1 hown (va_Nw.use rfl V.2.2.2.2.2.2.2.2.2.2.2.2.2.2.2.2.2.2.2.2.1) (fun _ h => h) dX2_readSetting_68 ?_
    refine lv_iload_n hx hb dX2_readSetting_71 rfl (lv_at hl 1 rfl) ?_
    have h_72 := qf_ld_in hf
    refine va_ti hx hb hTG V.2.2.2.1 h_72 rfl dX2_readSetting_72 ?_
    refine lv_topi (fun x6 e_x6 => ?_)
    replace hf := qf_ld_e e_x6 hf
    obtain ⟨r7, I8, hc_73, hf⟩ := qf_bd2_e hf
    refine qw_cV (rest := [.int y1, .ref (ad 61)]) (st1 := [.int r7, .int y1, .ref (ad 61)]) S0 V hl 3 gO_3 rfl (c_X2_readInteger l hc_73) kg_X2_135 rfl ⟨rfl, rfl⟩ kd_X2_readInteger ⟨Nat.le_of_ble_eq_true rfl, Nat.le_of_ble_eq_true rfl⟩ rfl rfl (Nat.le_of_ble_eq_true rfl) ⟨Nat.zero_le _, Nat.zero_le _⟩ rfl dX2_readSetting_73 (fun H locs V => ?_)
    have h_76 := qf_st_in hf
    replace hf := qf_st_e hf
    refine asO_61 S0 V h_76 dX2_readSetting_76 (fun H locs A9 e_A9 V => ?_)
    replace hf := qf_let_e e_A9 hf
    have hE := Option.some.inj hf
    obtain ⟨e0, hE⟩ := qf_pr hE
    exact qw_vreti S0 hr hlocks hQ (by rw [e0, hE]) V dX2_readSetting_77
  unfold f_X2_readSetting at hf
  refine lv_aload_n hx hb dX2_readSetting_0 rfl (lv_at hl 0 rfl) ?_
  refine gfO_3_0 S0 V kl_X2_12 dX2_readSetting_1 ?_
  obtain ⟨I1, hc_4, hf⟩ := qf_bd_e hf
  refine qw_cV (rest := []) (st1 := []) S0 V hl 4 gO_4 rfl (c_X6_advance l hc_4) kg_X2_100 rfl ⟨rfl, rfl⟩ kd_X6_advance ⟨Nat.le_of_ble_eq_true rfl, Nat.le_of_ble_eq_true rfl⟩ rfl rfl (Nat.le_of_ble_eq_true rfl) ⟨Nat.zero_le _, Nat.zero_le _⟩ rfl dX2_readSetting_4 (fun H locs V => ?_)
  refine lv_aload_n hx hb dX2_readSetting_7 rfl (lv_at hl 0 rfl) ?_
  refine gfO_3_0 S0 V kl_X2_12 dX2_readSetting_8 ?_
  obtain ⟨r2, hc_11, hf⟩ := qf_bd_e hf
  refine qw_cVR (rest := []) (st1 := [.int r2]) S0 V hl 4 gO_4 rfl (c_X6_settingWord l hc_11) kg_X2_195 rfl ⟨rfl, rfl⟩ kd_X6_settingWord ⟨Nat.le_of_ble_eq_true rfl, Nat.le_of_ble_eq_true rfl⟩ rfl rfl (Nat.le_of_ble_eq_true rfl) ⟨Nat.zero_le _, Nat.zero_le _⟩ rfl dX2_readSetting_11 ?_
  refine lv_istore_n (lv' := [(1, .int r2), (0, .ref (ad 3))]) hx hb dX2_readSetting_14 rfl hl (by decide) rfl (fun ls hl => ?_)
  refine lv_iload_n hx hb dX2_readSetting_15 rfl (lv_at hl 0 rfl) ?_
  refine lv_if_ge (tgt := 26) hx hb dX2_readSetting_16 (by decide) (fun c_16 => ?_) (fun c_16 => ?_)
  · replace hf := qf_t c_16 hf
    refine lv_aload_n hx hb dX2_readSetting_26 rfl (lv_at hl 1 rfl) ?_
    refine lv_aload_n hx hb dX2_readSetting_27 rfl (lv_at hl 1 rfl) ?_
    refine gfO_3_1 S0 V kl_X2_18 dX2_readSetting_28 ?_
    refine lv_iconst (v := 1) hx hb dX2_readSetting_31 (by decide) ?_
    refine lv_iload_n hx hb dX2_readSetting_32 rfl (lv_at hl 0 rfl) ?_
    refine lv_ishl hx hb dX2_readSetting_33 ?_
    refine lv_iand hx hb dX2_readSetting_34 ?_
    refine lv_if_eq (tgt := 42) hx hb dX2_readSetting_35 (by decide) (fun c_35 => ?_) (fun c_35 => ?_)
    · replace hf := qf_t c_35 hf
      refine lv_iconst (v := 0) hx hb dX2_readSetting_42 (by decide) ?_
      exact J_43 hf V (lv_sub hl [1, 0] rfl)
    · replace hf := qf_f c_35 hf
      refine lv_iconst (v := 1) hx hb dX2_readSetting_38 (by decide) ?_
      refine lv_goto (tgt := 43) hx hb dX2_readSetting_39 (by decide) ?_
      exact J_43 hf V (lv_sub hl [1, 0] rfl)
  · replace hf := qf_f c_16 hf
    refine lv_aload_n hx hb dX2_readSetting_19 rfl (lv_at hl 1 rfl) ?_
    refine lv_bipush (v := -11) hx hb dX2_readSetting_20 (by decide) ?_
    obtain ⟨I3, hc_22, hf⟩ := qf_bd_e hf
    refine qw_cV (rest := []) (st1 := []) S0 V hl 3 gO_3 rfl (c_X2_fail l hc_22) kg_X2_96 rfl ⟨rfl, rfl⟩ kd_X2_fail ⟨Nat.le_of_ble_eq_true rfl, Nat.le_of_ble_eq_true rfl⟩ rfl rfl (Nat.le_of_ble_eq_true rfl) ⟨Nat.zero_le _, Nat.zero_le _⟩ rfl dX2_readSetting_22 (fun H locs V => ?_)
    have hE := Option.some.inj hf
    obtain ⟨e0, hE⟩ := qf_pr hE
    exact qw_vreti S0 hr hlocks hQ (by rw [e0, hE]) V dX2_readSetting_25
theorem kd_X6_isName : yX6_isName.cls = RX6 ∧ yX6_isName.cls ≠ "java/lang/invoke/MethodHandle" ∧ yX6_isName.cls ≠ "java/lang/invoke/VarHandle" ∧ (parseMethodDescriptor yX6_isName.desc).map (fun d => d.parameters.length) = some 0 := by decide +kernel
def f_X6_isName (I : Nat → Int32) (A : Nat → Nat → Int32) (T : Nat) : Option (Int32) :=
  if (I 8) = (1 : Int32) then (if (6 : Int32) < ((I 6) - (I 7)) then (some ((0 : Int32))) else (qf_bd (f_X6_isWord I A T qb_group) fun r1 =>
      if r1 = 0 then (qf_bd (f_X6_isWord I A T qb_swap) fun r2 =>
        if r2 = 0 then (qf_bd (f_X6_isWord I A T qb_good) fun r3 =>
          if r3 = 0 then (qf_bd (f_X6_isWord I A T qb_house) fun r4 =>
            if r4 = 0 then (qf_bd (f_X6_isWord I A T qb_shop) fun r5 =>
              if r5 = 0 then (qf_bd (f_X6_isWord I A T qb_set) fun r6 =>
                if r6 = 0 then (qf_bd (f_X6_isWord I A T qb_give) fun r7 =>
                  if r7 = 0 then (qf_bd (f_X6_isWord I A T qb_take) fun r8 =>
                    if r8 = 0 then (qf_bd (f_X6_isWord I A T qb_tolerance) fun r9 =>
                      if r9 = 0 then (some ((1 : Int32))) else (some ((0 : Int32)))) else (some ((0 : Int32)))) else (some ((0 : Int32)))) else (some ((0 : Int32)))) else (some ((0 : Int32)))) else (some ((0 : Int32)))) else (some ((0 : Int32)))) else (some ((0 : Int32)))) else (some ((0 : Int32))))) else (some ((0 : Int32)))
abbrev wz_X6_isName : List Cond := Cond.code yX6_isName cX6_isName 1 (some .boolean) :: qw_big
def rm_X6_isName : Room := { frames := 5, cells := 0, slots := 0, locals := 153 }
set_option maxHeartbeats 4000000 in
set_option maxRecDepth 100000 in
theorem c_X6_isName (l : Launch) {D : va_G} {cy : Nat → ClassId} {ad : Nat → Nat} {I : Nat → Int32} {A : Nat → Nat → Int32} {G : Nat → Int32 × (Nat → Nat → Int32)} {T : Nat}  {rv : Int32} {sz : Nat} (hf : f_X6_isName I A T = some (rv)) : Met l yX6_isName wz_X6_isName rm_X6_isName (va_Pc [.ref (ad 4)] (qw_Pre D cy (Wo cy ad I A G T) sz)) (qw_R (some (.int rv))) 0 0 (fun _ => False) := by
  refine qw_of (cc := cX6_isName) (maxL := 1) (ret := (some .boolean)) (by decide) (Nat.le_of_ble_eq_true rfl) ?_
  intro p e s m args below meth c ls S0 hr hlocks hsz V hl
  have S0 : CallFix p m c cX6_isName 1 s args qw_big RX6 := S0
  have hx := S0.1; have hb := S0.2.1; have hown := S0.2.2.2.1; have hts := S0.2.2.2.2
  have hl : lv_has ls 1 [(0, .ref (ad 4))] := hl
  obtain ⟨Q9, hQ⟩ : ∃ q, q = MQ below (qw_R (some (.int rv))) args s 0 0 (fun _ => False) := ⟨_, rfl⟩
  rw [← hQ]
  generalize va_A (Wo cy ad I A G T) sz = Z9 at V
  unfold f_X6_isName at hf
  refine lv_aload_n hx hb dX6_isName_0 rfl (lv_at hl 0 rfl) ?_
  refine gfO_4_4 S0 V kl_X6_25 dX6_isName_1 ?_
  refine lv_iconst (v := 1) hx hb dX6_isName_4 (by decide) ?_
  refine lv_icmp_ne (tgt := 107) hx hb dX6_isName_5 (by decide) (fun c_5 => ?_) (fun c_5 => ?_)
  · replace hf := qf_f c_5 hf
    refine lv_iconst (v := 0) hx hb dX6_isName_107 (by decide) ?_
    have hE := Option.some.inj hf
    exact qw_zretR S0 hr hlocks hQ rfl hE dX6_isName_108
  · replace hf := qf_t c_5 hf
    refine lv_aload_n hx hb dX6_isName_8 rfl (lv_at hl 0 rfl) ?_
    refine gfO_4_2 S0 V kl_X6_19 dX6_isName_9 ?_
    refine lv_aload_n hx hb dX6_isName_12 rfl (lv_at hl 0 rfl) ?_
    refine gfO_4_3 S0 V kl_X6_22 dX6_isName_13 ?_
    refine lv_isub hx hb dX6_isName_16 ?_
    refine lv_bipush (v := 6) hx hb dX6_isName_17 (by decide) ?_
    refine lv_icmp_gt (tgt := 107) hx hb dX6_isName_19 (by decide) (fun c_19 => ?_) (fun c_19 => ?_)
    · replace hf := qf_t c_19 hf
      refine lv_iconst (v := 0) hx hb dX6_isName_107 (by decide) ?_
      have hE := Option.some.inj hf
      exact qw_zretR S0 hr hlocks hQ rfl hE dX6_isName_108
    · replace hf := qf_f c_19 hf
      refine lv_aload_n hx hb dX6_isName_22 rfl (lv_at hl 0 rfl) ?_
      obtain ⟨a_23, hR_23, hS_23⟩ := V.2.2.2.2.2.2.2.2.2.2.2.1 _ (List.mem_of_getElem? (i := 6) rfl)
      refine va_ldcS hx hb hown hR_23 dX6_isName_23 ?_
      obtain ⟨r1, hc_25, hf⟩ := qf_bd_e hf
      refine qs_cVR (rest := []) (st1 := [.int r1]) S0 V hl (va_recv (ci := 5) V.2.1 V.1 rfl gO_4) (qs_S V hS_23) qs_Sc (c_X6_isWord l (bs := qb_group) (by decide) hc_25) kg_X6_52 rfl ⟨rfl, rfl⟩ kd_X6_isWord ⟨Nat.le_of_ble_eq_true rfl, Nat.le_of_ble_eq_true rfl⟩ rfl rfl (Nat.le_of_ble_eq_true rfl) ⟨Nat.zero_le _, Nat.zero_le _⟩ rfl dX6_isName_25 ?_
      refine lv_if_ne (tgt := 107) hx hb dX6_isName_28 (by decide) (fun c_28 => ?_) (fun c_28 => ?_)
      · replace hf := qf_f c_28 hf
        refine lv_iconst (v := 0) hx hb dX6_isName_107 (by decide) ?_
        have hE := Option.some.inj hf
        exact qw_zretR S0 hr hlocks hQ rfl hE dX6_isName_108
      · replace hf := qf_t c_28 hf
        refine lv_aload_n hx hb dX6_isName_31 rfl (lv_at hl 0 rfl) ?_
        obtain ⟨a_32, hR_32, hS_32⟩ := V.2.2.2.2.2.2.2.2.2.2.2.1 _ (List.mem_of_getElem? (i := 7) rfl)
        refine va_ldcS hx hb hown hR_32 dX6_isName_32 ?_
        obtain ⟨r2, hc_34, hf⟩ := qf_bd_e hf
        refine qs_cVR (rest := []) (st1 := [.int r2]) S0 V hl (va_recv (ci := 5) V.2.1 V.1 rfl gO_4) (qs_S V hS_32) qs_Sc (c_X6_isWord l (bs := qb_swap) (by decide) hc_34) kg_X6_52 rfl ⟨rfl, rfl⟩ kd_X6_isWord ⟨Nat.le_of_ble_eq_true rfl, Nat.le_of_ble_eq_true rfl⟩ rfl rfl (Nat.le_of_ble_eq_true rfl) ⟨Nat.zero_le _, Nat.zero_le _⟩ rfl dX6_isName_34 ?_
        refine lv_if_ne (tgt := 107) hx hb dX6_isName_37 (by decide) (fun c_37 => ?_) (fun c_37 => ?_)
        · replace hf := qf_f c_37 hf
          refine lv_iconst (v := 0) hx hb dX6_isName_107 (by decide) ?_
          have hE := Option.some.inj hf
          exact qw_zretR S0 hr hlocks hQ rfl hE dX6_isName_108
        · replace hf := qf_t c_37 hf
          refine lv_aload_n hx hb dX6_isName_40 rfl (lv_at hl 0 rfl) ?_
          obtain ⟨a_41, hR_41, hS_41⟩ := V.2.2.2.2.2.2.2.2.2.2.2.1 _ (List.mem_of_getElem? (i := 8) rfl)
          refine va_ldcS hx hb hown hR_41 dX6_isName_41 ?_
          obtain ⟨r3, hc_43, hf⟩ := qf_bd_e hf
          refine qs_cVR (rest := []) (st1 := [.int r3]) S0 V hl (va_recv (ci := 5) V.2.1 V.1 rfl gO_4) (qs_S V hS_41) qs_Sc (c_X6_isWord l (bs := qb_good) (by decide) hc_43) kg_X6_52 rfl ⟨rfl, rfl⟩ kd_X6_isWord ⟨Nat.le_of_ble_eq_true rfl, Nat.le_of_ble_eq_true rfl⟩ rfl rfl (Nat.le_of_ble_eq_true rfl) ⟨Nat.zero_le _, Nat.zero_le _⟩ rfl dX6_isName_43 ?_
          refine lv_if_ne (tgt := 107) hx hb dX6_isName_46 (by decide) (fun c_46 => ?_) (fun c_46 => ?_)
          · replace hf := qf_f c_46 hf
            refine lv_iconst (v := 0) hx hb dX6_isName_107 (by decide) ?_
            have hE := Option.some.inj hf
            exact qw_zretR S0 hr hlocks hQ rfl hE dX6_isName_108
          · replace hf := qf_t c_46 hf
            refine lv_aload_n hx hb dX6_isName_49 rfl (lv_at hl 0 rfl) ?_
            obtain ⟨a_50, hR_50, hS_50⟩ := V.2.2.2.2.2.2.2.2.2.2.2.1 _ (List.mem_of_getElem? (i := 9) rfl)
            refine va_ldcS hx hb hown hR_50 dX6_isName_50 ?_
            obtain ⟨r4, hc_52, hf⟩ := qf_bd_e hf
            refine qs_cVR (rest := []) (st1 := [.int r4]) S0 V hl (va_recv (ci := 5) V.2.1 V.1 rfl gO_4) (qs_S V hS_50) qs_Sc (c_X6_isWord l (bs := qb_house) (by decide) hc_52) kg_X6_52 rfl ⟨rfl, rfl⟩ kd_X6_isWord ⟨Nat.le_of_ble_eq_true rfl, Nat.le_of_ble_eq_true rfl⟩ rfl rfl (Nat.le_of_ble_eq_true rfl) ⟨Nat.zero_le _, Nat.zero_le _⟩ rfl dX6_isName_52 ?_
            refine lv_if_ne (tgt := 107) hx hb dX6_isName_55 (by decide) (fun c_55 => ?_) (fun c_55 => ?_)
            · replace hf := qf_f c_55 hf
              refine lv_iconst (v := 0) hx hb dX6_isName_107 (by decide) ?_
              have hE := Option.some.inj hf
              exact qw_zretR S0 hr hlocks hQ rfl hE dX6_isName_108
            · replace hf := qf_t c_55 hf
              refine lv_aload_n hx hb dX6_isName_58 rfl (lv_at hl 0 rfl) ?_
              obtain ⟨a_59, hR_59, hS_59⟩ := V.2.2.2.2.2.2.2.2.2.2.2.1 _ (List.mem_of_getElem? (i := 10) rfl)
              refine va_ldcS hx hb hown hR_59 dX6_isName_59 ?_
              obtain ⟨r5, hc_61, hf⟩ := qf_bd_e hf
              refine qs_cVR (rest := []) (st1 := [.int r5]) S0 V hl (va_recv (ci := 5) V.2.1 V.1 rfl gO_4) (qs_S V hS_59) qs_Sc (c_X6_isWord l (bs := qb_shop) (by decide) hc_61) kg_X6_52 rfl ⟨rfl, rfl⟩ kd_X6_isWord ⟨Nat.le_of_ble_eq_true rfl, Nat.le_of_ble_eq_true rfl⟩ rfl rfl (Nat.le_of_ble_eq_true rfl) ⟨Nat.zero_le _, Nat.zero_le _⟩ rfl dX6_isName_61 ?_
              refine lv_if_ne (tgt := 107) hx hb dX6_isName_64 (by decide) (fun c_64 => ?_) (fun c_64 => ?_)
              · replace hf := qf_f c_64 hf
                refine lv_iconst (v := 0) hx hb dX6_isName_107 (by decide) ?_
                have hE := Option.some.inj hf
                exact qw_zretR S0 hr hlocks hQ rfl hE dX6_isName_108
              · replace hf := qf_t c_64 hf
                refine lv_aload_n hx hb dX6_isName_67 rfl (lv_at hl 0 rfl) ?_
                obtain ⟨a_68, hR_68, hS_68⟩ := V.2.2.2.2.2.2.2.2.2.2.2.1 _ (List.mem_of_getElem? (i := 11) rfl)
                refine va_ldcS hx hb hown hR_68 dX6_isName_68 ?_
                obtain ⟨r6, hc_70, hf⟩ := qf_bd_e hf
                refine qs_cVR (rest := []) (st1 := [.int r6]) S0 V hl (va_recv (ci := 5) V.2.1 V.1 rfl gO_4) (qs_S V hS_68) qs_Sc (c_X6_isWord l (bs := qb_set) (by decide) hc_70) kg_X6_52 rfl ⟨rfl, rfl⟩ kd_X6_isWord ⟨Nat.le_of_ble_eq_true rfl, Nat.le_of_ble_eq_true rfl⟩ rfl rfl (Nat.le_of_ble_eq_true rfl) ⟨Nat.zero_le _, Nat.zero_le _⟩ rfl dX6_isName_70 ?_
                refine lv_if_ne (tgt := 107) hx hb dX6_isName_73 (by decide) (fun c_73 => ?_) (fun c_73 => ?_)
                · replace hf := qf_f c_73 hf
                  refine lv_iconst (v := 0) hx hb dX6_isName_107 (by decide) ?_
                  have hE := Option.some.inj hf
                  exact qw_zretR S0 hr hlocks hQ rfl hE dX6_isName_108
                · replace hf := qf_t c_73 hf
                  refine lv_aload_n hx hb dX6_isName_76 rfl (lv_at hl 0 rfl) ?_
                  obtain ⟨a_77, hR_77, hS_77⟩ := V.2.2.2.2.2.2.2.2.2.2.2.1 _ (List.mem_of_getElem? (i := 12) rfl)
                  refine va_ldcS hx hb hown hR_77 dX6_isName_77 ?_
                  obtain ⟨r7, hc_79, hf⟩ := qf_bd_e hf
                  refine qs_cVR (rest := []) (st1 := [.int r7]) S0 V hl (va_recv (ci := 5) V.2.1 V.1 rfl gO_4) (qs_S V hS_77) qs_Sc (c_X6_isWord l (bs := qb_give) (by decide) hc_79) kg_X6_52 rfl ⟨rfl, rfl⟩ kd_X6_isWord ⟨Nat.le_of_ble_eq_true rfl, Nat.le_of_ble_eq_true rfl⟩ rfl rfl (Nat.le_of_ble_eq_true rfl) ⟨Nat.zero_le _, Nat.zero_le _⟩ rfl dX6_isName_79 ?_
                  refine lv_if_ne (tgt := 107) hx hb dX6_isName_82 (by decide) (fun c_82 => ?_) (fun c_82 => ?_)
                  · replace hf := qf_f c_82 hf
                    refine lv_iconst (v := 0) hx hb dX6_isName_107 (by decide) ?_
                    have hE := Option.some.inj hf
                    exact qw_zretR S0 hr hlocks hQ rfl hE dX6_isName_108
                  · replace hf := qf_t c_82 hf
                    refine lv_aload_n hx hb dX6_isName_85 rfl (lv_at hl 0 rfl) ?_
                    obtain ⟨a_86, hR_86, hS_86⟩ := V.2.2.2.2.2.2.2.2.2.2.2.1 _ (List.mem_of_getElem? (i := 13) rfl)
                    refine va_ldcS hx hb hown hR_86 dX6_isName_86 ?_
                    obtain ⟨r8, hc_88, hf⟩ := qf_bd_e hf
                    refine qs_cVR (rest := []) (st1 := [.int r8]) S0 V hl (va_recv (ci := 5) V.2.1 V.1 rfl gO_4) (qs_S V hS_86) qs_Sc (c_X6_isWord l (bs := qb_take) (by decide) hc_88) kg_X6_52 rfl ⟨rfl, rfl⟩ kd_X6_isWord ⟨Nat.le_of_ble_eq_true rfl, Nat.le_of_ble_eq_true rfl⟩ rfl rfl (Nat.le_of_ble_eq_true rfl) ⟨Nat.zero_le _, Nat.zero_le _⟩ rfl dX6_isName_88 ?_
                    refine lv_if_ne (tgt := 107) hx hb dX6_isName_91 (by decide) (fun c_91 => ?_) (fun c_91 => ?_)
                    · replace hf := qf_f c_91 hf
                      refine lv_iconst (v := 0) hx hb dX6_isName_107 (by decide) ?_
                      have hE := Option.some.inj hf
                      exact qw_zretR S0 hr hlocks hQ rfl hE dX6_isName_108
                    · replace hf := qf_t c_91 hf
                      refine lv_aload_n hx hb dX6_isName_94 rfl (lv_at hl 0 rfl) ?_
                      obtain ⟨a_95, hR_95, hS_95⟩ := V.2.2.2.2.2.2.2.2.2.2.2.1 _ (List.mem_of_getElem? (i := 14) rfl)
                      refine va_ldcS hx hb hown hR_95 dX6_isName_95 ?_
                      obtain ⟨r9, hc_97, hf⟩ := qf_bd_e hf
                      refine qs_cVR (rest := []) (st1 := [.int r9]) S0 V hl (va_recv (ci := 5) V.2.1 V.1 rfl gO_4) (qs_S V hS_95) qs_Sc (c_X6_isWord l (bs := qb_tolerance) (by decide) hc_97) kg_X6_52 rfl ⟨rfl, rfl⟩ kd_X6_isWord ⟨Nat.le_of_ble_eq_true rfl, Nat.le_of_ble_eq_true rfl⟩ rfl rfl (Nat.le_of_ble_eq_true rfl) ⟨Nat.zero_le _, Nat.zero_le _⟩ rfl dX6_isName_97 ?_
                      refine lv_if_ne (tgt := 107) hx hb dX6_isName_100 (by decide) (fun c_100 => ?_) (fun c_100 => ?_)
                      · replace hf := qf_f c_100 hf
                        refine lv_iconst (v := 0) hx hb dX6_isName_107 (by decide) ?_
                        have hE := Option.some.inj hf
                        exact qw_zretR S0 hr hlocks hQ rfl hE dX6_isName_108
                      · replace hf := qf_t c_100 hf
                        refine lv_iconst (v := 1) hx hb dX6_isName_103 (by decide) ?_
                        refine lv_goto (tgt := 108) hx hb dX6_isName_104 (by decide) ?_
                        have hE := Option.some.inj hf
                        exact qw_zretR S0 hr hlocks hQ rfl hE dX6_isName_108
theorem kd_X6_letters : yX6_letters.cls = RX6 ∧ yX6_letters.cls ≠ "java/lang/invoke/MethodHandle" ∧ yX6_letters.cls ≠ "java/lang/invoke/VarHandle" ∧ (parseMethodDescriptor yX6_letters.desc).map (fun d => d.parameters.length) = some 0 := by decide +kernel
def f_X6_letters_j46 (I : Nat → Int32) (A : Nat → Nat → Int32) (T : Nat) (K4 : Int32 → Int32 → Option (Int32)) (y2 : Int32) (s0 : Int32) (s1 : Int32) : Option (Int32) :=
  qf_let ((s1 ||| s0)) fun x2 =>
  qf_let (y2 + (1 : Int32)) fun x3 =>
  K4 x2 x3
def f_X6_letters_l4 (I : Nat → Int32) (A : Nat → Nat → Int32) (T : Nat)   : Nat → Int32 → Int32 → Option (Int32)
  | 0, _, _ => none
  | n + 1, y1, y2 =>
  if (6 : Int32) ≤ y2 then (some (y1)) else (if (I 6) ≤ ((I 7) + y2) then (f_X6_letters_j46 I A T (fun z0 z1 => f_X6_letters_l4 I A T n z0 z1) y2 (0 : Int32) (y1 <<< ((5 : Int32) &&& 31))) else (qf_ck (T = 1) <|
      qf_ld 800 (A 0) ((I 7) + y2) fun x1 =>
      f_X6_letters_j46 I A T (fun z0 z1 => f_X6_letters_l4 I A T n z0 z1) y2 ((x1 - (97 : Int32)) + (1 : Int32)) (y1 <<< ((5 : Int32) &&& 31))))
def f_X6_letters (I : Nat → Int32) (A : Nat → Nat → Int32) (T : Nat) : Option (Int32) :=
  f_X6_letters_l4 I A T 100000 (0 : Int32) (0 : Int32)
abbrev wz_X6_letters : List Cond := Cond.code yX6_letters cX6_letters 3 (some .int) :: qw_big
def rm_X6_letters : Room := { frames := 0, cells := 0, slots := 0, locals := 0 }
set_option maxHeartbeats 4000000 in
set_option maxRecDepth 100000 in
theorem c_X6_letters (l : Launch) {D : va_G} {cy : Nat → ClassId} {ad : Nat → Nat} {I : Nat → Int32} {A : Nat → Nat → Int32} {G : Nat → Int32 × (Nat → Nat → Int32)} {T : Nat}  {rv : Int32} {sz : Nat} (hf : f_X6_letters I A T = some (rv)) : Met l yX6_letters wz_X6_letters rm_X6_letters (va_Pc [.ref (ad 4)] (qw_Pre D cy (Wo cy ad I A G T) sz)) (qw_R (some (.int rv))) 0 0 (fun _ => False) := by
  refine qw_of (cc := cX6_letters) (maxL := 3) (ret := (some .int)) (by decide) (Nat.le_of_ble_eq_true rfl) ?_
  intro p e s m args below meth c ls S0 hr hlocks hsz V hl
  have S0 : CallFix p m c cX6_letters 3 s args qw_big RX6 := S0
  have hx := S0.1; have hb := S0.2.1; have hown := S0.2.2.2.1; have hts := S0.2.2.2.2
  have hl : lv_has ls 3 [(0, .ref (ad 4))] := hl
  obtain ⟨Q9, hQ⟩ : ∃ q, q = MQ below (qw_R (some (.int rv))) args s 0 0 (fun _ => False) := ⟨_, rfl⟩
  rw [← hQ]
  generalize va_A (Wo cy ad I A G T) sz = Z9 at V
  have J_46 : ∀ {K4 : Int32 → Int32 → Option (Int32)}  (hK4 : ∀  {y1 : Int32} {y2 : Int32} {ls : Array Slot}, K4 y1 y2 = some (rv) → lv_has ls 3 [(0, .ref (ad 4)), (1, .int y1), (2, .int y2)] → W p l e rm_X6_letters s m args below meth c s.heap [] 0 0 Q9 (F0 m 4 ls []))  {y2 : Int32} {s0 : Int32} {s1 : Int32} {ls : Array Slot}, f_X6_letters_j46 I A T K4 y2 s0 s1 = some (rv) → lv_has ls 3 [(0, .ref (ad 4)), (2, .int y2)] → W p l e rm_X6_letters s m args below meth c s.heap [] 0 0 Q9 (F0 m 46 ls [.int s0, .int s1]) := by
    intro K4 hK4 y2 s0 s1 ls hf hl
    unfold f_X6_letters_j46 at hf
    refine lv_ior hx hb dX6_letters_46 ?_
    refine lv_topi (fun x2 e_x2 => ?_)
    replace hf := qf_let_e e_x2 hf
    refine lv_istore_n (lv' := [(1, .int x2), (0, .ref (ad 4)), (2, .int y2)]) hx hb dX6_letters_47 rfl hl (by decide) rfl (fun ls hl => ?_)
    obtain ⟨x3, e_x3⟩ : ∃ y : Int32, y = y2 + (1 : Int32) := ⟨_, rfl⟩
    refine lv_iinc (v := x3) (lv' := [(2, .int x3), (1, .int x2), (0, .ref (ad 4))]) hx hb dX6_letters_48 hl (k := 2) rfl (by rw [e_x3]; rfl) (by decide) rfl (fun ls hl => ?_)
    replace hf := qf_let_e e_x3 hf
    refine lv_goto (tgt := 4) hx hb dX6_letters_51 (by decide) ?_
    exact hK4 hf (lv_sub hl [2, 1, 0] rfl)
  have L_4 : ∀   {n : Nat}  {y1 : Int32} {y2 : Int32} {ls : Array Slot}, f_X6_letters_l4 I A T n y1 y2 = some (rv) → lv_has ls 3 [(0, .ref (ad 4)), (1, .int y1), (2, .int y2)] → W p l e rm_X6_letters s m args below meth c s.heap [] 0 0 Q9 (F0 m 4 ls []) := by
    intro n
    induction n with
    | zero => intro y1 y2 ls hf hl; exact qf_no hf
    | succ n ih =>
      intro y1 y2 ls hf hl
      rw [f_X6_letters_l4] at hf
      refine lv_iload_n hx hb dX6_letters_4 rfl (lv_at hl 2 rfl) ?_
      refine lv_bipush (v := 6) hx hb dX6_letters_5 (by decide) ?_
      refine lv_icmp_ge (tgt := 54) hx hb dX6_letters_7 (by decide) (fun c_7 => ?_) (fun c_7 => ?_)
      · replace hf := qf_t c_7 hf
        refine lv_iload_n hx hb dX6_letters_54 rfl (lv_at hl 1 rfl) ?_
        have hE := Option.some.inj hf
        exact qw_iretR S0 hr hlocks hQ hE dX6_letters_55
      · replace hf := qf_f c_7 hf
        refine lv_iload_n hx hb dX6_letters_10 rfl (lv_at hl 1 rfl) ?_
        refine lv_iconst (v := 5) hx hb dX6_letters_11 (by decide) ?_
        refine lv_ishl hx hb dX6_letters_12 ?_
        refine lv_aload_n hx hb dX6_letters_13 rfl (lv_at hl 0 rfl) ?_
        refine gfO_4_3 S0 V kl_X6_22 dX6_letters_14 ?_
        refine lv_iload_n hx hb dX6_letters_17 rfl (lv_at hl 2 rfl) ?_
        refine lv_iadd hx hb dX6_letters_18 ?_
        refine lv_aload_n hx hb dX6_letters_19 rfl (lv_at hl 0 rfl) ?_
        refine gfO_4_2 S0 V kl_X6_19 dX6_letters_20 ?_
        refine lv_icmp_ge (tgt := 45) hx hb dX6_letters_23 (by decide) (fun c_23 => ?_) (fun c_23 => ?_)
        · replace hf := qf_t c_23 hf
          refine lv_iconst (v := 0) hx hb dX6_letters_45 (by decide) ?_
          exact J_46 (fun hf hl => ih hf hl) hf (lv_sub hl [0, 2] rfl)
        · replace hf := qf_f c_23 hf
          refine lv_aload_n hx hb dX6_letters_26 rfl (lv_at hl 0 rfl) ?_
          refine gfO_4_0 S0 V kl_X6_9 dX6_letters_27 ?_
          obtain ⟨h_T, hf⟩ := qf_ck_e hf
          rw [h_T]
          refine lv_aload_n hx hb dX6_letters_30 rfl (lv_at hl 0 rfl) ?_
          refine gfO_4_3 S0 V kl_X6_22 dX6_letters_31 ?_
          refine lv_iload_n hx hb dX6_letters_34 rfl (lv_at hl 2 rfl) ?_
          refine lv_iadd hx hb dX6_letters_35 ?_
          have h_36 := qf_ld_in hf
          refine alO_1 S0 V h_36 dX6_letters_36 ?_
          refine lv_topi (fun x1 e_x1 => ?_)
          replace hf := qf_ld_e e_x1 hf
          refine lv_bipush (v := 97) hx hb dX6_letters_37 (by decide) ?_
          refine lv_isub hx hb dX6_letters_39 ?_
          refine lv_iconst (v := 1) hx hb dX6_letters_40 (by decide) ?_
          refine lv_iadd hx hb dX6_letters_41 ?_
          refine lv_goto (tgt := 46) hx hb dX6_letters_42 (by decide) ?_
          exact J_46 (fun hf hl => ih hf hl) hf (lv_sub hl [0, 2] rfl)
  unfold f_X6_letters at hf
  refine lv_iconst (v := 0) hx hb dX6_letters_0 (by decide) ?_
  refine lv_istore_n (lv' := [(1, .int (0 : Int32)), (0, .ref (ad 4))]) hx hb dX6_letters_1 rfl hl (by decide) rfl (fun ls hl => ?_)
  refine lv_iconst (v := 0) hx hb dX6_letters_2 (by decide) ?_
  refine lv_istore_n (lv' := [(2, .int (0 : Int32)), (1, .int (0 : Int32)), (0, .ref (ad 4))]) hx hb dX6_letters_3 rfl hl (by decide) rfl (fun ls hl => ?_)
  exact L_4 hf (lv_sub hl [2, 1, 0] rfl)
theorem kd_X3_find : yX3_find.cls ≠ "java/lang/invoke/MethodHandle" ∧ yX3_find.cls ≠ "java/lang/invoke/VarHandle" ∧ (parseMethodDescriptor yX3_find.desc).map (fun d => d.parameters.length) = some 3 := by decide +kernel
def f_X3_find_l2 (n0 : Nat) (f0 : Nat → Int32)  (y1 : Int32) (y2 : Int32) : Nat → Int32 → Option (Int32)
  | 0, _ => none
  | n + 1, y3 =>
  if y1 ≤ y3 then (some ((-1 : Int32))) else (qf_ld n0 f0 y3 fun x1 =>
    if x1 = y2 then (some (y3)) else (qf_let (y3 + (1 : Int32)) fun x2 =>
      f_X3_find_l2 n0 f0 y1 y2 n x2))
def f_X3_find (n0 : Nat) (f0 : Nat → Int32) (p1 : Int32) (p2 : Int32) : Option (Int32) :=
  f_X3_find_l2 n0 f0 p1 p2 100000 (0 : Int32)
abbrev wz_X3_find : List Cond := Cond.code yX3_find cX3_find 4 (some .int) :: qw_big
def rm_X3_find : Room := { frames := 0, cells := 0, slots := 0, locals := 0 }
set_option maxHeartbeats 4000000 in
set_option maxRecDepth 100000 in
theorem c_X3_find (l : Launch) {D : va_G} {cy : Nat → ClassId} {ws : va_W} {q0 a0 n0 : Nat} {f0 : Nat → Int32} (ha0 : ws[q0]? = some (a0, .inl (cy 0, n0, .inl f0))) {p1 : Int32} {p2 : Int32} {rv : Int32} {sz : Nat} (hf : f_X3_find n0 f0 p1 p2 = some (rv)) : Met l yX3_find wz_X3_find rm_X3_find (va_Pc [.ref a0, .int p1, .int p2] (qw_Pre D cy ws sz)) (qw_R (some (.int rv))) 0 0 (fun _ => False) := by
  refine qw_of (cc := cX3_find) (maxL := 4) (ret := (some .int)) (by decide) (Nat.le_of_ble_eq_true rfl) ?_
  intro p e s m args below meth c ls S0 hr hlocks hsz V hl
  have S0 : CallFix p m c cX3_find 4 s args qw_big RX3 := S0
  have hx := S0.1; have hb := S0.2.1; have hown := S0.2.2.2.1; have hts := S0.2.2.2.2
  have hl : lv_has ls 4 [(0, .ref a0), (1, .int p1), (2, .int p2)] := hl
  obtain ⟨Q9, hQ⟩ : ∃ q, q = MQ below (qw_R (some (.int rv))) args s 0 0 (fun _ => False) := ⟨_, rfl⟩
  rw [← hQ]
  generalize va_A ws sz = Z9 at V
  have L_2 : ∀  {y1 : Int32} {y2 : Int32} {n : Nat}  {y3 : Int32} {ls : Array Slot}, f_X3_find_l2 n0 f0 y1 y2 n y3 = some (rv) → lv_has ls 4 [(0, .ref a0), (1, .int y1), (2, .int y2), (3, .int y3)] → W p l e rm_X3_find s m args below meth c s.heap [] 0 0 Q9 (F0 m 2 ls []) := by
    intro y1 y2 n
    induction n with
    | zero => intro y3 ls hf hl; exact qf_no hf
    | succ n ih =>
      intro y3 ls hf hl
      rw [f_X3_find_l2] at hf
      refine lv_iload_n hx hb dX3_find_2 rfl (lv_at hl 3 rfl) ?_
      refine lv_iload_n hx hb dX3_find_3 rfl (lv_at hl 1 rfl) ?_
      refine lv_icmp_ge (tgt := 22) hx hb dX3_find_4 (by decide) (fun c_4 => ?_) (fun c_4 => ?_)
      · replace hf := qf_t c_4 hf
        refine lv_iconst (v := -1) hx hb dX3_find_22 (by decide) ?_
        have hE := Option.some.inj hf
        exact qw_iretR S0 hr hlocks hQ hE dX3_find_23
      · replace hf := qf_f c_4 hf
        refine lv_aload_n hx hb dX3_find_7 rfl (lv_at hl 0 rfl) ?_
        refine lv_iload_n hx hb dX3_find_8 rfl (lv_at hl 3 rfl) ?_
        have h_9 := qf_ld_in hf
        refine qw_ild S0 V q0 ha0 h_9 dX3_find_9 ?_
        refine lv_topi (fun x1 e_x1 => ?_)
        replace hf := qf_ld_e e_x1 hf
        refine lv_iload_n hx hb dX3_find_10 rfl (lv_at hl 2 rfl) ?_
        refine lv_icmp_ne (tgt := 16) hx hb dX3_find_11 (by decide) (fun c_11 => ?_) (fun c_11 => ?_)
        · replace hf := qf_f c_11 hf
          obtain ⟨x2, e_x2⟩ : ∃ y : Int32, y = y3 + (1 : Int32) := ⟨_, rfl⟩
          refine lv_iinc (v := x2) (lv' := [(3, .int x2), (0, .ref a0), (1, .int y1), (2, .int y2)]) hx hb dX3_find_16 hl (k := 3) rfl (by rw [e_x2]; rfl) (by decide) rfl (fun ls hl => ?_)
          replace hf := qf_let_e e_x2 hf
          refine lv_goto (tgt := 2) hx hb dX3_find_19 (by decide) ?_
          exact ih hf (lv_sub hl [1, 2, 3, 0] rfl)
        · replace hf := qf_t c_11 hf
          refine lv_iload_n hx hb dX3_find_14 rfl (lv_at hl 3 rfl) ?_
          have hE := Option.some.inj hf
          exact qw_iretR S0 hr hlocks hQ hE dX3_find_15
  unfold f_X3_find at hf
  refine lv_iconst (v := 0) hx hb dX3_find_0 (by decide) ?_
  refine lv_istore_n (lv' := [(3, .int (0 : Int32)), (0, .ref a0), (1, .int p1), (2, .int p2)]) hx hb dX3_find_1 rfl hl (by decide) rfl (fun ls hl => ?_)
  exact L_2 hf (lv_sub hl [1, 2, 3, 0] rfl)
theorem kd_X3_isDeclared : yX3_isDeclared.cls = RX3 ∧ yX3_isDeclared.cls ≠ "java/lang/invoke/MethodHandle" ∧ yX3_isDeclared.cls ≠ "java/lang/invoke/VarHandle" ∧ (parseMethodDescriptor yX3_isDeclared.desc).map (fun d => d.parameters.length) = some 1 := by decide +kernel
def f_X3_isDeclared_t31_j60 (I : Nat → Int32) (A : Nat → Nat → Int32)   : Option (Int32) :=
  some ((1 : Int32))
def f_X3_isDeclared_t31 (I : Nat → Int32) (A : Nat → Nat → Int32) (p1 : Int32) : Option (Int32) :=
  qf_bd (f_X3_find 4 (A 22) (I 16) p1) fun r1 =>
  if 0 ≤ r1 then (f_X3_isDeclared_t31_j60 I A) else (qf_bd (f_X3_find 6 (A 23) (I 17) p1) fun r2 =>
    if 0 ≤ r2 then (f_X3_isDeclared_t31_j60 I A) else (qf_bd (f_X3_find 6 (A 24) (I 18) p1) fun r3 =>
      if 0 ≤ r3 then (f_X3_isDeclared_t31_j60 I A) else (qf_bd (f_X3_find 4 (A 25) (I 19) p1) fun r4 =>
        if r4 < 0 then (some ((0 : Int32))) else (f_X3_isDeclared_t31_j60 I A))))
abbrev wz_X3_isDeclared : List Cond := Cond.code yX3_isDeclared cX3_isDeclared 2 (some .boolean) :: qw_big
def rm_X3_isDeclared_t31 : Room := { frames := 1, cells := 0, slots := 0, locals := 23 }
set_option maxHeartbeats 4000000 in
set_option maxRecDepth 100000 in
theorem c_X3_isDeclared_t31 (l : Launch) {D : va_G} {cy : Nat → ClassId} {ad : Nat → Nat} {I : Nat → Int32} {A : Nat → Nat → Int32} {G : Nat → Int32 × (Nat → Nat → Int32)} {T : Nat} {p1 : Int32} {rv : Int32} {sz : Nat} (hf : f_X3_isDeclared_t31 I A p1 = some (rv)) : Met l yX3_isDeclared wz_X3_isDeclared rm_X3_isDeclared_t31 (va_Pc [.ref (ad 31), .int p1] (qw_Pre D cy (Wo cy ad I A G T) sz)) (qw_R (some (.int rv))) 0 0 (fun _ => False) := by
  refine qw_of (cc := cX3_isDeclared) (maxL := 2) (ret := (some .boolean)) (by decide) (Nat.le_of_ble_eq_true rfl) ?_
  intro p e s m args below meth c ls S0 hr hlocks hsz V hl
  have S0 : CallFix p m c cX3_isDeclared 2 s args qw_big RX3 := S0
  have hx := S0.1; have hb := S0.2.1; have hown := S0.2.2.2.1; have hts := S0.2.2.2.2
  have hl : lv_has ls 2 [(0, .ref (ad 31)), (1, .int p1)] := hl
  obtain ⟨Q9, hQ⟩ : ∃ q, q = MQ below (qw_R (some (.int rv))) args s 0 0 (fun _ => False) := ⟨_, rfl⟩
  rw [← hQ]
  generalize va_A (Wo cy ad I A G T) sz = Z9 at V
  have J_60 : ∀    {ls : Array Slot}, f_X3_isDeclared_t31_j60 I A = some (rv) → lv_has ls 2 [] → W p l e rm_X3_isDeclared_t31 s m args below meth c s.heap [] 0 0 Q9 (F0 m 60 ls []) := by
    intro ls hf hl
    unfold f_X3_isDeclared_t31_j60 at hf
    refine lv_iconst (v := 1) hx hb dX3_isDeclared_60 (by decide) ?_
    refine lv_goto (tgt := 65) hx hb dX3_isDeclared_61 (by decide) ?_
    have hE := Option.some.inj hf
    exact qw_zretR S0 hr hlocks hQ rfl hE dX3_isDeclared_65
  unfold f_X3_isDeclared_t31 at hf
  refine lv_aload_n hx hb dX3_isDeclared_0 rfl (lv_at hl 0 rfl) ?_
  refine gfO_31_4 S0 V kl_X3_24 dX3_isDeclared_1 ?_
  refine lv_aload_n hx hb dX3_isDeclared_4 rfl (lv_at hl 0 rfl) ?_
  refine gfO_31_0 S0 V kl_X3_9 dX3_isDeclared_5 ?_
  refine lv_iload_n hx hb dX3_isDeclared_8 rfl (lv_at hl 1 rfl) ?_
  obtain ⟨r1, hc_9, hf⟩ := qf_bd_e hf
  refine qw_cSR (rest := []) (st1 := [.int r1]) S0 V hl (c_X3_find l (q0 := 32) gO_32 hc_9) kg_X3_58 rfl ⟨rfl, rfl⟩ kd_X3_find ⟨Nat.le_of_ble_eq_true rfl, Nat.le_of_ble_eq_true rfl⟩ rfl rfl (Nat.le_of_ble_eq_true rfl) ⟨Nat.zero_le _, Nat.zero_le _⟩ rfl dX3_isDeclared_9 ?_
  refine lv_if_ge (tgt := 60) hx hb dX3_isDeclared_12 (by decide) (fun c_12 => ?_) (fun c_12 => ?_)
  · replace hf := qf_t c_12 hf
    exact J_60 hf (lv_sub hl [] rfl)
  · replace hf := qf_f c_12 hf
    refine lv_aload_n hx hb dX3_isDeclared_15 rfl (lv_at hl 0 rfl) ?_
    refine gfO_31_5 S0 V kl_X3_28 dX3_isDeclared_16 ?_
    refine lv_aload_n hx hb dX3_isDeclared_19 rfl (lv_at hl 0 rfl) ?_
    refine gfO_31_1 S0 V kl_X3_15 dX3_isDeclared_20 ?_
    refine lv_iload_n hx hb dX3_isDeclared_23 rfl (lv_at hl 1 rfl) ?_
    obtain ⟨r2, hc_24, hf⟩ := qf_bd_e hf
    refine qw_cSR (rest := []) (st1 := [.int r2]) S0 V hl (c_X3_find l (q0 := 33) gO_33 hc_24) kg_X3_58 rfl ⟨rfl, rfl⟩ kd_X3_find ⟨Nat.le_of_ble_eq_true rfl, Nat.le_of_ble_eq_true rfl⟩ rfl rfl (Nat.le_of_ble_eq_true rfl) ⟨Nat.zero_le _, Nat.zero_le _⟩ rfl dX3_isDeclared_24 ?_
    refine lv_if_ge (tgt := 60) hx hb dX3_isDeclared_27 (by decide) (fun c_27 => ?_) (fun c_27 => ?_)
    · replace hf := qf_t c_27 hf
      exact J_60 hf (lv_sub hl [] rfl)
    · replace hf := qf_f c_27 hf
      refine lv_aload_n hx hb dX3_isDeclared_30 rfl (lv_at hl 0 rfl) ?_
      refine gfO_31_6 S0 V kl_X3_31 dX3_isDeclared_31 ?_
      refine lv_aload_n hx hb dX3_isDeclared_34 rfl (lv_at hl 0 rfl) ?_
      refine gfO_31_2 S0 V kl_X3_18 dX3_isDeclared_35 ?_
      refine lv_iload_n hx hb dX3_isDeclared_38 rfl (lv_at hl 1 rfl) ?_
      obtain ⟨r3, hc_39, hf⟩ := qf_bd_e hf
      refine qw_cSR (rest := []) (st1 := [.int r3]) S0 V hl (c_X3_find l (q0 := 34) gO_34 hc_39) kg_X3_58 rfl ⟨rfl, rfl⟩ kd_X3_find ⟨Nat.le_of_ble_eq_true rfl, Nat.le_of_ble_eq_true rfl⟩ rfl rfl (Nat.le_of_ble_eq_true rfl) ⟨Nat.zero_le _, Nat.zero_le _⟩ rfl dX3_isDeclared_39 ?_
      refine lv_if_ge (tgt := 60) hx hb dX3_isDeclared_42 (by decide) (fun c_42 => ?_) (fun c_42 => ?_)
      · replace hf := qf_t c_42 hf
        exact J_60 hf (lv_sub hl [] rfl)
      · replace hf := qf_f c_42 hf
        refine lv_aload_n hx hb dX3_isDeclared_45 rfl (lv_at hl 0 rfl) ?_
        refine gfO_31_7 S0 V kl_X3_34 dX3_isDeclared_46 ?_
        refine lv_aload_n hx hb dX3_isDeclared_49 rfl (lv_at hl 0 rfl) ?_
        refine gfO_31_3 S0 V kl_X3_21 dX3_isDeclared_50 ?_
        refine lv_iload_n hx hb dX3_isDeclared_53 rfl (lv_at hl 1 rfl) ?_
        obtain ⟨r4, hc_54, hf⟩ := qf_bd_e hf
        refine qw_cSR (rest := []) (st1 := [.int r4]) S0 V hl (c_X3_find l (q0 := 35) gO_35 hc_54) kg_X3_58 rfl ⟨rfl, rfl⟩ kd_X3_find ⟨Nat.le_of_ble_eq_true rfl, Nat.le_of_ble_eq_true rfl⟩ rfl rfl (Nat.le_of_ble_eq_true rfl) ⟨Nat.zero_le _, Nat.zero_le _⟩ rfl dX3_isDeclared_54 ?_
        refine lv_if_lt (tgt := 64) hx hb dX3_isDeclared_57 (by decide) (fun c_57 => ?_) (fun c_57 => ?_)
        · replace hf := qf_t c_57 hf
          refine lv_iconst (v := 0) hx hb dX3_isDeclared_64 (by decide) ?_
          have hE := Option.some.inj hf
          exact qw_zretR S0 hr hlocks hQ rfl hE dX3_isDeclared_65
        · replace hf := qf_f c_57 hf
          exact J_60 hf (lv_sub hl [] rfl)
theorem kd_X2_readNewName : yX2_readNewName.cls = RX2 ∧ yX2_readNewName.cls ≠ "java/lang/invoke/MethodHandle" ∧ yX2_readNewName.cls ≠ "java/lang/invoke/VarHandle" ∧ (parseMethodDescriptor yX2_readNewName.desc).map (fun d => d.parameters.length) = some 0 := by decide +kernel
def f_X2_readNewName_j41 (A : Nat → Nat → Int32) (T : Nat)  (I : Nat → Int32) (y1 : Int32) : Option (Int32 × (Nat → Int32)) :=
  if (I 3) = 0 then (qf_bd (f_X6_advance A T I) fun I6 =>
    some (y1, I6)) else (some ((0 : Int32), I))
def f_X2_readNewName_j16 (A : Nat → Nat → Int32) (T : Nat)  (I : Nat → Int32) : Option (Int32 × (Nat → Int32)) :=
  qf_bd (f_X6_letters I A T) fun r3 =>
  qf_bd (f_X3_isDeclared_t31 I A r3) fun r4 =>
  if r4 = 0 then (f_X2_readNewName_j41 A T I r3) else (qf_bd (f_X2_fail I (-14 : Int32)) fun I5 =>
    f_X2_readNewName_j41 A T I5 r3)
def f_X2_readNewName (A : Nat → Nat → Int32) (T : Nat) (I : Nat → Int32) : Option (Int32 × (Nat → Int32)) :=
  qf_bd (f_X6_isName I A T) fun r1 =>
  if r1 = 0 then (qf_bd (f_X2_fail I (-11 : Int32)) fun I2 =>
    f_X2_readNewName_j16 A T I2) else (f_X2_readNewName_j16 A T I)
abbrev wz_X2_readNewName : List Cond := Cond.code yX2_readNewName cX2_readNewName 2 (some .int) :: qw_big
def rm_X2_readNewName : Room := { frames := 6, cells := 0, slots := 0, locals := 173 }
set_option maxHeartbeats 4000000 in
set_option maxRecDepth 100000 in
theorem c_X2_readNewName (l : Launch) {D : va_G} {cy : Nat → ClassId} {ad : Nat → Nat} {I : Nat → Int32} {A : Nat → Nat → Int32} {G : Nat → Int32 × (Nat → Nat → Int32)} {T : Nat}  {rv : Int32} {I9 : Nat → Int32} {sz : Nat} (hf : f_X2_readNewName A T I = some (rv, I9)) : Met l yX2_readNewName wz_X2_readNewName rm_X2_readNewName (va_Pc [.ref (ad 3)] (qw_Pre D cy (Wo cy ad I A G T) sz)) (qw_Q (some (.int rv)) D (Wo cy ad I9 A G T) (va_A (Wo cy ad I A G T) sz)) 0 0 (va_A (Wo cy ad I A G T) sz) := by
  refine qw_of (cc := cX2_readNewName) (maxL := 2) (ret := (some .int)) (by decide) (Nat.le_of_ble_eq_true rfl) ?_
  intro p e s m args below meth c ls S0 hr hlocks hsz V hl
  have S0 : CallFix p m c cX2_readNewName 2 s args qw_big RX2 := S0
  have hx := S0.1; have hb := S0.2.1; have hown := S0.2.2.2.1; have hts := S0.2.2.2.2
  have hl : lv_has ls 2 [(0, .ref (ad 3))] := hl
  generalize va_A (Wo cy ad I A G T) sz = Z9 at V ⊢
  obtain ⟨Q9, hQ⟩ : ∃ q, q = MQ below (qw_Q (some (.int rv)) D (Wo cy ad I9 A G T) Z9) args s 0 0 Z9 := ⟨_, rfl⟩
  rw [← hQ]
  clear hsz
  have J_41 : ∀  {I : Nat → Int32} {y1 : Int32} {H : Heap} {locs : List Loc} {ls : Array Slot}, f_X2_readNewName_j41 A T I y1 = some (rv, I9) → qw_V D cy Z9 s (Wo cy ad I A G T) H locs → lv_has ls 2 [(0, .ref (ad 3)), (1, .int y1)] → W p l e rm_X2_readNewName s m args below meth c H locs 0 0 Q9 (F0 m 41 ls []) := by
    intro I y1 H locs ls hf V hl
    unfold f_X2_readNewName_j41 at hf
    refine lv_aload_n hx hb dX2_readNewName_41 rfl (lv_at hl 0 rfl) ?_
    refine gfO_3_4 S0 V kl_X2_36 dX2_readNewName_42 ?_
    refine lv_if_eq (tgt := 50) hx hb dX2_readNewName_45 (by decide) (fun c_45 => ?_) (fun c_45 => ?_)
    · replace hf := qf_t c_45 hf
      refine lv_aload_n hx hb dX2_readNewName_50 rfl (lv_at hl 0 rfl) ?_
      refine gfO_3_0 S0 V kl_X2_12 dX2_readNewName_51 ?_
      obtain ⟨I6, hc_54, hf⟩ := qf_bd_e hf
      refine qw_cV (rest := []) (st1 := []) S0 V hl 4 gO_4 rfl (c_X6_advance l hc_54) kg_X2_100 rfl ⟨rfl, rfl⟩ kd_X6_advance ⟨Nat.le_of_ble_eq_true rfl, Nat.le_of_ble_eq_true rfl⟩ rfl rfl (Nat.le_of_ble_eq_true rfl) ⟨Nat.zero_le _, Nat.zero_le _⟩ rfl dX2_readNewName_54 (fun H locs V => ?_)
      refine lv_iload_n hx hb dX2_readNewName_57 rfl (lv_at hl 1 rfl) ?_
      have hE := Option.some.inj hf
      obtain ⟨e0, hE⟩ := qf_pr hE
      exact qw_ireti S0 hr hlocks hQ e0 (by rw [hE]) V dX2_readNewName_58
    · replace hf := qf_f c_45 hf
      refine lv_iconst (v := 0) hx hb dX2_readNewName_48 (by decide) ?_
      have hE := Option.some.inj hf
      obtain ⟨e0, hE⟩ := qf_pr hE
      exact qw_ireti S0 hr hlocks hQ e0 (by rw [hE]) V dX2_readNewName_49
  have J_16 : ∀  {I : Nat → Int32}  {H : Heap} {locs : List Loc} {ls : Array Slot}, f_X2_readNewName_j16 A T I = some (rv, I9) → qw_V D cy Z9 s (Wo cy ad I A G T) H locs → lv_has ls 2 [(0, .ref (ad 3))] → W p l e rm_X2_readNewName s m args below meth c H locs 0 0 Q9 (F0 m 16 ls []) := by
    intro I H locs ls hf V hl
    unfold f_X2_readNewName_j16 at hf
    refine lv_aload_n hx hb dX2_readNewName_16 rfl (lv_at hl 0 rfl) ?_
    refine gfO_3_0 S0 V kl_X2_12 dX2_readNewName_17 ?_
    obtain ⟨r3, hc_20, hf⟩ := qf_bd_e hf
    refine qw_cVR (rest := []) (st1 := [.int r3]) S0 V hl 4 gO_4 rfl (c_X6_letters l hc_20) kg_X2_111 rfl ⟨rfl, rfl⟩ kd_X6_letters ⟨Nat.le_of_ble_eq_true rfl, Nat.le_of_ble_eq_true rfl⟩ rfl rfl (Nat.le_of_ble_eq_true rfl) ⟨Nat.zero_le _, Nat.zero_le _⟩ rfl dX2_readNewName_20 ?_
    refine lv_istore_n (lv' := [(1, .int r3), (0, .ref (ad 3))]) hx hb dX2_readNewName_23 rfl hl (by decide) rfl (fun ls hl => ?_)
    refine lv_aload_n hx hb dX2_readNewName_24 rfl (lv_at hl 1 rfl) ?_
    refine gfO_3_2 S0 V kl_X2_25 dX2_readNewName_25 ?_
    refine lv_iload_n hx hb dX2_readNewName_28 rfl (lv_at hl 0 rfl) ?_
    obtain ⟨r4, hc_29, hf⟩ := qf_bd_e hf
    refine qw_cVR (rest := []) (st1 := [.int r4]) S0 V hl 31 gO_31 rfl (c_X3_isDeclared_t31 l hc_29) kg_X2_114 rfl ⟨rfl, rfl⟩ kd_X3_isDeclared ⟨Nat.le_of_ble_eq_true rfl, Nat.le_of_ble_eq_true rfl⟩ rfl rfl (Nat.le_of_ble_eq_true rfl) ⟨Nat.zero_le _, Nat.zero_le _⟩ rfl dX2_readNewName_29 ?_
    refine lv_if_eq (tgt := 41) hx hb dX2_readNewName_32 (by decide) (fun c_32 => ?_) (fun c_32 => ?_)
    · replace hf := qf_t c_32 hf
      exact J_41 hf V (lv_sub hl [1, 0] rfl)
    · replace hf := qf_f c_32 hf
      refine lv_aload_n hx hb dX2_readNewName_35 rfl (lv_at hl 1 rfl) ?_
      refine lv_bipush (v := -14) hx hb dX2_readNewName_36 (by decide) ?_
      obtain ⟨I5, hc_38, hf⟩ := qf_bd_e hf
      refine qw_cV (rest := []) (st1 := []) S0 V hl 3 gO_3 rfl (c_X2_fail l hc_38) kg_X2_96 rfl ⟨rfl, rfl⟩ kd_X2_fail ⟨Nat.le_of_ble_eq_true rfl, Nat.le_of_ble_eq_true rfl⟩ rfl rfl (Nat.le_of_ble_eq_true rfl) ⟨Nat.zero_le _, Nat.zero_le _⟩ rfl dX2_readNewName_38 (fun H locs V => ?_)
      exact J_41 hf V (lv_sub hl [1, 0] rfl)
  unfold f_X2_readNewName at hf
  refine lv_aload_n hx hb dX2_readNewName_0 rfl (lv_at hl 0 rfl) ?_
  refine gfO_3_0 S0 V kl_X2_12 dX2_readNewName_1 ?_
  obtain ⟨r1, hc_4, hf⟩ := qf_bd_e hf
  refine qw_cVR (rest := []) (st1 := [.int r1]) S0 V hl 4 gO_4 rfl (c_X6_isName l hc_4) kg_X2_107 rfl ⟨rfl, rfl⟩ kd_X6_isName ⟨Nat.le_of_ble_eq_true rfl, Nat.le_of_ble_eq_true rfl⟩ rfl rfl (Nat.le_of_ble_eq_true rfl) ⟨Nat.zero_le _, Nat.zero_le _⟩ rfl dX2_readNewName_4 ?_
  refine lv_if_ne (tgt := 16) hx hb dX2_readNewName_7 (by decide) (fun c_7 => ?_) (fun c_7 => ?_)
  · replace hf := qf_f c_7 hf
    exact J_16 hf V (lv_sub hl [0] rfl)
  · replace hf := qf_t c_7 hf
    refine lv_aload_n hx hb dX2_readNewName_10 rfl (lv_at hl 0 rfl) ?_
    refine lv_bipush (v := -11) hx hb dX2_readNewName_11 (by decide) ?_
    obtain ⟨I2, hc_13, hf⟩ := qf_bd_e hf
    refine qw_cV (rest := []) (st1 := []) S0 V hl 3 gO_3 rfl (c_X2_fail l hc_13) kg_X2_96 rfl ⟨rfl, rfl⟩ kd_X2_fail ⟨Nat.le_of_ble_eq_true rfl, Nat.le_of_ble_eq_true rfl⟩ rfl rfl (Nat.le_of_ble_eq_true rfl) ⟨Nat.zero_le _, Nat.zero_le _⟩ rfl dX2_readNewName_13 (fun H locs V => ?_)
    exact J_16 hf V (lv_sub hl [0] rfl)
theorem kd_X2_seeName : yX2_seeName.cls = RX2 ∧ yX2_seeName.cls ≠ "java/lang/invoke/MethodHandle" ∧ yX2_seeName.cls ≠ "java/lang/invoke/VarHandle" ∧ (parseMethodDescriptor yX2_seeName.desc).map (fun d => d.parameters.length) = some 2 := by decide +kernel
def f_X2_seeName_r33_j39 (A : Nat → Nat → Int32) (T : Nat)  (I : Nat → Int32) (y3 : Int32) : Option (Int32 × (Nat → Int32)) :=
  if (I 3) = 0 then (some (y3, I)) else (some ((0 : Int32), I))
def f_X2_seeName_r33_j16 (A : Nat → Nat → Int32) (T : Nat)  (I : Nat → Int32) (y2 : Int32) : Option (Int32 × (Nat → Int32)) :=
  qf_bd (f_X6_letters I A T) fun r3 =>
  qf_bd (f_X3_find 6 (A 23) y2 r3) fun r4 =>
  if 0 ≤ r4 then (f_X2_seeName_r33_j39 A T I r4) else (qf_bd (f_X2_fail I (-13 : Int32)) fun I5 =>
    f_X2_seeName_r33_j39 A T I5 r4)
def f_X2_seeName_r33 (A : Nat → Nat → Int32) (T : Nat) (I : Nat → Int32) (p1 : Int32) : Option (Int32 × (Nat → Int32)) :=
  qf_bd (f_X6_isName I A T) fun r1 =>
  if r1 = 0 then (qf_bd (f_X2_fail I (-11 : Int32)) fun I2 =>
    f_X2_seeName_r33_j16 A T I2 p1) else (f_X2_seeName_r33_j16 A T I p1)
abbrev wz_X2_seeName : List Cond := Cond.code yX2_seeName cX2_seeName 4 (some .int) :: qw_big
def rm_X2_seeName_r33 : Room := { frames := 6, cells := 0, slots := 0, locals := 173 }
set_option maxHeartbeats 4000000 in
set_option maxRecDepth 100000 in
theorem c_X2_seeName_r33 (l : Launch) {D : va_G} {cy : Nat → ClassId} {ad : Nat → Nat} {I : Nat → Int32} {A : Nat → Nat → Int32} {G : Nat → Int32 × (Nat → Nat → Int32)} {T : Nat} {p1 : Int32} {rv : Int32} {I9 : Nat → Int32} {sz : Nat} (hf : f_X2_seeName_r33 A T I p1 = some (rv, I9)) : Met l yX2_seeName wz_X2_seeName rm_X2_seeName_r33 (va_Pc [.ref (ad 3), .ref (ad 33), .int p1] (qw_Pre D cy (Wo cy ad I A G T) sz)) (qw_Q (some (.int rv)) D (Wo cy ad I9 A G T) (va_A (Wo cy ad I A G T) sz)) 0 0 (va_A (Wo cy ad I A G T) sz) := by
  refine qw_of (cc := cX2_seeName) (maxL := 4) (ret := (some .int)) (by decide) (Nat.le_of_ble_eq_true rfl) ?_
  intro p e s m args below meth c ls S0 hr hlocks hsz V hl
  have S0 : CallFix p m c cX2_seeName 4 s args qw_big RX2 := S0
  have hx := S0.1; have hb := S0.2.1; have hown := S0.2.2.2.1; have hts := S0.2.2.2.2
  have hl : lv_has ls 4 [(0, .ref (ad 3)), (1, .ref (ad 33)), (2, .int p1)] := hl
  generalize va_A (Wo cy ad I A G T) sz = Z9 at V ⊢
  obtain ⟨Q9, hQ⟩ : ∃ q, q = MQ below (qw_Q (some (.int rv)) D (Wo cy ad I9 A G T) Z9) args s 0 0 Z9 := ⟨_, rfl⟩
  rw [← hQ]
  clear hsz
  have J_39 : ∀  {I : Nat → Int32} {y3 : Int32} {H : Heap} {locs : List Loc} {ls : Array Slot}, f_X2_seeName_r33_j39 A T I y3 = some (rv, I9) → qw_V D cy Z9 s (Wo cy ad I A G T) H locs → lv_has ls 4 [(0, .ref (ad 3)), (3, .int y3)] → W p l e rm_X2_seeName_r33 s m args below meth c H locs 0 0 Q9 (F0 m 39 ls []) := by
    intro I y3 H locs ls hf V hl
    unfold f_X2_seeName_r33_j39 at hf
    refine lv_aload_n hx hb dX2_seeName_39 rfl (lv_at hl 0 rfl) ?_
    refine gfO_3_4 S0 V kl_X2_36 dX2_seeName_40 ?_
    refine lv_if_ne (tgt := 50) hx hb dX2_seeName_43 (by decide) (fun c_43 => ?_) (fun c_43 => ?_)
    · replace hf := qf_f c_43 hf
      refine lv_iconst (v := 0) hx hb dX2_seeName_50 (by decide) ?_
      have hE := Option.some.inj hf
      obtain ⟨e0, hE⟩ := qf_pr hE
      exact qw_ireti S0 hr hlocks hQ e0 (by rw [hE]) V dX2_seeName_51
    · replace hf := qf_t c_43 hf
      refine lv_iload_n hx hb dX2_seeName_46 rfl (lv_at hl 1 rfl) ?_
      refine lv_goto (tgt := 51) hx hb dX2_seeName_47 (by decide) ?_
      have hE := Option.some.inj hf
      obtain ⟨e0, hE⟩ := qf_pr hE
      exact qw_ireti S0 hr hlocks hQ e0 (by rw [hE]) V dX2_seeName_51
  have J_16 : ∀  {I : Nat → Int32} {y2 : Int32} {H : Heap} {locs : List Loc} {ls : Array Slot}, f_X2_seeName_r33_j16 A T I y2 = some (rv, I9) → qw_V D cy Z9 s (Wo cy ad I A G T) H locs → lv_has ls 4 [(0, .ref (ad 3)), (1, .ref (ad 33)), (2, .int y2)] → W p l e rm_X2_seeName_r33 s m args below meth c H locs 0 0 Q9 (F0 m 16 ls []) := by
    intro I y2 H locs ls hf V hl
    unfold f_X2_seeName_r33_j16 at hf
    refine lv_aload_n hx hb dX2_seeName_16 rfl (lv_at hl 1 rfl) ?_
    refine lv_iload_n hx hb dX2_seeName_17 rfl (lv_at hl 2 rfl) ?_
    refine lv_aload_n hx hb dX2_seeName_18 rfl (lv_at hl 0 rfl) ?_
    refine gfO_3_0 S0 V kl_X2_12 dX2_seeName_19 ?_
    obtain ⟨r3, hc_22, hf⟩ := qf_bd_e hf
    refine qw_cVR (rest := [.int y2, .ref (ad 33)]) (st1 := [.int r3, .int y2, .ref (ad 33)]) S0 V hl 4 gO_4 rfl (c_X6_letters l hc_22) kg_X2_111 rfl ⟨rfl, rfl⟩ kd_X6_letters ⟨Nat.le_of_ble_eq_true rfl, Nat.le_of_ble_eq_true rfl⟩ rfl rfl (Nat.le_of_ble_eq_true rfl) ⟨Nat.zero_le _, Nat.zero_le _⟩ rfl dX2_seeName_22 ?_
    obtain ⟨r4, hc_25, hf⟩ := qf_bd_e hf
    refine qw_cSR (rest := []) (st1 := [.int r4]) S0 V hl (c_X3_find l (q0 := 33) gO_33 hc_25) kg_X2_118 rfl ⟨rfl, rfl⟩ kd_X3_find ⟨Nat.le_of_ble_eq_true rfl, Nat.le_of_ble_eq_true rfl⟩ rfl rfl (Nat.le_of_ble_eq_true rfl) ⟨Nat.zero_le _, Nat.zero_le _⟩ rfl dX2_seeName_25 ?_
    refine lv_istore_n (lv' := [(3, .int r4), (0, .ref (ad 3)), (1, .ref (ad 33)), (2, .int y2)]) hx hb dX2_seeName_28 rfl hl (by decide) rfl (fun ls hl => ?_)
    refine lv_iload_n hx hb dX2_seeName_29 rfl (lv_at hl 0 rfl) ?_
    refine lv_if_ge (tgt := 39) hx hb dX2_seeName_30 (by decide) (fun c_30 => ?_) (fun c_30 => ?_)
    · replace hf := qf_t c_30 hf
      exact J_39 hf V (lv_sub hl [1, 0] rfl)
    · replace hf := qf_f c_30 hf
      refine lv_aload_n hx hb dX2_seeName_33 rfl (lv_at hl 1 rfl) ?_
      refine lv_bipush (v := -13) hx hb dX2_seeName_34 (by decide) ?_
      obtain ⟨I5, hc_36, hf⟩ := qf_bd_e hf
      refine qw_cV (rest := []) (st1 := []) S0 V hl 3 gO_3 rfl (c_X2_fail l hc_36) kg_X2_96 rfl ⟨rfl, rfl⟩ kd_X2_fail ⟨Nat.le_of_ble_eq_true rfl, Nat.le_of_ble_eq_true rfl⟩ rfl rfl (Nat.le_of_ble_eq_true rfl) ⟨Nat.zero_le _, Nat.zero_le _⟩ rfl dX2_seeName_36 (fun H locs V => ?_)
      exact J_39 hf V (lv_sub hl [1, 0] rfl)
  unfold f_X2_seeName_r33 at hf
  refine lv_aload_n hx hb dX2_seeName_0 rfl (lv_at hl 0 rfl) ?_
  refine gfO_3_0 S0 V kl_X2_12 dX2_seeName_1 ?_
  obtain ⟨r1, hc_4, hf⟩ := qf_bd_e hf
  refine qw_cVR (rest := []) (st1 := [.int r1]) S0 V hl 4 gO_4 rfl (c_X6_isName l hc_4) kg_X2_107 rfl ⟨rfl, rfl⟩ kd_X6_isName ⟨Nat.le_of_ble_eq_true rfl, Nat.le_of_ble_eq_true rfl⟩ rfl rfl (Nat.le_of_ble_eq_true rfl) ⟨Nat.zero_le _, Nat.zero_le _⟩ rfl dX2_seeName_4 ?_
  refine lv_if_ne (tgt := 16) hx hb dX2_seeName_7 (by decide) (fun c_7 => ?_) (fun c_7 => ?_)
  · replace hf := qf_f c_7 hf
    exact J_16 hf V (lv_sub hl [0, 1, 2] rfl)
  · replace hf := qf_t c_7 hf
    refine lv_aload_n hx hb dX2_seeName_10 rfl (lv_at hl 0 rfl) ?_
    refine lv_bipush (v := -11) hx hb dX2_seeName_11 (by decide) ?_
    obtain ⟨I2, hc_13, hf⟩ := qf_bd_e hf
    refine qw_cV (rest := []) (st1 := []) S0 V hl 3 gO_3 rfl (c_X2_fail l hc_13) kg_X2_96 rfl ⟨rfl, rfl⟩ kd_X2_fail ⟨Nat.le_of_ble_eq_true rfl, Nat.le_of_ble_eq_true rfl⟩ rfl rfl (Nat.le_of_ble_eq_true rfl) ⟨Nat.zero_le _, Nat.zero_le _⟩ rfl dX2_seeName_13 (fun H locs V => ?_)
    exact J_16 hf V (lv_sub hl [0, 1, 2] rfl)
theorem kd_X5_shelf : yX5_shelf.cls ≠ "java/lang/invoke/MethodHandle" ∧ yX5_shelf.cls ≠ "java/lang/invoke/VarHandle" ∧ (parseMethodDescriptor yX5_shelf.desc).map (fun d => d.parameters.length) = some 2 := by decide +kernel
def f_X5_shelf (p1 : Int32) (p2 : Int32) : Option (Int32) :=
  some (((p1 * (6 : Int32)) + p2))
abbrev wz_X5_shelf : List Cond := Cond.code yX5_shelf cX5_shelf 2 (some .int) :: qw_big
def rm_X5_shelf : Room := { frames := 0, cells := 0, slots := 0, locals := 0 }
set_option maxHeartbeats 4000000 in
set_option maxRecDepth 100000 in
theorem c_X5_shelf (l : Launch) {D : va_G} {cy : Nat → ClassId} {ws : va_W} {p1 : Int32} {p2 : Int32} {rv : Int32} {sz : Nat} (hf : f_X5_shelf p1 p2 = some (rv)) : Met l yX5_shelf wz_X5_shelf rm_X5_shelf (va_Pc [.int p1, .int p2] (qw_Pre D cy ws sz)) (qw_R (some (.int rv))) 0 0 (fun _ => False) := by
  refine qw_of (cc := cX5_shelf) (maxL := 2) (ret := (some .int)) (by decide) (Nat.le_of_ble_eq_true rfl) ?_
  intro p e s m args below meth c ls S0 hr hlocks hsz V hl
  have S0 : CallFix p m c cX5_shelf 2 s args qw_big RX5 := S0
  have hx := S0.1; have hb := S0.2.1; have hown := S0.2.2.2.1; have hts := S0.2.2.2.2
  have hl : lv_has ls 2 [(0, .int p1), (1, .int p2)] := hl
  obtain ⟨Q9, hQ⟩ : ∃ q, q = MQ below (qw_R (some (.int rv))) args s 0 0 (fun _ => False) := ⟨_, rfl⟩
  rw [← hQ]
  generalize va_A ws sz = Z9 at V
  unfold f_X5_shelf at hf
  refine lv_iload_n hx hb dX5_shelf_0 rfl (lv_at hl 0 rfl) ?_
  refine lv_bipush (v := 6) hx hb dX5_shelf_1 (by decide) ?_
  refine lv_imul hx hb dX5_shelf_3 ?_
  refine lv_iload_n hx hb dX5_shelf_4 rfl (lv_at hl 1 rfl) ?_
  refine lv_iadd hx hb dX5_shelf_5 ?_
  have hE := Option.some.inj hf
  exact qw_iretR S0 hr hlocks hQ hE dX5_shelf_6
theorem kd_X2_readShop : yX2_readShop.cls = RX2 ∧ yX2_readShop.cls ≠ "java/lang/invoke/MethodHandle" ∧ yX2_readShop.cls ≠ "java/lang/invoke/VarHandle" ∧ (parseMethodDescriptor yX2_readShop.desc).map (fun d => d.parameters.length) = some 0 := by decide +kernel
def f_X2_readShop_j116 (T : Nat) (K57 : (Nat → Int32) → (Nat → Nat → Int32) → Int32 → Int32 → Option ((Nat → Int32) × (Nat → Nat → Int32))) (I : Nat → Int32) (A : Nat → Nat → Int32) (y1 : Int32) (y2 : Int32) (y3 : Int32) (y4 : Int32) (s0 : Int32) : Option ((Nat → Int32) × (Nat → Nat → Int32)) :=
  qf_bd (f_X2_passUnless A T I s0) fun I11 =>
  qf_let ((y2 ||| ((1 : Int32) <<< (y4 &&& 31)))) fun x12 =>
  qf_bd (f_X5_shelf y1 y4) fun r13 =>
  qf_bd2 (f_X2_readInteger A T I11 (0 : Int32) (9999 : Int32)) fun r14 I15 =>
  qf_st 24 r13 fun i17 =>
  qf_let (qf_up A 53 (upd (A 53) i17 r14)) fun A16 =>
  qf_let (y3 + (1 : Int32)) fun x18 =>
  K57 I15 A16 x12 x18
def f_X2_readShop_l57 (T : Nat)  (y1 : Int32) : Nat → (Nat → Int32) → (Nat → Nat → Int32) → Int32 → Int32 → Option ((Nat → Int32) × (Nat → Nat → Int32))
  | 0, _, _, _, _ => none
  | n + 1, I, A, y2, y3 =>
  if (6 : Int32) < y3 then (some (I, A)) else (if (I 3) = 0 then (if (I 8) = (1 : Int32) then (qf_bd2 (f_X2_seeName_r33 A T I (I 17)) fun r9 I10 =>
        if (y2 &&& ((1 : Int32) <<< (r9 &&& 31))) = 0 then (f_X2_readShop_j116 T (fun z0 z1 z2 z3 => f_X2_readShop_l57 T y1 n z0 z1 z2 z3) I10 A y1 y2 y3 r9 (0 : Int32)) else (f_X2_readShop_j116 T (fun z0 z1 z2 z3 => f_X2_readShop_l57 T y1 n z0 z1 z2 z3) I10 A y1 y2 y3 r9 (1 : Int32))) else (some (I, A))) else (some (I, A)))
def f_X2_readShop (T : Nat) (I : Nat → Int32) (A : Nat → Nat → Int32) : Option ((Nat → Int32) × (Nat → Nat → Int32)) :=
  qf_let ((I 19)) fun x1 =>
  if x1 < (4 : Int32) then (qf_bd (f_X6_advance A T I) fun I2 =>
    qf_bd2 (f_X2_readNewName A T I2) fun r3 I4 =>
    qf_st 4 x1 fun i6 =>
    qf_let (qf_up A 25 (upd (A 25) i6 r3)) fun A5 =>
    qf_let (upd I4 19 ((I4 19) + (1 : Int32))) fun I7 =>
    f_X2_readShop_l57 T x1 100000 I7 A5 (0 : Int32) (0 : Int32)) else (qf_bd (f_X2_fail I (-15 : Int32)) fun I8 =>
    some (I8, A))
abbrev wz_X2_readShop : List Cond := Cond.code yX2_readShop cX2_readShop 5 none :: qw_big
def rm_X2_readShop : Room := { frames := 7, cells := 0, slots := 0, locals := 196 }
set_option maxHeartbeats 4000000 in
set_option maxRecDepth 100000 in
theorem c_X2_readShop (l : Launch) {D : va_G} {cy : Nat → ClassId} {ad : Nat → Nat} {I : Nat → Int32} {A : Nat → Nat → Int32} {G : Nat → Int32 × (Nat → Nat → Int32)} {T : Nat}  {I9 : Nat → Int32} {A9 : Nat → Nat → Int32} {sz : Nat} (hf : f_X2_readShop T I A = some (I9, A9)) : Met l yX2_readShop wz_X2_readShop rm_X2_readShop (va_Pc [.ref (ad 3)] (qw_Pre D cy (Wo cy ad I A G T) sz)) (qw_Q none D (Wo cy ad I9 A9 G T) (va_A (Wo cy ad I A G T) sz)) 0 0 (va_A (Wo cy ad I A G T) sz) := by
  refine qw_of (cc := cX2_readShop) (maxL := 5) (ret := none) (by decide) (Nat.le_of_ble_eq_true rfl) ?_
  intro p e s m args below meth c ls S0 hr hlocks hsz V hl
  have S0 : CallFix p m c cX2_readShop 5 s args qw_big RX2 := S0
  have hx := S0.1; have hb := S0.2.1; have hown := S0.2.2.2.1; have hts := S0.2.2.2.2
  have hl : lv_has ls 5 [(0, .ref (ad 3))] := hl
  generalize va_A (Wo cy ad I A G T) sz = Z9 at V ⊢
  obtain ⟨Q9, hQ⟩ : ∃ q, q = MQ below (qw_Q none D (Wo cy ad I9 A9 G T) Z9) args s 0 0 Z9 := ⟨_, rfl⟩
  rw [← hQ]
  clear hsz
  have J_116 : ∀ {K57 : (Nat → Int32) → (Nat → Nat → Int32) → Int32 → Int32 → Option ((Nat → Int32) × (Nat → Nat → Int32))} {y1 : Int32}  (hK57 : ∀ {I : Nat → Int32} {A : Nat → Nat → Int32} {y2 : Int32} {y3 : Int32} {H : Heap} {locs : List Loc} {ls : Array Slot}, K57 I A y2 y3 = some (I9, A9) → qw_V D cy Z9 s (Wo cy ad I A G T) H locs → lv_has ls 5 [(0, .ref (ad 3)), (1, .int y1), (2, .int y2), (3, .int y3)] → W p l e rm_X2_readShop s m args below meth c H locs 0 0 Q9 (F0 m 57 ls [])) {I : Nat → Int32} {A : Nat → Nat → Int32} {y2 : Int32} {y3 : Int32} {y4 : Int32} {s0 : Int32} {H : Heap} {locs : List Loc} {ls : Array Slot}, f_X2_readShop_j116 T K57 I A y1 y2 y3 y4 s0 = some (I9, A9) → qw_V D cy Z9 s (Wo cy ad I A G T) H locs → lv_has ls 5 [(0, .ref (ad 3)), (1, .int y1), (2, .int y2), (3, .int y3), (4, .int y4)] → W p l e rm_X2_readShop s m args below meth c H locs 0 0 Q9 (F0 m 116 ls [.int s0, .ref (ad 3)]) := by
    intro K57 y1 hK57 I A y2 y3 y4 s0 H locs ls hf V hl
    unfold f_X2_readShop_j116 at hf
    obtain ⟨I11, hc_116, hf⟩ := qf_bd_e hf
    refine qw_cV (rest := []) (st1 := []) S0 V hl 3 gO_3 rfl (c_X2_passUnless l hc_116) kg_X2_155 rfl ⟨rfl, rfl⟩ kd_X2_passUnless ⟨Nat.le_of_ble_eq_true rfl, Nat.le_of_ble_eq_true rfl⟩ rfl rfl (Nat.le_of_ble_eq_true rfl) ⟨Nat.zero_le _, Nat.zero_le _⟩ rfl dX2_readShop_116 (fun H locs V => ?_)
    refine lv_iload_n hx hb dX2_readShop_119 rfl (lv_at hl 2 rfl) ?_
    refine lv_iconst (v := 1) hx hb dX2_readShop_120 (by decide) ?_
    refine lv_iload hx hb dX2_readShop_121 (lv_at hl 4 rfl) ?_
    refine lv_ishl hx hb dX2_readShop_123 ?_
    refine lv_ior hx hb dX2_readShop_124 ?_
    refine lv_topi (fun x12 e_x12 => ?_)
    replace hf := qf_let_e e_x12 hf
    refine lv_istore_n (lv' := [(2, .int x12), (0, .ref (ad 3)), (1, .int y1), (3, .int y3), (4, .int y4)]) hx hb dX2_readShop_125 rfl hl (by decide) rfl (fun ls hl => ?_)
    refine lv_aload_n hx hb dX2_readShop_126 rfl (lv_at hl 1 rfl) ?_
    refine gfO_3_3 S0 V kl_X2_32 dX2_readShop_127 ?_
    refine gfO_58_7 S0 V kl_X2_189 dX2_readShop_130 ?_
    refine lv_iload_n hx hb dX2_readShop_133 rfl (lv_at hl 2 rfl) ?_
    refine lv_iload hx hb dX2_readShop_134 (lv_at hl 4 rfl) ?_
    obtain ⟨r13, hc_136, hf⟩ := qf_bd_e hf
    refine qw_cSR (rest := [.ref (ad 65)]) (st1 := [.int r13, .ref (ad 65)]) S0 V hl (c_X5_shelf l hc_136) kg_X2_192 rfl ⟨rfl, rfl⟩ kd_X5_shelf ⟨Nat.le_of_ble_eq_true rfl, Nat.le_of_ble_eq_true rfl⟩ rfl rfl (Nat.le_of_ble_eq_true rfl) ⟨Nat.zero_le _, Nat.zero_le _⟩ rfl dX2_readShop_136 ?_
    refine lv_aload_n hx hb dX2_readShop_139 rfl (lv_at hl 1 rfl) ?_
    refine lv_iconst (v := 0) hx hb dX2_readShop_140 (by decide) ?_
    refine lv_sipush (v := 9999) hx hb dX2_readShop_141 (by decide) ?_
    obtain ⟨r14, I15, hc_144, hf⟩ := qf_bd2_e hf
    refine qw_cV (rest := [.int r13, .ref (ad 65)]) (st1 := [.int r14, .int r13, .ref (ad 65)]) S0 V hl 3 gO_3 rfl (c_X2_readInteger l hc_144) kg_X2_135 rfl ⟨rfl, rfl⟩ kd_X2_readInteger ⟨Nat.le_of_ble_eq_true rfl, Nat.le_of_ble_eq_true rfl⟩ rfl rfl (Nat.le_of_ble_eq_true rfl) ⟨Nat.zero_le _, Nat.zero_le _⟩ rfl dX2_readShop_144 (fun H locs V => ?_)
    have h_147 := qf_st_in hf
    replace hf := qf_st_e hf
    refine asO_65 S0 V h_147 dX2_readShop_147 (fun H locs A16 e_A16 V => ?_)
    replace hf := qf_let_e e_A16 hf
    obtain ⟨x18, e_x18⟩ : ∃ y : Int32, y = y3 + (1 : Int32) := ⟨_, rfl⟩
    refine lv_iinc (v := x18) (lv' := [(3, .int x18), (2, .int x12), (0, .ref (ad 3)), (1, .int y1), (4, .int y4)]) hx hb dX2_readShop_148 hl (k := 3) rfl (by rw [e_x18]; rfl) (by decide) rfl (fun ls hl => ?_)
    replace hf := qf_let_e e_x18 hf
    refine lv_goto (tgt := 57) hx hb dX2_readShop_151 (by decide) ?_
    exact hK57 hf V (lv_sub hl [2, 3, 1, 0] rfl)
  have L_57 : ∀  {y1 : Int32} {n : Nat} {I : Nat → Int32} {A : Nat → Nat → Int32} {y2 : Int32} {y3 : Int32} {H : Heap} {locs : List Loc} {ls : Array Slot}, f_X2_readShop_l57 T y1 n I A y2 y3 = some (I9, A9) → qw_V D cy Z9 s (Wo cy ad I A G T) H locs → lv_has ls 5 [(0, .ref (ad 3)), (1, .int y1), (2, .int y2), (3, .int y3)] → W p l e rm_X2_readShop s m args below meth c H locs 0 0 Q9 (F0 m 57 ls []) := by
    intro y1 n
    induction n with
    | zero => intro I A y2 y3 H locs ls hf V hl; exact qf_no hf
    | succ n ih =>
      intro I A y2 y3 H locs ls hf V hl
      rw [f_X2_readShop_l57] at hf
      refine lv_iload_n hx hb dX2_readShop_57 rfl (lv_at hl 3 rfl) ?_
      refine lv_bipush (v := 6) hx hb dX2_readShop_58 (by decide) ?_
      refine lv_icmp_gt (tgt := 154) hx hb dX2_readShop_60 (by decide) (fun c_60 => ?_) (fun c_60 => ?_)
      · replace hf := qf_t c_60 hf
        have hE := Option.some.inj hf
        obtain ⟨e0, hE⟩ := qf_pr hE
        exact qw_vreti S0 hr hlocks hQ (by rw [e0, hE]) V dX2_readShop_154
      · replace hf := qf_f c_60 hf
        refine lv_aload_n hx hb dX2_readShop_63 rfl (lv_at hl 0 rfl) ?_
        refine gfO_3_4 S0 V kl_X2_36 dX2_readShop_64 ?_
        refine lv_if_ne (tgt := 154) hx hb dX2_readShop_67 (by decide) (fun c_67 => ?_) (fun c_67 => ?_)
        · replace hf := qf_f c_67 hf
          have hE := Option.some.inj hf
          obtain ⟨e0, hE⟩ := qf_pr hE
          exact qw_vreti S0 hr hlocks hQ (by rw [e0, hE]) V dX2_readShop_154
        · replace hf := qf_t c_67 hf
          refine lv_aload_n hx hb dX2_readShop_70 rfl (lv_at hl 0 rfl) ?_
          refine gfO_3_0 S0 V kl_X2_12 dX2_readShop_71 ?_
          refine gfO_4_4 S0 V kl_X2_50 dX2_readShop_74 ?_
          refine lv_iconst (v := 1) hx hb dX2_readShop_77 (by decide) ?_
          refine lv_icmp_ne (tgt := 154) hx hb dX2_readShop_78 (by decide) (fun c_78 => ?_) (fun c_78 => ?_)
          · replace hf := qf_f c_78 hf
            have hE := Option.some.inj hf
            obtain ⟨e0, hE⟩ := qf_pr hE
            exact qw_vreti S0 hr hlocks hQ (by rw [e0, hE]) V dX2_readShop_154
          · replace hf := qf_t c_78 hf
            refine lv_aload_n hx hb dX2_readShop_81 rfl (lv_at hl 0 rfl) ?_
            refine lv_aload_n hx hb dX2_readShop_82 rfl (lv_at hl 0 rfl) ?_
            refine gfO_3_2 S0 V kl_X2_25 dX2_readShop_83 ?_
            refine gfO_31_5 S0 V kl_X2_162 dX2_readShop_86 ?_
            refine lv_aload_n hx hb dX2_readShop_89 rfl (lv_at hl 0 rfl) ?_
            refine gfO_3_2 S0 V kl_X2_25 dX2_readShop_90 ?_
            refine gfO_31_1 S0 V kl_X2_159 dX2_readShop_93 ?_
            obtain ⟨r9, I10, hc_96, hf⟩ := qf_bd2_e hf
            refine qw_cV (rest := []) (st1 := [.int r9]) S0 V hl 3 gO_3 rfl (c_X2_seeName_r33 l hc_96) kg_X2_151 rfl ⟨rfl, rfl⟩ kd_X2_seeName ⟨Nat.le_of_ble_eq_true rfl, Nat.le_of_ble_eq_true rfl⟩ rfl rfl (Nat.le_of_ble_eq_true rfl) ⟨Nat.zero_le _, Nat.zero_le _⟩ rfl dX2_readShop_96 (fun H locs V => ?_)
            refine lv_istore (lv' := [(4, .int r9), (0, .ref (ad 3)), (1, .int y1), (2, .int y2), (3, .int y3)]) hx hb dX2_readShop_99 hl (by decide) rfl (fun ls hl => ?_)
            refine lv_aload_n hx hb dX2_readShop_101 rfl (lv_at hl 1 rfl) ?_
            refine lv_iload_n hx hb dX2_readShop_102 rfl (lv_at hl 3 rfl) ?_
            refine lv_iconst (v := 1) hx hb dX2_readShop_103 (by decide) ?_
            refine lv_iload hx hb dX2_readShop_104 (lv_at hl 0 rfl) ?_
            refine lv_ishl hx hb dX2_readShop_106 ?_
            refine lv_iand hx hb dX2_readShop_107 ?_
            refine lv_if_eq (tgt := 115) hx hb dX2_readShop_108 (by decide) (fun c_108 => ?_) (fun c_108 => ?_)
            · replace hf := qf_t c_108 hf
              refine lv_iconst (v := 0) hx hb dX2_readShop_115 (by decide) ?_
              exact J_116 (fun hf V hl => ih hf V hl) hf V (lv_sub hl [1, 2, 3, 4, 0] rfl)
            · replace hf := qf_f c_108 hf
              refine lv_iconst (v := 1) hx hb dX2_readShop_111 (by decide) ?_
              refine lv_goto (tgt := 116) hx hb dX2_readShop_112 (by decide) ?_
              exact J_116 (fun hf V hl => ih hf V hl) hf V (lv_sub hl [1, 2, 3, 4, 0] rfl)
  unfold f_X2_readShop at hf
  refine lv_aload_n hx hb dX2_readShop_0 rfl (lv_at hl 0 rfl) ?_
  refine gfO_3_2 S0 V kl_X2_25 dX2_readShop_1 ?_
  refine gfO_31_3 S0 V kl_X2_183 dX2_readShop_4 ?_
  refine lv_topi (fun x1 e_x1 => ?_)
  replace hf := qf_let_e e_x1 hf
  refine lv_istore_n (lv' := [(1, .int x1), (0, .ref (ad 3))]) hx hb dX2_readShop_7 rfl hl (by decide) rfl (fun ls hl => ?_)
  refine lv_iload_n hx hb dX2_readShop_8 rfl (lv_at hl 0 rfl) ?_
  refine lv_iconst (v := 4) hx hb dX2_readShop_9 (by decide) ?_
  refine lv_icmp_lt (tgt := 20) hx hb dX2_readShop_10 (by decide) (fun c_10 => ?_) (fun c_10 => ?_)
  · replace hf := qf_t c_10 hf
    refine lv_aload_n hx hb dX2_readShop_20 rfl (lv_at hl 1 rfl) ?_
    refine gfO_3_0 S0 V kl_X2_12 dX2_readShop_21 ?_
    obtain ⟨I2, hc_24, hf⟩ := qf_bd_e hf
    refine qw_cV (rest := []) (st1 := []) S0 V hl 4 gO_4 rfl (c_X6_advance l hc_24) kg_X2_100 rfl ⟨rfl, rfl⟩ kd_X6_advance ⟨Nat.le_of_ble_eq_true rfl, Nat.le_of_ble_eq_true rfl⟩ rfl rfl (Nat.le_of_ble_eq_true rfl) ⟨Nat.zero_le _, Nat.zero_le _⟩ rfl dX2_readShop_24 (fun H locs V => ?_)
    refine lv_aload_n hx hb dX2_readShop_27 rfl (lv_at hl 1 rfl) ?_
    refine gfO_3_2 S0 V kl_X2_25 dX2_readShop_28 ?_
    refine gfO_31_7 S0 V kl_X2_186 dX2_readShop_31 ?_
    refine lv_iload_n hx hb dX2_readShop_34 rfl (lv_at hl 0 rfl) ?_
    refine lv_aload_n hx hb dX2_readShop_35 rfl (lv_at hl 1 rfl) ?_
    obtain ⟨r3, I4, hc_36, hf⟩ := qf_bd2_e hf
    refine qw_cV (rest := [.int x1, .ref (ad 35)]) (st1 := [.int r3, .int x1, .ref (ad 35)]) S0 V hl 3 gO_3 rfl (c_X2_readNewName l hc_36) kg_X2_129 rfl ⟨rfl, rfl⟩ kd_X2_readNewName ⟨Nat.le_of_ble_eq_true rfl, Nat.le_of_ble_eq_true rfl⟩ rfl rfl (Nat.le_of_ble_eq_true rfl) ⟨Nat.zero_le _, Nat.zero_le _⟩ rfl dX2_readShop_36 (fun H locs V => ?_)
    have h_39 := qf_st_in hf
    replace hf := qf_st_e hf
    refine asO_35 S0 V h_39 dX2_readShop_39 (fun H locs A5 e_A5 V => ?_)
    replace hf := qf_let_e e_A5 hf
    refine lv_aload_n hx hb dX2_readShop_40 rfl (lv_at hl 1 rfl) ?_
    refine gfO_3_2 S0 V kl_X2_25 dX2_readShop_41 ?_
    refine lv_dup hx hb dX2_readShop_44 rfl ?_
    refine gfO_31_3 S0 V kl_X2_183 dX2_readShop_45 ?_
    refine lv_iconst (v := 1) hx hb dX2_readShop_48 (by decide) ?_
    refine lv_iadd hx hb dX2_readShop_49 ?_
    refine pfO_31_3 S0 V kl_X2_183 dX2_readShop_50 (fun H locs I7 e_I7 V => ?_)
    replace hf := qf_let_e e_I7 hf
    refine lv_iconst (v := 0) hx hb dX2_readShop_53 (by decide) ?_
    refine lv_istore_n (lv' := [(2, .int (0 : Int32)), (1, .int x1), (0, .ref (ad 3))]) hx hb dX2_readShop_54 rfl hl (by decide) rfl (fun ls hl => ?_)
    refine lv_iconst (v := 0) hx hb dX2_readShop_55 (by decide) ?_
    refine lv_istore_n (lv' := [(3, .int (0 : Int32)), (2, .int (0 : Int32)), (1, .int x1), (0, .ref (ad 3))]) hx hb dX2_readShop_56 rfl hl (by decide) rfl (fun ls hl => ?_)
    exact L_57 hf V (lv_sub hl [3, 2, 1, 0] rfl)
  · replace hf := qf_f c_10 hf
    refine lv_aload_n hx hb dX2_readShop_13 rfl (lv_at hl 1 rfl) ?_
    refine lv_bipush (v := -15) hx hb dX2_readShop_14 (by decide) ?_
    obtain ⟨I8, hc_16, hf⟩ := qf_bd_e hf
    refine qw_cV (rest := []) (st1 := []) S0 V hl 3 gO_3 rfl (c_X2_fail l hc_16) kg_X2_96 rfl ⟨rfl, rfl⟩ kd_X2_fail ⟨Nat.le_of_ble_eq_true rfl, Nat.le_of_ble_eq_true rfl⟩ rfl rfl (Nat.le_of_ble_eq_true rfl) ⟨Nat.zero_le _, Nat.zero_le _⟩ rfl dX2_readShop_16 (fun H locs V => ?_)
    have hE := Option.some.inj hf
    obtain ⟨e0, hE⟩ := qf_pr hE
    exact qw_vreti S0 hr hlocks hQ (by rw [e0, hE]) V dX2_readShop_19
theorem kd_X2_readHouse : yX2_readHouse.cls = RX2 ∧ yX2_readHouse.cls ≠ "java/lang/invoke/MethodHandle" ∧ yX2_readHouse.cls ≠ "java/lang/invoke/VarHandle" ∧ (parseMethodDescriptor yX2_readHouse.desc).map (fun d => d.parameters.length) = some 0 := by decide +kernel
def f_X2_readHouse (T : Nat) (I : Nat → Int32) (A : Nat → Nat → Int32) : Option ((Nat → Int32) × (Nat → Nat → Int32)) :=
  qf_let ((I 18)) fun x1 =>
  if x1 < (6 : Int32) then (qf_bd (f_X6_advance A T I) fun I2 =>
    qf_bd2 (f_X2_readNewName A T I2) fun r3 I4 =>
    qf_st 6 x1 fun i6 =>
    qf_let (qf_up A 24 (upd (A 24) i6 r3)) fun A5 =>
    qf_bd2 (f_X2_readInteger A5 T I4 (1 : Int32) (9 : Int32)) fun r7 I8 =>
    qf_st 6 x1 fun i10 =>
    qf_let (qf_up A5 48 (upd (A5 48) i10 r7)) fun A9 =>
    qf_let (upd I8 18 ((I8 18) + (1 : Int32))) fun I11 =>
    some (I11, A9)) else (qf_bd (f_X2_fail I (-15 : Int32)) fun I12 =>
    some (I12, A))
abbrev wz_X2_readHouse : List Cond := Cond.code yX2_readHouse cX2_readHouse 2 none :: qw_big
def rm_X2_readHouse : Room := { frames := 7, cells := 0, slots := 0, locals := 194 }
set_option maxHeartbeats 4000000 in
set_option maxRecDepth 100000 in
theorem c_X2_readHouse (l : Launch) {D : va_G} {cy : Nat → ClassId} {ad : Nat → Nat} {I : Nat → Int32} {A : Nat → Nat → Int32} {G : Nat → Int32 × (Nat → Nat → Int32)} {T : Nat}  {I9 : Nat → Int32} {A9 : Nat → Nat → Int32} {sz : Nat} (hf : f_X2_readHouse T I A = some (I9, A9)) : Met l yX2_readHouse wz_X2_readHouse rm_X2_readHouse (va_Pc [.ref (ad 3)] (qw_Pre D cy (Wo cy ad I A G T) sz)) (qw_Q none D (Wo cy ad I9 A9 G T) (va_A (Wo cy ad I A G T) sz)) 0 0 (va_A (Wo cy ad I A G T) sz) := by
  refine qw_of (cc := cX2_readHouse) (maxL := 2) (ret := none) (by decide) (Nat.le_of_ble_eq_true rfl) ?_
  intro p e s m args below meth c ls S0 hr hlocks hsz V hl
  have S0 : CallFix p m c cX2_readHouse 2 s args qw_big RX2 := S0
  have hx := S0.1; have hb := S0.2.1; have hown := S0.2.2.2.1; have hts := S0.2.2.2.2
  have hl : lv_has ls 2 [(0, .ref (ad 3))] := hl
  generalize va_A (Wo cy ad I A G T) sz = Z9 at V ⊢
  obtain ⟨Q9, hQ⟩ : ∃ q, q = MQ below (qw_Q none D (Wo cy ad I9 A9 G T) Z9) args s 0 0 Z9 := ⟨_, rfl⟩
  rw [← hQ]
  clear hsz
  unfold f_X2_readHouse at hf
  refine lv_aload_n hx hb dX2_readHouse_0 rfl (lv_at hl 0 rfl) ?_
  refine gfO_3_2 S0 V kl_X2_25 dX2_readHouse_1 ?_
  refine gfO_31_2 S0 V kl_X2_174 dX2_readHouse_4 ?_
  refine lv_topi (fun x1 e_x1 => ?_)
  replace hf := qf_let_e e_x1 hf
  refine lv_istore_n (lv' := [(1, .int x1), (0, .ref (ad 3))]) hx hb dX2_readHouse_7 rfl hl (by decide) rfl (fun ls hl => ?_)
  refine lv_iload_n hx hb dX2_readHouse_8 rfl (lv_at hl 0 rfl) ?_
  refine lv_bipush (v := 6) hx hb dX2_readHouse_9 (by decide) ?_
  refine lv_icmp_lt (tgt := 21) hx hb dX2_readHouse_11 (by decide) (fun c_11 => ?_) (fun c_11 => ?_)
  · replace hf := qf_t c_11 hf
    refine lv_aload_n hx hb dX2_readHouse_21 rfl (lv_at hl 1 rfl) ?_
    refine gfO_3_0 S0 V kl_X2_12 dX2_readHouse_22 ?_
    obtain ⟨I2, hc_25, hf⟩ := qf_bd_e hf
    refine qw_cV (rest := []) (st1 := []) S0 V hl 4 gO_4 rfl (c_X6_advance l hc_25) kg_X2_100 rfl ⟨rfl, rfl⟩ kd_X6_advance ⟨Nat.le_of_ble_eq_true rfl, Nat.le_of_ble_eq_true rfl⟩ rfl rfl (Nat.le_of_ble_eq_true rfl) ⟨Nat.zero_le _, Nat.zero_le _⟩ rfl dX2_readHouse_25 (fun H locs V => ?_)
    refine lv_aload_n hx hb dX2_readHouse_28 rfl (lv_at hl 1 rfl) ?_
    refine gfO_3_2 S0 V kl_X2_25 dX2_readHouse_29 ?_
    refine gfO_31_6 S0 V kl_X2_177 dX2_readHouse_32 ?_
    refine lv_iload_n hx hb dX2_readHouse_35 rfl (lv_at hl 0 rfl) ?_
    refine lv_aload_n hx hb dX2_readHouse_36 rfl (lv_at hl 1 rfl) ?_
    obtain ⟨r3, I4, hc_37, hf⟩ := qf_bd2_e hf
    refine qw_cV (rest := [.int x1, .ref (ad 34)]) (st1 := [.int r3, .int x1, .ref (ad 34)]) S0 V hl 3 gO_3 rfl (c_X2_readNewName l hc_37) kg_X2_129 rfl ⟨rfl, rfl⟩ kd_X2_readNewName ⟨Nat.le_of_ble_eq_true rfl, Nat.le_of_ble_eq_true rfl⟩ rfl rfl (Nat.le_of_ble_eq_true rfl) ⟨Nat.zero_le _, Nat.zero_le _⟩ rfl dX2_readHouse_37 (fun H locs V => ?_)
    have h_40 := qf_st_in hf
    replace hf := qf_st_e hf
    refine asO_34 S0 V h_40 dX2_readHouse_40 (fun H locs A5 e_A5 V => ?_)
    replace hf := qf_let_e e_A5 hf
    refine lv_aload_n hx hb dX2_readHouse_41 rfl (lv_at hl 1 rfl) ?_
    refine gfO_3_3 S0 V kl_X2_32 dX2_readHouse_42 ?_
    refine gfO_58_2 S0 V kl_X2_180 dX2_readHouse_45 ?_
    refine lv_iload_n hx hb dX2_readHouse_48 rfl (lv_at hl 0 rfl) ?_
    refine lv_aload_n hx hb dX2_readHouse_49 rfl (lv_at hl 1 rfl) ?_
    refine lv_iconst (v := 1) hx hb dX2_readHouse_50 (by decide) ?_
    refine lv_bipush (v := 9) hx hb dX2_readHouse_51 (by decide) ?_
    obtain ⟨r7, I8, hc_53, hf⟩ := qf_bd2_e hf
    refine qw_cV (rest := [.int x1, .ref (ad 60)]) (st1 := [.int r7, .int x1, .ref (ad 60)]) S0 V hl 3 gO_3 rfl (c_X2_readInteger l hc_53) kg_X2_135 rfl ⟨rfl, rfl⟩ kd_X2_readInteger ⟨Nat.le_of_ble_eq_true rfl, Nat.le_of_ble_eq_true rfl⟩ rfl rfl (Nat.le_of_ble_eq_true rfl) ⟨Nat.zero_le _, Nat.zero_le _⟩ rfl dX2_readHouse_53 (fun H locs V => ?_)
    have h_56 := qf_st_in hf
    replace hf := qf_st_e hf
    refine asO_60 S0 V h_56 dX2_readHouse_56 (fun H locs A9 e_A9 V => ?_)
    replace hf := qf_let_e e_A9 hf
    refine lv_aload_n hx hb dX2_readHouse_57 rfl (lv_at hl 1 rfl) ?_
    refine gfO_3_2 S0 V kl_X2_25 dX2_readHouse_58 ?_
    refine lv_dup hx hb dX2_readHouse_61 rfl ?_
    refine gfO_31_2 S0 V kl_X2_174 dX2_readHouse_62 ?_
    refine lv_iconst (v := 1) hx hb dX2_readHouse_65 (by decide) ?_
    refine lv_iadd hx hb dX2_readHouse_66 ?_
    refine pfO_31_2 S0 V kl_X2_174 dX2_readHouse_67 (fun H locs I11 e_I11 V => ?_)
    replace hf := qf_let_e e_I11 hf
    have hE := Option.some.inj hf
    obtain ⟨e0, hE⟩ := qf_pr hE
    exact qw_vreti S0 hr hlocks hQ (by rw [e0, hE]) V dX2_readHouse_70
  · replace hf := qf_f c_11 hf
    refine lv_aload_n hx hb dX2_readHouse_14 rfl (lv_at hl 1 rfl) ?_
    refine lv_bipush (v := -15) hx hb dX2_readHouse_15 (by decide) ?_
    obtain ⟨I12, hc_17, hf⟩ := qf_bd_e hf
    refine qw_cV (rest := []) (st1 := []) S0 V hl 3 gO_3 rfl (c_X2_fail l hc_17) kg_X2_96 rfl ⟨rfl, rfl⟩ kd_X2_fail ⟨Nat.le_of_ble_eq_true rfl, Nat.le_of_ble_eq_true rfl⟩ rfl rfl (Nat.le_of_ble_eq_true rfl) ⟨Nat.zero_le _, Nat.zero_le _⟩ rfl dX2_readHouse_17 (fun H locs V => ?_)
    have hE := Option.some.inj hf
    obtain ⟨e0, hE⟩ := qf_pr hE
    exact qw_vreti S0 hr hlocks hQ (by rw [e0, hE]) V dX2_readHouse_20
def f_X2_seeName_r32_j39 (A : Nat → Nat → Int32) (T : Nat)  (I : Nat → Int32) (y3 : Int32) : Option (Int32 × (Nat → Int32)) :=
  if (I 3) = 0 then (some (y3, I)) else (some ((0 : Int32), I))
def f_X2_seeName_r32_j16 (A : Nat → Nat → Int32) (T : Nat)  (I : Nat → Int32) (y2 : Int32) : Option (Int32 × (Nat → Int32)) :=
  qf_bd (f_X6_letters I A T) fun r3 =>
  qf_bd (f_X3_find 4 (A 22) y2 r3) fun r4 =>
  if 0 ≤ r4 then (f_X2_seeName_r32_j39 A T I r4) else (qf_bd (f_X2_fail I (-13 : Int32)) fun I5 =>
    f_X2_seeName_r32_j39 A T I5 r4)
def f_X2_seeName_r32 (A : Nat → Nat → Int32) (T : Nat) (I : Nat → Int32) (p1 : Int32) : Option (Int32 × (Nat → Int32)) :=
  qf_bd (f_X6_isName I A T) fun r1 =>
  if r1 = 0 then (qf_bd (f_X2_fail I (-11 : Int32)) fun I2 =>
    f_X2_seeName_r32_j16 A T I2 p1) else (f_X2_seeName_r32_j16 A T I p1)
def rm_X2_seeName_r32 : Room := { frames := 6, cells := 0, slots := 0, locals := 173 }
set_option maxHeartbeats 4000000 in
set_option maxRecDepth 100000 in
theorem c_X2_seeName_r32 (l : Launch) {D : va_G} {cy : Nat → ClassId} {ad : Nat → Nat} {I : Nat → Int32} {A : Nat → Nat → Int32} {G : Nat → Int32 × (Nat → Nat → Int32)} {T : Nat} {p1 : Int32} {rv : Int32} {I9 : Nat → Int32} {sz : Nat} (hf : f_X2_seeName_r32 A T I p1 = some (rv, I9)) : Met l yX2_seeName wz_X2_seeName rm_X2_seeName_r32 (va_Pc [.ref (ad 3), .ref (ad 32), .int p1] (qw_Pre D cy (Wo cy ad I A G T) sz)) (qw_Q (some (.int rv)) D (Wo cy ad I9 A G T) (va_A (Wo cy ad I A G T) sz)) 0 0 (va_A (Wo cy ad I A G T) sz) := by
  refine qw_of (cc := cX2_seeName) (maxL := 4) (ret := (some .int)) (by decide) (Nat.le_of_ble_eq_true rfl) ?_
  intro p e s m args below meth c ls S0 hr hlocks hsz V hl
  have S0 : CallFix p m c cX2_seeName 4 s args qw_big RX2 := S0
  have hx := S0.1; have hb := S0.2.1; have hown := S0.2.2.2.1; have hts := S0.2.2.2.2
  have hl : lv_has ls 4 [(0, .ref (ad 3)), (1, .ref (ad 32)), (2, .int p1)] := hl
  generalize va_A (Wo cy ad I A G T) sz = Z9 at V ⊢
  obtain ⟨Q9, hQ⟩ : ∃ q, q = MQ below (qw_Q (some (.int rv)) D (Wo cy ad I9 A G T) Z9) args s 0 0 Z9 := ⟨_, rfl⟩
  rw [← hQ]
  clear hsz
  have J_39 : ∀  {I : Nat → Int32} {y3 : Int32} {H : Heap} {locs : List Loc} {ls : Array Slot}, f_X2_seeName_r32_j39 A T I y3 = some (rv, I9) → qw_V D cy Z9 s (Wo cy ad I A G T) H locs → lv_has ls 4 [(0, .ref (ad 3)), (3, .int y3)] → W p l e rm_X2_seeName_r32 s m args below meth c H locs 0 0 Q9 (F0 m 39 ls []) := by
    intro I y3 H locs ls hf V hl
    unfold f_X2_seeName_r32_j39 at hf
    refine lv_aload_n hx hb dX2_seeName_39 rfl (lv_at hl 0 rfl) ?_
    refine gfO_3_4 S0 V kl_X2_36 dX2_seeName_40 ?_
    refine lv_if_ne (tgt := 50) hx hb dX2_seeName_43 (by decide) (fun c_43 => ?_) (fun c_43 => ?_)
    · replace hf := qf_f c_43 hf
      refine lv_iconst (v := 0) hx hb dX2_seeName_50 (by decide) ?_
      have hE := Option.some.inj hf
      obtain ⟨e0, hE⟩ := qf_pr hE
      exact qw_ireti S0 hr hlocks hQ e0 (by rw [hE]) V dX2_seeName_51
    · replace hf := qf_t c_43 hf
      refine lv_iload_n hx hb dX2_seeName_46 rfl (lv_at hl 1 rfl) ?_
      refine lv_goto (tgt := 51) hx hb dX2_seeName_47 (by decide) ?_
      have hE := Option.some.inj hf
      obtain ⟨e0, hE⟩ := qf_pr hE
      exact qw_ireti S0 hr hlocks hQ e0 (by rw [hE]) V dX2_seeName_51
  have J_16 : ∀  {I : Nat → Int32} {y2 : Int32} {H : Heap} {locs : List Loc} {ls : Array Slot}, f_X2_seeName_r32_j16 A T I y2 = some (rv, I9) → qw_V D cy Z9 s (Wo cy ad I A G T) H locs → lv_has ls 4 [(0, .ref (ad 3)), (1, .ref (ad 32)), (2, .int y2)] → W p l e rm_X2_seeName_r32 s m args below meth c H locs 0 0 Q9 (F0 m 16 ls []) := by
    intro I y2 H locs ls hf V hl
    unfold f_X2_seeName_r32_j16 at hf
    refine lv_aload_n hx hb dX2_seeName_16 rfl (lv_at hl 1 rfl) ?_
    refine lv_iload_n hx hb dX2_seeName_17 rfl (lv_at hl 2 rfl) ?_
    refine lv_aload_n hx hb dX2_seeName_18 rfl (lv_at hl 0 rfl) ?_
    refine gfO_3_0 S0 V kl_X2_12 dX2_seeName_19 ?_
    obtain ⟨r3, hc_22, hf⟩ := qf_bd_e hf
    refine qw_cVR (rest := [.int y2, .ref (ad 32)]) (st1 := [.int r3, .int y2, .ref (ad 32)]) S0 V hl 4 gO_4 rfl (c_X6_letters l hc_22) kg_X2_111 rfl ⟨rfl, rfl⟩ kd_X6_letters ⟨Nat.le_of_ble_eq_true rfl, Nat.le_of_ble_eq_true rfl⟩ rfl rfl (Nat.le_of_ble_eq_true rfl) ⟨Nat.zero_le _, Nat.zero_le _⟩ rfl dX2_seeName_22 ?_
    obtain ⟨r4, hc_25, hf⟩ := qf_bd_e hf
    refine qw_cSR (rest := []) (st1 := [.int r4]) S0 V hl (c_X3_find l (q0 := 32) gO_32 hc_25) kg_X2_118 rfl ⟨rfl, rfl⟩ kd_X3_find ⟨Nat.le_of_ble_eq_true rfl, Nat.le_of_ble_eq_true rfl⟩ rfl rfl (Nat.le_of_ble_eq_true rfl) ⟨Nat.zero_le _, Nat.zero_le _⟩ rfl dX2_seeName_25 ?_
    refine lv_istore_n (lv' := [(3, .int r4), (0, .ref (ad 3)), (1, .ref (ad 32)), (2, .int y2)]) hx hb dX2_seeName_28 rfl hl (by decide) rfl (fun ls hl => ?_)
    refine lv_iload_n hx hb dX2_seeName_29 rfl (lv_at hl 0 rfl) ?_
    refine lv_if_ge (tgt := 39) hx hb dX2_seeName_30 (by decide) (fun c_30 => ?_) (fun c_30 => ?_)
    · replace hf := qf_t c_30 hf
      exact J_39 hf V (lv_sub hl [1, 0] rfl)
    · replace hf := qf_f c_30 hf
      refine lv_aload_n hx hb dX2_seeName_33 rfl (lv_at hl 1 rfl) ?_
      refine lv_bipush (v := -13) hx hb dX2_seeName_34 (by decide) ?_
      obtain ⟨I5, hc_36, hf⟩ := qf_bd_e hf
      refine qw_cV (rest := []) (st1 := []) S0 V hl 3 gO_3 rfl (c_X2_fail l hc_36) kg_X2_96 rfl ⟨rfl, rfl⟩ kd_X2_fail ⟨Nat.le_of_ble_eq_true rfl, Nat.le_of_ble_eq_true rfl⟩ rfl rfl (Nat.le_of_ble_eq_true rfl) ⟨Nat.zero_le _, Nat.zero_le _⟩ rfl dX2_seeName_36 (fun H locs V => ?_)
      exact J_39 hf V (lv_sub hl [1, 0] rfl)
  unfold f_X2_seeName_r32 at hf
  refine lv_aload_n hx hb dX2_seeName_0 rfl (lv_at hl 0 rfl) ?_
  refine gfO_3_0 S0 V kl_X2_12 dX2_seeName_1 ?_
  obtain ⟨r1, hc_4, hf⟩ := qf_bd_e hf
  refine qw_cVR (rest := []) (st1 := [.int r1]) S0 V hl 4 gO_4 rfl (c_X6_isName l hc_4) kg_X2_107 rfl ⟨rfl, rfl⟩ kd_X6_isName ⟨Nat.le_of_ble_eq_true rfl, Nat.le_of_ble_eq_true rfl⟩ rfl rfl (Nat.le_of_ble_eq_true rfl) ⟨Nat.zero_le _, Nat.zero_le _⟩ rfl dX2_seeName_4 ?_
  refine lv_if_ne (tgt := 16) hx hb dX2_seeName_7 (by decide) (fun c_7 => ?_) (fun c_7 => ?_)
  · replace hf := qf_f c_7 hf
    exact J_16 hf V (lv_sub hl [0, 1, 2] rfl)
  · replace hf := qf_t c_7 hf
    refine lv_aload_n hx hb dX2_seeName_10 rfl (lv_at hl 0 rfl) ?_
    refine lv_bipush (v := -11) hx hb dX2_seeName_11 (by decide) ?_
    obtain ⟨I2, hc_13, hf⟩ := qf_bd_e hf
    refine qw_cV (rest := []) (st1 := []) S0 V hl 3 gO_3 rfl (c_X2_fail l hc_13) kg_X2_96 rfl ⟨rfl, rfl⟩ kd_X2_fail ⟨Nat.le_of_ble_eq_true rfl, Nat.le_of_ble_eq_true rfl⟩ rfl rfl (Nat.le_of_ble_eq_true rfl) ⟨Nat.zero_le _, Nat.zero_le _⟩ rfl dX2_seeName_13 (fun H locs V => ?_)
    exact J_16 hf V (lv_sub hl [0, 1, 2] rfl)
theorem kd_X2_readGood : yX2_readGood.cls = RX2 ∧ yX2_readGood.cls ≠ "java/lang/invoke/MethodHandle" ∧ yX2_readGood.cls ≠ "java/lang/invoke/VarHandle" ∧ (parseMethodDescriptor yX2_readGood.desc).map (fun d => d.parameters.length) = some 0 := by decide +kernel
def f_X2_readGood (T : Nat) (I : Nat → Int32) (A : Nat → Nat → Int32) : Option ((Nat → Int32) × (Nat → Nat → Int32)) :=
  qf_let ((I 17)) fun x1 =>
  if x1 < (6 : Int32) then (qf_bd (f_X6_advance A T I) fun I2 =>
    qf_bd2 (f_X2_readNewName A T I2) fun r3 I4 =>
    qf_st 6 x1 fun i6 =>
    qf_let (qf_up A 23 (upd (A 23) i6 r3)) fun A5 =>
    qf_bd2 (f_X2_seeName_r32 A5 T I4 (I4 16)) fun r7 I8 =>
    qf_st 6 x1 fun i10 =>
    qf_let (qf_up A5 30 (upd (A5 30) i10 r7)) fun A9 =>
    qf_bd (f_X2_passUnless A9 T I8 (0 : Int32)) fun I11 =>
    qf_bd2 (f_X2_readInteger A9 T I11 (1 : Int32) (20 : Int32)) fun r12 I13 =>
    qf_st 6 x1 fun i15 =>
    qf_let (qf_up A9 31 (upd (A9 31) i15 r12)) fun A14 =>
    qf_bd2 (f_X2_readInteger A14 T I13 (0 : Int32) (99 : Int32)) fun r16 I17 =>
    qf_st 6 x1 fun i19 =>
    qf_let (qf_up A14 32 (upd (A14 32) i19 r16)) fun A18 =>
    qf_let (upd I17 17 ((I17 17) + (1 : Int32))) fun I20 =>
    some (I20, A18)) else (qf_bd (f_X2_fail I (-15 : Int32)) fun I21 =>
    some (I21, A))
abbrev wz_X2_readGood : List Cond := Cond.code yX2_readGood cX2_readGood 2 none :: qw_big
def rm_X2_readGood : Room := { frames := 7, cells := 0, slots := 0, locals := 196 }
set_option maxHeartbeats 4000000 in
set_option maxRecDepth 100000 in
theorem c_X2_readGood (l : Launch) {D : va_G} {cy : Nat → ClassId} {ad : Nat → Nat} {I : Nat → Int32} {A : Nat → Nat → Int32} {G : Nat → Int32 × (Nat → Nat → Int32)} {T : Nat}  {I9 : Nat → Int32} {A9 : Nat → Nat → Int32} {sz : Nat} (hf : f_X2_readGood T I A = some (I9, A9)) : Met l yX2_readGood wz_X2_readGood rm_X2_readGood (va_Pc [.ref (ad 3)] (qw_Pre D cy (Wo cy ad I A G T) sz)) (qw_Q none D (Wo cy ad I9 A9 G T) (va_A (Wo cy ad I A G T) sz)) 0 0 (va_A (Wo cy ad I A G T) sz) := by
  refine qw_of (cc := cX2_readGood) (maxL := 2) (ret := none) (by decide) (Nat.le_of_ble_eq_true rfl) ?_
  intro p e s m args below meth c ls S0 hr hlocks hsz V hl
  have S0 : CallFix p m c cX2_readGood 2 s args qw_big RX2 := S0
  have hx := S0.1; have hb := S0.2.1; have hown := S0.2.2.2.1; have hts := S0.2.2.2.2
  have hl : lv_has ls 2 [(0, .ref (ad 3))] := hl
  generalize va_A (Wo cy ad I A G T) sz = Z9 at V ⊢
  obtain ⟨Q9, hQ⟩ : ∃ q, q = MQ below (qw_Q none D (Wo cy ad I9 A9 G T) Z9) args s 0 0 Z9 := ⟨_, rfl⟩
  rw [← hQ]
  clear hsz
  unfold f_X2_readGood at hf
  refine lv_aload_n hx hb dX2_readGood_0 rfl (lv_at hl 0 rfl) ?_
  refine gfO_3_2 S0 V kl_X2_25 dX2_readGood_1 ?_
  refine gfO_31_1 S0 V kl_X2_159 dX2_readGood_4 ?_
  refine lv_topi (fun x1 e_x1 => ?_)
  replace hf := qf_let_e e_x1 hf
  refine lv_istore_n (lv' := [(1, .int x1), (0, .ref (ad 3))]) hx hb dX2_readGood_7 rfl hl (by decide) rfl (fun ls hl => ?_)
  refine lv_iload_n hx hb dX2_readGood_8 rfl (lv_at hl 0 rfl) ?_
  refine lv_bipush (v := 6) hx hb dX2_readGood_9 (by decide) ?_
  refine lv_icmp_lt (tgt := 21) hx hb dX2_readGood_11 (by decide) (fun c_11 => ?_) (fun c_11 => ?_)
  · replace hf := qf_t c_11 hf
    refine lv_aload_n hx hb dX2_readGood_21 rfl (lv_at hl 1 rfl) ?_
    refine gfO_3_0 S0 V kl_X2_12 dX2_readGood_22 ?_
    obtain ⟨I2, hc_25, hf⟩ := qf_bd_e hf
    refine qw_cV (rest := []) (st1 := []) S0 V hl 4 gO_4 rfl (c_X6_advance l hc_25) kg_X2_100 rfl ⟨rfl, rfl⟩ kd_X6_advance ⟨Nat.le_of_ble_eq_true rfl, Nat.le_of_ble_eq_true rfl⟩ rfl rfl (Nat.le_of_ble_eq_true rfl) ⟨Nat.zero_le _, Nat.zero_le _⟩ rfl dX2_readGood_25 (fun H locs V => ?_)
    refine lv_aload_n hx hb dX2_readGood_28 rfl (lv_at hl 1 rfl) ?_
    refine gfO_3_2 S0 V kl_X2_25 dX2_readGood_29 ?_
    refine gfO_31_5 S0 V kl_X2_162 dX2_readGood_32 ?_
    refine lv_iload_n hx hb dX2_readGood_35 rfl (lv_at hl 0 rfl) ?_
    refine lv_aload_n hx hb dX2_readGood_36 rfl (lv_at hl 1 rfl) ?_
    obtain ⟨r3, I4, hc_37, hf⟩ := qf_bd2_e hf
    refine qw_cV (rest := [.int x1, .ref (ad 33)]) (st1 := [.int r3, .int x1, .ref (ad 33)]) S0 V hl 3 gO_3 rfl (c_X2_readNewName l hc_37) kg_X2_129 rfl ⟨rfl, rfl⟩ kd_X2_readNewName ⟨Nat.le_of_ble_eq_true rfl, Nat.le_of_ble_eq_true rfl⟩ rfl rfl (Nat.le_of_ble_eq_true rfl) ⟨Nat.zero_le _, Nat.zero_le _⟩ rfl dX2_readGood_37 (fun H locs V => ?_)
    have h_40 := qf_st_in hf
    replace hf := qf_st_e hf
    refine asO_33 S0 V h_40 dX2_readGood_40 (fun H locs A5 e_A5 V => ?_)
    replace hf := qf_let_e e_A5 hf
    refine lv_aload_n hx hb dX2_readGood_41 rfl (lv_at hl 1 rfl) ?_
    refine gfO_3_2 S0 V kl_X2_25 dX2_readGood_42 ?_
    refine gfO_31_12 S0 V kl_X2_165 dX2_readGood_45 ?_
    refine lv_iload_n hx hb dX2_readGood_48 rfl (lv_at hl 0 rfl) ?_
    refine lv_aload_n hx hb dX2_readGood_49 rfl (lv_at hl 1 rfl) ?_
    refine lv_aload_n hx hb dX2_readGood_50 rfl (lv_at hl 1 rfl) ?_
    refine gfO_3_2 S0 V kl_X2_25 dX2_readGood_51 ?_
    refine gfO_31_4 S0 V kl_X2_125 dX2_readGood_54 ?_
    refine lv_aload_n hx hb dX2_readGood_57 rfl (lv_at hl 1 rfl) ?_
    refine gfO_3_2 S0 V kl_X2_25 dX2_readGood_58 ?_
    refine gfO_31_0 S0 V kl_X2_122 dX2_readGood_61 ?_
    obtain ⟨r7, I8, hc_64, hf⟩ := qf_bd2_e hf
    refine qw_cV (rest := [.int x1, .ref (ad 40)]) (st1 := [.int r7, .int x1, .ref (ad 40)]) S0 V hl 3 gO_3 rfl (c_X2_seeName_r32 l hc_64) kg_X2_151 rfl ⟨rfl, rfl⟩ kd_X2_seeName ⟨Nat.le_of_ble_eq_true rfl, Nat.le_of_ble_eq_true rfl⟩ rfl rfl (Nat.le_of_ble_eq_true rfl) ⟨Nat.zero_le _, Nat.zero_le _⟩ rfl dX2_readGood_64 (fun H locs V => ?_)
    have h_67 := qf_st_in hf
    replace hf := qf_st_e hf
    refine asO_40 S0 V h_67 dX2_readGood_67 (fun H locs A9 e_A9 V => ?_)
    replace hf := qf_let_e e_A9 hf
    refine lv_aload_n hx hb dX2_readGood_68 rfl (lv_at hl 1 rfl) ?_
    refine lv_iconst (v := 0) hx hb dX2_readGood_69 (by decide) ?_
    obtain ⟨I11, hc_70, hf⟩ := qf_bd_e hf
    refine qw_cV (rest := []) (st1 := []) S0 V hl 3 gO_3 rfl (c_X2_passUnless l hc_70) kg_X2_155 rfl ⟨rfl, rfl⟩ kd_X2_passUnless ⟨Nat.le_of_ble_eq_true rfl, Nat.le_of_ble_eq_true rfl⟩ rfl rfl (Nat.le_of_ble_eq_true rfl) ⟨Nat.zero_le _, Nat.zero_le _⟩ rfl dX2_readGood_70 (fun H locs V => ?_)
    refine lv_aload_n hx hb dX2_readGood_73 rfl (lv_at hl 1 rfl) ?_
    refine gfO_3_2 S0 V kl_X2_25 dX2_readGood_74 ?_
    refine gfO_31_13 S0 V kl_X2_168 dX2_readGood_77 ?_
    refine lv_iload_n hx hb dX2_readGood_80 rfl (lv_at hl 0 rfl) ?_
    refine lv_aload_n hx hb dX2_readGood_81 rfl (lv_at hl 1 rfl) ?_
    refine lv_iconst (v := 1) hx hb dX2_readGood_82 (by decide) ?_
    refine lv_bipush (v := 20) hx hb dX2_readGood_83 (by decide) ?_
    obtain ⟨r12, I13, hc_85, hf⟩ := qf_bd2_e hf
    refine qw_cV (rest := [.int x1, .ref (ad 41)]) (st1 := [.int r12, .int x1, .ref (ad 41)]) S0 V hl 3 gO_3 rfl (c_X2_readInteger l hc_85) kg_X2_135 rfl ⟨rfl, rfl⟩ kd_X2_readInteger ⟨Nat.le_of_ble_eq_true rfl, Nat.le_of_ble_eq_true rfl⟩ rfl rfl (Nat.le_of_ble_eq_true rfl) ⟨Nat.zero_le _, Nat.zero_le _⟩ rfl dX2_readGood_85 (fun H locs V => ?_)
    have h_88 := qf_st_in hf
    replace hf := qf_st_e hf
    refine asO_41 S0 V h_88 dX2_readGood_88 (fun H locs A14 e_A14 V => ?_)
    replace hf := qf_let_e e_A14 hf
    refine lv_aload_n hx hb dX2_readGood_89 rfl (lv_at hl 1 rfl) ?_
    refine gfO_3_2 S0 V kl_X2_25 dX2_readGood_90 ?_
    refine gfO_31_14 S0 V kl_X2_171 dX2_readGood_93 ?_
    refine lv_iload_n hx hb dX2_readGood_96 rfl (lv_at hl 0 rfl) ?_
    refine lv_aload_n hx hb dX2_readGood_97 rfl (lv_at hl 1 rfl) ?_
    refine lv_iconst (v := 0) hx hb dX2_readGood_98 (by decide) ?_
    refine lv_bipush (v := 99) hx hb dX2_readGood_99 (by decide) ?_
    obtain ⟨r16, I17, hc_101, hf⟩ := qf_bd2_e hf
    refine qw_cV (rest := [.int x1, .ref (ad 42)]) (st1 := [.int r16, .int x1, .ref (ad 42)]) S0 V hl 3 gO_3 rfl (c_X2_readInteger l hc_101) kg_X2_135 rfl ⟨rfl, rfl⟩ kd_X2_readInteger ⟨Nat.le_of_ble_eq_true rfl, Nat.le_of_ble_eq_true rfl⟩ rfl rfl (Nat.le_of_ble_eq_true rfl) ⟨Nat.zero_le _, Nat.zero_le _⟩ rfl dX2_readGood_101 (fun H locs V => ?_)
    have h_104 := qf_st_in hf
    replace hf := qf_st_e hf
    refine asO_42 S0 V h_104 dX2_readGood_104 (fun H locs A18 e_A18 V => ?_)
    replace hf := qf_let_e e_A18 hf
    refine lv_aload_n hx hb dX2_readGood_105 rfl (lv_at hl 1 rfl) ?_
    refine gfO_3_2 S0 V kl_X2_25 dX2_readGood_106 ?_
    refine lv_dup hx hb dX2_readGood_109 rfl ?_
    refine gfO_31_1 S0 V kl_X2_159 dX2_readGood_110 ?_
    refine lv_iconst (v := 1) hx hb dX2_readGood_113 (by decide) ?_
    refine lv_iadd hx hb dX2_readGood_114 ?_
    refine pfO_31_1 S0 V kl_X2_159 dX2_readGood_115 (fun H locs I20 e_I20 V => ?_)
    replace hf := qf_let_e e_I20 hf
    have hE := Option.some.inj hf
    obtain ⟨e0, hE⟩ := qf_pr hE
    exact qw_vreti S0 hr hlocks hQ (by rw [e0, hE]) V dX2_readGood_118
  · replace hf := qf_f c_11 hf
    refine lv_aload_n hx hb dX2_readGood_14 rfl (lv_at hl 1 rfl) ?_
    refine lv_bipush (v := -15) hx hb dX2_readGood_15 (by decide) ?_
    obtain ⟨I21, hc_17, hf⟩ := qf_bd_e hf
    refine qw_cV (rest := []) (st1 := []) S0 V hl 3 gO_3 rfl (c_X2_fail l hc_17) kg_X2_96 rfl ⟨rfl, rfl⟩ kd_X2_fail ⟨Nat.le_of_ble_eq_true rfl, Nat.le_of_ble_eq_true rfl⟩ rfl rfl (Nat.le_of_ble_eq_true rfl) ⟨Nat.zero_le _, Nat.zero_le _⟩ rfl dX2_readGood_17 (fun H locs V => ?_)
    have hE := Option.some.inj hf
    obtain ⟨e0, hE⟩ := qf_pr hE
    exact qw_vreti S0 hr hlocks hQ (by rw [e0, hE]) V dX2_readGood_20
theorem kd_X2_readSwap : yX2_readSwap.cls = RX2 ∧ yX2_readSwap.cls ≠ "java/lang/invoke/MethodHandle" ∧ yX2_readSwap.cls ≠ "java/lang/invoke/VarHandle" ∧ (parseMethodDescriptor yX2_readSwap.desc).map (fun d => d.parameters.length) = some 0 := by decide +kernel
def f_X2_readSwap_j77 (A : Nat → Nat → Int32) (T : Nat)  (I : Nat → Int32) (y1 : Int32) (y2 : Int32) (s0 : Int32) : Option ((Nat → Int32) × (Nat → Nat → Int32)) :=
  qf_bd (f_X2_passUnless A T I s0) fun I8 =>
  qf_bd2 (f_X2_readInteger A T I8 (1 : Int32) (9 : Int32)) fun r9 I10 =>
  qf_st 4 y1 fun i12 =>
  qf_let (qf_up A 29 (upd (A 29) i12 r9)) fun A11 =>
  qf_st 4 y1 fun i14 =>
  qf_let (qf_up A11 28 (upd (A11 28) i14 y2)) fun A13 =>
  some (I10, A13)
def f_X2_readSwap_j44 (A : Nat → Nat → Int32) (T : Nat)  (I : Nat → Int32) (y1 : Int32) (s0 : Int32) : Option ((Nat → Int32) × (Nat → Nat → Int32)) :=
  qf_bd (f_X2_passUnless A T I s0) fun I5 =>
  qf_bd2 (f_X2_seeName_r32 A T I5 (I5 16)) fun r6 I7 =>
  if r6 = y1 then (f_X2_readSwap_j77 A T I7 y1 r6 (1 : Int32)) else (f_X2_readSwap_j77 A T I7 y1 r6 (0 : Int32))
def f_X2_readSwap (T : Nat) (I : Nat → Int32) (A : Nat → Nat → Int32) : Option ((Nat → Int32) × (Nat → Nat → Int32)) :=
  qf_bd (f_X6_advance A T I) fun I1 =>
  qf_bd2 (f_X2_seeName_r32 A T I1 (I1 16)) fun r2 I3 =>
  qf_ld 4 (A 28) r2 fun x4 =>
  if x4 < 0 then (f_X2_readSwap_j44 A T I3 r2 (0 : Int32)) else (f_X2_readSwap_j44 A T I3 r2 (1 : Int32))
abbrev wz_X2_readSwap : List Cond := Cond.code yX2_readSwap cX2_readSwap 3 none :: qw_big
def rm_X2_readSwap : Room := { frames := 7, cells := 0, slots := 0, locals := 196 }
set_option maxHeartbeats 4000000 in
set_option maxRecDepth 100000 in
theorem c_X2_readSwap (l : Launch) {D : va_G} {cy : Nat → ClassId} {ad : Nat → Nat} {I : Nat → Int32} {A : Nat → Nat → Int32} {G : Nat → Int32 × (Nat → Nat → Int32)} {T : Nat}  {I9 : Nat → Int32} {A9 : Nat → Nat → Int32} {sz : Nat} (hf : f_X2_readSwap T I A = some (I9, A9)) : Met l yX2_readSwap wz_X2_readSwap rm_X2_readSwap (va_Pc [.ref (ad 3)] (qw_Pre D cy (Wo cy ad I A G T) sz)) (qw_Q none D (Wo cy ad I9 A9 G T) (va_A (Wo cy ad I A G T) sz)) 0 0 (va_A (Wo cy ad I A G T) sz) := by
  refine qw_of (cc := cX2_readSwap) (maxL := 3) (ret := none) (by decide) (Nat.le_of_ble_eq_true rfl) ?_
  intro p e s m args below meth c ls S0 hr hlocks hsz V hl
  have S0 : CallFix p m c cX2_readSwap 3 s args qw_big RX2 := S0
  have hx := S0.1; have hb := S0.2.1; have hown := S0.2.2.2.1; have hts := S0.2.2.2.2
  have hl : lv_has ls 3 [(0, .ref (ad 3))] := hl
  generalize va_A (Wo cy ad I A G T) sz = Z9 at V ⊢
  obtain ⟨Q9, hQ⟩ : ∃ q, q = MQ below (qw_Q none D (Wo cy ad I9 A9 G T) Z9) args s 0 0 Z9 := ⟨_, rfl⟩
  rw [← hQ]
  clear hsz
  have J_77 : ∀  {I : Nat → Int32} {y1 : Int32} {y2 : Int32} {s0 : Int32} {H : Heap} {locs : List Loc} {ls : Array Slot}, f_X2_readSwap_j77 A T I y1 y2 s0 = some (I9, A9) → qw_V D cy Z9 s (Wo cy ad I A G T) H locs → lv_has ls 3 [(0, .ref (ad 3)), (1, .int y1), (2, .int y2)] → W p l e rm_X2_readSwap s m args below meth c H locs 0 0 Q9 (F0 m 77 ls [.int s0, .ref (ad 3)]) := by
    intro I y1 y2 s0 H locs ls hf V hl
    unfold f_X2_readSwap_j77 at hf
    obtain ⟨I8, hc_77, hf⟩ := qf_bd_e hf
    refine qw_cV (rest := []) (st1 := []) S0 V hl 3 gO_3 rfl (c_X2_passUnless l hc_77) kg_X2_155 rfl ⟨rfl, rfl⟩ kd_X2_passUnless ⟨Nat.le_of_ble_eq_true rfl, Nat.le_of_ble_eq_true rfl⟩ rfl rfl (Nat.le_of_ble_eq_true rfl) ⟨Nat.zero_le _, Nat.zero_le _⟩ rfl dX2_readSwap_77 (fun H locs V => ?_)
    refine lv_aload_n hx hb dX2_readSwap_80 rfl (lv_at hl 0 rfl) ?_
    refine gfO_3_2 S0 V kl_X2_25 dX2_readSwap_81 ?_
    refine gfO_31_11 S0 V kl_X2_148 dX2_readSwap_84 ?_
    refine lv_iload_n hx hb dX2_readSwap_87 rfl (lv_at hl 1 rfl) ?_
    refine lv_aload_n hx hb dX2_readSwap_88 rfl (lv_at hl 0 rfl) ?_
    refine lv_iconst (v := 1) hx hb dX2_readSwap_89 (by decide) ?_
    refine lv_bipush (v := 9) hx hb dX2_readSwap_90 (by decide) ?_
    obtain ⟨r9, I10, hc_92, hf⟩ := qf_bd2_e hf
    refine qw_cV (rest := [.int y1, .ref (ad 39)]) (st1 := [.int r9, .int y1, .ref (ad 39)]) S0 V hl 3 gO_3 rfl (c_X2_readInteger l hc_92) kg_X2_135 rfl ⟨rfl, rfl⟩ kd_X2_readInteger ⟨Nat.le_of_ble_eq_true rfl, Nat.le_of_ble_eq_true rfl⟩ rfl rfl (Nat.le_of_ble_eq_true rfl) ⟨Nat.zero_le _, Nat.zero_le _⟩ rfl dX2_readSwap_92 (fun H locs V => ?_)
    have h_95 := qf_st_in hf
    replace hf := qf_st_e hf
    refine asO_39 S0 V h_95 dX2_readSwap_95 (fun H locs A11 e_A11 V => ?_)
    replace hf := qf_let_e e_A11 hf
    refine lv_aload_n hx hb dX2_readSwap_96 rfl (lv_at hl 0 rfl) ?_
    refine gfO_3_2 S0 V kl_X2_25 dX2_readSwap_97 ?_
    refine gfO_31_10 S0 V kl_X2_145 dX2_readSwap_100 ?_
    refine lv_iload_n hx hb dX2_readSwap_103 rfl (lv_at hl 1 rfl) ?_
    refine lv_iload_n hx hb dX2_readSwap_104 rfl (lv_at hl 2 rfl) ?_
    have h_105 := qf_st_in hf
    replace hf := qf_st_e hf
    refine asO_38 S0 V h_105 dX2_readSwap_105 (fun H locs A13 e_A13 V => ?_)
    replace hf := qf_let_e e_A13 hf
    have hE := Option.some.inj hf
    obtain ⟨e0, hE⟩ := qf_pr hE
    exact qw_vreti S0 hr hlocks hQ (by rw [e0, hE]) V dX2_readSwap_106
  have J_44 : ∀  {I : Nat → Int32} {y1 : Int32} {s0 : Int32} {H : Heap} {locs : List Loc} {ls : Array Slot}, f_X2_readSwap_j44 A T I y1 s0 = some (I9, A9) → qw_V D cy Z9 s (Wo cy ad I A G T) H locs → lv_has ls 3 [(0, .ref (ad 3)), (1, .int y1)] → W p l e rm_X2_readSwap s m args below meth c H locs 0 0 Q9 (F0 m 44 ls [.int s0, .ref (ad 3)]) := by
    intro I y1 s0 H locs ls hf V hl
    unfold f_X2_readSwap_j44 at hf
    obtain ⟨I5, hc_44, hf⟩ := qf_bd_e hf
    refine qw_cV (rest := []) (st1 := []) S0 V hl 3 gO_3 rfl (c_X2_passUnless l hc_44) kg_X2_155 rfl ⟨rfl, rfl⟩ kd_X2_passUnless ⟨Nat.le_of_ble_eq_true rfl, Nat.le_of_ble_eq_true rfl⟩ rfl rfl (Nat.le_of_ble_eq_true rfl) ⟨Nat.zero_le _, Nat.zero_le _⟩ rfl dX2_readSwap_44 (fun H locs V => ?_)
    refine lv_aload_n hx hb dX2_readSwap_47 rfl (lv_at hl 0 rfl) ?_
    refine lv_aload_n hx hb dX2_readSwap_48 rfl (lv_at hl 0 rfl) ?_
    refine gfO_3_2 S0 V kl_X2_25 dX2_readSwap_49 ?_
    refine gfO_31_4 S0 V kl_X2_125 dX2_readSwap_52 ?_
    refine lv_aload_n hx hb dX2_readSwap_55 rfl (lv_at hl 0 rfl) ?_
    refine gfO_3_2 S0 V kl_X2_25 dX2_readSwap_56 ?_
    refine gfO_31_0 S0 V kl_X2_122 dX2_readSwap_59 ?_
    obtain ⟨r6, I7, hc_62, hf⟩ := qf_bd2_e hf
    refine qw_cV (rest := []) (st1 := [.int r6]) S0 V hl 3 gO_3 rfl (c_X2_seeName_r32 l hc_62) kg_X2_151 rfl ⟨rfl, rfl⟩ kd_X2_seeName ⟨Nat.le_of_ble_eq_true rfl, Nat.le_of_ble_eq_true rfl⟩ rfl rfl (Nat.le_of_ble_eq_true rfl) ⟨Nat.zero_le _, Nat.zero_le _⟩ rfl dX2_readSwap_62 (fun H locs V => ?_)
    refine lv_istore_n (lv' := [(2, .int r6), (0, .ref (ad 3)), (1, .int y1)]) hx hb dX2_readSwap_65 rfl hl (by decide) rfl (fun ls hl => ?_)
    refine lv_aload_n hx hb dX2_readSwap_66 rfl (lv_at hl 1 rfl) ?_
    refine lv_iload_n hx hb dX2_readSwap_67 rfl (lv_at hl 0 rfl) ?_
    refine lv_iload_n hx hb dX2_readSwap_68 rfl (lv_at hl 2 rfl) ?_
    refine lv_icmp_ne (tgt := 76) hx hb dX2_readSwap_69 (by decide) (fun c_69 => ?_) (fun c_69 => ?_)
    · replace hf := qf_f c_69 hf
      refine lv_iconst (v := 0) hx hb dX2_readSwap_76 (by decide) ?_
      exact J_77 hf V (lv_sub hl [1, 2, 0] rfl)
    · replace hf := qf_t c_69 hf
      refine lv_iconst (v := 1) hx hb dX2_readSwap_72 (by decide) ?_
      refine lv_goto (tgt := 77) hx hb dX2_readSwap_73 (by decide) ?_
      exact J_77 hf V (lv_sub hl [1, 2, 0] rfl)
  unfold f_X2_readSwap at hf
  refine lv_aload_n hx hb dX2_readSwap_0 rfl (lv_at hl 0 rfl) ?_
  refine gfO_3_0 S0 V kl_X2_12 dX2_readSwap_1 ?_
  obtain ⟨I1, hc_4, hf⟩ := qf_bd_e hf
  refine qw_cV (rest := []) (st1 := []) S0 V hl 4 gO_4 rfl (c_X6_advance l hc_4) kg_X2_100 rfl ⟨rfl, rfl⟩ kd_X6_advance ⟨Nat.le_of_ble_eq_true rfl, Nat.le_of_ble_eq_true rfl⟩ rfl rfl (Nat.le_of_ble_eq_true rfl) ⟨Nat.zero_le _, Nat.zero_le _⟩ rfl dX2_readSwap_4 (fun H locs V => ?_)
  refine lv_aload_n hx hb dX2_readSwap_7 rfl (lv_at hl 0 rfl) ?_
  refine lv_aload_n hx hb dX2_readSwap_8 rfl (lv_at hl 0 rfl) ?_
  refine gfO_3_2 S0 V kl_X2_25 dX2_readSwap_9 ?_
  refine gfO_31_4 S0 V kl_X2_125 dX2_readSwap_12 ?_
  refine lv_aload_n hx hb dX2_readSwap_15 rfl (lv_at hl 0 rfl) ?_
  refine gfO_3_2 S0 V kl_X2_25 dX2_readSwap_16 ?_
  refine gfO_31_0 S0 V kl_X2_122 dX2_readSwap_19 ?_
  obtain ⟨r2, I3, hc_22, hf⟩ := qf_bd2_e hf
  refine qw_cV (rest := []) (st1 := [.int r2]) S0 V hl 3 gO_3 rfl (c_X2_seeName_r32 l hc_22) kg_X2_151 rfl ⟨rfl, rfl⟩ kd_X2_seeName ⟨Nat.le_of_ble_eq_true rfl, Nat.le_of_ble_eq_true rfl⟩ rfl rfl (Nat.le_of_ble_eq_true rfl) ⟨Nat.zero_le _, Nat.zero_le _⟩ rfl dX2_readSwap_22 (fun H locs V => ?_)
  refine lv_istore_n (lv' := [(1, .int r2), (0, .ref (ad 3))]) hx hb dX2_readSwap_25 rfl hl (by decide) rfl (fun ls hl => ?_)
  refine lv_aload_n hx hb dX2_readSwap_26 rfl (lv_at hl 1 rfl) ?_
  refine lv_aload_n hx hb dX2_readSwap_27 rfl (lv_at hl 1 rfl) ?_
  refine gfO_3_2 S0 V kl_X2_25 dX2_readSwap_28 ?_
  refine gfO_31_10 S0 V kl_X2_145 dX2_readSwap_31 ?_
  refine lv_iload_n hx hb dX2_readSwap_34 rfl (lv_at hl 0 rfl) ?_
  have h_35 := qf_ld_in hf
  refine alO_38 S0 V h_35 dX2_readSwap_35 ?_
  refine lv_topi (fun x4 e_x4 => ?_)
  replace hf := qf_ld_e e_x4 hf
  refine lv_if_lt (tgt := 43) hx hb dX2_readSwap_36 (by decide) (fun c_36 => ?_) (fun c_36 => ?_)
  · replace hf := qf_t c_36 hf
    refine lv_iconst (v := 0) hx hb dX2_readSwap_43 (by decide) ?_
    exact J_44 hf V (lv_sub hl [1, 0] rfl)
  · replace hf := qf_f c_36 hf
    refine lv_iconst (v := 1) hx hb dX2_readSwap_39 (by decide) ?_
    refine lv_goto (tgt := 44) hx hb dX2_readSwap_40 (by decide) ?_
    exact J_44 hf V (lv_sub hl [1, 0] rfl)
theorem kd_X2_readGroup : yX2_readGroup.cls = RX2 ∧ yX2_readGroup.cls ≠ "java/lang/invoke/MethodHandle" ∧ yX2_readGroup.cls ≠ "java/lang/invoke/VarHandle" ∧ (parseMethodDescriptor yX2_readGroup.desc).map (fun d => d.parameters.length) = some 0 := by decide +kernel
def f_X2_readGroup (T : Nat) (I : Nat → Int32) (A : Nat → Nat → Int32) : Option ((Nat → Int32) × (Nat → Nat → Int32)) :=
  qf_let ((I 16)) fun x1 =>
  if x1 < (4 : Int32) then (qf_bd (f_X6_advance A T I) fun I2 =>
    qf_bd2 (f_X2_readNewName A T I2) fun r3 I4 =>
    qf_st 4 x1 fun i6 =>
    qf_let (qf_up A 22 (upd (A 22) i6 r3)) fun A5 =>
    qf_bd2 (f_X2_readInteger A5 T I4 (0 : Int32) (99 : Int32)) fun r7 I8 =>
    qf_st 4 x1 fun i10 =>
    qf_let (qf_up A5 47 (upd (A5 47) i10 r7)) fun A9 =>
    qf_bd2 (f_X2_readInteger A9 T I8 (1 : Int32) (4 : Int32)) fun r11 I12 =>
    qf_st 4 x1 fun i14 =>
    qf_let (qf_up A9 26 (upd (A9 26) i14 r11)) fun A13 =>
    qf_bd2 (f_X2_readInteger A13 T I12 (0 : Int32) (100 : Int32)) fun r15 I16 =>
    qf_st 4 x1 fun i18 =>
    qf_let (qf_up A13 27 (upd (A13 27) i18 r15)) fun A17 =>
    qf_st 4 x1 fun i20 =>
    qf_let (qf_up A17 28 (upd (A17 28) i20 (-1 : Int32))) fun A19 =>
    qf_st 4 x1 fun i22 =>
    qf_let (qf_up A19 29 (upd (A19 29) i22 (0 : Int32))) fun A21 =>
    qf_let (upd I16 16 ((I16 16) + (1 : Int32))) fun I23 =>
    some (I23, A21)) else (qf_bd (f_X2_fail I (-15 : Int32)) fun I24 =>
    some (I24, A))
abbrev wz_X2_readGroup : List Cond := Cond.code yX2_readGroup cX2_readGroup 2 none :: qw_big
def rm_X2_readGroup : Room := { frames := 7, cells := 0, slots := 0, locals := 194 }
set_option maxHeartbeats 4000000 in
set_option maxRecDepth 100000 in
theorem c_X2_readGroup (l : Launch) {D : va_G} {cy : Nat → ClassId} {ad : Nat → Nat} {I : Nat → Int32} {A : Nat → Nat → Int32} {G : Nat → Int32 × (Nat → Nat → Int32)} {T : Nat}  {I9 : Nat → Int32} {A9 : Nat → Nat → Int32} {sz : Nat} (hf : f_X2_readGroup T I A = some (I9, A9)) : Met l yX2_readGroup wz_X2_readGroup rm_X2_readGroup (va_Pc [.ref (ad 3)] (qw_Pre D cy (Wo cy ad I A G T) sz)) (qw_Q none D (Wo cy ad I9 A9 G T) (va_A (Wo cy ad I A G T) sz)) 0 0 (va_A (Wo cy ad I A G T) sz) := by
  refine qw_of (cc := cX2_readGroup) (maxL := 2) (ret := none) (by decide) (Nat.le_of_ble_eq_true rfl) ?_
  intro p e s m args below meth c ls S0 hr hlocks hsz V hl
  have S0 : CallFix p m c cX2_readGroup 2 s args qw_big RX2 := S0
  have hx := S0.1; have hb := S0.2.1; have hown := S0.2.2.2.1; have hts := S0.2.2.2.2
  have hl : lv_has ls 2 [(0, .ref (ad 3))] := hl
  generalize va_A (Wo cy ad I A G T) sz = Z9 at V ⊢
  obtain ⟨Q9, hQ⟩ : ∃ q, q = MQ below (qw_Q none D (Wo cy ad I9 A9 G T) Z9) args s 0 0 Z9 := ⟨_, rfl⟩
  rw [← hQ]
  clear hsz
  unfold f_X2_readGroup at hf
  refine lv_aload_n hx hb dX2_readGroup_0 rfl (lv_at hl 0 rfl) ?_
  refine gfO_3_2 S0 V kl_X2_25 dX2_readGroup_1 ?_
  refine gfO_31_0 S0 V kl_X2_122 dX2_readGroup_4 ?_
  refine lv_topi (fun x1 e_x1 => ?_)
  replace hf := qf_let_e e_x1 hf
  refine lv_istore_n (lv' := [(1, .int x1), (0, .ref (ad 3))]) hx hb dX2_readGroup_7 rfl hl (by decide) rfl (fun ls hl => ?_)
  refine lv_iload_n hx hb dX2_readGroup_8 rfl (lv_at hl 0 rfl) ?_
  refine lv_iconst (v := 4) hx hb dX2_readGroup_9 (by decide) ?_
  refine lv_icmp_lt (tgt := 20) hx hb dX2_readGroup_10 (by decide) (fun c_10 => ?_) (fun c_10 => ?_)
  · replace hf := qf_t c_10 hf
    refine lv_aload_n hx hb dX2_readGroup_20 rfl (lv_at hl 1 rfl) ?_
    refine gfO_3_0 S0 V kl_X2_12 dX2_readGroup_21 ?_
    obtain ⟨I2, hc_24, hf⟩ := qf_bd_e hf
    refine qw_cV (rest := []) (st1 := []) S0 V hl 4 gO_4 rfl (c_X6_advance l hc_24) kg_X2_100 rfl ⟨rfl, rfl⟩ kd_X6_advance ⟨Nat.le_of_ble_eq_true rfl, Nat.le_of_ble_eq_true rfl⟩ rfl rfl (Nat.le_of_ble_eq_true rfl) ⟨Nat.zero_le _, Nat.zero_le _⟩ rfl dX2_readGroup_24 (fun H locs V => ?_)
    refine lv_aload_n hx hb dX2_readGroup_27 rfl (lv_at hl 1 rfl) ?_
    refine gfO_3_2 S0 V kl_X2_25 dX2_readGroup_28 ?_
    refine gfO_31_4 S0 V kl_X2_125 dX2_readGroup_31 ?_
    refine lv_iload_n hx hb dX2_readGroup_34 rfl (lv_at hl 0 rfl) ?_
    refine lv_aload_n hx hb dX2_readGroup_35 rfl (lv_at hl 1 rfl) ?_
    obtain ⟨r3, I4, hc_36, hf⟩ := qf_bd2_e hf
    refine qw_cV (rest := [.int x1, .ref (ad 32)]) (st1 := [.int r3, .int x1, .ref (ad 32)]) S0 V hl 3 gO_3 rfl (c_X2_readNewName l hc_36) kg_X2_129 rfl ⟨rfl, rfl⟩ kd_X2_readNewName ⟨Nat.le_of_ble_eq_true rfl, Nat.le_of_ble_eq_true rfl⟩ rfl rfl (Nat.le_of_ble_eq_true rfl) ⟨Nat.zero_le _, Nat.zero_le _⟩ rfl dX2_readGroup_36 (fun H locs V => ?_)
    have h_39 := qf_st_in hf
    replace hf := qf_st_e hf
    refine asO_32 S0 V h_39 dX2_readGroup_39 (fun H locs A5 e_A5 V => ?_)
    replace hf := qf_let_e e_A5 hf
    refine lv_aload_n hx hb dX2_readGroup_40 rfl (lv_at hl 1 rfl) ?_
    refine gfO_3_3 S0 V kl_X2_32 dX2_readGroup_41 ?_
    refine gfO_58_1 S0 V kl_X2_132 dX2_readGroup_44 ?_
    refine lv_iload_n hx hb dX2_readGroup_47 rfl (lv_at hl 0 rfl) ?_
    refine lv_aload_n hx hb dX2_readGroup_48 rfl (lv_at hl 1 rfl) ?_
    refine lv_iconst (v := 0) hx hb dX2_readGroup_49 (by decide) ?_
    refine lv_bipush (v := 99) hx hb dX2_readGroup_50 (by decide) ?_
    obtain ⟨r7, I8, hc_52, hf⟩ := qf_bd2_e hf
    refine qw_cV (rest := [.int x1, .ref (ad 59)]) (st1 := [.int r7, .int x1, .ref (ad 59)]) S0 V hl 3 gO_3 rfl (c_X2_readInteger l hc_52) kg_X2_135 rfl ⟨rfl, rfl⟩ kd_X2_readInteger ⟨Nat.le_of_ble_eq_true rfl, Nat.le_of_ble_eq_true rfl⟩ rfl rfl (Nat.le_of_ble_eq_true rfl) ⟨Nat.zero_le _, Nat.zero_le _⟩ rfl dX2_readGroup_52 (fun H locs V => ?_)
    have h_55 := qf_st_in hf
    replace hf := qf_st_e hf
    refine asO_59 S0 V h_55 dX2_readGroup_55 (fun H locs A9 e_A9 V => ?_)
    replace hf := qf_let_e e_A9 hf
    refine lv_aload_n hx hb dX2_readGroup_56 rfl (lv_at hl 1 rfl) ?_
    refine gfO_3_2 S0 V kl_X2_25 dX2_readGroup_57 ?_
    refine gfO_31_8 S0 V kl_X2_139 dX2_readGroup_60 ?_
    refine lv_iload_n hx hb dX2_readGroup_63 rfl (lv_at hl 0 rfl) ?_
    refine lv_aload_n hx hb dX2_readGroup_64 rfl (lv_at hl 1 rfl) ?_
    refine lv_iconst (v := 1) hx hb dX2_readGroup_65 (by decide) ?_
    refine lv_iconst (v := 4) hx hb dX2_readGroup_66 (by decide) ?_
    obtain ⟨r11, I12, hc_67, hf⟩ := qf_bd2_e hf
    refine qw_cV (rest := [.int x1, .ref (ad 36)]) (st1 := [.int r11, .int x1, .ref (ad 36)]) S0 V hl 3 gO_3 rfl (c_X2_readInteger l hc_67) kg_X2_135 rfl ⟨rfl, rfl⟩ kd_X2_readInteger ⟨Nat.le_of_ble_eq_true rfl, Nat.le_of_ble_eq_true rfl⟩ rfl rfl (Nat.le_of_ble_eq_true rfl) ⟨Nat.zero_le _, Nat.zero_le _⟩ rfl dX2_readGroup_67 (fun H locs V => ?_)
    have h_70 := qf_st_in hf
    replace hf := qf_st_e hf
    refine asO_36 S0 V h_70 dX2_readGroup_70 (fun H locs A13 e_A13 V => ?_)
    replace hf := qf_let_e e_A13 hf
    refine lv_aload_n hx hb dX2_readGroup_71 rfl (lv_at hl 1 rfl) ?_
    refine gfO_3_2 S0 V kl_X2_25 dX2_readGroup_72 ?_
    refine gfO_31_9 S0 V kl_X2_142 dX2_readGroup_75 ?_
    refine lv_iload_n hx hb dX2_readGroup_78 rfl (lv_at hl 0 rfl) ?_
    refine lv_aload_n hx hb dX2_readGroup_79 rfl (lv_at hl 1 rfl) ?_
    refine lv_iconst (v := 0) hx hb dX2_readGroup_80 (by decide) ?_
    refine lv_bipush (v := 100) hx hb dX2_readGroup_81 (by decide) ?_
    obtain ⟨r15, I16, hc_83, hf⟩ := qf_bd2_e hf
    refine qw_cV (rest := [.int x1, .ref (ad 37)]) (st1 := [.int r15, .int x1, .ref (ad 37)]) S0 V hl 3 gO_3 rfl (c_X2_readInteger l hc_83) kg_X2_135 rfl ⟨rfl, rfl⟩ kd_X2_readInteger ⟨Nat.le_of_ble_eq_true rfl, Nat.le_of_ble_eq_true rfl⟩ rfl rfl (Nat.le_of_ble_eq_true rfl) ⟨Nat.zero_le _, Nat.zero_le _⟩ rfl dX2_readGroup_83 (fun H locs V => ?_)
    have h_86 := qf_st_in hf
    replace hf := qf_st_e hf
    refine asO_37 S0 V h_86 dX2_readGroup_86 (fun H locs A17 e_A17 V => ?_)
    replace hf := qf_let_e e_A17 hf
    refine lv_aload_n hx hb dX2_readGroup_87 rfl (lv_at hl 1 rfl) ?_
    refine gfO_3_2 S0 V kl_X2_25 dX2_readGroup_88 ?_
    refine gfO_31_10 S0 V kl_X2_145 dX2_readGroup_91 ?_
    refine lv_iload_n hx hb dX2_readGroup_94 rfl (lv_at hl 0 rfl) ?_
    refine lv_iconst (v := -1) hx hb dX2_readGroup_95 (by decide) ?_
    have h_96 := qf_st_in hf
    replace hf := qf_st_e hf
    refine asO_38 S0 V h_96 dX2_readGroup_96 (fun H locs A19 e_A19 V => ?_)
    replace hf := qf_let_e e_A19 hf
    refine lv_aload_n hx hb dX2_readGroup_97 rfl (lv_at hl 1 rfl) ?_
    refine gfO_3_2 S0 V kl_X2_25 dX2_readGroup_98 ?_
    refine gfO_31_11 S0 V kl_X2_148 dX2_readGroup_101 ?_
    refine lv_iload_n hx hb dX2_readGroup_104 rfl (lv_at hl 0 rfl) ?_
    refine lv_iconst (v := 0) hx hb dX2_readGroup_105 (by decide) ?_
    have h_106 := qf_st_in hf
    replace hf := qf_st_e hf
    refine asO_39 S0 V h_106 dX2_readGroup_106 (fun H locs A21 e_A21 V => ?_)
    replace hf := qf_let_e e_A21 hf
    refine lv_aload_n hx hb dX2_readGroup_107 rfl (lv_at hl 1 rfl) ?_
    refine gfO_3_2 S0 V kl_X2_25 dX2_readGroup_108 ?_
    refine lv_dup hx hb dX2_readGroup_111 rfl ?_
    refine gfO_31_0 S0 V kl_X2_122 dX2_readGroup_112 ?_
    refine lv_iconst (v := 1) hx hb dX2_readGroup_115 (by decide) ?_
    refine lv_iadd hx hb dX2_readGroup_116 ?_
    refine pfO_31_0 S0 V kl_X2_122 dX2_readGroup_117 (fun H locs I23 e_I23 V => ?_)
    replace hf := qf_let_e e_I23 hf
    have hE := Option.some.inj hf
    obtain ⟨e0, hE⟩ := qf_pr hE
    exact qw_vreti S0 hr hlocks hQ (by rw [e0, hE]) V dX2_readGroup_120
  · replace hf := qf_f c_10 hf
    refine lv_aload_n hx hb dX2_readGroup_13 rfl (lv_at hl 1 rfl) ?_
    refine lv_bipush (v := -15) hx hb dX2_readGroup_14 (by decide) ?_
    obtain ⟨I24, hc_16, hf⟩ := qf_bd_e hf
    refine qw_cV (rest := []) (st1 := []) S0 V hl 3 gO_3 rfl (c_X2_fail l hc_16) kg_X2_96 rfl ⟨rfl, rfl⟩ kd_X2_fail ⟨Nat.le_of_ble_eq_true rfl, Nat.le_of_ble_eq_true rfl⟩ rfl rfl (Nat.le_of_ble_eq_true rfl) ⟨Nat.zero_le _, Nat.zero_le _⟩ rfl dX2_readGroup_16 (fun H locs V => ?_)
    have hE := Option.some.inj hf
    obtain ⟨e0, hE⟩ := qf_pr hE
    exact qw_vreti S0 hr hlocks hQ (by rw [e0, hE]) V dX2_readGroup_19
theorem kd_X2_readStatement : yX2_readStatement.cls = RX2 ∧ yX2_readStatement.cls ≠ "java/lang/invoke/MethodHandle" ∧ yX2_readStatement.cls ≠ "java/lang/invoke/VarHandle" ∧ (parseMethodDescriptor yX2_readStatement.desc).map (fun d => d.parameters.length) = some 0 := by decide +kernel
def f_X2_readStatement (T : Nat) (I : Nat → Int32) (A : Nat → Nat → Int32) : Option ((Nat → Int32) × (Nat → Nat → Int32)) :=
  qf_bd (f_X6_isWord I A T qb_group) fun r1 =>
  if r1 = 0 then (qf_bd (f_X6_isWord I A T qb_swap) fun r2 =>
    if r2 = 0 then (qf_bd (f_X6_isWord I A T qb_good) fun r3 =>
      if r3 = 0 then (qf_bd (f_X6_isWord I A T qb_house) fun r4 =>
        if r4 = 0 then (qf_bd (f_X6_isWord I A T qb_shop) fun r5 =>
          if r5 = 0 then (qf_bd (f_X6_isWord I A T qb_set) fun r6 =>
            if r6 = 0 then (qf_bd (f_X2_fail I (-11 : Int32)) fun I7 =>
              some (I7, A)) else (qf_bd2 (f_X2_readSetting T I A) fun I8 A9 =>
              some (I8, A9))) else (qf_bd2 (f_X2_readShop T I A) fun I10 A11 =>
            some (I10, A11))) else (qf_bd2 (f_X2_readHouse T I A) fun I12 A13 =>
          some (I12, A13))) else (qf_bd2 (f_X2_readGood T I A) fun I14 A15 =>
        some (I14, A15))) else (qf_bd2 (f_X2_readSwap T I A) fun I16 A17 =>
      some (I16, A17))) else (qf_bd2 (f_X2_readGroup T I A) fun I18 A19 =>
    some (I18, A19))
abbrev wz_X2_readStatement : List Cond := Cond.code yX2_readStatement cX2_readStatement 1 none :: qw_big
def rm_X2_readStatement : Room := { frames := 8, cells := 0, slots := 0, locals := 220 }
set_option maxHeartbeats 4000000 in
set_option maxRecDepth 100000 in
theorem c_X2_readStatement (l : Launch) {D : va_G} {cy : Nat → ClassId} {ad : Nat → Nat} {I : Nat → Int32} {A : Nat → Nat → Int32} {G : Nat → Int32 × (Nat → Nat → Int32)} {T : Nat}  {I9 : Nat → Int32} {A9 : Nat → Nat → Int32} {sz : Nat} (hf : f_X2_readStatement T I A = some (I9, A9)) : Met l yX2_readStatement wz_X2_readStatement rm_X2_readStatement (va_Pc [.ref (ad 3)] (qw_Pre D cy (Wo cy ad I A G T) sz)) (qw_Q none D (Wo cy ad I9 A9 G T) (va_A (Wo cy ad I A G T) sz)) 0 0 (va_A (Wo cy ad I A G T) sz) := by
  refine qw_of (cc := cX2_readStatement) (maxL := 1) (ret := none) (by decide) (Nat.le_of_ble_eq_true rfl) ?_
  intro p e s m args below meth c ls S0 hr hlocks hsz V hl
  have S0 : CallFix p m c cX2_readStatement 1 s args qw_big RX2 := S0
  have hx := S0.1; have hb := S0.2.1; have hown := S0.2.2.2.1; have hts := S0.2.2.2.2
  have hl : lv_has ls 1 [(0, .ref (ad 3))] := hl
  generalize va_A (Wo cy ad I A G T) sz = Z9 at V ⊢
  obtain ⟨Q9, hQ⟩ : ∃ q, q = MQ below (qw_Q none D (Wo cy ad I9 A9 G T) Z9) args s 0 0 Z9 := ⟨_, rfl⟩
  rw [← hQ]
  clear hsz
  unfold f_X2_readStatement at hf
  refine lv_aload_n hx hb dX2_readStatement_0 rfl (lv_at hl 0 rfl) ?_
  refine gfO_3_0 S0 V kl_X2_12 dX2_readStatement_1 ?_
  obtain ⟨a_4, hR_4, hS_4⟩ := V.2.2.2.2.2.2.2.2.2.2.2.1 _ (List.mem_of_getElem? (i := 0) rfl)
  refine va_ldcS hx hb hown hR_4 dX2_readStatement_4 ?_
  obtain ⟨r1, hc_6, hf⟩ := qf_bd_e hf
  refine qs_cVR (rest := []) (st1 := [.int r1]) S0 V hl (va_recv (ci := 5) V.2.1 V.1 rfl gO_4) (qs_S V hS_4) qs_Sc (c_X6_isWord l (bs := qb_group) (by decide) hc_6) kg_X2_64 rfl ⟨rfl, rfl⟩ kd_X6_isWord ⟨Nat.le_of_ble_eq_true rfl, Nat.le_of_ble_eq_true rfl⟩ rfl rfl (Nat.le_of_ble_eq_true rfl) ⟨Nat.zero_le _, Nat.zero_le _⟩ rfl dX2_readStatement_6 ?_
  refine lv_if_eq (tgt := 19) hx hb dX2_readStatement_9 (by decide) (fun c_9 => ?_) (fun c_9 => ?_)
  · replace hf := qf_t c_9 hf
    refine lv_aload_n hx hb dX2_readStatement_19 rfl (lv_at hl 0 rfl) ?_
    refine gfO_3_0 S0 V kl_X2_12 dX2_readStatement_20 ?_
    obtain ⟨a_23, hR_23, hS_23⟩ := V.2.2.2.2.2.2.2.2.2.2.2.1 _ (List.mem_of_getElem? (i := 1) rfl)
    refine va_ldcS hx hb hown hR_23 dX2_readStatement_23 ?_
    obtain ⟨r2, hc_25, hf⟩ := qf_bd_e hf
    refine qs_cVR (rest := []) (st1 := [.int r2]) S0 V hl (va_recv (ci := 5) V.2.1 V.1 rfl gO_4) (qs_S V hS_23) qs_Sc (c_X6_isWord l (bs := qb_swap) (by decide) hc_25) kg_X2_64 rfl ⟨rfl, rfl⟩ kd_X6_isWord ⟨Nat.le_of_ble_eq_true rfl, Nat.le_of_ble_eq_true rfl⟩ rfl rfl (Nat.le_of_ble_eq_true rfl) ⟨Nat.zero_le _, Nat.zero_le _⟩ rfl dX2_readStatement_25 ?_
    refine lv_if_eq (tgt := 38) hx hb dX2_readStatement_28 (by decide) (fun c_28 => ?_) (fun c_28 => ?_)
    · replace hf := qf_t c_28 hf
      refine lv_aload_n hx hb dX2_readStatement_38 rfl (lv_at hl 0 rfl) ?_
      refine gfO_3_0 S0 V kl_X2_12 dX2_readStatement_39 ?_
      obtain ⟨a_42, hR_42, hS_42⟩ := V.2.2.2.2.2.2.2.2.2.2.2.1 _ (List.mem_of_getElem? (i := 2) rfl)
      refine va_ldcS hx hb hown hR_42 dX2_readStatement_42 ?_
      obtain ⟨r3, hc_44, hf⟩ := qf_bd_e hf
      refine qs_cVR (rest := []) (st1 := [.int r3]) S0 V hl (va_recv (ci := 5) V.2.1 V.1 rfl gO_4) (qs_S V hS_42) qs_Sc (c_X6_isWord l (bs := qb_good) (by decide) hc_44) kg_X2_64 rfl ⟨rfl, rfl⟩ kd_X6_isWord ⟨Nat.le_of_ble_eq_true rfl, Nat.le_of_ble_eq_true rfl⟩ rfl rfl (Nat.le_of_ble_eq_true rfl) ⟨Nat.zero_le _, Nat.zero_le _⟩ rfl dX2_readStatement_44 ?_
      refine lv_if_eq (tgt := 57) hx hb dX2_readStatement_47 (by decide) (fun c_47 => ?_) (fun c_47 => ?_)
      · replace hf := qf_t c_47 hf
        refine lv_aload_n hx hb dX2_readStatement_57 rfl (lv_at hl 0 rfl) ?_
        refine gfO_3_0 S0 V kl_X2_12 dX2_readStatement_58 ?_
        obtain ⟨a_61, hR_61, hS_61⟩ := V.2.2.2.2.2.2.2.2.2.2.2.1 _ (List.mem_of_getElem? (i := 3) rfl)
        refine va_ldcS hx hb hown hR_61 dX2_readStatement_61 ?_
        obtain ⟨r4, hc_63, hf⟩ := qf_bd_e hf
        refine qs_cVR (rest := []) (st1 := [.int r4]) S0 V hl (va_recv (ci := 5) V.2.1 V.1 rfl gO_4) (qs_S V hS_61) qs_Sc (c_X6_isWord l (bs := qb_house) (by decide) hc_63) kg_X2_64 rfl ⟨rfl, rfl⟩ kd_X6_isWord ⟨Nat.le_of_ble_eq_true rfl, Nat.le_of_ble_eq_true rfl⟩ rfl rfl (Nat.le_of_ble_eq_true rfl) ⟨Nat.zero_le _, Nat.zero_le _⟩ rfl dX2_readStatement_63 ?_
        refine lv_if_eq (tgt := 76) hx hb dX2_readStatement_66 (by decide) (fun c_66 => ?_) (fun c_66 => ?_)
        · replace hf := qf_t c_66 hf
          refine lv_aload_n hx hb dX2_readStatement_76 rfl (lv_at hl 0 rfl) ?_
          refine gfO_3_0 S0 V kl_X2_12 dX2_readStatement_77 ?_
          obtain ⟨a_80, hR_80, hS_80⟩ := V.2.2.2.2.2.2.2.2.2.2.2.1 _ (List.mem_of_getElem? (i := 4) rfl)
          refine va_ldcS hx hb hown hR_80 dX2_readStatement_80 ?_
          obtain ⟨r5, hc_82, hf⟩ := qf_bd_e hf
          refine qs_cVR (rest := []) (st1 := [.int r5]) S0 V hl (va_recv (ci := 5) V.2.1 V.1 rfl gO_4) (qs_S V hS_80) qs_Sc (c_X6_isWord l (bs := qb_shop) (by decide) hc_82) kg_X2_64 rfl ⟨rfl, rfl⟩ kd_X6_isWord ⟨Nat.le_of_ble_eq_true rfl, Nat.le_of_ble_eq_true rfl⟩ rfl rfl (Nat.le_of_ble_eq_true rfl) ⟨Nat.zero_le _, Nat.zero_le _⟩ rfl dX2_readStatement_82 ?_
          refine lv_if_eq (tgt := 95) hx hb dX2_readStatement_85 (by decide) (fun c_85 => ?_) (fun c_85 => ?_)
          · replace hf := qf_t c_85 hf
            refine lv_aload_n hx hb dX2_readStatement_95 rfl (lv_at hl 0 rfl) ?_
            refine gfO_3_0 S0 V kl_X2_12 dX2_readStatement_96 ?_
            obtain ⟨a_99, hR_99, hS_99⟩ := V.2.2.2.2.2.2.2.2.2.2.2.1 _ (List.mem_of_getElem? (i := 5) rfl)
            refine va_ldcS hx hb hown hR_99 dX2_readStatement_99 ?_
            obtain ⟨r6, hc_101, hf⟩ := qf_bd_e hf
            refine qs_cVR (rest := []) (st1 := [.int r6]) S0 V hl (va_recv (ci := 5) V.2.1 V.1 rfl gO_4) (qs_S V hS_99) qs_Sc (c_X6_isWord l (bs := qb_set) (by decide) hc_101) kg_X2_64 rfl ⟨rfl, rfl⟩ kd_X6_isWord ⟨Nat.le_of_ble_eq_true rfl, Nat.le_of_ble_eq_true rfl⟩ rfl rfl (Nat.le_of_ble_eq_true rfl) ⟨Nat.zero_le _, Nat.zero_le _⟩ rfl dX2_readStatement_101 ?_
            refine lv_if_eq (tgt := 114) hx hb dX2_readStatement_104 (by decide) (fun c_104 => ?_) (fun c_104 => ?_)
            · replace hf := qf_t c_104 hf
              refine lv_aload_n hx hb dX2_readStatement_114 rfl (lv_at hl 0 rfl) ?_
              refine lv_bipush (v := -11) hx hb dX2_readStatement_115 (by decide) ?_
              obtain ⟨I7, hc_117, hf⟩ := qf_bd_e hf
              refine qw_cV (rest := []) (st1 := []) S0 V hl 3 gO_3 rfl (c_X2_fail l hc_117) kg_X2_96 rfl ⟨rfl, rfl⟩ kd_X2_fail ⟨Nat.le_of_ble_eq_true rfl, Nat.le_of_ble_eq_true rfl⟩ rfl rfl (Nat.le_of_ble_eq_true rfl) ⟨Nat.zero_le _, Nat.zero_le _⟩ rfl dX2_readStatement_117 (fun H locs V => ?_)
              have hE := Option.some.inj hf
              obtain ⟨e0, hE⟩ := qf_pr hE
              exact qw_vreti S0 hr hlocks hQ (by rw [e0, hE]) V dX2_readStatement_120
            · replace hf := qf_f c_104 hf
              refine lv_aload_n hx hb dX2_readStatement_107 rfl (lv_at hl 0 rfl) ?_
              obtain ⟨I8, A9, hc_108, hf⟩ := qf_bd2_e hf
              refine qw_cV (rest := []) (st1 := []) S0 V hl 3 gO_3 rfl (c_X2_readSetting l hc_108) kg_X2_93 rfl ⟨rfl, rfl⟩ kd_X2_readSetting ⟨Nat.le_of_ble_eq_true rfl, Nat.le_of_ble_eq_true rfl⟩ rfl rfl (Nat.le_of_ble_eq_true rfl) ⟨Nat.zero_le _, Nat.zero_le _⟩ rfl dX2_readStatement_108 (fun H locs V => ?_)
              refine lv_goto (tgt := 120) hx hb dX2_readStatement_111 (by decide) ?_
              have hE := Option.some.inj hf
              obtain ⟨e0, hE⟩ := qf_pr hE
              exact qw_vreti S0 hr hlocks hQ (by rw [e0, hE]) V dX2_readStatement_120
          · replace hf := qf_f c_85 hf
            refine lv_aload_n hx hb dX2_readStatement_88 rfl (lv_at hl 0 rfl) ?_
            obtain ⟨I10, A11, hc_89, hf⟩ := qf_bd2_e hf
            refine qw_cV (rest := []) (st1 := []) S0 V hl 3 gO_3 rfl (c_X2_readShop l hc_89) kg_X2_88 rfl ⟨rfl, rfl⟩ kd_X2_readShop ⟨Nat.le_of_ble_eq_true rfl, Nat.le_of_ble_eq_true rfl⟩ rfl rfl (Nat.le_of_ble_eq_true rfl) ⟨Nat.zero_le _, Nat.zero_le _⟩ rfl dX2_readStatement_89 (fun H locs V => ?_)
            refine lv_goto (tgt := 120) hx hb dX2_readStatement_92 (by decide) ?_
            have hE := Option.some.inj hf
            obtain ⟨e0, hE⟩ := qf_pr hE
            exact qw_vreti S0 hr hlocks hQ (by rw [e0, hE]) V dX2_readStatement_120
        · replace hf := qf_f c_66 hf
          refine lv_aload_n hx hb dX2_readStatement_69 rfl (lv_at hl 0 rfl) ?_
          obtain ⟨I12, A13, hc_70, hf⟩ := qf_bd2_e hf
          refine qw_cV (rest := []) (st1 := []) S0 V hl 3 gO_3 rfl (c_X2_readHouse l hc_70) kg_X2_83 rfl ⟨rfl, rfl⟩ kd_X2_readHouse ⟨Nat.le_of_ble_eq_true rfl, Nat.le_of_ble_eq_true rfl⟩ rfl rfl (Nat.le_of_ble_eq_true rfl) ⟨Nat.zero_le _, Nat.zero_le _⟩ rfl dX2_readStatement_70 (fun H locs V => ?_)
          refine lv_goto (tgt := 120) hx hb dX2_readStatement_73 (by decide) ?_
          have hE := Option.some.inj hf
          obtain ⟨e0, hE⟩ := qf_pr hE
          exact qw_vreti S0 hr hlocks hQ (by rw [e0, hE]) V dX2_readStatement_120
      · replace hf := qf_f c_47 hf
        refine lv_aload_n hx hb dX2_readStatement_50 rfl (lv_at hl 0 rfl) ?_
        obtain ⟨I14, A15, hc_51, hf⟩ := qf_bd2_e hf
        refine qw_cV (rest := []) (st1 := []) S0 V hl 3 gO_3 rfl (c_X2_readGood l hc_51) kg_X2_78 rfl ⟨rfl, rfl⟩ kd_X2_readGood ⟨Nat.le_of_ble_eq_true rfl, Nat.le_of_ble_eq_true rfl⟩ rfl rfl (Nat.le_of_ble_eq_true rfl) ⟨Nat.zero_le _, Nat.zero_le _⟩ rfl dX2_readStatement_51 (fun H locs V => ?_)
        refine lv_goto (tgt := 120) hx hb dX2_readStatement_54 (by decide) ?_
        have hE := Option.some.inj hf
        obtain ⟨e0, hE⟩ := qf_pr hE
        exact qw_vreti S0 hr hlocks hQ (by rw [e0, hE]) V dX2_readStatement_120
    · replace hf := qf_f c_28 hf
      refine lv_aload_n hx hb dX2_readStatement_31 rfl (lv_at hl 0 rfl) ?_
      obtain ⟨I16, A17, hc_32, hf⟩ := qf_bd2_e hf
      refine qw_cV (rest := []) (st1 := []) S0 V hl 3 gO_3 rfl (c_X2_readSwap l hc_32) kg_X2_73 rfl ⟨rfl, rfl⟩ kd_X2_readSwap ⟨Nat.le_of_ble_eq_true rfl, Nat.le_of_ble_eq_true rfl⟩ rfl rfl (Nat.le_of_ble_eq_true rfl) ⟨Nat.zero_le _, Nat.zero_le _⟩ rfl dX2_readStatement_32 (fun H locs V => ?_)
      refine lv_goto (tgt := 120) hx hb dX2_readStatement_35 (by decide) ?_
      have hE := Option.some.inj hf
      obtain ⟨e0, hE⟩ := qf_pr hE
      exact qw_vreti S0 hr hlocks hQ (by rw [e0, hE]) V dX2_readStatement_120
  · replace hf := qf_f c_9 hf
    refine lv_aload_n hx hb dX2_readStatement_12 rfl (lv_at hl 0 rfl) ?_
    obtain ⟨I18, A19, hc_13, hf⟩ := qf_bd2_e hf
    refine qw_cV (rest := []) (st1 := []) S0 V hl 3 gO_3 rfl (c_X2_readGroup l hc_13) kg_X2_68 rfl ⟨rfl, rfl⟩ kd_X2_readGroup ⟨Nat.le_of_ble_eq_true rfl, Nat.le_of_ble_eq_true rfl⟩ rfl rfl (Nat.le_of_ble_eq_true rfl) ⟨Nat.zero_le _, Nat.zero_le _⟩ rfl dX2_readStatement_13 (fun H locs V => ?_)
    refine lv_goto (tgt := 120) hx hb dX2_readStatement_16 (by decide) ?_
    have hE := Option.some.inj hf
    obtain ⟨e0, hE⟩ := qf_pr hE
    exact qw_vreti S0 hr hlocks hQ (by rw [e0, hE]) V dX2_readStatement_120
theorem kd_X2_readSemicolon : yX2_readSemicolon.cls = RX2 ∧ yX2_readSemicolon.cls ≠ "java/lang/invoke/MethodHandle" ∧ yX2_readSemicolon.cls ≠ "java/lang/invoke/VarHandle" ∧ (parseMethodDescriptor yX2_readSemicolon.desc).map (fun d => d.parameters.length) = some 0 := by decide +kernel
def f_X2_readSemicolon_j17 (A : Nat → Nat → Int32) (T : Nat)  (I : Nat → Int32) : Option ((Nat → Int32)) :=
  if (I 3) = 0 then (qf_bd (f_X6_advance A T I) fun I2 =>
    some (I2)) else (some (I))
def f_X2_readSemicolon (A : Nat → Nat → Int32) (T : Nat) (I : Nat → Int32) : Option ((Nat → Int32)) :=
  if (I 8) = (3 : Int32) then (f_X2_readSemicolon_j17 A T I) else (qf_bd (f_X2_fail I (-11 : Int32)) fun I1 =>
    f_X2_readSemicolon_j17 A T I1)
abbrev wz_X2_readSemicolon : List Cond := Cond.code yX2_readSemicolon cX2_readSemicolon 1 none :: qw_big
def rm_X2_readSemicolon : Room := { frames := 2, cells := 0, slots := 0, locals := 82 }
set_option maxHeartbeats 4000000 in
set_option maxRecDepth 100000 in
theorem c_X2_readSemicolon (l : Launch) {D : va_G} {cy : Nat → ClassId} {ad : Nat → Nat} {I : Nat → Int32} {A : Nat → Nat → Int32} {G : Nat → Int32 × (Nat → Nat → Int32)} {T : Nat}  {I9 : Nat → Int32} {sz : Nat} (hf : f_X2_readSemicolon A T I = some (I9)) : Met l yX2_readSemicolon wz_X2_readSemicolon rm_X2_readSemicolon (va_Pc [.ref (ad 3)] (qw_Pre D cy (Wo cy ad I A G T) sz)) (qw_Q none D (Wo cy ad I9 A G T) (va_A (Wo cy ad I A G T) sz)) 0 0 (va_A (Wo cy ad I A G T) sz) := by
  refine qw_of (cc := cX2_readSemicolon) (maxL := 1) (ret := none) (by decide) (Nat.le_of_ble_eq_true rfl) ?_
  intro p e s m args below meth c ls S0 hr hlocks hsz V hl
  have S0 : CallFix p m c cX2_readSemicolon 1 s args qw_big RX2 := S0
  have hx := S0.1; have hb := S0.2.1; have hown := S0.2.2.2.1; have hts := S0.2.2.2.2
  have hl : lv_has ls 1 [(0, .ref (ad 3))] := hl
  generalize va_A (Wo cy ad I A G T) sz = Z9 at V ⊢
  obtain ⟨Q9, hQ⟩ : ∃ q, q = MQ below (qw_Q none D (Wo cy ad I9 A G T) Z9) args s 0 0 Z9 := ⟨_, rfl⟩
  rw [← hQ]
  clear hsz
  have J_17 : ∀  {I : Nat → Int32}  {H : Heap} {locs : List Loc} {ls : Array Slot}, f_X2_readSemicolon_j17 A T I = some (I9) → qw_V D cy Z9 s (Wo cy ad I A G T) H locs → lv_has ls 1 [(0, .ref (ad 3))] → W p l e rm_X2_readSemicolon s m args below meth c H locs 0 0 Q9 (F0 m 17 ls []) := by
    intro I H locs ls hf V hl
    unfold f_X2_readSemicolon_j17 at hf
    refine lv_aload_n hx hb dX2_readSemicolon_17 rfl (lv_at hl 0 rfl) ?_
    refine gfO_3_4 S0 V kl_X2_36 dX2_readSemicolon_18 ?_
    refine lv_if_ne (tgt := 31) hx hb dX2_readSemicolon_21 (by decide) (fun c_21 => ?_) (fun c_21 => ?_)
    · replace hf := qf_f c_21 hf
      have hE := Option.some.inj hf
      exact qw_vreti S0 hr hlocks hQ (by rw [hE]) V dX2_readSemicolon_31
    · replace hf := qf_t c_21 hf
      refine lv_aload_n hx hb dX2_readSemicolon_24 rfl (lv_at hl 0 rfl) ?_
      refine gfO_3_0 S0 V kl_X2_12 dX2_readSemicolon_25 ?_
      obtain ⟨I2, hc_28, hf⟩ := qf_bd_e hf
      refine qw_cV (rest := []) (st1 := []) S0 V hl 4 gO_4 rfl (c_X6_advance l hc_28) kg_X2_100 rfl ⟨rfl, rfl⟩ kd_X6_advance ⟨Nat.le_of_ble_eq_true rfl, Nat.le_of_ble_eq_true rfl⟩ rfl rfl (Nat.le_of_ble_eq_true rfl) ⟨Nat.zero_le _, Nat.zero_le _⟩ rfl dX2_readSemicolon_28 (fun H locs V => ?_)
      have hE := Option.some.inj hf
      exact qw_vreti S0 hr hlocks hQ (by rw [hE]) V dX2_readSemicolon_31
  unfold f_X2_readSemicolon at hf
  refine lv_aload_n hx hb dX2_readSemicolon_0 rfl (lv_at hl 0 rfl) ?_
  refine gfO_3_0 S0 V kl_X2_12 dX2_readSemicolon_1 ?_
  refine gfO_4_4 S0 V kl_X2_50 dX2_readSemicolon_4 ?_
  refine lv_iconst (v := 3) hx hb dX2_readSemicolon_7 (by decide) ?_
  refine lv_icmp_eq (tgt := 17) hx hb dX2_readSemicolon_8 (by decide) (fun c_8 => ?_) (fun c_8 => ?_)
  · replace hf := qf_t c_8 hf
    exact J_17 hf V (lv_sub hl [0] rfl)
  · replace hf := qf_f c_8 hf
    refine lv_aload_n hx hb dX2_readSemicolon_11 rfl (lv_at hl 0 rfl) ?_
    refine lv_bipush (v := -11) hx hb dX2_readSemicolon_12 (by decide) ?_
    obtain ⟨I1, hc_14, hf⟩ := qf_bd_e hf
    refine qw_cV (rest := []) (st1 := []) S0 V hl 3 gO_3 rfl (c_X2_fail l hc_14) kg_X2_96 rfl ⟨rfl, rfl⟩ kd_X2_fail ⟨Nat.le_of_ble_eq_true rfl, Nat.le_of_ble_eq_true rfl⟩ rfl rfl (Nat.le_of_ble_eq_true rfl) ⟨Nat.zero_le _, Nat.zero_le _⟩ rfl dX2_readSemicolon_14 (fun H locs V => ?_)
    exact J_17 hf V (lv_sub hl [0] rfl)
theorem kd_X2_read : yX2_read.cls = RX2 ∧ yX2_read.cls ≠ "java/lang/invoke/MethodHandle" ∧ yX2_read.cls ≠ "java/lang/invoke/VarHandle" ∧ (parseMethodDescriptor yX2_read.desc).map (fun d => d.parameters.length) = some 2 := by decide +kernel
def f_X2_read_r1_l40    : Nat → (Nat → Int32) → (Nat → Nat → Int32) → (Nat) → Int32 → Option (Int32 × (Nat → Int32) × (Nat → Nat → Int32) × (Nat))
  | 0, _, _, _, _ => none
  | n + 1, I, A, T, y3 =>
  if (800 : Int32) ≤ y3 then (some (y3, I, A, T)) else (if (I 3) = 0 then (if (I 8) = 0 then (some (y3, I, A, T)) else (qf_bd2 (f_X2_readStatement T I A) fun I9 A10 =>
        qf_bd (f_X2_readSemicolon A10 T I9) fun I11 =>
        qf_let (y3 + (1 : Int32)) fun x12 =>
        f_X2_read_r1_l40  n I11 A10 T x12)) else (some (y3, I, A, T)))
def f_X2_read_r1 (I : Nat → Int32) (A : Nat → Nat → Int32) (T : Nat) (p1 : Int32) : Option (Int32 × (Nat → Int32) × (Nat → Nat → Int32) × (Nat)) :=
  qf_bd (f_X3_clear_t31 I) fun I1 =>
  qf_bd2 (f_X5_clear_t58 I1 A) fun I2 A3 =>
  qf_let (upd I2 2 (0 : Int32)) fun I4 =>
  qf_let (upd I4 3 (0 : Int32)) fun I5 =>
  qf_let (upd I5 4 (-1 : Int32)) fun I6 =>
  qf_bd2 (f_X6_open_r1 A3 I6 T p1) fun I7 T8 =>
  f_X2_read_r1_l40  100000 I7 A3 T8 (0 : Int32)
abbrev wz_X2_read : List Cond := Cond.code yX2_read cX2_read 4 (some .int) :: qw_big
def rm_X2_read_r1 : Room := { frames := 9, cells := 0, slots := 0, locals := 240 }
set_option maxHeartbeats 4000000 in
set_option maxRecDepth 100000 in
theorem c_X2_read_r1 (l : Launch) {D : va_G} {cy : Nat → ClassId} {ad : Nat → Nat} {I : Nat → Int32} {A : Nat → Nat → Int32} {G : Nat → Int32 × (Nat → Nat → Int32)} {T : Nat} {p1 : Int32} {rv : Int32} {I9 : Nat → Int32} {A9 : Nat → Nat → Int32} {T9 : Nat} {sz : Nat} (hf : f_X2_read_r1 I A T p1 = some (rv, I9, A9, T9)) : Met l yX2_read wz_X2_read rm_X2_read_r1 (va_Pc [.ref (ad 3), .ref (ad 1), .int p1] (qw_Pre D cy (Wo cy ad I A G T) sz)) (qw_Q (some (.int rv)) D (Wo cy ad I9 A9 G T9) (va_A (Wo cy ad I A G T) sz)) 0 0 (va_A (Wo cy ad I A G T) sz) := by
  refine qw_of (cc := cX2_read) (maxL := 4) (ret := (some .int)) (by decide) (Nat.le_of_ble_eq_true rfl) ?_
  intro p e s m args below meth c ls S0 hr hlocks hsz V hl
  have S0 : CallFix p m c cX2_read 4 s args qw_big RX2 := S0
  have hx := S0.1; have hb := S0.2.1; have hown := S0.2.2.2.1; have hts := S0.2.2.2.2
  have hl : lv_has ls 4 [(0, .ref (ad 3)), (1, .ref (ad 1)), (2, .int p1)] := hl
  generalize va_A (Wo cy ad I A G T) sz = Z9 at V ⊢
  obtain ⟨Q9, hQ⟩ : ∃ q, q = MQ below (qw_Q (some (.int rv)) D (Wo cy ad I9 A9 G T9) Z9) args s 0 0 Z9 := ⟨_, rfl⟩
  rw [← hQ]
  clear hsz
  have L_40 : ∀   {n : Nat} {I : Nat → Int32} {A : Nat → Nat → Int32} {T : Nat} {y3 : Int32} {H : Heap} {locs : List Loc} {ls : Array Slot}, f_X2_read_r1_l40 n I A T y3 = some (rv, I9, A9, T9) → qw_V D cy Z9 s (Wo cy ad I A G T) H locs → lv_has ls 4 [(0, .ref (ad 3)), (3, .int y3)] → W p l e rm_X2_read_r1 s m args below meth c H locs 0 0 Q9 (F0 m 40 ls []) := by
    intro n
    induction n with
    | zero => intro I A T y3 H locs ls hf V hl; exact qf_no hf
    | succ n ih =>
      intro I A T y3 H locs ls hf V hl
      rw [f_X2_read_r1_l40] at hf
      refine lv_iload_n hx hb dX2_read_40 rfl (lv_at hl 1 rfl) ?_
      refine lv_sipush (v := 800) hx hb dX2_read_41 (by decide) ?_
      refine lv_icmp_ge (tgt := 78) hx hb dX2_read_44 (by decide) (fun c_44 => ?_) (fun c_44 => ?_)
      · replace hf := qf_t c_44 hf
        refine lv_iload_n hx hb dX2_read_78 rfl (lv_at hl 1 rfl) ?_
        have hE := Option.some.inj hf
        obtain ⟨e0, hE⟩ := qf_pr hE
        obtain ⟨e1, hE⟩ := qf_pr hE
        obtain ⟨e2, hE⟩ := qf_pr hE
        exact qw_ireti S0 hr hlocks hQ e0 (by rw [e1, e2, hE]) V dX2_read_79
      · replace hf := qf_f c_44 hf
        refine lv_aload_n hx hb dX2_read_47 rfl (lv_at hl 0 rfl) ?_
        refine gfO_3_4 S0 V kl_X2_36 dX2_read_48 ?_
        refine lv_if_ne (tgt := 78) hx hb dX2_read_51 (by decide) (fun c_51 => ?_) (fun c_51 => ?_)
        · replace hf := qf_f c_51 hf
          refine lv_iload_n hx hb dX2_read_78 rfl (lv_at hl 1 rfl) ?_
          have hE := Option.some.inj hf
          obtain ⟨e0, hE⟩ := qf_pr hE
          obtain ⟨e1, hE⟩ := qf_pr hE
          obtain ⟨e2, hE⟩ := qf_pr hE
          exact qw_ireti S0 hr hlocks hQ e0 (by rw [e1, e2, hE]) V dX2_read_79
        · replace hf := qf_t c_51 hf
          refine lv_aload_n hx hb dX2_read_54 rfl (lv_at hl 0 rfl) ?_
          refine gfO_3_0 S0 V kl_X2_12 dX2_read_55 ?_
          refine gfO_4_4 S0 V kl_X2_50 dX2_read_58 ?_
          refine lv_if_eq (tgt := 78) hx hb dX2_read_61 (by decide) (fun c_61 => ?_) (fun c_61 => ?_)
          · replace hf := qf_t c_61 hf
            refine lv_iload_n hx hb dX2_read_78 rfl (lv_at hl 1 rfl) ?_
            have hE := Option.some.inj hf
            obtain ⟨e0, hE⟩ := qf_pr hE
            obtain ⟨e1, hE⟩ := qf_pr hE
            obtain ⟨e2, hE⟩ := qf_pr hE
            exact qw_ireti S0 hr hlocks hQ e0 (by rw [e1, e2, hE]) V dX2_read_79
          · replace hf := qf_f c_61 hf
            refine lv_aload_n hx hb dX2_read_64 rfl (lv_at hl 0 rfl) ?_
            obtain ⟨I9, A10, hc_65, hf⟩ := qf_bd2_e hf
            refine qw_cV (rest := []) (st1 := []) S0 V hl 3 gO_3 rfl (c_X2_readStatement l hc_65) kg_X2_53 rfl ⟨rfl, rfl⟩ kd_X2_readStatement ⟨Nat.le_of_ble_eq_true rfl, Nat.le_of_ble_eq_true rfl⟩ rfl rfl (Nat.le_of_ble_eq_true rfl) ⟨Nat.zero_le _, Nat.zero_le _⟩ rfl dX2_read_65 (fun H locs V => ?_)
            refine lv_aload_n hx hb dX2_read_68 rfl (lv_at hl 0 rfl) ?_
            obtain ⟨I11, hc_69, hf⟩ := qf_bd_e hf
            refine qw_cV (rest := []) (st1 := []) S0 V hl 3 gO_3 rfl (c_X2_readSemicolon l hc_69) kg_X2_56 rfl ⟨rfl, rfl⟩ kd_X2_readSemicolon ⟨Nat.le_of_ble_eq_true rfl, Nat.le_of_ble_eq_true rfl⟩ rfl rfl (Nat.le_of_ble_eq_true rfl) ⟨Nat.zero_le _, Nat.zero_le _⟩ rfl dX2_read_69 (fun H locs V => ?_)
            obtain ⟨x12, e_x12⟩ : ∃ y : Int32, y = y3 + (1 : Int32) := ⟨_, rfl⟩
            refine lv_iinc (v := x12) (lv' := [(3, .int x12), (0, .ref (ad 3))]) hx hb dX2_read_72 hl (k := 1) rfl (by rw [e_x12]; rfl) (by decide) rfl (fun ls hl => ?_)
            replace hf := qf_let_e e_x12 hf
            refine lv_goto (tgt := 40) hx hb dX2_read_75 (by decide) ?_
            exact ih hf V (lv_sub hl [1, 0] rfl)
  unfold f_X2_read_r1 at hf
  refine lv_aload_n hx hb dX2_read_0 rfl (lv_at hl 0 rfl) ?_
  refine gfO_3_2 S0 V kl_X2_25 dX2_read_1 ?_
  obtain ⟨I1, hc_4, hf⟩ := qf_bd_e hf
  refine qw_cV (rest := []) (st1 := []) S0 V hl 31 gO_31 rfl (c_X3_clear_t31 l hc_4) kg_X2_42 rfl ⟨rfl, rfl⟩ kd_X3_clear ⟨Nat.le_of_ble_eq_true rfl, Nat.le_of_ble_eq_true rfl⟩ rfl rfl (Nat.le_of_ble_eq_true rfl) ⟨Nat.zero_le _, Nat.zero_le _⟩ rfl dX2_read_4 (fun H locs V => ?_)
  refine lv_aload_n hx hb dX2_read_7 rfl (lv_at hl 0 rfl) ?_
  refine gfO_3_3 S0 V kl_X2_32 dX2_read_8 ?_
  obtain ⟨I2, A3, hc_11, hf⟩ := qf_bd2_e hf
  refine qw_cV (rest := []) (st1 := []) S0 V hl 58 gO_58 rfl (c_X5_clear_t58 l hc_11) kg_X2_45 rfl ⟨rfl, rfl⟩ kd_X5_clear ⟨Nat.le_of_ble_eq_true rfl, Nat.le_of_ble_eq_true rfl⟩ rfl rfl (Nat.le_of_ble_eq_true rfl) ⟨Nat.zero_le _, Nat.zero_le _⟩ rfl dX2_read_11 (fun H locs V => ?_)
  refine lv_aload_n hx hb dX2_read_14 rfl (lv_at hl 0 rfl) ?_
  refine lv_iconst (v := 0) hx hb dX2_read_15 (by decide) ?_
  refine pfO_3_1 S0 V kl_X2_18 dX2_read_16 (fun H locs I4 e_I4 V => ?_)
  replace hf := qf_let_e e_I4 hf
  refine lv_aload_n hx hb dX2_read_19 rfl (lv_at hl 0 rfl) ?_
  refine lv_iconst (v := 0) hx hb dX2_read_20 (by decide) ?_
  refine pfO_3_4 S0 V kl_X2_36 dX2_read_21 (fun H locs I5 e_I5 V => ?_)
  replace hf := qf_let_e e_I5 hf
  refine lv_aload_n hx hb dX2_read_24 rfl (lv_at hl 0 rfl) ?_
  refine lv_iconst (v := -1) hx hb dX2_read_25 (by decide) ?_
  refine pfO_3_5 S0 V kl_X2_39 dX2_read_26 (fun H locs I6 e_I6 V => ?_)
  replace hf := qf_let_e e_I6 hf
  refine lv_aload_n hx hb dX2_read_29 rfl (lv_at hl 0 rfl) ?_
  refine gfO_3_0 S0 V kl_X2_12 dX2_read_30 ?_
  refine lv_aload_n hx hb dX2_read_33 rfl (lv_at hl 1 rfl) ?_
  refine lv_iload_n hx hb dX2_read_34 rfl (lv_at hl 2 rfl) ?_
  obtain ⟨I7, T8, hc_35, hf⟩ := qf_bd2_e hf
  refine qw_cV (rest := []) (st1 := []) S0 V hl 4 gO_4 rfl (c_X6_open_r1 l hc_35) kg_X2_46 rfl ⟨rfl, rfl⟩ kd_X6_open ⟨Nat.le_of_ble_eq_true rfl, Nat.le_of_ble_eq_true rfl⟩ rfl rfl (Nat.le_of_ble_eq_true rfl) ⟨Nat.zero_le _, Nat.zero_le _⟩ rfl dX2_read_35 (fun H locs V => ?_)
  refine lv_iconst (v := 0) hx hb dX2_read_38 (by decide) ?_
  refine lv_istore_n (lv' := [(3, .int (0 : Int32)), (0, .ref (ad 3)), (1, .ref (ad 1)), (2, .int p1)]) hx hb dX2_read_39 rfl hl (by decide) rfl (fun ls hl => ?_)
  exact L_40 hf V (lv_sub hl [1, 0] rfl)
theorem kd_X1_forget : yX1_forget.cls = RX1 ∧ yX1_forget.cls ≠ "java/lang/invoke/MethodHandle" ∧ yX1_forget.cls ≠ "java/lang/invoke/VarHandle" ∧ (parseMethodDescriptor yX1_forget.desc).map (fun d => d.parameters.length) = some 0 := by decide +kernel
def f_X1_forget (I : Nat → Int32) : Option ((Nat → Int32)) :=
  qf_let (upd I 10 (0 : Int32)) fun I1 =>
  some (I1)
abbrev wz_X1_forget : List Cond := Cond.code yX1_forget cX1_forget 1 none :: qw_big
def rm_X1_forget : Room := { frames := 0, cells := 0, slots := 0, locals := 0 }
set_option maxHeartbeats 4000000 in
set_option maxRecDepth 100000 in
theorem c_X1_forget (l : Launch) {D : va_G} {cy : Nat → ClassId} {ad : Nat → Nat} {I : Nat → Int32} {A : Nat → Nat → Int32} {G : Nat → Int32 × (Nat → Nat → Int32)} {T : Nat}  {I9 : Nat → Int32} {sz : Nat} (hf : f_X1_forget I = some (I9)) : Met l yX1_forget wz_X1_forget rm_X1_forget (va_Pc [.ref (ad 6)] (qw_Pre D cy (Wo cy ad I A G T) sz)) (qw_Q none D (Wo cy ad I9 A G T) (va_A (Wo cy ad I A G T) sz)) 0 0 (va_A (Wo cy ad I A G T) sz) := by
  refine qw_of (cc := cX1_forget) (maxL := 1) (ret := none) (by decide) (Nat.le_of_ble_eq_true rfl) ?_
  intro p e s m args below meth c ls S0 hr hlocks hsz V hl
  have S0 : CallFix p m c cX1_forget 1 s args qw_big RX1 := S0
  have hx := S0.1; have hb := S0.2.1; have hown := S0.2.2.2.1; have hts := S0.2.2.2.2
  have hl : lv_has ls 1 [(0, .ref (ad 6))] := hl
  generalize va_A (Wo cy ad I A G T) sz = Z9 at V ⊢
  obtain ⟨Q9, hQ⟩ : ∃ q, q = MQ below (qw_Q none D (Wo cy ad I9 A G T) Z9) args s 0 0 Z9 := ⟨_, rfl⟩
  rw [← hQ]
  clear hsz
  unfold f_X1_forget at hf
  refine lv_aload_n hx hb dX1_forget_0 rfl (lv_at hl 0 rfl) ?_
  refine lv_iconst (v := 0) hx hb dX1_forget_1 (by decide) ?_
  refine pfO_6_2 S0 V kl_X1_21 dX1_forget_2 (fun H locs I1 e_I1 V => ?_)
  replace hf := qf_let_e e_I1 hf
  have hE := Option.some.inj hf
  exact qw_vreti S0 hr hlocks hQ (by rw [hE]) V dX1_forget_5
theorem kd_X7_shareOf : yX7_shareOf.cls = RX7 ∧ yX7_shareOf.cls ≠ "java/lang/invoke/MethodHandle" ∧ yX7_shareOf.cls ≠ "java/lang/invoke/VarHandle" ∧ (parseMethodDescriptor yX7_shareOf.desc).map (fun d => d.parameters.length) = some 2 := by decide +kernel
def f_X7_shareOf (A : Nat → Nat → Int32) (p1 : Int32) (p2 : Int32) : Option (Int32) :=
  qf_ld 6 (A 34) p1 fun x1 =>
  qf_ld 4 (A 33) p2 fun x2 =>
  some ((x1 * x2))
abbrev wz_X7_shareOf : List Cond := Cond.code yX7_shareOf cX7_shareOf 3 (some .int) :: qw_big
def rm_X7_shareOf : Room := { frames := 0, cells := 0, slots := 0, locals := 0 }
set_option maxHeartbeats 4000000 in
set_option maxRecDepth 100000 in
theorem c_X7_shareOf (l : Launch) {D : va_G} {cy : Nat → ClassId} {ad : Nat → Nat} {I : Nat → Int32} {A : Nat → Nat → Int32} {G : Nat → Int32 × (Nat → Nat → Int32)} {T : Nat} {p1 : Int32} {p2 : Int32} {rv : Int32} {sz : Nat} (hf : f_X7_shareOf A p1 p2 = some (rv)) : Met l yX7_shareOf wz_X7_shareOf rm_X7_shareOf (va_Pc [.ref (ad 0), .int p1, .int p2] (qw_Pre D cy (Wo cy ad I A G T) sz)) (qw_R (some (.int rv))) 0 0 (fun _ => False) := by
  refine qw_of (cc := cX7_shareOf) (maxL := 3) (ret := (some .int)) (by decide) (Nat.le_of_ble_eq_true rfl) ?_
  intro p e s m args below meth c ls S0 hr hlocks hsz V hl
  have S0 : CallFix p m c cX7_shareOf 3 s args qw_big RX7 := S0
  have hx := S0.1; have hb := S0.2.1; have hown := S0.2.2.2.1; have hts := S0.2.2.2.2
  have hl : lv_has ls 3 [(0, .ref (ad 0)), (1, .int p1), (2, .int p2)] := hl
  obtain ⟨Q9, hQ⟩ : ∃ q, q = MQ below (qw_R (some (.int rv))) args s 0 0 (fun _ => False) := ⟨_, rfl⟩
  rw [← hQ]
  generalize va_A (Wo cy ad I A G T) sz = Z9 at V
  unfold f_X7_shareOf at hf
  refine lv_aload_n hx hb dX7_shareOf_0 rfl (lv_at hl 0 rfl) ?_
  refine gfO_0_6 S0 V kl_X7_47 dX7_shareOf_1 ?_
  refine gfO_43_2 S0 V kl_X7_153 dX7_shareOf_4 ?_
  refine lv_iload_n hx hb dX7_shareOf_7 rfl (lv_at hl 1 rfl) ?_
  have h_8 := qf_ld_in hf
  refine alO_45 S0 V h_8 dX7_shareOf_8 ?_
  refine lv_topi (fun x1 e_x1 => ?_)
  replace hf := qf_ld_e e_x1 hf
  refine lv_aload_n hx hb dX7_shareOf_9 rfl (lv_at hl 0 rfl) ?_
  refine gfO_0_6 S0 V kl_X7_47 dX7_shareOf_10 ?_
  refine gfO_43_1 S0 V kl_X7_123 dX7_shareOf_13 ?_
  refine lv_iload_n hx hb dX7_shareOf_16 rfl (lv_at hl 2 rfl) ?_
  have h_17 := qf_ld_in hf
  refine alO_44 S0 V h_17 dX7_shareOf_17 ?_
  refine lv_topi (fun x2 e_x2 => ?_)
  replace hf := qf_ld_e e_x2 hf
  refine lv_imul hx hb dX7_shareOf_18 ?_
  have hE := Option.some.inj hf
  exact qw_iretR S0 hr hlocks hQ hE dX7_shareOf_19
theorem kd_X5_purse : yX5_purse.cls ≠ "java/lang/invoke/MethodHandle" ∧ yX5_purse.cls ≠ "java/lang/invoke/VarHandle" ∧ (parseMethodDescriptor yX5_purse.desc).map (fun d => d.parameters.length) = some 2 := by decide +kernel
def f_X5_purse (p1 : Int32) (p2 : Int32) : Option (Int32) :=
  some ((((p1 * (4 : Int32)) + p2) * (5 : Int32)))
abbrev wz_X5_purse : List Cond := Cond.code yX5_purse cX5_purse 2 (some .int) :: qw_big
def rm_X5_purse : Room := { frames := 0, cells := 0, slots := 0, locals := 0 }
set_option maxHeartbeats 4000000 in
set_option maxRecDepth 100000 in
theorem c_X5_purse (l : Launch) {D : va_G} {cy : Nat → ClassId} {ws : va_W} {p1 : Int32} {p2 : Int32} {rv : Int32} {sz : Nat} (hf : f_X5_purse p1 p2 = some (rv)) : Met l yX5_purse wz_X5_purse rm_X5_purse (va_Pc [.int p1, .int p2] (qw_Pre D cy ws sz)) (qw_R (some (.int rv))) 0 0 (fun _ => False) := by
  refine qw_of (cc := cX5_purse) (maxL := 2) (ret := (some .int)) (by decide) (Nat.le_of_ble_eq_true rfl) ?_
  intro p e s m args below meth c ls S0 hr hlocks hsz V hl
  have S0 : CallFix p m c cX5_purse 2 s args qw_big RX5 := S0
  have hx := S0.1; have hb := S0.2.1; have hown := S0.2.2.2.1; have hts := S0.2.2.2.2
  have hl : lv_has ls 2 [(0, .int p1), (1, .int p2)] := hl
  obtain ⟨Q9, hQ⟩ : ∃ q, q = MQ below (qw_R (some (.int rv))) args s 0 0 (fun _ => False) := ⟨_, rfl⟩
  rw [← hQ]
  generalize va_A ws sz = Z9 at V
  unfold f_X5_purse at hf
  refine lv_iload_n hx hb dX5_purse_0 rfl (lv_at hl 0 rfl) ?_
  refine lv_iconst (v := 4) hx hb dX5_purse_1 (by decide) ?_
  refine lv_imul hx hb dX5_purse_2 ?_
  refine lv_iload_n hx hb dX5_purse_3 rfl (lv_at hl 1 rfl) ?_
  refine lv_iadd hx hb dX5_purse_4 ?_
  refine lv_iconst (v := 5) hx hb dX5_purse_5 (by decide) ?_
  refine lv_imul hx hb dX5_purse_6 ?_
  have hE := Option.some.inj hf
  exact qw_iretR S0 hr hlocks hQ hE dX5_purse_7
theorem kd_X7_issueToAll : yX7_issueToAll.cls = RX7 ∧ yX7_issueToAll.cls ≠ "java/lang/invoke/MethodHandle" ∧ yX7_issueToAll.cls ≠ "java/lang/invoke/VarHandle" ∧ (parseMethodDescriptor yX7_issueToAll.desc).map (fun d => d.parameters.length) = some 0 := by decide +kernel
def f_X7_issueToAll_l15 (I : Nat → Int32) (K2 : (Nat → Nat → Int32) → Int32 → Option ((Nat → Nat → Int32))) (y1 : Int32) : Nat → (Nat → Nat → Int32) → Int32 → Option ((Nat → Nat → Int32))
  | 0, _, _ => none
  | n + 1, A, y2 =>
  if (I 12) ≤ y2 then (qf_let (y1 + (1 : Int32)) fun x1 =>
    K2 A x1) else (qf_bd (f_X7_shareOf A y1 y2) fun r2 =>
    qf_bd (f_X5_purse y1 y2) fun r3 =>
    qf_ld 4 (A 15) y2 fun x4 =>
    qf_ld 120 (A 36) (r3 + x4) fun x5 =>
    qf_st 120 (r3 + x4) fun i7 =>
    qf_let (qf_up A 36 (upd (A 36) i7 (x5 + r2))) fun A6 =>
    qf_ld 4 (A6 44) y2 fun x8 =>
    qf_st 4 y2 fun i10 =>
    qf_let (qf_up A6 44 (upd (A6 44) i10 (x8 + r2))) fun A9 =>
    qf_let (y2 + (1 : Int32)) fun x11 =>
    f_X7_issueToAll_l15 I K2 y1 n A9 x11)
def f_X7_issueToAll_l2 (I : Nat → Int32)   : Nat → (Nat → Nat → Int32) → Int32 → Option ((Nat → Nat → Int32))
  | 0, _, _ => none
  | n + 1, A, y1 =>
  if (I 14) ≤ y1 then (some (A)) else (f_X7_issueToAll_l15 I (fun z0 z1 => f_X7_issueToAll_l2 I n z0 z1) y1 100000 A (0 : Int32))
def f_X7_issueToAll (I : Nat → Int32) (A : Nat → Nat → Int32) : Option ((Nat → Nat → Int32)) :=
  f_X7_issueToAll_l2 I 100000 A (0 : Int32)
abbrev wz_X7_issueToAll : List Cond := Cond.code yX7_issueToAll cX7_issueToAll 4 none :: qw_big
def rm_X7_issueToAll : Room := { frames := 1, cells := 0, slots := 0, locals := 22 }
set_option maxHeartbeats 4000000 in
set_option maxRecDepth 100000 in
theorem c_X7_issueToAll (l : Launch) {D : va_G} {cy : Nat → ClassId} {ad : Nat → Nat} {I : Nat → Int32} {A : Nat → Nat → Int32} {G : Nat → Int32 × (Nat → Nat → Int32)} {T : Nat}  {A9 : Nat → Nat → Int32} {sz : Nat} (hf : f_X7_issueToAll I A = some (A9)) : Met l yX7_issueToAll wz_X7_issueToAll rm_X7_issueToAll (va_Pc [.ref (ad 0)] (qw_Pre D cy (Wo cy ad I A G T) sz)) (qw_Q none D (Wo cy ad I A9 G T) (va_A (Wo cy ad I A G T) sz)) 0 0 (va_A (Wo cy ad I A G T) sz) := by
  refine qw_of (cc := cX7_issueToAll) (maxL := 4) (ret := none) (by decide) (Nat.le_of_ble_eq_true rfl) ?_
  intro p e s m args below meth c ls S0 hr hlocks hsz V hl
  have S0 : CallFix p m c cX7_issueToAll 4 s args qw_big RX7 := S0
  have hx := S0.1; have hb := S0.2.1; have hown := S0.2.2.2.1; have hts := S0.2.2.2.2
  have hl : lv_has ls 4 [(0, .ref (ad 0))] := hl
  generalize va_A (Wo cy ad I A G T) sz = Z9 at V ⊢
  obtain ⟨Q9, hQ⟩ : ∃ q, q = MQ below (qw_Q none D (Wo cy ad I A9 G T) Z9) args s 0 0 Z9 := ⟨_, rfl⟩
  rw [← hQ]
  clear hsz
  have L_15 : ∀ {K2 : (Nat → Nat → Int32) → Int32 → Option ((Nat → Nat → Int32))}  (hK2 : ∀ {A : Nat → Nat → Int32} {y1 : Int32} {H : Heap} {locs : List Loc} {ls : Array Slot}, K2 A y1 = some (A9) → qw_V D cy Z9 s (Wo cy ad I A G T) H locs → lv_has ls 4 [(0, .ref (ad 0)), (1, .int y1)] → W p l e rm_X7_issueToAll s m args below meth c H locs 0 0 Q9 (F0 m 2 ls [])) {y1 : Int32} {n : Nat} {A : Nat → Nat → Int32} {y2 : Int32} {H : Heap} {locs : List Loc} {ls : Array Slot}, f_X7_issueToAll_l15 I K2 y1 n A y2 = some (A9) → qw_V D cy Z9 s (Wo cy ad I A G T) H locs → lv_has ls 4 [(0, .ref (ad 0)), (1, .int y1), (2, .int y2)] → W p l e rm_X7_issueToAll s m args below meth c H locs 0 0 Q9 (F0 m 15 ls []) := by
    intro K2 hK2 y1 n
    induction n with
    | zero => intro A y2 H locs ls hf V hl; exact qf_no hf
    | succ n ih =>
      intro A y2 H locs ls hf V hl
      rw [f_X7_issueToAll_l15] at hf
      refine lv_iload_n hx hb dX7_issueToAll_15 rfl (lv_at hl 2 rfl) ?_
      refine lv_aload_n hx hb dX7_issueToAll_16 rfl (lv_at hl 0 rfl) ?_
      refine gfO_0_5 S0 V kl_X7_40 dX7_issueToAll_17 ?_
      refine gfO_19_0 S0 V kl_X7_81 dX7_issueToAll_20 ?_
      refine lv_icmp_ge (tgt := 79) hx hb dX7_issueToAll_23 (by decide) (fun c_23 => ?_) (fun c_23 => ?_)
      · replace hf := qf_t c_23 hf
        obtain ⟨x1, e_x1⟩ : ∃ y : Int32, y = y1 + (1 : Int32) := ⟨_, rfl⟩
        refine lv_iinc (v := x1) (lv' := [(1, .int x1), (0, .ref (ad 0)), (2, .int y2)]) hx hb dX7_issueToAll_79 hl (k := 1) rfl (by rw [e_x1]; rfl) (by decide) rfl (fun ls hl => ?_)
        replace hf := qf_let_e e_x1 hf
        refine lv_goto (tgt := 2) hx hb dX7_issueToAll_82 (by decide) ?_
        exact hK2 hf V (lv_sub hl [1, 0] rfl)
      · replace hf := qf_f c_23 hf
        refine lv_aload_n hx hb dX7_issueToAll_26 rfl (lv_at hl 0 rfl) ?_
        refine lv_iload_n hx hb dX7_issueToAll_27 rfl (lv_at hl 1 rfl) ?_
        refine lv_iload_n hx hb dX7_issueToAll_28 rfl (lv_at hl 2 rfl) ?_
        obtain ⟨r2, hc_29, hf⟩ := qf_bd_e hf
        refine qw_cVR (rest := []) (st1 := [.int r2]) S0 V hl 0 gO_0 rfl (c_X7_shareOf l hc_29) kg_X7_329 rfl ⟨rfl, rfl⟩ kd_X7_shareOf ⟨Nat.le_of_ble_eq_true rfl, Nat.le_of_ble_eq_true rfl⟩ rfl rfl (Nat.le_of_ble_eq_true rfl) ⟨Nat.zero_le _, Nat.zero_le _⟩ rfl dX7_issueToAll_29 ?_
        refine lv_istore_n (lv' := [(3, .int r2), (0, .ref (ad 0)), (1, .int y1), (2, .int y2)]) hx hb dX7_issueToAll_32 rfl hl (by decide) rfl (fun ls hl => ?_)
        refine lv_aload_n hx hb dX7_issueToAll_33 rfl (lv_at hl 1 rfl) ?_
        refine gfO_0_6 S0 V kl_X7_47 dX7_issueToAll_34 ?_
        refine gfO_43_4 S0 V kl_X7_166 dX7_issueToAll_37 ?_
        refine lv_iload_n hx hb dX7_issueToAll_40 rfl (lv_at hl 2 rfl) ?_
        refine lv_iload_n hx hb dX7_issueToAll_41 rfl (lv_at hl 3 rfl) ?_
        obtain ⟨r3, hc_42, hf⟩ := qf_bd_e hf
        refine qw_cSR (rest := [.ref (ad 47)]) (st1 := [.int r3, .ref (ad 47)]) S0 V hl (c_X5_purse l hc_42) kg_X7_169 rfl ⟨rfl, rfl⟩ kd_X5_purse ⟨Nat.le_of_ble_eq_true rfl, Nat.le_of_ble_eq_true rfl⟩ rfl rfl (Nat.le_of_ble_eq_true rfl) ⟨Nat.zero_le _, Nat.zero_le _⟩ rfl dX7_issueToAll_42 ?_
        refine lv_aload_n hx hb dX7_issueToAll_45 rfl (lv_at hl 1 rfl) ?_
        refine gfO_0_5 S0 V kl_X7_40 dX7_issueToAll_46 ?_
        refine gfO_19_8 S0 V kl_X7_126 dX7_issueToAll_49 ?_
        refine lv_iload_n hx hb dX7_issueToAll_52 rfl (lv_at hl 3 rfl) ?_
        have h_53 := qf_ld_in hf
        refine alO_24 S0 V h_53 dX7_issueToAll_53 ?_
        refine lv_topi (fun x4 e_x4 => ?_)
        replace hf := qf_ld_e e_x4 hf
        refine lv_iadd hx hb dX7_issueToAll_54 ?_
        refine lv_dup2_11 hx hb dX7_issueToAll_55 rfl rfl ?_
        have h_56 := qf_ld_in hf
        refine alO_47 S0 V h_56 dX7_issueToAll_56 ?_
        refine lv_topi (fun x5 e_x5 => ?_)
        replace hf := qf_ld_e e_x5 hf
        refine lv_iload_n hx hb dX7_issueToAll_57 rfl (lv_at hl 0 rfl) ?_
        refine lv_iadd hx hb dX7_issueToAll_58 ?_
        have h_59 := qf_st_in hf
        replace hf := qf_st_e hf
        refine asO_47 S0 V h_59 dX7_issueToAll_59 (fun H locs A6 e_A6 V => ?_)
        replace hf := qf_let_e e_A6 hf
        refine lv_aload_n hx hb dX7_issueToAll_60 rfl (lv_at hl 1 rfl) ?_
        refine gfO_0_6 S0 V kl_X7_47 dX7_issueToAll_61 ?_
        refine gfO_43_12 S0 V kl_X7_240 dX7_issueToAll_64 ?_
        refine lv_iload_n hx hb dX7_issueToAll_67 rfl (lv_at hl 3 rfl) ?_
        refine lv_dup2_11 hx hb dX7_issueToAll_68 rfl rfl ?_
        have h_69 := qf_ld_in hf
        refine alO_55 S0 V h_69 dX7_issueToAll_69 ?_
        refine lv_topi (fun x8 e_x8 => ?_)
        replace hf := qf_ld_e e_x8 hf
        refine lv_iload_n hx hb dX7_issueToAll_70 rfl (lv_at hl 0 rfl) ?_
        refine lv_iadd hx hb dX7_issueToAll_71 ?_
        have h_72 := qf_st_in hf
        replace hf := qf_st_e hf
        refine asO_55 S0 V h_72 dX7_issueToAll_72 (fun H locs A9 e_A9 V => ?_)
        replace hf := qf_let_e e_A9 hf
        obtain ⟨x11, e_x11⟩ : ∃ y : Int32, y = y2 + (1 : Int32) := ⟨_, rfl⟩
        refine lv_iinc (v := x11) (lv' := [(2, .int x11), (3, .int r2), (0, .ref (ad 0)), (1, .int y1)]) hx hb dX7_issueToAll_73 hl (k := 3) rfl (by rw [e_x11]; rfl) (by decide) rfl (fun ls hl => ?_)
        replace hf := qf_let_e e_x11 hf
        refine lv_goto (tgt := 15) hx hb dX7_issueToAll_76 (by decide) ?_
        exact ih hf V (lv_sub hl [2, 3, 0] rfl)
  have L_2 : ∀   {n : Nat} {A : Nat → Nat → Int32} {y1 : Int32} {H : Heap} {locs : List Loc} {ls : Array Slot}, f_X7_issueToAll_l2 I n A y1 = some (A9) → qw_V D cy Z9 s (Wo cy ad I A G T) H locs → lv_has ls 4 [(0, .ref (ad 0)), (1, .int y1)] → W p l e rm_X7_issueToAll s m args below meth c H locs 0 0 Q9 (F0 m 2 ls []) := by
    intro n
    induction n with
    | zero => intro A y1 H locs ls hf V hl; exact qf_no hf
    | succ n ih =>
      intro A y1 H locs ls hf V hl
      rw [f_X7_issueToAll_l2] at hf
      refine lv_iload_n hx hb dX7_issueToAll_2 rfl (lv_at hl 1 rfl) ?_
      refine lv_aload_n hx hb dX7_issueToAll_3 rfl (lv_at hl 0 rfl) ?_
      refine gfO_0_5 S0 V kl_X7_40 dX7_issueToAll_4 ?_
      refine gfO_19_2 S0 V kl_X7_87 dX7_issueToAll_7 ?_
      refine lv_icmp_ge (tgt := 85) hx hb dX7_issueToAll_10 (by decide) (fun c_10 => ?_) (fun c_10 => ?_)
      · replace hf := qf_t c_10 hf
        have hE := Option.some.inj hf
        exact qw_vreti S0 hr hlocks hQ (by rw [hE]) V dX7_issueToAll_85
      · replace hf := qf_f c_10 hf
        refine lv_iconst (v := 0) hx hb dX7_issueToAll_13 (by decide) ?_
        refine lv_istore_n (lv' := [(2, .int (0 : Int32)), (0, .ref (ad 0)), (1, .int y1)]) hx hb dX7_issueToAll_14 rfl hl (by decide) rfl (fun ls hl => ?_)
        exact L_15 (fun hf V hl => ih hf V hl) hf V (lv_sub hl [1, 2, 0] rfl)
  unfold f_X7_issueToAll at hf
  refine lv_iconst (v := 0) hx hb dX7_issueToAll_0 (by decide) ?_
  refine lv_istore_n (lv' := [(1, .int (0 : Int32)), (0, .ref (ad 0))]) hx hb dX7_issueToAll_1 rfl hl (by decide) rfl (fun ls hl => ?_)
  exact L_2 hf V (lv_sub hl [1, 0] rfl)
theorem kd_X7_load : yX7_load.cls = RX7 ∧ yX7_load.cls ≠ "java/lang/invoke/MethodHandle" ∧ yX7_load.cls ≠ "java/lang/invoke/VarHandle" ∧ (parseMethodDescriptor yX7_load.desc).map (fun d => d.parameters.length) = some 1 := by decide +kernel
def f_X7_load (I : Nat → Int32) (A : Nat → Nat → Int32) (T : Nat) (ad : Nat → Nat) (p1 : Int32) : Option (Int32 × (Nat → Int32) × (Nat → Nat → Int32) × (Nat) × (Nat → Nat)) :=
  if p1 < 0 then (some ((-2 : Int32), I, A, T, ad)) else (if p1 ≤ (I 0) then (qf_let (upd I 0 (0 : Int32)) fun I1 =>
      qf_bd4 (f_X2_read_r1 I1 A T p1) fun r2 I3 A4 T5 =>
      qf_let (upd I3 1 (I3 4)) fun I6 =>
      if (I6 3) = 0 then (qf_ck (qx_pi T5 = T5) <|
        qf_let (qx_ad ad) fun ad7 =>
        qf_let (qx_I I6) fun I8 =>
        qf_let (qx_A A4) fun A9 =>
        qf_bd (f_X1_forget I8) fun I10 =>
        qf_bd (f_X7_issueToAll I10 A9) fun A11 =>
        some (r2, I10, A11, T5, ad7)) else (some ((I6 3), I6, A4, T5, ad))) else (some ((-2 : Int32), I, A, T, ad)))
abbrev wz_X7_load : List Cond := Cond.code yX7_load cX7_load 3 (some .int) :: qw_big
def rm_X7_load : Room := { frames := 10, cells := 0, slots := 0, locals := 263 }
set_option maxHeartbeats 4000000 in
set_option maxRecDepth 100000 in
theorem c_X7_load (l : Launch) {D : va_G} {cy : Nat → ClassId} {ad : Nat → Nat} {I : Nat → Int32} {A : Nat → Nat → Int32} {G : Nat → Int32 × (Nat → Nat → Int32)} {T : Nat} {p1 : Int32} {rv : Int32} {I9 : Nat → Int32} {A9 : Nat → Nat → Int32} {T9 : Nat} {ad9 : Nat → Nat} {sz : Nat} (hf : f_X7_load I A T ad p1 = some (rv, I9, A9, T9, ad9)) : Met l yX7_load wz_X7_load rm_X7_load (va_Pc [.ref (ad 0), .int p1] (qw_Pre D cy (Wo cy ad I A G T) sz)) (qw_Q (some (.int rv)) D (Wo cy ad9 I9 A9 G T9) (va_A (Wo cy ad I A G T) sz)) 0 0 (va_A (Wo cy ad I A G T) sz) := by
  refine qw_of (cc := cX7_load) (maxL := 3) (ret := (some .int)) (by decide) (Nat.le_of_ble_eq_true rfl) ?_
  intro p e s m args below meth c ls S0 hr hlocks hsz V hl
  have S0 : CallFix p m c cX7_load 3 s args qw_big RX7 := S0
  have hx := S0.1; have hb := S0.2.1; have hown := S0.2.2.2.1; have hts := S0.2.2.2.2
  have hl : lv_has ls 3 [(0, .ref (ad 0)), (1, .int p1)] := hl
  generalize va_A (Wo cy ad I A G T) sz = Z9 at V ⊢
  obtain ⟨Q9, hQ⟩ : ∃ q, q = MQ below (qw_Q (some (.int rv)) D (Wo cy ad9 I9 A9 G T9) Z9) args s 0 0 Z9 := ⟨_, rfl⟩
  rw [← hQ]
  clear hsz
  unfold f_X7_load at hf
  refine lv_iload_n hx hb dX7_load_0 rfl (lv_at hl 1 rfl) ?_
  refine lv_if_lt (tgt := 12) hx hb dX7_load_1 (by decide) (fun c_1 => ?_) (fun c_1 => ?_)
  · replace hf := qf_t c_1 hf
    refine lv_bipush (v := -2) hx hb dX7_load_12 (by decide) ?_
    have hE := Option.some.inj hf
    obtain ⟨e0, hE⟩ := qf_pr hE
    obtain ⟨e1, hE⟩ := qf_pr hE
    obtain ⟨e2, hE⟩ := qf_pr hE
    obtain ⟨e3, hE⟩ := qf_pr hE
    exact qw_ireti S0 hr hlocks hQ e0 (by rw [e1, e2, e3, hE]) V dX7_load_14
  · replace hf := qf_f c_1 hf
    refine lv_iload_n hx hb dX7_load_4 rfl (lv_at hl 1 rfl) ?_
    refine lv_aload_n hx hb dX7_load_5 rfl (lv_at hl 0 rfl) ?_
    refine gfO_0_7 S0 V kl_X7_51 dX7_load_6 ?_
    refine lv_icmp_le (tgt := 15) hx hb dX7_load_9 (by decide) (fun c_9 => ?_) (fun c_9 => ?_)
    · replace hf := qf_t c_9 hf
      refine lv_aload_n hx hb dX7_load_15 rfl (lv_at hl 0 rfl) ?_
      refine lv_iconst (v := 0) hx hb dX7_load_16 (by decide) ?_
      refine pfO_0_7 S0 V kl_X7_51 dX7_load_17 (fun H locs I1 e_I1 V => ?_)
      replace hf := qf_let_e e_I1 hf
      refine lv_aload_n hx hb dX7_load_20 rfl (lv_at hl 0 rfl) ?_
      refine gfO_0_1 S0 V kl_X7_16 dX7_load_21 ?_
      refine lv_aload_n hx hb dX7_load_24 rfl (lv_at hl 0 rfl) ?_
      refine gfO_0_0 S0 V kl_X7_9 dX7_load_25 ?_
      refine lv_iload_n hx hb dX7_load_28 rfl (lv_at hl 1 rfl) ?_
      obtain ⟨r2, I3, A4, T5, hc_29, hf⟩ := qf_bd4_e hf
      refine qw_cV (rest := []) (st1 := [.int r2]) S0 V hl 3 gO_3 rfl (c_X2_read_r1 l hc_29) kg_X7_62 rfl ⟨rfl, rfl⟩ kd_X2_read ⟨Nat.le_of_ble_eq_true rfl, Nat.le_of_ble_eq_true rfl⟩ rfl rfl (Nat.le_of_ble_eq_true rfl) ⟨Nat.zero_le _, Nat.zero_le _⟩ rfl dX7_load_29 (fun H locs V => ?_)
      refine lv_istore_n (lv' := [(2, .int r2), (0, .ref (ad 0)), (1, .int p1)]) hx hb dX7_load_32 rfl hl (by decide) rfl (fun ls hl => ?_)
      refine lv_aload_n hx hb dX7_load_33 rfl (lv_at hl 1 rfl) ?_
      refine lv_aload_n hx hb dX7_load_34 rfl (lv_at hl 1 rfl) ?_
      refine gfO_0_1 S0 V kl_X7_16 dX7_load_35 ?_
      refine gfO_3_5 S0 V kl_X7_66 dX7_load_38 ?_
      refine pfO_0_8 S0 V kl_X7_55 dX7_load_41 (fun H locs I6 e_I6 V => ?_)
      replace hf := qf_let_e e_I6 hf
      refine lv_aload_n hx hb dX7_load_44 rfl (lv_at hl 1 rfl) ?_
      refine gfO_0_1 S0 V kl_X7_16 dX7_load_45 ?_
      refine gfO_3_4 S0 V kl_X7_67 dX7_load_48 ?_
      refine lv_if_eq (tgt := 62) hx hb dX7_load_51 (by decide) (fun c_51 => ?_) (fun c_51 => ?_)
      · replace hf := qf_t c_51 hf
        refine lv_aload_n hx hb dX7_load_62 rfl (lv_at hl 1 rfl) ?_
        obtain ⟨h_63, hf⟩ := qf_ck_e hf
        refine qw_cV (rest := []) (st1 := []) S0 V hl 0 gO_0 rfl (c_X7_exchangeWithLoader l h_63) kg_X7_70 rfl ⟨rfl, rfl⟩ kd_X7_exchangeWithLoader ⟨Nat.le_of_ble_eq_true rfl, Nat.le_of_ble_eq_true rfl⟩ rfl rfl (Nat.le_of_ble_eq_true rfl) ⟨Nat.zero_le _, Nat.zero_le _⟩ rfl dX7_load_63 (fun H locs V => ?_)
        obtain ⟨ad7, e_ad7⟩ : ∃ y : Nat → Nat, y = qx_ad ad := ⟨_, rfl⟩
        replace hf := qf_let_e e_ad7 hf
        rw [← e_ad7] at V
        have e0_ad7 : ad 0 = ad7 0 := by rw [e_ad7]; rfl
        rw [e0_ad7] at hl
        obtain ⟨I8, e_I8⟩ : ∃ y : Nat → Int32, y = qx_I I6 := ⟨_, rfl⟩
        replace hf := qf_let_e e_I8 hf
        rw [← e_I8] at V
        obtain ⟨A9, e_A9⟩ : ∃ y : Nat → Nat → Int32, y = qx_A A4 := ⟨_, rfl⟩
        replace hf := qf_let_e e_A9 hf
        rw [← e_A9] at V
        refine lv_aload_n hx hb dX7_load_66 rfl (lv_at hl 1 rfl) ?_
        refine gfO_0_2 S0 V kl_X7_23 dX7_load_67 ?_
        obtain ⟨I10, hc_70, hf⟩ := qf_bd_e hf
        refine qw_cV (rest := []) (st1 := []) S0 V hl 6 gO_6 rfl (c_X1_forget l hc_70) kg_X7_73 rfl ⟨rfl, rfl⟩ kd_X1_forget ⟨Nat.le_of_ble_eq_true rfl, Nat.le_of_ble_eq_true rfl⟩ rfl rfl (Nat.le_of_ble_eq_true rfl) ⟨Nat.zero_le _, Nat.zero_le _⟩ rfl dX7_load_70 (fun H locs V => ?_)
        refine lv_aload_n hx hb dX7_load_73 rfl (lv_at hl 1 rfl) ?_
        obtain ⟨A11, hc_74, hf⟩ := qf_bd_e hf
        refine qw_cV (rest := []) (st1 := []) S0 V hl 0 gO_0 rfl (c_X7_issueToAll l hc_74) kg_X7_76 rfl ⟨rfl, rfl⟩ kd_X7_issueToAll ⟨Nat.le_of_ble_eq_true rfl, Nat.le_of_ble_eq_true rfl⟩ rfl rfl (Nat.le_of_ble_eq_true rfl) ⟨Nat.zero_le _, Nat.zero_le _⟩ rfl dX7_load_74 (fun H locs V => ?_)
        refine lv_iload_n hx hb dX7_load_77 rfl (lv_at hl 0 rfl) ?_
        have hE := Option.some.inj hf
        obtain ⟨e0, hE⟩ := qf_pr hE
        obtain ⟨e1, hE⟩ := qf_pr hE
        obtain ⟨e2, hE⟩ := qf_pr hE
        obtain ⟨e3, hE⟩ := qf_pr hE
        exact qw_ireti S0 hr hlocks hQ e0 (by rw [e1, e2, e3, hE]) V dX7_load_78
      · replace hf := qf_f c_51 hf
        refine lv_aload_n hx hb dX7_load_54 rfl (lv_at hl 1 rfl) ?_
        refine gfO_0_1 S0 V kl_X7_16 dX7_load_55 ?_
        refine gfO_3_4 S0 V kl_X7_67 dX7_load_58 ?_
        have hE := Option.some.inj hf
        obtain ⟨e0, hE⟩ := qf_pr hE
        obtain ⟨e1, hE⟩ := qf_pr hE
        obtain ⟨e2, hE⟩ := qf_pr hE
        obtain ⟨e3, hE⟩ := qf_pr hE
        exact qw_ireti S0 hr hlocks hQ e0 (by rw [e1, e2, e3, hE]) V dX7_load_61
    · replace hf := qf_f c_9 hf
      refine lv_bipush (v := -2) hx hb dX7_load_12 (by decide) ?_
      have hE := Option.some.inj hf
      obtain ⟨e0, hE⟩ := qf_pr hE
      obtain ⟨e1, hE⟩ := qf_pr hE
      obtain ⟨e2, hE⟩ := qf_pr hE
      obtain ⟨e3, hE⟩ := qf_pr hE
      exact qw_ireti S0 hr hlocks hQ e0 (by rw [e1, e2, e3, hE]) V dX7_load_14
theorem kd_X7_errorPosition : yX7_errorPosition.cls = RX7 ∧ yX7_errorPosition.cls ≠ "java/lang/invoke/MethodHandle" ∧ yX7_errorPosition.cls ≠ "java/lang/invoke/VarHandle" ∧ (parseMethodDescriptor yX7_errorPosition.desc).map (fun d => d.parameters.length) = some 0 := by decide +kernel
def f_X7_errorPosition (I : Nat → Int32) : Option (Int32) :=
  some ((I 1))
abbrev wz_X7_errorPosition : List Cond := Cond.code yX7_errorPosition cX7_errorPosition 1 (some .int) :: qw_big
def rm_X7_errorPosition : Room := { frames := 0, cells := 0, slots := 0, locals := 0 }
set_option maxHeartbeats 4000000 in
set_option maxRecDepth 100000 in
theorem c_X7_errorPosition (l : Launch) {D : va_G} {cy : Nat → ClassId} {ad : Nat → Nat} {I : Nat → Int32} {A : Nat → Nat → Int32} {G : Nat → Int32 × (Nat → Nat → Int32)} {T : Nat}  {rv : Int32} {sz : Nat} (hf : f_X7_errorPosition I = some (rv)) : Met l yX7_errorPosition wz_X7_errorPosition rm_X7_errorPosition (va_Pc [.ref (ad 0)] (qw_Pre D cy (Wo cy ad I A G T) sz)) (qw_R (some (.int rv))) 0 0 (fun _ => False) := by
  refine qw_of (cc := cX7_errorPosition) (maxL := 1) (ret := (some .int)) (by decide) (Nat.le_of_ble_eq_true rfl) ?_
  intro p e s m args below meth c ls S0 hr hlocks hsz V hl
  have S0 : CallFix p m c cX7_errorPosition 1 s args qw_big RX7 := S0
  have hx := S0.1; have hb := S0.2.1; have hown := S0.2.2.2.1; have hts := S0.2.2.2.2
  have hl : lv_has ls 1 [(0, .ref (ad 0))] := hl
  obtain ⟨Q9, hQ⟩ : ∃ q, q = MQ below (qw_R (some (.int rv))) args s 0 0 (fun _ => False) := ⟨_, rfl⟩
  rw [← hQ]
  generalize va_A (Wo cy ad I A G T) sz = Z9 at V
  unfold f_X7_errorPosition at hf
  refine lv_aload_n hx hb dX7_errorPosition_0 rfl (lv_at hl 0 rfl) ?_
  refine gfO_0_8 S0 V kl_X7_55 dX7_errorPosition_1 ?_
  have hE := Option.some.inj hf
  exact qw_iretR S0 hr hlocks hQ hE dX7_errorPosition_4
theorem kd_X7_groupCount : yX7_groupCount.cls = RX7 ∧ yX7_groupCount.cls ≠ "java/lang/invoke/MethodHandle" ∧ yX7_groupCount.cls ≠ "java/lang/invoke/VarHandle" ∧ (parseMethodDescriptor yX7_groupCount.desc).map (fun d => d.parameters.length) = some 0 := by decide +kernel
def f_X7_groupCount (I : Nat → Int32) : Option (Int32) :=
  some ((I 12))
abbrev wz_X7_groupCount : List Cond := Cond.code yX7_groupCount cX7_groupCount 1 (some .int) :: qw_big
def rm_X7_groupCount : Room := { frames := 0, cells := 0, slots := 0, locals := 0 }
set_option maxHeartbeats 4000000 in
set_option maxRecDepth 100000 in
theorem c_X7_groupCount (l : Launch) {D : va_G} {cy : Nat → ClassId} {ad : Nat → Nat} {I : Nat → Int32} {A : Nat → Nat → Int32} {G : Nat → Int32 × (Nat → Nat → Int32)} {T : Nat}  {rv : Int32} {sz : Nat} (hf : f_X7_groupCount I = some (rv)) : Met l yX7_groupCount wz_X7_groupCount rm_X7_groupCount (va_Pc [.ref (ad 0)] (qw_Pre D cy (Wo cy ad I A G T) sz)) (qw_R (some (.int rv))) 0 0 (fun _ => False) := by
  refine qw_of (cc := cX7_groupCount) (maxL := 1) (ret := (some .int)) (by decide) (Nat.le_of_ble_eq_true rfl) ?_
  intro p e s m args below meth c ls S0 hr hlocks hsz V hl
  have S0 : CallFix p m c cX7_groupCount 1 s args qw_big RX7 := S0
  have hx := S0.1; have hb := S0.2.1; have hown := S0.2.2.2.1; have hts := S0.2.2.2.2
  have hl : lv_has ls 1 [(0, .ref (ad 0))] := hl
  obtain ⟨Q9, hQ⟩ : ∃ q, q = MQ below (qw_R (some (.int rv))) args s 0 0 (fun _ => False) := ⟨_, rfl⟩
  rw [← hQ]
  generalize va_A (Wo cy ad I A G T) sz = Z9 at V
  unfold f_X7_groupCount at hf
  refine lv_aload_n hx hb dX7_groupCount_0 rfl (lv_at hl 0 rfl) ?_
  refine gfO_0_5 S0 V kl_X7_40 dX7_groupCount_1 ?_
  refine gfO_19_0 S0 V kl_X7_81 dX7_groupCount_4 ?_
  have hE := Option.some.inj hf
  exact qw_iretR S0 hr hlocks hQ hE dX7_groupCount_7
theorem kd_X7_goodCount : yX7_goodCount.cls = RX7 ∧ yX7_goodCount.cls ≠ "java/lang/invoke/MethodHandle" ∧ yX7_goodCount.cls ≠ "java/lang/invoke/VarHandle" ∧ (parseMethodDescriptor yX7_goodCount.desc).map (fun d => d.parameters.length) = some 0 := by decide +kernel
def f_X7_goodCount (I : Nat → Int32) : Option (Int32) :=
  some ((I 13))
abbrev wz_X7_goodCount : List Cond := Cond.code yX7_goodCount cX7_goodCount 1 (some .int) :: qw_big
def rm_X7_goodCount : Room := { frames := 0, cells := 0, slots := 0, locals := 0 }
set_option maxHeartbeats 4000000 in
set_option maxRecDepth 100000 in
theorem c_X7_goodCount (l : Launch) {D : va_G} {cy : Nat → ClassId} {ad : Nat → Nat} {I : Nat → Int32} {A : Nat → Nat → Int32} {G : Nat → Int32 × (Nat → Nat → Int32)} {T : Nat}  {rv : Int32} {sz : Nat} (hf : f_X7_goodCount I = some (rv)) : Met l yX7_goodCount wz_X7_goodCount rm_X7_goodCount (va_Pc [.ref (ad 0)] (qw_Pre D cy (Wo cy ad I A G T) sz)) (qw_R (some (.int rv))) 0 0 (fun _ => False) := by
  refine qw_of (cc := cX7_goodCount) (maxL := 1) (ret := (some .int)) (by decide) (Nat.le_of_ble_eq_true rfl) ?_
  intro p e s m args below meth c ls S0 hr hlocks hsz V hl
  have S0 : CallFix p m c cX7_goodCount 1 s args qw_big RX7 := S0
  have hx := S0.1; have hb := S0.2.1; have hown := S0.2.2.2.1; have hts := S0.2.2.2.2
  have hl : lv_has ls 1 [(0, .ref (ad 0))] := hl
  obtain ⟨Q9, hQ⟩ : ∃ q, q = MQ below (qw_R (some (.int rv))) args s 0 0 (fun _ => False) := ⟨_, rfl⟩
  rw [← hQ]
  generalize va_A (Wo cy ad I A G T) sz = Z9 at V
  unfold f_X7_goodCount at hf
  refine lv_aload_n hx hb dX7_goodCount_0 rfl (lv_at hl 0 rfl) ?_
  refine gfO_0_5 S0 V kl_X7_40 dX7_goodCount_1 ?_
  refine gfO_19_1 S0 V kl_X7_84 dX7_goodCount_4 ?_
  have hE := Option.some.inj hf
  exact qw_iretR S0 hr hlocks hQ hE dX7_goodCount_7
theorem kd_X7_houseCount : yX7_houseCount.cls = RX7 ∧ yX7_houseCount.cls ≠ "java/lang/invoke/MethodHandle" ∧ yX7_houseCount.cls ≠ "java/lang/invoke/VarHandle" ∧ (parseMethodDescriptor yX7_houseCount.desc).map (fun d => d.parameters.length) = some 0 := by decide +kernel
def f_X7_houseCount (I : Nat → Int32) : Option (Int32) :=
  some ((I 14))
abbrev wz_X7_houseCount : List Cond := Cond.code yX7_houseCount cX7_houseCount 1 (some .int) :: qw_big
def rm_X7_houseCount : Room := { frames := 0, cells := 0, slots := 0, locals := 0 }
set_option maxHeartbeats 4000000 in
set_option maxRecDepth 100000 in
theorem c_X7_houseCount (l : Launch) {D : va_G} {cy : Nat → ClassId} {ad : Nat → Nat} {I : Nat → Int32} {A : Nat → Nat → Int32} {G : Nat → Int32 × (Nat → Nat → Int32)} {T : Nat}  {rv : Int32} {sz : Nat} (hf : f_X7_houseCount I = some (rv)) : Met l yX7_houseCount wz_X7_houseCount rm_X7_houseCount (va_Pc [.ref (ad 0)] (qw_Pre D cy (Wo cy ad I A G T) sz)) (qw_R (some (.int rv))) 0 0 (fun _ => False) := by
  refine qw_of (cc := cX7_houseCount) (maxL := 1) (ret := (some .int)) (by decide) (Nat.le_of_ble_eq_true rfl) ?_
  intro p e s m args below meth c ls S0 hr hlocks hsz V hl
  have S0 : CallFix p m c cX7_houseCount 1 s args qw_big RX7 := S0
  have hx := S0.1; have hb := S0.2.1; have hown := S0.2.2.2.1; have hts := S0.2.2.2.2
  have hl : lv_has ls 1 [(0, .ref (ad 0))] := hl
  obtain ⟨Q9, hQ⟩ : ∃ q, q = MQ below (qw_R (some (.int rv))) args s 0 0 (fun _ => False) := ⟨_, rfl⟩
  rw [← hQ]
  generalize va_A (Wo cy ad I A G T) sz = Z9 at V
  unfold f_X7_houseCount at hf
  refine lv_aload_n hx hb dX7_houseCount_0 rfl (lv_at hl 0 rfl) ?_
  refine gfO_0_5 S0 V kl_X7_40 dX7_houseCount_1 ?_
  refine gfO_19_2 S0 V kl_X7_87 dX7_houseCount_4 ?_
  have hE := Option.some.inj hf
  exact qw_iretR S0 hr hlocks hQ hE dX7_houseCount_7
theorem kd_X7_shopCount : yX7_shopCount.cls = RX7 ∧ yX7_shopCount.cls ≠ "java/lang/invoke/MethodHandle" ∧ yX7_shopCount.cls ≠ "java/lang/invoke/VarHandle" ∧ (parseMethodDescriptor yX7_shopCount.desc).map (fun d => d.parameters.length) = some 0 := by decide +kernel
def f_X7_shopCount (I : Nat → Int32) : Option (Int32) :=
  some ((I 15))
abbrev wz_X7_shopCount : List Cond := Cond.code yX7_shopCount cX7_shopCount 1 (some .int) :: qw_big
def rm_X7_shopCount : Room := { frames := 0, cells := 0, slots := 0, locals := 0 }
set_option maxHeartbeats 4000000 in
set_option maxRecDepth 100000 in
theorem c_X7_shopCount (l : Launch) {D : va_G} {cy : Nat → ClassId} {ad : Nat → Nat} {I : Nat → Int32} {A : Nat → Nat → Int32} {G : Nat → Int32 × (Nat → Nat → Int32)} {T : Nat}  {rv : Int32} {sz : Nat} (hf : f_X7_shopCount I = some (rv)) : Met l yX7_shopCount wz_X7_shopCount rm_X7_shopCount (va_Pc [.ref (ad 0)] (qw_Pre D cy (Wo cy ad I A G T) sz)) (qw_R (some (.int rv))) 0 0 (fun _ => False) := by
  refine qw_of (cc := cX7_shopCount) (maxL := 1) (ret := (some .int)) (by decide) (Nat.le_of_ble_eq_true rfl) ?_
  intro p e s m args below meth c ls S0 hr hlocks hsz V hl
  have S0 : CallFix p m c cX7_shopCount 1 s args qw_big RX7 := S0
  have hx := S0.1; have hb := S0.2.1; have hown := S0.2.2.2.1; have hts := S0.2.2.2.2
  have hl : lv_has ls 1 [(0, .ref (ad 0))] := hl
  obtain ⟨Q9, hQ⟩ : ∃ q, q = MQ below (qw_R (some (.int rv))) args s 0 0 (fun _ => False) := ⟨_, rfl⟩
  rw [← hQ]
  generalize va_A (Wo cy ad I A G T) sz = Z9 at V
  unfold f_X7_shopCount at hf
  refine lv_aload_n hx hb dX7_shopCount_0 rfl (lv_at hl 0 rfl) ?_
  refine gfO_0_5 S0 V kl_X7_40 dX7_shopCount_1 ?_
  refine gfO_19_3 S0 V kl_X7_90 dX7_shopCount_4 ?_
  have hE := Option.some.inj hf
  exact qw_iretR S0 hr hlocks hQ hE dX7_shopCount_7
theorem kd_X7_undoCount : yX7_undoCount.cls = RX7 ∧ yX7_undoCount.cls ≠ "java/lang/invoke/MethodHandle" ∧ yX7_undoCount.cls ≠ "java/lang/invoke/VarHandle" ∧ (parseMethodDescriptor yX7_undoCount.desc).map (fun d => d.parameters.length) = some 0 := by decide +kernel
def f_X7_undoCount (I : Nat → Int32) : Option (Int32) :=
  some ((I 10))
abbrev wz_X7_undoCount : List Cond := Cond.code yX7_undoCount cX7_undoCount 1 (some .int) :: qw_big
def rm_X7_undoCount : Room := { frames := 0, cells := 0, slots := 0, locals := 0 }
set_option maxHeartbeats 4000000 in
set_option maxRecDepth 100000 in
theorem c_X7_undoCount (l : Launch) {D : va_G} {cy : Nat → ClassId} {ad : Nat → Nat} {I : Nat → Int32} {A : Nat → Nat → Int32} {G : Nat → Int32 × (Nat → Nat → Int32)} {T : Nat}  {rv : Int32} {sz : Nat} (hf : f_X7_undoCount I = some (rv)) : Met l yX7_undoCount wz_X7_undoCount rm_X7_undoCount (va_Pc [.ref (ad 0)] (qw_Pre D cy (Wo cy ad I A G T) sz)) (qw_R (some (.int rv))) 0 0 (fun _ => False) := by
  refine qw_of (cc := cX7_undoCount) (maxL := 1) (ret := (some .int)) (by decide) (Nat.le_of_ble_eq_true rfl) ?_
  intro p e s m args below meth c ls S0 hr hlocks hsz V hl
  have S0 : CallFix p m c cX7_undoCount 1 s args qw_big RX7 := S0
  have hx := S0.1; have hb := S0.2.1; have hown := S0.2.2.2.1; have hts := S0.2.2.2.2
  have hl : lv_has ls 1 [(0, .ref (ad 0))] := hl
  obtain ⟨Q9, hQ⟩ : ∃ q, q = MQ below (qw_R (some (.int rv))) args s 0 0 (fun _ => False) := ⟨_, rfl⟩
  rw [← hQ]
  generalize va_A (Wo cy ad I A G T) sz = Z9 at V
  unfold f_X7_undoCount at hf
  refine lv_aload_n hx hb dX7_undoCount_0 rfl (lv_at hl 0 rfl) ?_
  refine gfO_0_2 S0 V kl_X7_23 dX7_undoCount_1 ?_
  refine gfO_6_2 S0 V kl_X7_93 dX7_undoCount_4 ?_
  have hE := Option.some.inj hf
  exact qw_iretR S0 hr hlocks hQ hE dX7_undoCount_7
theorem kd_X7_period : yX7_period.cls = RX7 ∧ yX7_period.cls ≠ "java/lang/invoke/MethodHandle" ∧ yX7_period.cls ≠ "java/lang/invoke/VarHandle" ∧ (parseMethodDescriptor yX7_period.desc).map (fun d => d.parameters.length) = some 0 := by decide +kernel
def f_X7_period (I : Nat → Int32) : Option (Int32) :=
  some ((I 20))
abbrev wz_X7_period : List Cond := Cond.code yX7_period cX7_period 1 (some .int) :: qw_big
def rm_X7_period : Room := { frames := 0, cells := 0, slots := 0, locals := 0 }
set_option maxHeartbeats 4000000 in
set_option maxRecDepth 100000 in
theorem c_X7_period (l : Launch) {D : va_G} {cy : Nat → ClassId} {ad : Nat → Nat} {I : Nat → Int32} {A : Nat → Nat → Int32} {G : Nat → Int32 × (Nat → Nat → Int32)} {T : Nat}  {rv : Int32} {sz : Nat} (hf : f_X7_period I = some (rv)) : Met l yX7_period wz_X7_period rm_X7_period (va_Pc [.ref (ad 0)] (qw_Pre D cy (Wo cy ad I A G T) sz)) (qw_R (some (.int rv))) 0 0 (fun _ => False) := by
  refine qw_of (cc := cX7_period) (maxL := 1) (ret := (some .int)) (by decide) (Nat.le_of_ble_eq_true rfl) ?_
  intro p e s m args below meth c ls S0 hr hlocks hsz V hl
  have S0 : CallFix p m c cX7_period 1 s args qw_big RX7 := S0
  have hx := S0.1; have hb := S0.2.1; have hown := S0.2.2.2.1; have hts := S0.2.2.2.2
  have hl : lv_has ls 1 [(0, .ref (ad 0))] := hl
  obtain ⟨Q9, hQ⟩ : ∃ q, q = MQ below (qw_R (some (.int rv))) args s 0 0 (fun _ => False) := ⟨_, rfl⟩
  rw [← hQ]
  generalize va_A (Wo cy ad I A G T) sz = Z9 at V
  unfold f_X7_period at hf
  refine lv_aload_n hx hb dX7_period_0 rfl (lv_at hl 0 rfl) ?_
  refine gfO_0_6 S0 V kl_X7_47 dX7_period_1 ?_
  refine gfO_43_0 S0 V kl_X7_96 dX7_period_4 ?_
  have hE := Option.some.inj hf
  exact qw_iretR S0 hr hlocks hQ hE dX7_period_7
theorem kd_X7_groupNamed : yX7_groupNamed.cls = RX7 ∧ yX7_groupNamed.cls ≠ "java/lang/invoke/MethodHandle" ∧ yX7_groupNamed.cls ≠ "java/lang/invoke/VarHandle" ∧ (parseMethodDescriptor yX7_groupNamed.desc).map (fun d => d.parameters.length) = some 1 := by decide +kernel
def f_X7_groupNamed (I : Nat → Int32) (A : Nat → Nat → Int32) (p1 : Int32) : Option (Int32) :=
  qf_bd (f_X3_find 4 (A 11) (I 12) p1) fun r1 =>
  some (r1)
abbrev wz_X7_groupNamed : List Cond := Cond.code yX7_groupNamed cX7_groupNamed 2 (some .int) :: qw_big
def rm_X7_groupNamed : Room := { frames := 1, cells := 0, slots := 0, locals := 23 }
set_option maxHeartbeats 4000000 in
set_option maxRecDepth 100000 in
theorem c_X7_groupNamed (l : Launch) {D : va_G} {cy : Nat → ClassId} {ad : Nat → Nat} {I : Nat → Int32} {A : Nat → Nat → Int32} {G : Nat → Int32 × (Nat → Nat → Int32)} {T : Nat} {p1 : Int32} {rv : Int32} {sz : Nat} (hf : f_X7_groupNamed I A p1 = some (rv)) : Met l yX7_groupNamed wz_X7_groupNamed rm_X7_groupNamed (va_Pc [.ref (ad 0), .int p1] (qw_Pre D cy (Wo cy ad I A G T) sz)) (qw_R (some (.int rv))) 0 0 (fun _ => False) := by
  refine qw_of (cc := cX7_groupNamed) (maxL := 2) (ret := (some .int)) (by decide) (Nat.le_of_ble_eq_true rfl) ?_
  intro p e s m args below meth c ls S0 hr hlocks hsz V hl
  have S0 : CallFix p m c cX7_groupNamed 2 s args qw_big RX7 := S0
  have hx := S0.1; have hb := S0.2.1; have hown := S0.2.2.2.1; have hts := S0.2.2.2.2
  have hl : lv_has ls 2 [(0, .ref (ad 0)), (1, .int p1)] := hl
  obtain ⟨Q9, hQ⟩ : ∃ q, q = MQ below (qw_R (some (.int rv))) args s 0 0 (fun _ => False) := ⟨_, rfl⟩
  rw [← hQ]
  generalize va_A (Wo cy ad I A G T) sz = Z9 at V
  unfold f_X7_groupNamed at hf
  refine lv_aload_n hx hb dX7_groupNamed_0 rfl (lv_at hl 0 rfl) ?_
  refine gfO_0_5 S0 V kl_X7_40 dX7_groupNamed_1 ?_
  refine gfO_19_4 S0 V kl_X7_99 dX7_groupNamed_4 ?_
  refine lv_aload_n hx hb dX7_groupNamed_7 rfl (lv_at hl 0 rfl) ?_
  refine gfO_0_5 S0 V kl_X7_40 dX7_groupNamed_8 ?_
  refine gfO_19_0 S0 V kl_X7_81 dX7_groupNamed_11 ?_
  refine lv_iload_n hx hb dX7_groupNamed_14 rfl (lv_at hl 1 rfl) ?_
  obtain ⟨r1, hc_15, hf⟩ := qf_bd_e hf
  refine qw_cSR (rest := []) (st1 := [.int r1]) S0 V hl (c_X3_find l (q0 := 20) gO_20 hc_15) kg_X7_102 rfl ⟨rfl, rfl⟩ kd_X3_find ⟨Nat.le_of_ble_eq_true rfl, Nat.le_of_ble_eq_true rfl⟩ rfl rfl (Nat.le_of_ble_eq_true rfl) ⟨Nat.zero_le _, Nat.zero_le _⟩ rfl dX7_groupNamed_15 ?_
  have hE := Option.some.inj hf
  exact qw_iretR S0 hr hlocks hQ hE dX7_groupNamed_18
theorem kd_X7_goodNamed : yX7_goodNamed.cls = RX7 ∧ yX7_goodNamed.cls ≠ "java/lang/invoke/MethodHandle" ∧ yX7_goodNamed.cls ≠ "java/lang/invoke/VarHandle" ∧ (parseMethodDescriptor yX7_goodNamed.desc).map (fun d => d.parameters.length) = some 1 := by decide +kernel
def f_X7_goodNamed (I : Nat → Int32) (A : Nat → Nat → Int32) (p1 : Int32) : Option (Int32) :=
  qf_bd (f_X3_find 6 (A 12) (I 13) p1) fun r1 =>
  some (r1)
abbrev wz_X7_goodNamed : List Cond := Cond.code yX7_goodNamed cX7_goodNamed 2 (some .int) :: qw_big
def rm_X7_goodNamed : Room := { frames := 1, cells := 0, slots := 0, locals := 23 }
set_option maxHeartbeats 4000000 in
set_option maxRecDepth 100000 in
theorem c_X7_goodNamed (l : Launch) {D : va_G} {cy : Nat → ClassId} {ad : Nat → Nat} {I : Nat → Int32} {A : Nat → Nat → Int32} {G : Nat → Int32 × (Nat → Nat → Int32)} {T : Nat} {p1 : Int32} {rv : Int32} {sz : Nat} (hf : f_X7_goodNamed I A p1 = some (rv)) : Met l yX7_goodNamed wz_X7_goodNamed rm_X7_goodNamed (va_Pc [.ref (ad 0), .int p1] (qw_Pre D cy (Wo cy ad I A G T) sz)) (qw_R (some (.int rv))) 0 0 (fun _ => False) := by
  refine qw_of (cc := cX7_goodNamed) (maxL := 2) (ret := (some .int)) (by decide) (Nat.le_of_ble_eq_true rfl) ?_
  intro p e s m args below meth c ls S0 hr hlocks hsz V hl
  have S0 : CallFix p m c cX7_goodNamed 2 s args qw_big RX7 := S0
  have hx := S0.1; have hb := S0.2.1; have hown := S0.2.2.2.1; have hts := S0.2.2.2.2
  have hl : lv_has ls 2 [(0, .ref (ad 0)), (1, .int p1)] := hl
  obtain ⟨Q9, hQ⟩ : ∃ q, q = MQ below (qw_R (some (.int rv))) args s 0 0 (fun _ => False) := ⟨_, rfl⟩
  rw [← hQ]
  generalize va_A (Wo cy ad I A G T) sz = Z9 at V
  unfold f_X7_goodNamed at hf
  refine lv_aload_n hx hb dX7_goodNamed_0 rfl (lv_at hl 0 rfl) ?_
  refine gfO_0_5 S0 V kl_X7_40 dX7_goodNamed_1 ?_
  refine gfO_19_5 S0 V kl_X7_106 dX7_goodNamed_4 ?_
  refine lv_aload_n hx hb dX7_goodNamed_7 rfl (lv_at hl 0 rfl) ?_
  refine gfO_0_5 S0 V kl_X7_40 dX7_goodNamed_8 ?_
  refine gfO_19_1 S0 V kl_X7_84 dX7_goodNamed_11 ?_
  refine lv_iload_n hx hb dX7_goodNamed_14 rfl (lv_at hl 1 rfl) ?_
  obtain ⟨r1, hc_15, hf⟩ := qf_bd_e hf
  refine qw_cSR (rest := []) (st1 := [.int r1]) S0 V hl (c_X3_find l (q0 := 21) gO_21 hc_15) kg_X7_102 rfl ⟨rfl, rfl⟩ kd_X3_find ⟨Nat.le_of_ble_eq_true rfl, Nat.le_of_ble_eq_true rfl⟩ rfl rfl (Nat.le_of_ble_eq_true rfl) ⟨Nat.zero_le _, Nat.zero_le _⟩ rfl dX7_goodNamed_15 ?_
  have hE := Option.some.inj hf
  exact qw_iretR S0 hr hlocks hQ hE dX7_goodNamed_18
theorem kd_X7_houseNamed : yX7_houseNamed.cls = RX7 ∧ yX7_houseNamed.cls ≠ "java/lang/invoke/MethodHandle" ∧ yX7_houseNamed.cls ≠ "java/lang/invoke/VarHandle" ∧ (parseMethodDescriptor yX7_houseNamed.desc).map (fun d => d.parameters.length) = some 1 := by decide +kernel
def f_X7_houseNamed (I : Nat → Int32) (A : Nat → Nat → Int32) (p1 : Int32) : Option (Int32) :=
  qf_bd (f_X3_find 6 (A 13) (I 14) p1) fun r1 =>
  some (r1)
abbrev wz_X7_houseNamed : List Cond := Cond.code yX7_houseNamed cX7_houseNamed 2 (some .int) :: qw_big
def rm_X7_houseNamed : Room := { frames := 1, cells := 0, slots := 0, locals := 23 }
set_option maxHeartbeats 4000000 in
set_option maxRecDepth 100000 in
theorem c_X7_houseNamed (l : Launch) {D : va_G} {cy : Nat → ClassId} {ad : Nat → Nat} {I : Nat → Int32} {A : Nat → Nat → Int32} {G : Nat → Int32 × (Nat → Nat → Int32)} {T : Nat} {p1 : Int32} {rv : Int32} {sz : Nat} (hf : f_X7_houseNamed I A p1 = some (rv)) : Met l yX7_houseNamed wz_X7_houseNamed rm_X7_houseNamed (va_Pc [.ref (ad 0), .int p1] (qw_Pre D cy (Wo cy ad I A G T) sz)) (qw_R (some (.int rv))) 0 0 (fun _ => False) := by
  refine qw_of (cc := cX7_houseNamed) (maxL := 2) (ret := (some .int)) (by decide) (Nat.le_of_ble_eq_true rfl) ?_
  intro p e s m args below meth c ls S0 hr hlocks hsz V hl
  have S0 : CallFix p m c cX7_houseNamed 2 s args qw_big RX7 := S0
  have hx := S0.1; have hb := S0.2.1; have hown := S0.2.2.2.1; have hts := S0.2.2.2.2
  have hl : lv_has ls 2 [(0, .ref (ad 0)), (1, .int p1)] := hl
  obtain ⟨Q9, hQ⟩ : ∃ q, q = MQ below (qw_R (some (.int rv))) args s 0 0 (fun _ => False) := ⟨_, rfl⟩
  rw [← hQ]
  generalize va_A (Wo cy ad I A G T) sz = Z9 at V
  unfold f_X7_houseNamed at hf
  refine lv_aload_n hx hb dX7_houseNamed_0 rfl (lv_at hl 0 rfl) ?_
  refine gfO_0_5 S0 V kl_X7_40 dX7_houseNamed_1 ?_
  refine gfO_19_6 S0 V kl_X7_109 dX7_houseNamed_4 ?_
  refine lv_aload_n hx hb dX7_houseNamed_7 rfl (lv_at hl 0 rfl) ?_
  refine gfO_0_5 S0 V kl_X7_40 dX7_houseNamed_8 ?_
  refine gfO_19_2 S0 V kl_X7_87 dX7_houseNamed_11 ?_
  refine lv_iload_n hx hb dX7_houseNamed_14 rfl (lv_at hl 1 rfl) ?_
  obtain ⟨r1, hc_15, hf⟩ := qf_bd_e hf
  refine qw_cSR (rest := []) (st1 := [.int r1]) S0 V hl (c_X3_find l (q0 := 22) gO_22 hc_15) kg_X7_102 rfl ⟨rfl, rfl⟩ kd_X3_find ⟨Nat.le_of_ble_eq_true rfl, Nat.le_of_ble_eq_true rfl⟩ rfl rfl (Nat.le_of_ble_eq_true rfl) ⟨Nat.zero_le _, Nat.zero_le _⟩ rfl dX7_houseNamed_15 ?_
  have hE := Option.some.inj hf
  exact qw_iretR S0 hr hlocks hQ hE dX7_houseNamed_18
theorem kd_X7_shopNamed : yX7_shopNamed.cls = RX7 ∧ yX7_shopNamed.cls ≠ "java/lang/invoke/MethodHandle" ∧ yX7_shopNamed.cls ≠ "java/lang/invoke/VarHandle" ∧ (parseMethodDescriptor yX7_shopNamed.desc).map (fun d => d.parameters.length) = some 1 := by decide +kernel
def f_X7_shopNamed (I : Nat → Int32) (A : Nat → Nat → Int32) (p1 : Int32) : Option (Int32) :=
  qf_bd (f_X3_find 4 (A 14) (I 15) p1) fun r1 =>
  some (r1)
abbrev wz_X7_shopNamed : List Cond := Cond.code yX7_shopNamed cX7_shopNamed 2 (some .int) :: qw_big
def rm_X7_shopNamed : Room := { frames := 1, cells := 0, slots := 0, locals := 23 }
set_option maxHeartbeats 4000000 in
set_option maxRecDepth 100000 in
theorem c_X7_shopNamed (l : Launch) {D : va_G} {cy : Nat → ClassId} {ad : Nat → Nat} {I : Nat → Int32} {A : Nat → Nat → Int32} {G : Nat → Int32 × (Nat → Nat → Int32)} {T : Nat} {p1 : Int32} {rv : Int32} {sz : Nat} (hf : f_X7_shopNamed I A p1 = some (rv)) : Met l yX7_shopNamed wz_X7_shopNamed rm_X7_shopNamed (va_Pc [.ref (ad 0), .int p1] (qw_Pre D cy (Wo cy ad I A G T) sz)) (qw_R (some (.int rv))) 0 0 (fun _ => False) := by
  refine qw_of (cc := cX7_shopNamed) (maxL := 2) (ret := (some .int)) (by decide) (Nat.le_of_ble_eq_true rfl) ?_
  intro p e s m args below meth c ls S0 hr hlocks hsz V hl
  have S0 : CallFix p m c cX7_shopNamed 2 s args qw_big RX7 := S0
  have hx := S0.1; have hb := S0.2.1; have hown := S0.2.2.2.1; have hts := S0.2.2.2.2
  have hl : lv_has ls 2 [(0, .ref (ad 0)), (1, .int p1)] := hl
  obtain ⟨Q9, hQ⟩ : ∃ q, q = MQ below (qw_R (some (.int rv))) args s 0 0 (fun _ => False) := ⟨_, rfl⟩
  rw [← hQ]
  generalize va_A (Wo cy ad I A G T) sz = Z9 at V
  unfold f_X7_shopNamed at hf
  refine lv_aload_n hx hb dX7_shopNamed_0 rfl (lv_at hl 0 rfl) ?_
  refine gfO_0_5 S0 V kl_X7_40 dX7_shopNamed_1 ?_
  refine gfO_19_7 S0 V kl_X7_112 dX7_shopNamed_4 ?_
  refine lv_aload_n hx hb dX7_shopNamed_7 rfl (lv_at hl 0 rfl) ?_
  refine gfO_0_5 S0 V kl_X7_40 dX7_shopNamed_8 ?_
  refine gfO_19_3 S0 V kl_X7_90 dX7_shopNamed_11 ?_
  refine lv_iload_n hx hb dX7_shopNamed_14 rfl (lv_at hl 1 rfl) ?_
  obtain ⟨r1, hc_15, hf⟩ := qf_bd_e hf
  refine qw_cSR (rest := []) (st1 := [.int r1]) S0 V hl (c_X3_find l (q0 := 23) gO_23 hc_15) kg_X7_102 rfl ⟨rfl, rfl⟩ kd_X3_find ⟨Nat.le_of_ble_eq_true rfl, Nat.le_of_ble_eq_true rfl⟩ rfl rfl (Nat.le_of_ble_eq_true rfl) ⟨Nat.zero_le _, Nat.zero_le _⟩ rfl dX7_shopNamed_15 ?_
  have hE := Option.some.inj hf
  exact qw_iretR S0 hr hlocks hQ hE dX7_shopNamed_18
theorem kd_X7_isGroup : yX7_isGroup.cls = RX7 ∧ yX7_isGroup.cls ≠ "java/lang/invoke/MethodHandle" ∧ yX7_isGroup.cls ≠ "java/lang/invoke/VarHandle" ∧ (parseMethodDescriptor yX7_isGroup.desc).map (fun d => d.parameters.length) = some 1 := by decide +kernel
def f_X7_isGroup (I : Nat → Int32) (p1 : Int32) : Option (Int32) :=
  if p1 < 0 then (some ((0 : Int32))) else (if (I 12) ≤ p1 then (some ((0 : Int32))) else (some ((1 : Int32))))
abbrev wz_X7_isGroup : List Cond := Cond.code yX7_isGroup cX7_isGroup 2 (some .boolean) :: qw_big
def rm_X7_isGroup : Room := { frames := 0, cells := 0, slots := 0, locals := 0 }
set_option maxHeartbeats 4000000 in
set_option maxRecDepth 100000 in
theorem c_X7_isGroup (l : Launch) {D : va_G} {cy : Nat → ClassId} {ad : Nat → Nat} {I : Nat → Int32} {A : Nat → Nat → Int32} {G : Nat → Int32 × (Nat → Nat → Int32)} {T : Nat} {p1 : Int32} {rv : Int32} {sz : Nat} (hf : f_X7_isGroup I p1 = some (rv)) : Met l yX7_isGroup wz_X7_isGroup rm_X7_isGroup (va_Pc [.ref (ad 0), .int p1] (qw_Pre D cy (Wo cy ad I A G T) sz)) (qw_R (some (.int rv))) 0 0 (fun _ => False) := by
  refine qw_of (cc := cX7_isGroup) (maxL := 2) (ret := (some .boolean)) (by decide) (Nat.le_of_ble_eq_true rfl) ?_
  intro p e s m args below meth c ls S0 hr hlocks hsz V hl
  have S0 : CallFix p m c cX7_isGroup 2 s args qw_big RX7 := S0
  have hx := S0.1; have hb := S0.2.1; have hown := S0.2.2.2.1; have hts := S0.2.2.2.2
  have hl : lv_has ls 2 [(0, .ref (ad 0)), (1, .int p1)] := hl
  obtain ⟨Q9, hQ⟩ : ∃ q, q = MQ below (qw_R (some (.int rv))) args s 0 0 (fun _ => False) := ⟨_, rfl⟩
  rw [← hQ]
  generalize va_A (Wo cy ad I A G T) sz = Z9 at V
  unfold f_X7_isGroup at hf
  refine lv_iload_n hx hb dX7_isGroup_0 rfl (lv_at hl 1 rfl) ?_
  refine lv_if_lt (tgt := 19) hx hb dX7_isGroup_1 (by decide) (fun c_1 => ?_) (fun c_1 => ?_)
  · replace hf := qf_t c_1 hf
    refine lv_iconst (v := 0) hx hb dX7_isGroup_19 (by decide) ?_
    have hE := Option.some.inj hf
    exact qw_zretR S0 hr hlocks hQ rfl hE dX7_isGroup_20
  · replace hf := qf_f c_1 hf
    refine lv_iload_n hx hb dX7_isGroup_4 rfl (lv_at hl 1 rfl) ?_
    refine lv_aload_n hx hb dX7_isGroup_5 rfl (lv_at hl 0 rfl) ?_
    refine gfO_0_5 S0 V kl_X7_40 dX7_isGroup_6 ?_
    refine gfO_19_0 S0 V kl_X7_81 dX7_isGroup_9 ?_
    refine lv_icmp_ge (tgt := 19) hx hb dX7_isGroup_12 (by decide) (fun c_12 => ?_) (fun c_12 => ?_)
    · replace hf := qf_t c_12 hf
      refine lv_iconst (v := 0) hx hb dX7_isGroup_19 (by decide) ?_
      have hE := Option.some.inj hf
      exact qw_zretR S0 hr hlocks hQ rfl hE dX7_isGroup_20
    · replace hf := qf_f c_12 hf
      refine lv_iconst (v := 1) hx hb dX7_isGroup_15 (by decide) ?_
      refine lv_goto (tgt := 20) hx hb dX7_isGroup_16 (by decide) ?_
      have hE := Option.some.inj hf
      exact qw_zretR S0 hr hlocks hQ rfl hE dX7_isGroup_20
theorem kd_X7_groupProperty : yX7_groupProperty.cls = RX7 ∧ yX7_groupProperty.cls ≠ "java/lang/invoke/MethodHandle" ∧ yX7_groupProperty.cls ≠ "java/lang/invoke/VarHandle" ∧ (parseMethodDescriptor yX7_groupProperty.desc).map (fun d => d.parameters.length) = some 2 := by decide +kernel
def f_X7_groupProperty (I : Nat → Int32) (A : Nat → Nat → Int32) (p1 : Int32) (p2 : Int32) : Option (Option (Int32)) :=
  qf_bd (f_X7_isGroup I p1) fun r1 =>
  if r1 = 0 then some none else
  if p2 = 0 then (qf_ld 4 (A 33) p1 fun x2 =>
  some (some (x2))) else if p2 = 1 then (qf_ld 4 (A 15) p1 fun x3 =>
  some (some (x3))) else if p2 = 2 then (qf_ld 4 (A 16) p1 fun x4 =>
  some (some (x4))) else if p2 = 3 then (qf_ld 4 (A 17) p1 fun x5 =>
  some (some (x5))) else if p2 = 4 then (qf_ld 4 (A 18) p1 fun x6 =>
  some (some (x6))) else (some (some ((-2 : Int32))))
abbrev wz_X7_groupProperty : List Cond := Cond.code yX7_groupProperty cX7_groupProperty 3 (some .int) :: qw_big
def rm_X7_groupProperty : Room := { frames := 7, cells := 1, slots := 6, locals := 102 }
set_option maxHeartbeats 4000000 in
set_option maxRecDepth 100000 in
theorem c_X7_groupProperty (l : Launch) (hst : l.stackTraces = false) {D : va_G} {cy : Nat → ClassId} {ad : Nat → Nat} {I : Nat → Int32} {A : Nat → Nat → Int32} {G : Nat → Int32 × (Nat → Nat → Int32)} {T : Nat} {p1 : Int32} {p2 : Int32} {ro : (Option (Int32))} {sz : Nat} (hf : f_X7_groupProperty I A p1 p2 = some ro) : vx_Met l yX7_groupProperty wz_X7_groupProperty rm_X7_groupProperty (va_Pc [.ref (ad 0), .int p1, .int p2] (qw_Pre D cy (Wo cy ad I A G T) sz)) (qx_Q ro (fun v9 => some (.int v9)) (fun _ => (Wo cy ad I A G T)) D (va_A (Wo cy ad I A G T) sz)) (qx_X ro D (Wo cy ad I A G T) (va_A (Wo cy ad I A G T) sz)) 1 6 (va_A (Wo cy ad I A G T) sz) := by
  refine qx_of (cc := cX7_groupProperty) (maxL := 3) (ret := (some .int)) (by decide) (Nat.le_of_ble_eq_true rfl) ?_
  intro p e s m args below meth c ls S0 hr hlocks htab hsz V hl
  have S0 : CallFix p m c cX7_groupProperty 3 s args qw_big RX7 := S0
  have hx := S0.1; have hb := S0.2.1; have hown := S0.2.2.2.1; have hts := S0.2.2.2.2
  have hl : lv_has ls 3 [(0, .ref (ad 0)), (1, .int p1), (2, .int p2)] := hl
  generalize va_A (Wo cy ad I A G T) sz = Z9 at V ⊢
  obtain ⟨Q9, hQ⟩ : ∃ q, q = vx_MQ below (qx_Q ro (fun v9 => some (.int v9)) (fun _ => (Wo cy ad I A G T)) D Z9) (qx_X ro D (Wo cy ad I A G T) Z9) args s 1 6 Z9 := ⟨_, rfl⟩
  rw [← hQ]
  clear hsz
  unfold f_X7_groupProperty at hf
  refine lv_aload_n hx hb dX7_groupProperty_0 rfl (lv_at hl 0 rfl) ?_
  refine lv_iload_n hx hb dX7_groupProperty_1 rfl (lv_at hl 1 rfl) ?_
  obtain ⟨r1, hc_2, hf⟩ := qf_bd_e hf
  refine qw_cVR (rest := []) (st1 := [.int r1]) S0 V hl 0 gO_0 rfl (c_X7_isGroup l hc_2) kg_X7_115 rfl ⟨rfl, rfl⟩ kd_X7_isGroup ⟨Nat.le_of_ble_eq_true rfl, Nat.le_of_ble_eq_true rfl⟩ rfl rfl (Nat.le_of_ble_eq_true rfl) ⟨Nat.zero_le _, Nat.zero_le _⟩ rfl dX7_groupProperty_2 ?_
  by_cases c_5 : r1 = 0
  · exact qx_thr (rest := []) hst hQ S0 V hl c_5 kg_X7_119 ⟨by decide, by decide⟩ (Nat.le_of_ble_eq_true rfl) ⟨by decide, by decide⟩ dX7_groupProperty_5 (by decide) (by decide) hlocks htab (fun t9 h9 h8 => ⟨rfl, (Option.some.inj (qf_t c_5 hf)).symm, h9, h8⟩)
  replace hf := qf_f c_5 hf
  refine qw_cSR (rest := []) (st1 := []) S0 V hl (c_X7_need l c_5) kg_X7_119 rfl ⟨rfl, rfl⟩ kd_X7_need ⟨by decide, by decide⟩ rfl rfl (Nat.le_of_ble_eq_true rfl) ⟨Nat.zero_le _, Nat.zero_le _⟩ rfl dX7_groupProperty_5 ?_
  refine lv_iload_n hx hb dX7_groupProperty_8 rfl (lv_at hl 2 rfl) ?_
  by_cases c_9_0 : p2 = 0
  · replace hf := qf_t c_9_0 hf
    refine lv_tableIn (tgt := 44) hx hb dX7_groupProperty_9 (by rw [c_9_0]; decide) (by rw [c_9_0]; decide) (by rw [c_9_0]; rfl) (by decide) ?_
    refine lv_aload_n hx hb dX7_groupProperty_44 rfl (lv_at hl 0 rfl) ?_
    refine gfO_0_6 S0 V kl_X7_47 dX7_groupProperty_45 ?_
    refine gfO_43_1 S0 V kl_X7_123 dX7_groupProperty_48 ?_
    refine lv_iload_n hx hb dX7_groupProperty_51 rfl (lv_at hl 1 rfl) ?_
    have h_52 := qf_ld_in hf
    refine alO_44 S0 V h_52 dX7_groupProperty_52 ?_
    refine lv_topi (fun x2 e_x2 => ?_)
    replace hf := qf_ld_e e_x2 hf
    have hE := Option.some.inj hf
    exact qx_ireti hQ S0 hr hlocks hE rfl rfl V dX7_groupProperty_53
  replace hf := qf_f c_9_0 hf
  by_cases c_9_1 : p2 = 1
  · replace hf := qf_t c_9_1 hf
    refine lv_tableIn (tgt := 54) hx hb dX7_groupProperty_9 (by rw [c_9_1]; decide) (by rw [c_9_1]; decide) (by rw [c_9_1]; rfl) (by decide) ?_
    refine lv_aload_n hx hb dX7_groupProperty_54 rfl (lv_at hl 0 rfl) ?_
    refine gfO_0_5 S0 V kl_X7_40 dX7_groupProperty_55 ?_
    refine gfO_19_8 S0 V kl_X7_126 dX7_groupProperty_58 ?_
    refine lv_iload_n hx hb dX7_groupProperty_61 rfl (lv_at hl 1 rfl) ?_
    have h_62 := qf_ld_in hf
    refine alO_24 S0 V h_62 dX7_groupProperty_62 ?_
    refine lv_topi (fun x3 e_x3 => ?_)
    replace hf := qf_ld_e e_x3 hf
    have hE := Option.some.inj hf
    exact qx_ireti hQ S0 hr hlocks hE rfl rfl V dX7_groupProperty_63
  replace hf := qf_f c_9_1 hf
  by_cases c_9_2 : p2 = 2
  · replace hf := qf_t c_9_2 hf
    refine lv_tableIn (tgt := 64) hx hb dX7_groupProperty_9 (by rw [c_9_2]; decide) (by rw [c_9_2]; decide) (by rw [c_9_2]; rfl) (by decide) ?_
    refine lv_aload_n hx hb dX7_groupProperty_64 rfl (lv_at hl 0 rfl) ?_
    refine gfO_0_5 S0 V kl_X7_40 dX7_groupProperty_65 ?_
    refine gfO_19_9 S0 V kl_X7_129 dX7_groupProperty_68 ?_
    refine lv_iload_n hx hb dX7_groupProperty_71 rfl (lv_at hl 1 rfl) ?_
    have h_72 := qf_ld_in hf
    refine alO_25 S0 V h_72 dX7_groupProperty_72 ?_
    refine lv_topi (fun x4 e_x4 => ?_)
    replace hf := qf_ld_e e_x4 hf
    have hE := Option.some.inj hf
    exact qx_ireti hQ S0 hr hlocks hE rfl rfl V dX7_groupProperty_73
  replace hf := qf_f c_9_2 hf
  by_cases c_9_3 : p2 = 3
  · replace hf := qf_t c_9_3 hf
    refine lv_tableIn (tgt := 74) hx hb dX7_groupProperty_9 (by rw [c_9_3]; decide) (by rw [c_9_3]; decide) (by rw [c_9_3]; rfl) (by decide) ?_
    refine lv_aload_n hx hb dX7_groupProperty_74 rfl (lv_at hl 0 rfl) ?_
    refine gfO_0_5 S0 V kl_X7_40 dX7_groupProperty_75 ?_
    refine gfO_19_10 S0 V kl_X7_132 dX7_groupProperty_78 ?_
    refine lv_iload_n hx hb dX7_groupProperty_81 rfl (lv_at hl 1 rfl) ?_
    have h_82 := qf_ld_in hf
    refine alO_26 S0 V h_82 dX7_groupProperty_82 ?_
    refine lv_topi (fun x5 e_x5 => ?_)
    replace hf := qf_ld_e e_x5 hf
    have hE := Option.some.inj hf
    exact qx_ireti hQ S0 hr hlocks hE rfl rfl V dX7_groupProperty_83
  replace hf := qf_f c_9_3 hf
  by_cases c_9_4 : p2 = 4
  · replace hf := qf_t c_9_4 hf
    refine lv_tableIn (tgt := 84) hx hb dX7_groupProperty_9 (by rw [c_9_4]; decide) (by rw [c_9_4]; decide) (by rw [c_9_4]; rfl) (by decide) ?_
    refine lv_aload_n hx hb dX7_groupProperty_84 rfl (lv_at hl 0 rfl) ?_
    refine gfO_0_5 S0 V kl_X7_40 dX7_groupProperty_85 ?_
    refine gfO_19_11 S0 V kl_X7_135 dX7_groupProperty_88 ?_
    refine lv_iload_n hx hb dX7_groupProperty_91 rfl (lv_at hl 1 rfl) ?_
    have h_92 := qf_ld_in hf
    refine alO_27 S0 V h_92 dX7_groupProperty_92 ?_
    refine lv_topi (fun x6 e_x6 => ?_)
    replace hf := qf_ld_e e_x6 hf
    have hE := Option.some.inj hf
    exact qx_ireti hQ S0 hr hlocks hE rfl rfl V dX7_groupProperty_93
  replace hf := qf_f c_9_4 hf
  refine lv_tableOut (tgt := 94) hx hb dX7_groupProperty_9 (qw_tab 4 (by intro k hk; rcases (show k = 0 ∨ k = 1 ∨ k = 2 ∨ k = 3 ∨ k = 4 by omega) with rfl | rfl | rfl | rfl | rfl <;> assumption)) (by decide) ?_
  refine lv_bipush (v := -2) hx hb dX7_groupProperty_94 (by decide) ?_
  have hE := Option.some.inj hf
  exact qx_ireti hQ S0 hr hlocks hE rfl rfl V dX7_groupProperty_96
theorem kd_X7_isGood : yX7_isGood.cls = RX7 ∧ yX7_isGood.cls ≠ "java/lang/invoke/MethodHandle" ∧ yX7_isGood.cls ≠ "java/lang/invoke/VarHandle" ∧ (parseMethodDescriptor yX7_isGood.desc).map (fun d => d.parameters.length) = some 1 := by decide +kernel
def f_X7_isGood (I : Nat → Int32) (p1 : Int32) : Option (Int32) :=
  if p1 < 0 then (some ((0 : Int32))) else (if (I 13) ≤ p1 then (some ((0 : Int32))) else (some ((1 : Int32))))
abbrev wz_X7_isGood : List Cond := Cond.code yX7_isGood cX7_isGood 2 (some .boolean) :: qw_big
def rm_X7_isGood : Room := { frames := 0, cells := 0, slots := 0, locals := 0 }
set_option maxHeartbeats 4000000 in
set_option maxRecDepth 100000 in
theorem c_X7_isGood (l : Launch) {D : va_G} {cy : Nat → ClassId} {ad : Nat → Nat} {I : Nat → Int32} {A : Nat → Nat → Int32} {G : Nat → Int32 × (Nat → Nat → Int32)} {T : Nat} {p1 : Int32} {rv : Int32} {sz : Nat} (hf : f_X7_isGood I p1 = some (rv)) : Met l yX7_isGood wz_X7_isGood rm_X7_isGood (va_Pc [.ref (ad 0), .int p1] (qw_Pre D cy (Wo cy ad I A G T) sz)) (qw_R (some (.int rv))) 0 0 (fun _ => False) := by
  refine qw_of (cc := cX7_isGood) (maxL := 2) (ret := (some .boolean)) (by decide) (Nat.le_of_ble_eq_true rfl) ?_
  intro p e s m args below meth c ls S0 hr hlocks hsz V hl
  have S0 : CallFix p m c cX7_isGood 2 s args qw_big RX7 := S0
  have hx := S0.1; have hb := S0.2.1; have hown := S0.2.2.2.1; have hts := S0.2.2.2.2
  have hl : lv_has ls 2 [(0, .ref (ad 0)), (1, .int p1)] := hl
  obtain ⟨Q9, hQ⟩ : ∃ q, q = MQ below (qw_R (some (.int rv))) args s 0 0 (fun _ => False) := ⟨_, rfl⟩
  rw [← hQ]
  generalize va_A (Wo cy ad I A G T) sz = Z9 at V
  unfold f_X7_isGood at hf
  refine lv_iload_n hx hb dX7_isGood_0 rfl (lv_at hl 1 rfl) ?_
  refine lv_if_lt (tgt := 19) hx hb dX7_isGood_1 (by decide) (fun c_1 => ?_) (fun c_1 => ?_)
  · replace hf := qf_t c_1 hf
    refine lv_iconst (v := 0) hx hb dX7_isGood_19 (by decide) ?_
    have hE := Option.some.inj hf
    exact qw_zretR S0 hr hlocks hQ rfl hE dX7_isGood_20
  · replace hf := qf_f c_1 hf
    refine lv_iload_n hx hb dX7_isGood_4 rfl (lv_at hl 1 rfl) ?_
    refine lv_aload_n hx hb dX7_isGood_5 rfl (lv_at hl 0 rfl) ?_
    refine gfO_0_5 S0 V kl_X7_40 dX7_isGood_6 ?_
    refine gfO_19_1 S0 V kl_X7_84 dX7_isGood_9 ?_
    refine lv_icmp_ge (tgt := 19) hx hb dX7_isGood_12 (by decide) (fun c_12 => ?_) (fun c_12 => ?_)
    · replace hf := qf_t c_12 hf
      refine lv_iconst (v := 0) hx hb dX7_isGood_19 (by decide) ?_
      have hE := Option.some.inj hf
      exact qw_zretR S0 hr hlocks hQ rfl hE dX7_isGood_20
    · replace hf := qf_f c_12 hf
      refine lv_iconst (v := 1) hx hb dX7_isGood_15 (by decide) ?_
      refine lv_goto (tgt := 20) hx hb dX7_isGood_16 (by decide) ?_
      have hE := Option.some.inj hf
      exact qw_zretR S0 hr hlocks hQ rfl hE dX7_isGood_20
theorem kd_X7_goodProperty : yX7_goodProperty.cls = RX7 ∧ yX7_goodProperty.cls ≠ "java/lang/invoke/MethodHandle" ∧ yX7_goodProperty.cls ≠ "java/lang/invoke/VarHandle" ∧ (parseMethodDescriptor yX7_goodProperty.desc).map (fun d => d.parameters.length) = some 2 := by decide +kernel
def f_X7_goodProperty (I : Nat → Int32) (A : Nat → Nat → Int32) (p1 : Int32) (p2 : Int32) : Option (Option (Int32)) :=
  qf_bd (f_X7_isGood I p1) fun r1 =>
  if r1 = 0 then some none else
  if p2 = 0 then (qf_ld 6 (A 19) p1 fun x2 =>
  some (some (x2))) else if p2 = 1 then (qf_ld 6 (A 20) p1 fun x3 =>
  some (some (x3))) else if p2 = 2 then (qf_ld 6 (A 21) p1 fun x4 =>
  some (some (x4))) else (some (some ((-2 : Int32))))
abbrev wz_X7_goodProperty : List Cond := Cond.code yX7_goodProperty cX7_goodProperty 3 (some .int) :: qw_big
def rm_X7_goodProperty : Room := { frames := 7, cells := 1, slots := 6, locals := 102 }
set_option maxHeartbeats 4000000 in
set_option maxRecDepth 100000 in
theorem c_X7_goodProperty (l : Launch) (hst : l.stackTraces = false) {D : va_G} {cy : Nat → ClassId} {ad : Nat → Nat} {I : Nat → Int32} {A : Nat → Nat → Int32} {G : Nat → Int32 × (Nat → Nat → Int32)} {T : Nat} {p1 : Int32} {p2 : Int32} {ro : (Option (Int32))} {sz : Nat} (hf : f_X7_goodProperty I A p1 p2 = some ro) : vx_Met l yX7_goodProperty wz_X7_goodProperty rm_X7_goodProperty (va_Pc [.ref (ad 0), .int p1, .int p2] (qw_Pre D cy (Wo cy ad I A G T) sz)) (qx_Q ro (fun v9 => some (.int v9)) (fun _ => (Wo cy ad I A G T)) D (va_A (Wo cy ad I A G T) sz)) (qx_X ro D (Wo cy ad I A G T) (va_A (Wo cy ad I A G T) sz)) 1 6 (va_A (Wo cy ad I A G T) sz) := by
  refine qx_of (cc := cX7_goodProperty) (maxL := 3) (ret := (some .int)) (by decide) (Nat.le_of_ble_eq_true rfl) ?_
  intro p e s m args below meth c ls S0 hr hlocks htab hsz V hl
  have S0 : CallFix p m c cX7_goodProperty 3 s args qw_big RX7 := S0
  have hx := S0.1; have hb := S0.2.1; have hown := S0.2.2.2.1; have hts := S0.2.2.2.2
  have hl : lv_has ls 3 [(0, .ref (ad 0)), (1, .int p1), (2, .int p2)] := hl
  generalize va_A (Wo cy ad I A G T) sz = Z9 at V ⊢
  obtain ⟨Q9, hQ⟩ : ∃ q, q = vx_MQ below (qx_Q ro (fun v9 => some (.int v9)) (fun _ => (Wo cy ad I A G T)) D Z9) (qx_X ro D (Wo cy ad I A G T) Z9) args s 1 6 Z9 := ⟨_, rfl⟩
  rw [← hQ]
  clear hsz
  unfold f_X7_goodProperty at hf
  refine lv_aload_n hx hb dX7_goodProperty_0 rfl (lv_at hl 0 rfl) ?_
  refine lv_iload_n hx hb dX7_goodProperty_1 rfl (lv_at hl 1 rfl) ?_
  obtain ⟨r1, hc_2, hf⟩ := qf_bd_e hf
  refine qw_cVR (rest := []) (st1 := [.int r1]) S0 V hl 0 gO_0 rfl (c_X7_isGood l hc_2) kg_X7_138 rfl ⟨rfl, rfl⟩ kd_X7_isGood ⟨Nat.le_of_ble_eq_true rfl, Nat.le_of_ble_eq_true rfl⟩ rfl rfl (Nat.le_of_ble_eq_true rfl) ⟨Nat.zero_le _, Nat.zero_le _⟩ rfl dX7_goodProperty_2 ?_
  by_cases c_5 : r1 = 0
  · exact qx_thr (rest := []) hst hQ S0 V hl c_5 kg_X7_119 ⟨by decide, by decide⟩ (Nat.le_of_ble_eq_true rfl) ⟨by decide, by decide⟩ dX7_goodProperty_5 (by decide) (by decide) hlocks htab (fun t9 h9 h8 => ⟨rfl, (Option.some.inj (qf_t c_5 hf)).symm, h9, h8⟩)
  replace hf := qf_f c_5 hf
  refine qw_cSR (rest := []) (st1 := []) S0 V hl (c_X7_need l c_5) kg_X7_119 rfl ⟨rfl, rfl⟩ kd_X7_need ⟨by decide, by decide⟩ rfl rfl (Nat.le_of_ble_eq_true rfl) ⟨Nat.zero_le _, Nat.zero_le _⟩ rfl dX7_goodProperty_5 ?_
  refine lv_iload_n hx hb dX7_goodProperty_8 rfl (lv_at hl 2 rfl) ?_
  by_cases c_9_0 : p2 = 0
  · replace hf := qf_t c_9_0 hf
    refine lv_tableIn (tgt := 36) hx hb dX7_goodProperty_9 (by rw [c_9_0]; decide) (by rw [c_9_0]; decide) (by rw [c_9_0]; rfl) (by decide) ?_
    refine lv_aload_n hx hb dX7_goodProperty_36 rfl (lv_at hl 0 rfl) ?_
    refine gfO_0_5 S0 V kl_X7_40 dX7_goodProperty_37 ?_
    refine gfO_19_12 S0 V kl_X7_141 dX7_goodProperty_40 ?_
    refine lv_iload_n hx hb dX7_goodProperty_43 rfl (lv_at hl 1 rfl) ?_
    have h_44 := qf_ld_in hf
    refine alO_28 S0 V h_44 dX7_goodProperty_44 ?_
    refine lv_topi (fun x2 e_x2 => ?_)
    replace hf := qf_ld_e e_x2 hf
    have hE := Option.some.inj hf
    exact qx_ireti hQ S0 hr hlocks hE rfl rfl V dX7_goodProperty_45
  replace hf := qf_f c_9_0 hf
  by_cases c_9_1 : p2 = 1
  · replace hf := qf_t c_9_1 hf
    refine lv_tableIn (tgt := 46) hx hb dX7_goodProperty_9 (by rw [c_9_1]; decide) (by rw [c_9_1]; decide) (by rw [c_9_1]; rfl) (by decide) ?_
    refine lv_aload_n hx hb dX7_goodProperty_46 rfl (lv_at hl 0 rfl) ?_
    refine gfO_0_5 S0 V kl_X7_40 dX7_goodProperty_47 ?_
    refine gfO_19_13 S0 V kl_X7_144 dX7_goodProperty_50 ?_
    refine lv_iload_n hx hb dX7_goodProperty_53 rfl (lv_at hl 1 rfl) ?_
    have h_54 := qf_ld_in hf
    refine alO_29 S0 V h_54 dX7_goodProperty_54 ?_
    refine lv_topi (fun x3 e_x3 => ?_)
    replace hf := qf_ld_e e_x3 hf
    have hE := Option.some.inj hf
    exact qx_ireti hQ S0 hr hlocks hE rfl rfl V dX7_goodProperty_55
  replace hf := qf_f c_9_1 hf
  by_cases c_9_2 : p2 = 2
  · replace hf := qf_t c_9_2 hf
    refine lv_tableIn (tgt := 56) hx hb dX7_goodProperty_9 (by rw [c_9_2]; decide) (by rw [c_9_2]; decide) (by rw [c_9_2]; rfl) (by decide) ?_
    refine lv_aload_n hx hb dX7_goodProperty_56 rfl (lv_at hl 0 rfl) ?_
    refine gfO_0_5 S0 V kl_X7_40 dX7_goodProperty_57 ?_
    refine gfO_19_14 S0 V kl_X7_147 dX7_goodProperty_60 ?_
    refine lv_iload_n hx hb dX7_goodProperty_63 rfl (lv_at hl 1 rfl) ?_
    have h_64 := qf_ld_in hf
    refine alO_30 S0 V h_64 dX7_goodProperty_64 ?_
    refine lv_topi (fun x4 e_x4 => ?_)
    replace hf := qf_ld_e e_x4 hf
    have hE := Option.some.inj hf
    exact qx_ireti hQ S0 hr hlocks hE rfl rfl V dX7_goodProperty_65
  replace hf := qf_f c_9_2 hf
  refine lv_tableOut (tgt := 66) hx hb dX7_goodProperty_9 (qw_tab 2 (by intro k hk; rcases (show k = 0 ∨ k = 1 ∨ k = 2 by omega) with rfl | rfl | rfl <;> assumption)) (by decide) ?_
  refine lv_bipush (v := -2) hx hb dX7_goodProperty_66 (by decide) ?_
  have hE := Option.some.inj hf
  exact qx_ireti hQ S0 hr hlocks hE rfl rfl V dX7_goodProperty_68
theorem kd_X7_isHouse : yX7_isHouse.cls = RX7 ∧ yX7_isHouse.cls ≠ "java/lang/invoke/MethodHandle" ∧ yX7_isHouse.cls ≠ "java/lang/invoke/VarHandle" ∧ (parseMethodDescriptor yX7_isHouse.desc).map (fun d => d.parameters.length) = some 1 := by decide +kernel
def f_X7_isHouse (I : Nat → Int32) (p1 : Int32) : Option (Int32) :=
  if p1 < 0 then (some ((0 : Int32))) else (if (I 14) ≤ p1 then (some ((0 : Int32))) else (some ((1 : Int32))))
abbrev wz_X7_isHouse : List Cond := Cond.code yX7_isHouse cX7_isHouse 2 (some .boolean) :: qw_big
def rm_X7_isHouse : Room := { frames := 0, cells := 0, slots := 0, locals := 0 }
set_option maxHeartbeats 4000000 in
set_option maxRecDepth 100000 in
theorem c_X7_isHouse (l : Launch) {D : va_G} {cy : Nat → ClassId} {ad : Nat → Nat} {I : Nat → Int32} {A : Nat → Nat → Int32} {G : Nat → Int32 × (Nat → Nat → Int32)} {T : Nat} {p1 : Int32} {rv : Int32} {sz : Nat} (hf : f_X7_isHouse I p1 = some (rv)) : Met l yX7_isHouse wz_X7_isHouse rm_X7_isHouse (va_Pc [.ref (ad 0), .int p1] (qw_Pre D cy (Wo cy ad I A G T) sz)) (qw_R (some (.int rv))) 0 0 (fun _ => False) := by
  refine qw_of (cc := cX7_isHouse) (maxL := 2) (ret := (some .boolean)) (by decide) (Nat.le_of_ble_eq_true rfl) ?_
  intro p e s m args below meth c ls S0 hr hlocks hsz V hl
  have S0 : CallFix p m c cX7_isHouse 2 s args qw_big RX7 := S0
  have hx := S0.1; have hb := S0.2.1; have hown := S0.2.2.2.1; have hts := S0.2.2.2.2
  have hl : lv_has ls 2 [(0, .ref (ad 0)), (1, .int p1)] := hl
  obtain ⟨Q9, hQ⟩ : ∃ q, q = MQ below (qw_R (some (.int rv))) args s 0 0 (fun _ => False) := ⟨_, rfl⟩
  rw [← hQ]
  generalize va_A (Wo cy ad I A G T) sz = Z9 at V
  unfold f_X7_isHouse at hf
  refine lv_iload_n hx hb dX7_isHouse_0 rfl (lv_at hl 1 rfl) ?_
  refine lv_if_lt (tgt := 19) hx hb dX7_isHouse_1 (by decide) (fun c_1 => ?_) (fun c_1 => ?_)
  · replace hf := qf_t c_1 hf
    refine lv_iconst (v := 0) hx hb dX7_isHouse_19 (by decide) ?_
    have hE := Option.some.inj hf
    exact qw_zretR S0 hr hlocks hQ rfl hE dX7_isHouse_20
  · replace hf := qf_f c_1 hf
    refine lv_iload_n hx hb dX7_isHouse_4 rfl (lv_at hl 1 rfl) ?_
    refine lv_aload_n hx hb dX7_isHouse_5 rfl (lv_at hl 0 rfl) ?_
    refine gfO_0_5 S0 V kl_X7_40 dX7_isHouse_6 ?_
    refine gfO_19_2 S0 V kl_X7_87 dX7_isHouse_9 ?_
    refine lv_icmp_ge (tgt := 19) hx hb dX7_isHouse_12 (by decide) (fun c_12 => ?_) (fun c_12 => ?_)
    · replace hf := qf_t c_12 hf
      refine lv_iconst (v := 0) hx hb dX7_isHouse_19 (by decide) ?_
      have hE := Option.some.inj hf
      exact qw_zretR S0 hr hlocks hQ rfl hE dX7_isHouse_20
    · replace hf := qf_f c_12 hf
      refine lv_iconst (v := 1) hx hb dX7_isHouse_15 (by decide) ?_
      refine lv_goto (tgt := 20) hx hb dX7_isHouse_16 (by decide) ?_
      have hE := Option.some.inj hf
      exact qw_zretR S0 hr hlocks hQ rfl hE dX7_isHouse_20
theorem kd_X7_sizeOf : yX7_sizeOf.cls = RX7 ∧ yX7_sizeOf.cls ≠ "java/lang/invoke/MethodHandle" ∧ yX7_sizeOf.cls ≠ "java/lang/invoke/VarHandle" ∧ (parseMethodDescriptor yX7_sizeOf.desc).map (fun d => d.parameters.length) = some 1 := by decide +kernel
def f_X7_sizeOf (I : Nat → Int32) (A : Nat → Nat → Int32) (p1 : Int32) : Option (Option (Int32)) :=
  qf_bd (f_X7_isHouse I p1) fun r1 =>
  if r1 = 0 then some none else
  qf_ld 6 (A 34) p1 fun x2 =>
  some (some (x2))
abbrev wz_X7_sizeOf : List Cond := Cond.code yX7_sizeOf cX7_sizeOf 2 (some .int) :: qw_big
def rm_X7_sizeOf : Room := { frames := 7, cells := 1, slots := 6, locals := 102 }
set_option maxHeartbeats 4000000 in
set_option maxRecDepth 100000 in
theorem c_X7_sizeOf (l : Launch) (hst : l.stackTraces = false) {D : va_G} {cy : Nat → ClassId} {ad : Nat → Nat} {I : Nat → Int32} {A : Nat → Nat → Int32} {G : Nat → Int32 × (Nat → Nat → Int32)} {T : Nat} {p1 : Int32} {ro : (Option (Int32))} {sz : Nat} (hf : f_X7_sizeOf I A p1 = some ro) : vx_Met l yX7_sizeOf wz_X7_sizeOf rm_X7_sizeOf (va_Pc [.ref (ad 0), .int p1] (qw_Pre D cy (Wo cy ad I A G T) sz)) (qx_Q ro (fun v9 => some (.int v9)) (fun _ => (Wo cy ad I A G T)) D (va_A (Wo cy ad I A G T) sz)) (qx_X ro D (Wo cy ad I A G T) (va_A (Wo cy ad I A G T) sz)) 1 6 (va_A (Wo cy ad I A G T) sz) := by
  refine qx_of (cc := cX7_sizeOf) (maxL := 2) (ret := (some .int)) (by decide) (Nat.le_of_ble_eq_true rfl) ?_
  intro p e s m args below meth c ls S0 hr hlocks htab hsz V hl
  have S0 : CallFix p m c cX7_sizeOf 2 s args qw_big RX7 := S0
  have hx := S0.1; have hb := S0.2.1; have hown := S0.2.2.2.1; have hts := S0.2.2.2.2
  have hl : lv_has ls 2 [(0, .ref (ad 0)), (1, .int p1)] := hl
  generalize va_A (Wo cy ad I A G T) sz = Z9 at V ⊢
  obtain ⟨Q9, hQ⟩ : ∃ q, q = vx_MQ below (qx_Q ro (fun v9 => some (.int v9)) (fun _ => (Wo cy ad I A G T)) D Z9) (qx_X ro D (Wo cy ad I A G T) Z9) args s 1 6 Z9 := ⟨_, rfl⟩
  rw [← hQ]
  clear hsz
  unfold f_X7_sizeOf at hf
  refine lv_aload_n hx hb dX7_sizeOf_0 rfl (lv_at hl 0 rfl) ?_
  refine lv_iload_n hx hb dX7_sizeOf_1 rfl (lv_at hl 1 rfl) ?_
  obtain ⟨r1, hc_2, hf⟩ := qf_bd_e hf
  refine qw_cVR (rest := []) (st1 := [.int r1]) S0 V hl 0 gO_0 rfl (c_X7_isHouse l hc_2) kg_X7_150 rfl ⟨rfl, rfl⟩ kd_X7_isHouse ⟨Nat.le_of_ble_eq_true rfl, Nat.le_of_ble_eq_true rfl⟩ rfl rfl (Nat.le_of_ble_eq_true rfl) ⟨Nat.zero_le _, Nat.zero_le _⟩ rfl dX7_sizeOf_2 ?_
  by_cases c_5 : r1 = 0
  · exact qx_thr (rest := []) hst hQ S0 V hl c_5 kg_X7_119 ⟨by decide, by decide⟩ (Nat.le_of_ble_eq_true rfl) ⟨by decide, by decide⟩ dX7_sizeOf_5 (by decide) (by decide) hlocks htab (fun t9 h9 h8 => ⟨rfl, (Option.some.inj (qf_t c_5 hf)).symm, h9, h8⟩)
  replace hf := qf_f c_5 hf
  refine qw_cSR (rest := []) (st1 := []) S0 V hl (c_X7_need l c_5) kg_X7_119 rfl ⟨rfl, rfl⟩ kd_X7_need ⟨by decide, by decide⟩ rfl rfl (Nat.le_of_ble_eq_true rfl) ⟨Nat.zero_le _, Nat.zero_le _⟩ rfl dX7_sizeOf_5 ?_
  refine lv_aload_n hx hb dX7_sizeOf_8 rfl (lv_at hl 0 rfl) ?_
  refine gfO_0_6 S0 V kl_X7_47 dX7_sizeOf_9 ?_
  refine gfO_43_2 S0 V kl_X7_153 dX7_sizeOf_12 ?_
  refine lv_iload_n hx hb dX7_sizeOf_15 rfl (lv_at hl 1 rfl) ?_
  have h_16 := qf_ld_in hf
  refine alO_45 S0 V h_16 dX7_sizeOf_16 ?_
  refine lv_topi (fun x2 e_x2 => ?_)
  replace hf := qf_ld_e e_x2 hf
  have hE := Option.some.inj hf
  exact qx_ireti hQ S0 hr hlocks hE rfl rfl V dX7_sizeOf_17
theorem kd_X7_isSetting : yX7_isSetting.cls ≠ "java/lang/invoke/MethodHandle" ∧ yX7_isSetting.cls ≠ "java/lang/invoke/VarHandle" ∧ (parseMethodDescriptor yX7_isSetting.desc).map (fun d => d.parameters.length) = some 1 := by decide +kernel
def f_X7_isSetting (p1 : Int32) : Option (Int32) :=
  if p1 < 0 then (some ((0 : Int32))) else (if (3 : Int32) ≤ p1 then (some ((0 : Int32))) else (some ((1 : Int32))))
abbrev wz_X7_isSetting : List Cond := Cond.code yX7_isSetting cX7_isSetting 1 (some .boolean) :: qw_big
def rm_X7_isSetting : Room := { frames := 0, cells := 0, slots := 0, locals := 0 }
set_option maxHeartbeats 4000000 in
set_option maxRecDepth 100000 in
theorem c_X7_isSetting (l : Launch) {D : va_G} {cy : Nat → ClassId} {ws : va_W} {p1 : Int32} {rv : Int32} {sz : Nat} (hf : f_X7_isSetting p1 = some (rv)) : Met l yX7_isSetting wz_X7_isSetting rm_X7_isSetting (va_Pc [.int p1] (qw_Pre D cy ws sz)) (qw_R (some (.int rv))) 0 0 (fun _ => False) := by
  refine qw_of (cc := cX7_isSetting) (maxL := 1) (ret := (some .boolean)) (by decide) (Nat.le_of_ble_eq_true rfl) ?_
  intro p e s m args below meth c ls S0 hr hlocks hsz V hl
  have S0 : CallFix p m c cX7_isSetting 1 s args qw_big RX7 := S0
  have hx := S0.1; have hb := S0.2.1; have hown := S0.2.2.2.1; have hts := S0.2.2.2.2
  have hl : lv_has ls 1 [(0, .int p1)] := hl
  obtain ⟨Q9, hQ⟩ : ∃ q, q = MQ below (qw_R (some (.int rv))) args s 0 0 (fun _ => False) := ⟨_, rfl⟩
  rw [← hQ]
  generalize va_A ws sz = Z9 at V
  unfold f_X7_isSetting at hf
  refine lv_iload_n hx hb dX7_isSetting_0 rfl (lv_at hl 0 rfl) ?_
  refine lv_if_lt (tgt := 13) hx hb dX7_isSetting_1 (by decide) (fun c_1 => ?_) (fun c_1 => ?_)
  · replace hf := qf_t c_1 hf
    refine lv_iconst (v := 0) hx hb dX7_isSetting_13 (by decide) ?_
    have hE := Option.some.inj hf
    exact qw_zretR S0 hr hlocks hQ rfl hE dX7_isSetting_14
  · replace hf := qf_f c_1 hf
    refine lv_iload_n hx hb dX7_isSetting_4 rfl (lv_at hl 0 rfl) ?_
    refine lv_iconst (v := 3) hx hb dX7_isSetting_5 (by decide) ?_
    refine lv_icmp_ge (tgt := 13) hx hb dX7_isSetting_6 (by decide) (fun c_6 => ?_) (fun c_6 => ?_)
    · replace hf := qf_t c_6 hf
      refine lv_iconst (v := 0) hx hb dX7_isSetting_13 (by decide) ?_
      have hE := Option.some.inj hf
      exact qw_zretR S0 hr hlocks hQ rfl hE dX7_isSetting_14
    · replace hf := qf_f c_6 hf
      refine lv_iconst (v := 1) hx hb dX7_isSetting_9 (by decide) ?_
      refine lv_goto (tgt := 14) hx hb dX7_isSetting_10 (by decide) ?_
      have hE := Option.some.inj hf
      exact qw_zretR S0 hr hlocks hQ rfl hE dX7_isSetting_14
theorem kd_X7_getSetting : yX7_getSetting.cls = RX7 ∧ yX7_getSetting.cls ≠ "java/lang/invoke/MethodHandle" ∧ yX7_getSetting.cls ≠ "java/lang/invoke/VarHandle" ∧ (parseMethodDescriptor yX7_getSetting.desc).map (fun d => d.parameters.length) = some 1 := by decide +kernel
def f_X7_getSetting (A : Nat → Nat → Int32) (p1 : Int32) : Option (Int32) :=
  qf_bd (f_X7_isSetting p1) fun r1 =>
  if r1 = 0 then (some ((-2 : Int32))) else (qf_ld 3 (A 35) p1 fun x2 =>
    some (x2))
abbrev wz_X7_getSetting : List Cond := Cond.code yX7_getSetting cX7_getSetting 2 (some .int) :: qw_big
def rm_X7_getSetting : Room := { frames := 1, cells := 0, slots := 0, locals := 20 }
set_option maxHeartbeats 4000000 in
set_option maxRecDepth 100000 in
theorem c_X7_getSetting (l : Launch) {D : va_G} {cy : Nat → ClassId} {ad : Nat → Nat} {I : Nat → Int32} {A : Nat → Nat → Int32} {G : Nat → Int32 × (Nat → Nat → Int32)} {T : Nat} {p1 : Int32} {rv : Int32} {sz : Nat} (hf : f_X7_getSetting A p1 = some (rv)) : Met l yX7_getSetting wz_X7_getSetting rm_X7_getSetting (va_Pc [.ref (ad 0), .int p1] (qw_Pre D cy (Wo cy ad I A G T) sz)) (qw_R (some (.int rv))) 0 0 (fun _ => False) := by
  refine qw_of (cc := cX7_getSetting) (maxL := 2) (ret := (some .int)) (by decide) (Nat.le_of_ble_eq_true rfl) ?_
  intro p e s m args below meth c ls S0 hr hlocks hsz V hl
  have S0 : CallFix p m c cX7_getSetting 2 s args qw_big RX7 := S0
  have hx := S0.1; have hb := S0.2.1; have hown := S0.2.2.2.1; have hts := S0.2.2.2.2
  have hl : lv_has ls 2 [(0, .ref (ad 0)), (1, .int p1)] := hl
  obtain ⟨Q9, hQ⟩ : ∃ q, q = MQ below (qw_R (some (.int rv))) args s 0 0 (fun _ => False) := ⟨_, rfl⟩
  rw [← hQ]
  generalize va_A (Wo cy ad I A G T) sz = Z9 at V
  unfold f_X7_getSetting at hf
  refine lv_iload_n hx hb dX7_getSetting_0 rfl (lv_at hl 1 rfl) ?_
  obtain ⟨r1, hc_1, hf⟩ := qf_bd_e hf
  refine qw_cSR (rest := []) (st1 := [.int r1]) S0 V hl (c_X7_isSetting l hc_1) kg_X7_156 rfl ⟨rfl, rfl⟩ kd_X7_isSetting ⟨Nat.le_of_ble_eq_true rfl, Nat.le_of_ble_eq_true rfl⟩ rfl rfl (Nat.le_of_ble_eq_true rfl) ⟨Nat.zero_le _, Nat.zero_le _⟩ rfl dX7_getSetting_1 ?_
  refine lv_if_eq (tgt := 19) hx hb dX7_getSetting_4 (by decide) (fun c_4 => ?_) (fun c_4 => ?_)
  · replace hf := qf_t c_4 hf
    refine lv_bipush (v := -2) hx hb dX7_getSetting_19 (by decide) ?_
    have hE := Option.some.inj hf
    exact qw_iretR S0 hr hlocks hQ hE dX7_getSetting_21
  · replace hf := qf_f c_4 hf
    refine lv_aload_n hx hb dX7_getSetting_7 rfl (lv_at hl 0 rfl) ?_
    refine gfO_0_6 S0 V kl_X7_47 dX7_getSetting_8 ?_
    refine gfO_43_3 S0 V kl_X7_159 dX7_getSetting_11 ?_
    refine lv_iload_n hx hb dX7_getSetting_14 rfl (lv_at hl 1 rfl) ?_
    have h_15 := qf_ld_in hf
    refine alO_46 S0 V h_15 dX7_getSetting_15 ?_
    refine lv_topi (fun x2 e_x2 => ?_)
    replace hf := qf_ld_e e_x2 hf
    refine lv_goto (tgt := 21) hx hb dX7_getSetting_16 (by decide) ?_
    have hE := Option.some.inj hf
    exact qw_iretR S0 hr hlocks hQ hE dX7_getSetting_21
theorem kd_X4_total : yX4_total.cls ≠ "java/lang/invoke/MethodHandle" ∧ yX4_total.cls ≠ "java/lang/invoke/VarHandle" ∧ (parseMethodDescriptor yX4_total.desc).map (fun d => d.parameters.length) = some 2 := by decide +kernel
def f_X4_total_l4 (n0 : Nat) (f0 : Nat → Int32)  (y1 : Int32) : Nat → Int32 → Int32 → Option (Int32)
  | 0, _, _ => none
  | n + 1, y2, y3 =>
  if (5 : Int32) ≤ y3 then (some (y2)) else (qf_ld n0 f0 (y1 + y3) fun x1 =>
    qf_let ((y2 + x1)) fun x2 =>
    qf_let (y3 + (1 : Int32)) fun x3 =>
    f_X4_total_l4 n0 f0 y1 n x2 x3)
def f_X4_total (n0 : Nat) (f0 : Nat → Int32) (p1 : Int32) : Option (Int32) :=
  f_X4_total_l4 n0 f0 p1 100000 (0 : Int32) (0 : Int32)
abbrev wz_X4_total : List Cond := Cond.code yX4_total cX4_total 4 (some .int) :: qw_big
def rm_X4_total : Room := { frames := 0, cells := 0, slots := 0, locals := 0 }
set_option maxHeartbeats 4000000 in
set_option maxRecDepth 100000 in
theorem c_X4_total (l : Launch) {D : va_G} {cy : Nat → ClassId} {ws : va_W} {q0 a0 n0 : Nat} {f0 : Nat → Int32} (ha0 : ws[q0]? = some (a0, .inl (cy 0, n0, .inl f0))) {p1 : Int32} {rv : Int32} {sz : Nat} (hf : f_X4_total n0 f0 p1 = some (rv)) : Met l yX4_total wz_X4_total rm_X4_total (va_Pc [.ref a0, .int p1] (qw_Pre D cy ws sz)) (qw_R (some (.int rv))) 0 0 (fun _ => False) := by
  refine qw_of (cc := cX4_total) (maxL := 4) (ret := (some .int)) (by decide) (Nat.le_of_ble_eq_true rfl) ?_
  intro p e s m args below meth c ls S0 hr hlocks hsz V hl
  have S0 : CallFix p m c cX4_total 4 s args qw_big RX4 := S0
  have hx := S0.1; have hb := S0.2.1; have hown := S0.2.2.2.1; have hts := S0.2.2.2.2
  have hl : lv_has ls 4 [(0, .ref a0), (1, .int p1)] := hl
  obtain ⟨Q9, hQ⟩ : ∃ q, q = MQ below (qw_R (some (.int rv))) args s 0 0 (fun _ => False) := ⟨_, rfl⟩
  rw [← hQ]
  generalize va_A ws sz = Z9 at V
  have L_4 : ∀  {y1 : Int32} {n : Nat}  {y2 : Int32} {y3 : Int32} {ls : Array Slot}, f_X4_total_l4 n0 f0 y1 n y2 y3 = some (rv) → lv_has ls 4 [(0, .ref a0), (1, .int y1), (2, .int y2), (3, .int y3)] → W p l e rm_X4_total s m args below meth c s.heap [] 0 0 Q9 (F0 m 4 ls []) := by
    intro y1 n
    induction n with
    | zero => intro y2 y3 ls hf hl; exact qf_no hf
    | succ n ih =>
      intro y2 y3 ls hf hl
      rw [f_X4_total_l4] at hf
      refine lv_iload_n hx hb dX4_total_4 rfl (lv_at hl 3 rfl) ?_
      refine lv_iconst (v := 5) hx hb dX4_total_5 (by decide) ?_
      refine lv_icmp_ge (tgt := 23) hx hb dX4_total_6 (by decide) (fun c_6 => ?_) (fun c_6 => ?_)
      · replace hf := qf_t c_6 hf
        refine lv_iload_n hx hb dX4_total_23 rfl (lv_at hl 2 rfl) ?_
        have hE := Option.some.inj hf
        exact qw_iretR S0 hr hlocks hQ hE dX4_total_24
      · replace hf := qf_f c_6 hf
        refine lv_iload_n hx hb dX4_total_9 rfl (lv_at hl 2 rfl) ?_
        refine lv_aload_n hx hb dX4_total_10 rfl (lv_at hl 0 rfl) ?_
        refine lv_iload_n hx hb dX4_total_11 rfl (lv_at hl 1 rfl) ?_
        refine lv_iload_n hx hb dX4_total_12 rfl (lv_at hl 3 rfl) ?_
        refine lv_iadd hx hb dX4_total_13 ?_
        have h_14 := qf_ld_in hf
        refine qw_ild S0 V q0 ha0 h_14 dX4_total_14 ?_
        refine lv_topi (fun x1 e_x1 => ?_)
        replace hf := qf_ld_e e_x1 hf
        refine lv_iadd hx hb dX4_total_15 ?_
        refine lv_topi (fun x2 e_x2 => ?_)
        replace hf := qf_let_e e_x2 hf
        refine lv_istore_n (lv' := [(2, .int x2), (0, .ref a0), (1, .int y1), (3, .int y3)]) hx hb dX4_total_16 rfl hl (by decide) rfl (fun ls hl => ?_)
        obtain ⟨x3, e_x3⟩ : ∃ y : Int32, y = y3 + (1 : Int32) := ⟨_, rfl⟩
        refine lv_iinc (v := x3) (lv' := [(3, .int x3), (2, .int x2), (0, .ref a0), (1, .int y1)]) hx hb dX4_total_17 hl (k := 3) rfl (by rw [e_x3]; rfl) (by decide) rfl (fun ls hl => ?_)
        replace hf := qf_let_e e_x3 hf
        refine lv_goto (tgt := 4) hx hb dX4_total_20 (by decide) ?_
        exact ih hf (lv_sub hl [2, 3, 1, 0] rfl)
  unfold f_X4_total at hf
  refine lv_iconst (v := 0) hx hb dX4_total_0 (by decide) ?_
  refine lv_istore_n (lv' := [(2, .int (0 : Int32)), (0, .ref a0), (1, .int p1)]) hx hb dX4_total_1 rfl hl (by decide) rfl (fun ls hl => ?_)
  refine lv_iconst (v := 0) hx hb dX4_total_2 (by decide) ?_
  refine lv_istore_n (lv' := [(3, .int (0 : Int32)), (2, .int (0 : Int32)), (0, .ref a0), (1, .int p1)]) hx hb dX4_total_3 rfl hl (by decide) rfl (fun ls hl => ?_)
  exact L_4 hf (lv_sub hl [2, 3, 1, 0] rfl)
theorem kd_X7_holding : yX7_holding.cls = RX7 ∧ yX7_holding.cls ≠ "java/lang/invoke/MethodHandle" ∧ yX7_holding.cls ≠ "java/lang/invoke/VarHandle" ∧ (parseMethodDescriptor yX7_holding.desc).map (fun d => d.parameters.length) = some 2 := by decide +kernel
def f_X7_holding (A : Nat → Nat → Int32) (p1 : Int32) (p2 : Int32) : Option (Int32) :=
  qf_bd (f_X5_purse p1 p2) fun r1 =>
  qf_bd (f_X4_total 120 (A 36) r1) fun r2 =>
  some (r2)
abbrev wz_X7_holding : List Cond := Cond.code yX7_holding cX7_holding 3 (some .int) :: qw_big
def rm_X7_holding : Room := { frames := 1, cells := 0, slots := 0, locals := 23 }
set_option maxHeartbeats 4000000 in
set_option maxRecDepth 100000 in
theorem c_X7_holding (l : Launch) {D : va_G} {cy : Nat → ClassId} {ad : Nat → Nat} {I : Nat → Int32} {A : Nat → Nat → Int32} {G : Nat → Int32 × (Nat → Nat → Int32)} {T : Nat} {p1 : Int32} {p2 : Int32} {rv : Int32} {sz : Nat} (hf : f_X7_holding A p1 p2 = some (rv)) : Met l yX7_holding wz_X7_holding rm_X7_holding (va_Pc [.ref (ad 0), .int p1, .int p2] (qw_Pre D cy (Wo cy ad I A G T) sz)) (qw_R (some (.int rv))) 0 0 (fun _ => False) := by
  refine qw_of (cc := cX7_holding) (maxL := 3) (ret := (some .int)) (by decide) (Nat.le_of_ble_eq_true rfl) ?_
  intro p e s m args below meth c ls S0 hr hlocks hsz V hl
  have S0 : CallFix p m c cX7_holding 3 s args qw_big RX7 := S0
  have hx := S0.1; have hb := S0.2.1; have hown := S0.2.2.2.1; have hts := S0.2.2.2.2
  have hl : lv_has ls 3 [(0, .ref (ad 0)), (1, .int p1), (2, .int p2)] := hl
  obtain ⟨Q9, hQ⟩ : ∃ q, q = MQ below (qw_R (some (.int rv))) args s 0 0 (fun _ => False) := ⟨_, rfl⟩
  rw [← hQ]
  generalize va_A (Wo cy ad I A G T) sz = Z9 at V
  unfold f_X7_holding at hf
  refine lv_aload_n hx hb dX7_holding_0 rfl (lv_at hl 0 rfl) ?_
  refine gfO_0_6 S0 V kl_X7_47 dX7_holding_1 ?_
  refine gfO_43_4 S0 V kl_X7_166 dX7_holding_4 ?_
  refine lv_iload_n hx hb dX7_holding_7 rfl (lv_at hl 1 rfl) ?_
  refine lv_iload_n hx hb dX7_holding_8 rfl (lv_at hl 2 rfl) ?_
  obtain ⟨r1, hc_9, hf⟩ := qf_bd_e hf
  refine qw_cSR (rest := [.ref (ad 47)]) (st1 := [.int r1, .ref (ad 47)]) S0 V hl (c_X5_purse l hc_9) kg_X7_169 rfl ⟨rfl, rfl⟩ kd_X5_purse ⟨Nat.le_of_ble_eq_true rfl, Nat.le_of_ble_eq_true rfl⟩ rfl rfl (Nat.le_of_ble_eq_true rfl) ⟨Nat.zero_le _, Nat.zero_le _⟩ rfl dX7_holding_9 ?_
  obtain ⟨r2, hc_12, hf⟩ := qf_bd_e hf
  refine qw_cSR (rest := []) (st1 := [.int r2]) S0 V hl (c_X4_total l (q0 := 47) gO_47 hc_12) kg_X7_179 rfl ⟨rfl, rfl⟩ kd_X4_total ⟨Nat.le_of_ble_eq_true rfl, Nat.le_of_ble_eq_true rfl⟩ rfl rfl (Nat.le_of_ble_eq_true rfl) ⟨Nat.zero_le _, Nat.zero_le _⟩ rfl dX7_holding_12 ?_
  have hE := Option.some.inj hf
  exact qw_iretR S0 hr hlocks hQ hE dX7_holding_15
theorem kd_X7_coupons : yX7_coupons.cls = RX7 ∧ yX7_coupons.cls ≠ "java/lang/invoke/MethodHandle" ∧ yX7_coupons.cls ≠ "java/lang/invoke/VarHandle" ∧ (parseMethodDescriptor yX7_coupons.desc).map (fun d => d.parameters.length) = some 2 := by decide +kernel
def f_X7_coupons_j21 (I : Nat → Int32) (A : Nat → Nat → Int32)  (y1 : Int32) (y2 : Int32) (s0 : Int32) : Option (Option (Int32)) :=
  if s0 = 0 then some none else
  qf_bd (f_X7_holding A y1 y2) fun r3 =>
  some (some (r3))
def f_X7_coupons_j20 (I : Nat → Int32) (A : Nat → Nat → Int32)  (y1 : Int32) (y2 : Int32) : Option (Option (Int32)) :=
  f_X7_coupons_j21 I A y1 y2 (0 : Int32)
def f_X7_coupons (I : Nat → Int32) (A : Nat → Nat → Int32) (p1 : Int32) (p2 : Int32) : Option (Option (Int32)) :=
  qf_bd (f_X7_isHouse I p1) fun r1 =>
  if r1 = 0 then (f_X7_coupons_j20 I A p1 p2) else (qf_bd (f_X7_isGroup I p2) fun r2 =>
    if r2 = 0 then (f_X7_coupons_j20 I A p1 p2) else (f_X7_coupons_j21 I A p1 p2 (1 : Int32)))
abbrev wz_X7_coupons : List Cond := Cond.code yX7_coupons cX7_coupons 3 (some .int) :: qw_big
def rm_X7_coupons : Room := { frames := 7, cells := 1, slots := 6, locals := 102 }
set_option maxHeartbeats 4000000 in
set_option maxRecDepth 100000 in
theorem c_X7_coupons (l : Launch) (hst : l.stackTraces = false) {D : va_G} {cy : Nat → ClassId} {ad : Nat → Nat} {I : Nat → Int32} {A : Nat → Nat → Int32} {G : Nat → Int32 × (Nat → Nat → Int32)} {T : Nat} {p1 : Int32} {p2 : Int32} {ro : (Option (Int32))} {sz : Nat} (hf : f_X7_coupons I A p1 p2 = some ro) : vx_Met l yX7_coupons wz_X7_coupons rm_X7_coupons (va_Pc [.ref (ad 0), .int p1, .int p2] (qw_Pre D cy (Wo cy ad I A G T) sz)) (qx_Q ro (fun v9 => some (.int v9)) (fun _ => (Wo cy ad I A G T)) D (va_A (Wo cy ad I A G T) sz)) (qx_X ro D (Wo cy ad I A G T) (va_A (Wo cy ad I A G T) sz)) 1 6 (va_A (Wo cy ad I A G T) sz) := by
  refine qx_of (cc := cX7_coupons) (maxL := 3) (ret := (some .int)) (by decide) (Nat.le_of_ble_eq_true rfl) ?_
  intro p e s m args below meth c ls S0 hr hlocks htab hsz V hl
  have S0 : CallFix p m c cX7_coupons 3 s args qw_big RX7 := S0
  have hx := S0.1; have hb := S0.2.1; have hown := S0.2.2.2.1; have hts := S0.2.2.2.2
  have hl : lv_has ls 3 [(0, .ref (ad 0)), (1, .int p1), (2, .int p2)] := hl
  generalize va_A (Wo cy ad I A G T) sz = Z9 at V ⊢
  obtain ⟨Q9, hQ⟩ : ∃ q, q = vx_MQ below (qx_Q ro (fun v9 => some (.int v9)) (fun _ => (Wo cy ad I A G T)) D Z9) (qx_X ro D (Wo cy ad I A G T) Z9) args s 1 6 Z9 := ⟨_, rfl⟩
  rw [← hQ]
  clear hsz
  have J_21 : ∀   {y1 : Int32} {y2 : Int32} {s0 : Int32} {H : Heap} {locs : List Loc} {ls : Array Slot}, f_X7_coupons_j21 I A y1 y2 s0 = some ro → qw_V D cy Z9 s (Wo cy ad I A G T) H locs → lv_has ls 3 [(0, .ref (ad 0)), (1, .int y1), (2, .int y2)] → W p l e rm_X7_coupons s m args below meth c H locs 0 0 Q9 (F0 m 21 ls [.int s0]) := by
    intro y1 y2 s0 H locs ls hf V hl
    unfold f_X7_coupons_j21 at hf
    by_cases c_21 : s0 = 0
    · exact qx_thr (rest := []) hst hQ S0 V hl c_21 kg_X7_119 ⟨by decide, by decide⟩ (Nat.le_of_ble_eq_true rfl) ⟨by decide, by decide⟩ dX7_coupons_21 (by decide) (by decide) hlocks htab (fun t9 h9 h8 => ⟨rfl, (Option.some.inj (qf_t c_21 hf)).symm, h9, h8⟩)
    replace hf := qf_f c_21 hf
    refine qw_cSR (rest := []) (st1 := []) S0 V hl (c_X7_need l c_21) kg_X7_119 rfl ⟨rfl, rfl⟩ kd_X7_need ⟨by decide, by decide⟩ rfl rfl (Nat.le_of_ble_eq_true rfl) ⟨Nat.zero_le _, Nat.zero_le _⟩ rfl dX7_coupons_21 ?_
    refine lv_aload_n hx hb dX7_coupons_24 rfl (lv_at hl 0 rfl) ?_
    refine lv_iload_n hx hb dX7_coupons_25 rfl (lv_at hl 1 rfl) ?_
    refine lv_iload_n hx hb dX7_coupons_26 rfl (lv_at hl 2 rfl) ?_
    obtain ⟨r3, hc_27, hf⟩ := qf_bd_e hf
    refine qw_cVR (rest := []) (st1 := [.int r3]) S0 V hl 0 gO_0 rfl (c_X7_holding l hc_27) kg_X7_162 rfl ⟨rfl, rfl⟩ kd_X7_holding ⟨Nat.le_of_ble_eq_true rfl, Nat.le_of_ble_eq_true rfl⟩ rfl rfl (Nat.le_of_ble_eq_true rfl) ⟨Nat.zero_le _, Nat.zero_le _⟩ rfl dX7_coupons_27 ?_
    have hE := Option.some.inj hf
    exact qx_ireti hQ S0 hr hlocks hE rfl rfl V dX7_coupons_30
  have J_20 : ∀   {y1 : Int32} {y2 : Int32} {H : Heap} {locs : List Loc} {ls : Array Slot}, f_X7_coupons_j20 I A y1 y2 = some ro → qw_V D cy Z9 s (Wo cy ad I A G T) H locs → lv_has ls 3 [(0, .ref (ad 0)), (1, .int y1), (2, .int y2)] → W p l e rm_X7_coupons s m args below meth c H locs 0 0 Q9 (F0 m 20 ls []) := by
    intro y1 y2 H locs ls hf V hl
    unfold f_X7_coupons_j20 at hf
    refine lv_iconst (v := 0) hx hb dX7_coupons_20 (by decide) ?_
    exact J_21 hf V (lv_sub hl [0, 1, 2] rfl)
  unfold f_X7_coupons at hf
  refine lv_aload_n hx hb dX7_coupons_0 rfl (lv_at hl 0 rfl) ?_
  refine lv_iload_n hx hb dX7_coupons_1 rfl (lv_at hl 1 rfl) ?_
  obtain ⟨r1, hc_2, hf⟩ := qf_bd_e hf
  refine qw_cVR (rest := []) (st1 := [.int r1]) S0 V hl 0 gO_0 rfl (c_X7_isHouse l hc_2) kg_X7_150 rfl ⟨rfl, rfl⟩ kd_X7_isHouse ⟨Nat.le_of_ble_eq_true rfl, Nat.le_of_ble_eq_true rfl⟩ rfl rfl (Nat.le_of_ble_eq_true rfl) ⟨Nat.zero_le _, Nat.zero_le _⟩ rfl dX7_coupons_2 ?_
  refine lv_if_eq (tgt := 20) hx hb dX7_coupons_5 (by decide) (fun c_5 => ?_) (fun c_5 => ?_)
  · replace hf := qf_t c_5 hf
    exact J_20 hf V (lv_sub hl [0, 1, 2] rfl)
  · replace hf := qf_f c_5 hf
    refine lv_aload_n hx hb dX7_coupons_8 rfl (lv_at hl 0 rfl) ?_
    refine lv_iload_n hx hb dX7_coupons_9 rfl (lv_at hl 2 rfl) ?_
    obtain ⟨r2, hc_10, hf⟩ := qf_bd_e hf
    refine qw_cVR (rest := []) (st1 := [.int r2]) S0 V hl 0 gO_0 rfl (c_X7_isGroup l hc_10) kg_X7_115 rfl ⟨rfl, rfl⟩ kd_X7_isGroup ⟨Nat.le_of_ble_eq_true rfl, Nat.le_of_ble_eq_true rfl⟩ rfl rfl (Nat.le_of_ble_eq_true rfl) ⟨Nat.zero_le _, Nat.zero_le _⟩ rfl dX7_coupons_10 ?_
    refine lv_if_eq (tgt := 20) hx hb dX7_coupons_13 (by decide) (fun c_13 => ?_) (fun c_13 => ?_)
    · replace hf := qf_t c_13 hf
      exact J_20 hf V (lv_sub hl [0, 1, 2] rfl)
    · replace hf := qf_f c_13 hf
      refine lv_iconst (v := 1) hx hb dX7_coupons_16 (by decide) ?_
      refine lv_goto (tgt := 21) hx hb dX7_coupons_17 (by decide) ?_
      exact J_21 hf V (lv_sub hl [0, 1, 2] rfl)
theorem kd_X7_couponsWith : yX7_couponsWith.cls = RX7 ∧ yX7_couponsWith.cls ≠ "java/lang/invoke/MethodHandle" ∧ yX7_couponsWith.cls ≠ "java/lang/invoke/VarHandle" ∧ (parseMethodDescriptor yX7_couponsWith.desc).map (fun d => d.parameters.length) = some 3 := by decide +kernel
def f_X7_couponsWith_j21 (I : Nat → Int32) (A : Nat → Nat → Int32)  (y1 : Int32) (y2 : Int32) (y3 : Int32) (s0 : Int32) : Option (Option (Int32)) :=
  if s0 = 0 then some none else
  if y3 < 0 then (some (some ((-2 : Int32)))) else (if y3 ≤ (4 : Int32) then (qf_bd (f_X5_purse y1 y2) fun r3 =>
      qf_ld 120 (A 36) (r3 + y3) fun x4 =>
      some (some (x4))) else (some (some ((-2 : Int32)))))
def f_X7_couponsWith_j20 (I : Nat → Int32) (A : Nat → Nat → Int32)  (y1 : Int32) (y2 : Int32) (y3 : Int32) : Option (Option (Int32)) :=
  f_X7_couponsWith_j21 I A y1 y2 y3 (0 : Int32)
def f_X7_couponsWith (I : Nat → Int32) (A : Nat → Nat → Int32) (p1 : Int32) (p2 : Int32) (p3 : Int32) : Option (Option (Int32)) :=
  qf_bd (f_X7_isHouse I p1) fun r1 =>
  if r1 = 0 then (f_X7_couponsWith_j20 I A p1 p2 p3) else (qf_bd (f_X7_isGroup I p2) fun r2 =>
    if r2 = 0 then (f_X7_couponsWith_j20 I A p1 p2 p3) else (f_X7_couponsWith_j21 I A p1 p2 p3 (1 : Int32)))
abbrev wz_X7_couponsWith : List Cond := Cond.code yX7_couponsWith cX7_couponsWith 4 (some .int) :: qw_big
def rm_X7_couponsWith : Room := { frames := 7, cells := 1, slots := 6, locals := 102 }
set_option maxHeartbeats 4000000 in
set_option maxRecDepth 100000 in
theorem c_X7_couponsWith (l : Launch) (hst : l.stackTraces = false) {D : va_G} {cy : Nat → ClassId} {ad : Nat → Nat} {I : Nat → Int32} {A : Nat → Nat → Int32} {G : Nat → Int32 × (Nat → Nat → Int32)} {T : Nat} {p1 : Int32} {p2 : Int32} {p3 : Int32} {ro : (Option (Int32))} {sz : Nat} (hf : f_X7_couponsWith I A p1 p2 p3 = some ro) : vx_Met l yX7_couponsWith wz_X7_couponsWith rm_X7_couponsWith (va_Pc [.ref (ad 0), .int p1, .int p2, .int p3] (qw_Pre D cy (Wo cy ad I A G T) sz)) (qx_Q ro (fun v9 => some (.int v9)) (fun _ => (Wo cy ad I A G T)) D (va_A (Wo cy ad I A G T) sz)) (qx_X ro D (Wo cy ad I A G T) (va_A (Wo cy ad I A G T) sz)) 1 6 (va_A (Wo cy ad I A G T) sz) := by
  refine qx_of (cc := cX7_couponsWith) (maxL := 4) (ret := (some .int)) (by decide) (Nat.le_of_ble_eq_true rfl) ?_
  intro p e s m args below meth c ls S0 hr hlocks htab hsz V hl
  have S0 : CallFix p m c cX7_couponsWith 4 s args qw_big RX7 := S0
  have hx := S0.1; have hb := S0.2.1; have hown := S0.2.2.2.1; have hts := S0.2.2.2.2
  have hl : lv_has ls 4 [(0, .ref (ad 0)), (1, .int p1), (2, .int p2), (3, .int p3)] := hl
  generalize va_A (Wo cy ad I A G T) sz = Z9 at V ⊢
  obtain ⟨Q9, hQ⟩ : ∃ q, q = vx_MQ below (qx_Q ro (fun v9 => some (.int v9)) (fun _ => (Wo cy ad I A G T)) D Z9) (qx_X ro D (Wo cy ad I A G T) Z9) args s 1 6 Z9 := ⟨_, rfl⟩
  rw [← hQ]
  clear hsz
  have J_21 : ∀   {y1 : Int32} {y2 : Int32} {y3 : Int32} {s0 : Int32} {H : Heap} {locs : List Loc} {ls : Array Slot}, f_X7_couponsWith_j21 I A y1 y2 y3 s0 = some ro → qw_V D cy Z9 s (Wo cy ad I A G T) H locs → lv_has ls 4 [(0, .ref (ad 0)), (1, .int y1), (2, .int y2), (3, .int y3)] → W p l e rm_X7_couponsWith s m args below meth c H locs 0 0 Q9 (F0 m 21 ls [.int s0]) := by
    intro y1 y2 y3 s0 H locs ls hf V hl
    unfold f_X7_couponsWith_j21 at hf
    by_cases c_21 : s0 = 0
    · exact qx_thr (rest := []) hst hQ S0 V hl c_21 kg_X7_119 ⟨by decide, by decide⟩ (Nat.le_of_ble_eq_true rfl) ⟨by decide, by decide⟩ dX7_couponsWith_21 (by decide) (by decide) hlocks htab (fun t9 h9 h8 => ⟨rfl, (Option.some.inj (qf_t c_21 hf)).symm, h9, h8⟩)
    replace hf := qf_f c_21 hf
    refine qw_cSR (rest := []) (st1 := []) S0 V hl (c_X7_need l c_21) kg_X7_119 rfl ⟨rfl, rfl⟩ kd_X7_need ⟨by decide, by decide⟩ rfl rfl (Nat.le_of_ble_eq_true rfl) ⟨Nat.zero_le _, Nat.zero_le _⟩ rfl dX7_couponsWith_21 ?_
    refine lv_iload_n hx hb dX7_couponsWith_24 rfl (lv_at hl 3 rfl) ?_
    refine lv_if_lt (tgt := 33) hx hb dX7_couponsWith_25 (by decide) (fun c_25 => ?_) (fun c_25 => ?_)
    · replace hf := qf_t c_25 hf
      refine lv_bipush (v := -2) hx hb dX7_couponsWith_33 (by decide) ?_
      have hE := Option.some.inj hf
      exact qx_ireti hQ S0 hr hlocks hE rfl rfl V dX7_couponsWith_35
    · replace hf := qf_f c_25 hf
      refine lv_iload_n hx hb dX7_couponsWith_28 rfl (lv_at hl 3 rfl) ?_
      refine lv_iconst (v := 4) hx hb dX7_couponsWith_29 (by decide) ?_
      refine lv_icmp_le (tgt := 36) hx hb dX7_couponsWith_30 (by decide) (fun c_30 => ?_) (fun c_30 => ?_)
      · replace hf := qf_t c_30 hf
        refine lv_aload_n hx hb dX7_couponsWith_36 rfl (lv_at hl 0 rfl) ?_
        refine gfO_0_6 S0 V kl_X7_47 dX7_couponsWith_37 ?_
        refine gfO_43_4 S0 V kl_X7_166 dX7_couponsWith_40 ?_
        refine lv_iload_n hx hb dX7_couponsWith_43 rfl (lv_at hl 1 rfl) ?_
        refine lv_iload_n hx hb dX7_couponsWith_44 rfl (lv_at hl 2 rfl) ?_
        obtain ⟨r3, hc_45, hf⟩ := qf_bd_e hf
        refine qw_cSR (rest := [.ref (ad 47)]) (st1 := [.int r3, .ref (ad 47)]) S0 V hl (c_X5_purse l hc_45) kg_X7_169 rfl ⟨rfl, rfl⟩ kd_X5_purse ⟨Nat.le_of_ble_eq_true rfl, Nat.le_of_ble_eq_true rfl⟩ rfl rfl (Nat.le_of_ble_eq_true rfl) ⟨Nat.zero_le _, Nat.zero_le _⟩ rfl dX7_couponsWith_45 ?_
        refine lv_iload_n hx hb dX7_couponsWith_48 rfl (lv_at hl 3 rfl) ?_
        refine lv_iadd hx hb dX7_couponsWith_49 ?_
        have h_50 := qf_ld_in hf
        refine alO_47 S0 V h_50 dX7_couponsWith_50 ?_
        refine lv_topi (fun x4 e_x4 => ?_)
        replace hf := qf_ld_e e_x4 hf
        have hE := Option.some.inj hf
        exact qx_ireti hQ S0 hr hlocks hE rfl rfl V dX7_couponsWith_51
      · replace hf := qf_f c_30 hf
        refine lv_bipush (v := -2) hx hb dX7_couponsWith_33 (by decide) ?_
        have hE := Option.some.inj hf
        exact qx_ireti hQ S0 hr hlocks hE rfl rfl V dX7_couponsWith_35
  have J_20 : ∀   {y1 : Int32} {y2 : Int32} {y3 : Int32} {H : Heap} {locs : List Loc} {ls : Array Slot}, f_X7_couponsWith_j20 I A y1 y2 y3 = some ro → qw_V D cy Z9 s (Wo cy ad I A G T) H locs → lv_has ls 4 [(0, .ref (ad 0)), (1, .int y1), (2, .int y2), (3, .int y3)] → W p l e rm_X7_couponsWith s m args below meth c H locs 0 0 Q9 (F0 m 20 ls []) := by
    intro y1 y2 y3 H locs ls hf V hl
    unfold f_X7_couponsWith_j20 at hf
    refine lv_iconst (v := 0) hx hb dX7_couponsWith_20 (by decide) ?_
    exact J_21 hf V (lv_sub hl [0, 1, 2, 3] rfl)
  unfold f_X7_couponsWith at hf
  refine lv_aload_n hx hb dX7_couponsWith_0 rfl (lv_at hl 0 rfl) ?_
  refine lv_iload_n hx hb dX7_couponsWith_1 rfl (lv_at hl 1 rfl) ?_
  obtain ⟨r1, hc_2, hf⟩ := qf_bd_e hf
  refine qw_cVR (rest := []) (st1 := [.int r1]) S0 V hl 0 gO_0 rfl (c_X7_isHouse l hc_2) kg_X7_150 rfl ⟨rfl, rfl⟩ kd_X7_isHouse ⟨Nat.le_of_ble_eq_true rfl, Nat.le_of_ble_eq_true rfl⟩ rfl rfl (Nat.le_of_ble_eq_true rfl) ⟨Nat.zero_le _, Nat.zero_le _⟩ rfl dX7_couponsWith_2 ?_
  refine lv_if_eq (tgt := 20) hx hb dX7_couponsWith_5 (by decide) (fun c_5 => ?_) (fun c_5 => ?_)
  · replace hf := qf_t c_5 hf
    exact J_20 hf V (lv_sub hl [0, 1, 2, 3] rfl)
  · replace hf := qf_f c_5 hf
    refine lv_aload_n hx hb dX7_couponsWith_8 rfl (lv_at hl 0 rfl) ?_
    refine lv_iload_n hx hb dX7_couponsWith_9 rfl (lv_at hl 2 rfl) ?_
    obtain ⟨r2, hc_10, hf⟩ := qf_bd_e hf
    refine qw_cVR (rest := []) (st1 := [.int r2]) S0 V hl 0 gO_0 rfl (c_X7_isGroup l hc_10) kg_X7_115 rfl ⟨rfl, rfl⟩ kd_X7_isGroup ⟨Nat.le_of_ble_eq_true rfl, Nat.le_of_ble_eq_true rfl⟩ rfl rfl (Nat.le_of_ble_eq_true rfl) ⟨Nat.zero_le _, Nat.zero_le _⟩ rfl dX7_couponsWith_10 ?_
    refine lv_if_eq (tgt := 20) hx hb dX7_couponsWith_13 (by decide) (fun c_13 => ?_) (fun c_13 => ?_)
    · replace hf := qf_t c_13 hf
      exact J_20 hf V (lv_sub hl [0, 1, 2, 3] rfl)
    · replace hf := qf_f c_13 hf
      refine lv_iconst (v := 1) hx hb dX7_couponsWith_16 (by decide) ?_
      refine lv_goto (tgt := 21) hx hb dX7_couponsWith_17 (by decide) ?_
      exact J_21 hf V (lv_sub hl [0, 1, 2, 3] rfl)
theorem kd_X7_startAhead : yX7_startAhead.cls = RX7 ∧ yX7_startAhead.cls ≠ "java/lang/invoke/MethodHandle" ∧ yX7_startAhead.cls ≠ "java/lang/invoke/VarHandle" ∧ (parseMethodDescriptor yX7_startAhead.desc).map (fun d => d.parameters.length) = some 2 := by decide +kernel
def f_X7_startAhead (A : Nat → Nat → Int32) (p1 : Int32) (p2 : Int32) : Option ((Nat → Nat → Int32)) :=
  qf_bd (f_X5_purse p1 p2) fun r1 =>
  qf_ck ((¬ r1 < 0 ∧ ¬ (0 : Int32) < 0 ∧ ¬ (5 : Int32) < 0) ∧ r1.toNatClampNeg + (5 : Int32).toNatClampNeg ≤ 120 ∧ (0 : Int32).toNatClampNeg + (5 : Int32).toNatClampNeg ≤ 5) <|
  qf_let (qf_up A 1 (va_cpy (A 36) (A 1) r1.toNatClampNeg (0 : Int32).toNatClampNeg (5 : Int32).toNatClampNeg)) fun A2 =>
  some (A2)
abbrev wz_X7_startAhead : List Cond := Cond.code yX7_startAhead cX7_startAhead 3 none :: qw_big
def rm_X7_startAhead : Room := { frames := 1, cells := 0, slots := 0, locals := 60 }
set_option maxHeartbeats 4000000 in
set_option maxRecDepth 100000 in
theorem c_X7_startAhead (l : Launch) {D : va_G} {cy : Nat → ClassId} {ad : Nat → Nat} {I : Nat → Int32} {A : Nat → Nat → Int32} {G : Nat → Int32 × (Nat → Nat → Int32)} {T : Nat} {p1 : Int32} {p2 : Int32} {A9 : Nat → Nat → Int32} {sz : Nat} (hf : f_X7_startAhead A p1 p2 = some (A9)) : Met l yX7_startAhead wz_X7_startAhead rm_X7_startAhead (va_Pc [.ref (ad 0), .int p1, .int p2] (qw_Pre D cy (Wo cy ad I A G T) sz)) (qw_Q none D (Wo cy ad I A9 G T) (va_A (Wo cy ad I A G T) sz)) 0 0 (va_A (Wo cy ad I A G T) sz) := by
  refine qw_of (cc := cX7_startAhead) (maxL := 3) (ret := none) (by decide) (Nat.le_of_ble_eq_true rfl) ?_
  intro p e s m args below meth c ls S0 hr hlocks hsz V hl
  have S0 : CallFix p m c cX7_startAhead 3 s args qw_big RX7 := S0
  have hx := S0.1; have hb := S0.2.1; have hown := S0.2.2.2.1; have hts := S0.2.2.2.2
  have hl : lv_has ls 3 [(0, .ref (ad 0)), (1, .int p1), (2, .int p2)] := hl
  generalize va_A (Wo cy ad I A G T) sz = Z9 at V ⊢
  obtain ⟨Q9, hQ⟩ : ∃ q, q = MQ below (qw_Q none D (Wo cy ad I A9 G T) Z9) args s 0 0 Z9 := ⟨_, rfl⟩
  rw [← hQ]
  clear hsz
  unfold f_X7_startAhead at hf
  refine lv_aload_n hx hb dX7_startAhead_0 rfl (lv_at hl 0 rfl) ?_
  refine gfO_0_6 S0 V kl_X7_47 dX7_startAhead_1 ?_
  refine gfO_43_4 S0 V kl_X7_166 dX7_startAhead_4 ?_
  refine lv_iload_n hx hb dX7_startAhead_7 rfl (lv_at hl 1 rfl) ?_
  refine lv_iload_n hx hb dX7_startAhead_8 rfl (lv_at hl 2 rfl) ?_
  obtain ⟨r1, hc_9, hf⟩ := qf_bd_e hf
  refine qw_cSR (rest := [.ref (ad 47)]) (st1 := [.int r1, .ref (ad 47)]) S0 V hl (c_X5_purse l hc_9) kg_X7_169 rfl ⟨rfl, rfl⟩ kd_X5_purse ⟨Nat.le_of_ble_eq_true rfl, Nat.le_of_ble_eq_true rfl⟩ rfl rfl (Nat.le_of_ble_eq_true rfl) ⟨Nat.zero_le _, Nat.zero_le _⟩ rfl dX7_startAhead_9 ?_
  refine lv_aload_n hx hb dX7_startAhead_12 rfl (lv_at hl 0 rfl) ?_
  refine gfO_0_4 S0 V kl_X7_34 dX7_startAhead_13 ?_
  refine lv_iconst (v := 0) hx hb dX7_startAhead_16 (by decide) ?_
  refine lv_iconst (v := 5) hx hb dX7_startAhead_17 (by decide) ?_
  obtain ⟨h_18, hf⟩ := qf_ck_e hf
  refine qw_cpA S0 V hl.1 kml_X7_345 47 2 gO_47 gO_2 h_18 (fun A9 f9 e9 => sO_2 e9) (Nat.le_of_ble_eq_true rfl) (Nat.le_of_ble_eq_true rfl) dX7_startAhead_18 (fun H locs A2 e_A2 V => ?_)
  replace hf := qf_let_e e_A2 hf
  have hE := Option.some.inj hf
  exact qw_vreti S0 hr hlocks hQ (by rw [hE]) V dX7_startAhead_21
theorem kd_X4_growOlder : yX4_growOlder.cls ≠ "java/lang/invoke/MethodHandle" ∧ yX4_growOlder.cls ≠ "java/lang/invoke/VarHandle" ∧ (parseMethodDescriptor yX4_growOlder.desc).map (fun d => d.parameters.length) = some 3 := by decide +kernel
def f_X4_growOlder_l30 (n0 : Nat)  (y1 : Int32) (y3 : Int32) (y4 : Int32) : Nat → (Nat → Int32) → Int32 → Option (Int32 × (Nat → Int32))
  | 0, _, _ => none
  | n + 1, f0, y5 =>
  if (4 : Int32) ≤ y5 then (qf_st n0 (y1 + (4 : Int32)) fun i9 =>
    qf_let (upd f0 i9 (0 : Int32)) fun A8 =>
    some ((y3 - y4), A8)) else (qf_ld n0 f0 ((y1 + y5) + (1 : Int32)) fun x10 =>
    qf_st n0 (y1 + y5) fun i12 =>
    qf_let (upd f0 i12 x10) fun A11 =>
    qf_let (y5 + (1 : Int32)) fun x13 =>
    f_X4_growOlder_l30 n0 y1 y3 y4 n A11 x13)
def f_X4_growOlder (n0 : Nat) (f0 : Nat → Int32) (p1 : Int32) (p2 : Int32) : Option (Int32 × (Nat → Int32)) :=
  qf_ld n0 f0 p1 fun x1 =>
  qf_ld n0 f0 (p1 + (1 : Int32)) fun x2 =>
  qf_let ((x1 + x2)) fun x3 =>
  qf_ld n0 f0 (p1 + (1 : Int32)) fun x4 =>
  qf_let (((x4 * p2) / (100 : Int32))) fun x5 =>
  qf_st n0 p1 fun i7 =>
  qf_let (upd f0 i7 x5) fun A6 =>
  f_X4_growOlder_l30 n0 p1 x3 x5 100000 A6 (1 : Int32)
abbrev wz_X4_growOlder : List Cond := Cond.code yX4_growOlder cX4_growOlder 6 (some .int) :: qw_big
def rm_X4_growOlder : Room := { frames := 0, cells := 0, slots := 0, locals := 0 }
set_option maxHeartbeats 4000000 in
set_option maxRecDepth 100000 in
theorem c_X4_growOlder (l : Launch) {D : va_G} {cy : Nat → ClassId} {ws : va_W} {q0 a0 n0 : Nat} {f0 : Nat → Int32} (ha0 : ws[q0]? = some (a0, .inl (cy 0, n0, .inl f0))) {p1 : Int32} {p2 : Int32} {rv : Int32} {f09 : Nat → Int32} {ws9 : va_W} (hs : ws.set q0 (a0, .inl (cy 0, n0, .inl f09)) = ws9) {sz : Nat} (hf : f_X4_growOlder n0 f0 p1 p2 = some (rv, f09)) : Met l yX4_growOlder wz_X4_growOlder rm_X4_growOlder (va_Pc [.ref a0, .int p1, .int p2] (qw_Pre D cy ws sz)) (qw_Q (some (.int rv)) D ws9 (va_A ws sz)) 0 0 (va_A ws sz) := by
  refine qw_of (cc := cX4_growOlder) (maxL := 6) (ret := (some .int)) (by decide) (Nat.le_of_ble_eq_true rfl) ?_
  intro p e s m args below meth c ls S0 hr hlocks hsz V hl
  have S0 : CallFix p m c cX4_growOlder 6 s args qw_big RX4 := S0
  have hx := S0.1; have hb := S0.2.1; have hown := S0.2.2.2.1; have hts := S0.2.2.2.2
  have hl : lv_has ls 6 [(0, .ref a0), (1, .int p1), (2, .int p2)] := hl
  generalize va_A ws sz = Z9 at V ⊢
  obtain ⟨Q9, hQ⟩ : ∃ q, q = MQ below (qw_Q (some (.int rv)) D ws9 Z9) args s 0 0 Z9 := ⟨_, rfl⟩
  rw [← hQ]
  have V := qw_V.toq ha0 V
  subst hs
  clear hsz
  have L_30 : ∀  {y1 : Int32} {y3 : Int32} {y4 : Int32} {n : Nat} {f0 : Nat → Int32} {y5 : Int32} {H : Heap} {locs : List Loc} {ls : Array Slot}, f_X4_growOlder_l30 n0 y1 y3 y4 n f0 y5 = some (rv, f09) → qw_V D cy Z9 s (ws.set q0 (a0, .inl (cy 0, n0, .inl f0))) H locs → lv_has ls 6 [(0, .ref a0), (1, .int y1), (3, .int y3), (4, .int y4), (5, .int y5)] → W p l e rm_X4_growOlder s m args below meth c H locs 0 0 Q9 (F0 m 30 ls []) := by
    intro y1 y3 y4 n
    induction n with
    | zero => intro f0 y5 H locs ls hf V hl; exact qf_no hf
    | succ n ih =>
      intro f0 y5 H locs ls hf V hl
      rw [f_X4_growOlder_l30] at hf
      refine lv_iload hx hb dX4_growOlder_30 (lv_at hl 4 rfl) ?_
      refine lv_iconst (v := 4) hx hb dX4_growOlder_32 (by decide) ?_
      refine lv_icmp_ge (tgt := 56) hx hb dX4_growOlder_33 (by decide) (fun c_33 => ?_) (fun c_33 => ?_)
      · replace hf := qf_t c_33 hf
        refine lv_aload_n hx hb dX4_growOlder_56 rfl (lv_at hl 0 rfl) ?_
        refine lv_iload_n hx hb dX4_growOlder_57 rfl (lv_at hl 1 rfl) ?_
        refine lv_iconst (v := 4) hx hb dX4_growOlder_58 (by decide) ?_
        refine lv_iadd hx hb dX4_growOlder_59 ?_
        refine lv_iconst (v := 0) hx hb dX4_growOlder_60 (by decide) ?_
        have h_61 := qf_st_in hf
        replace hf := qf_st_e hf
        refine qw_istq S0 V q0 ha0 h_61 dX4_growOlder_61 (fun H locs A8 e_A8 V => ?_)
        replace hf := qf_let_e e_A8 hf
        refine lv_iload_n hx hb dX4_growOlder_62 rfl (lv_at hl 2 rfl) ?_
        refine lv_iload hx hb dX4_growOlder_63 (lv_at hl 3 rfl) ?_
        refine lv_isub hx hb dX4_growOlder_65 ?_
        have hE := Option.some.inj hf
        obtain ⟨e0, hE⟩ := qf_pr hE
        exact qw_ireti S0 hr hlocks hQ e0 (by rw [hE]) V dX4_growOlder_66
      · replace hf := qf_f c_33 hf
        refine lv_aload_n hx hb dX4_growOlder_36 rfl (lv_at hl 0 rfl) ?_
        refine lv_iload_n hx hb dX4_growOlder_37 rfl (lv_at hl 1 rfl) ?_
        refine lv_iload hx hb dX4_growOlder_38 (lv_at hl 4 rfl) ?_
        refine lv_iadd hx hb dX4_growOlder_40 ?_
        refine lv_aload_n hx hb dX4_growOlder_41 rfl (lv_at hl 0 rfl) ?_
        refine lv_iload_n hx hb dX4_growOlder_42 rfl (lv_at hl 1 rfl) ?_
        refine lv_iload hx hb dX4_growOlder_43 (lv_at hl 4 rfl) ?_
        refine lv_iadd hx hb dX4_growOlder_45 ?_
        refine lv_iconst (v := 1) hx hb dX4_growOlder_46 (by decide) ?_
        refine lv_iadd hx hb dX4_growOlder_47 ?_
        have h_48 := qf_ld_in hf
        refine qw_ild S0 V q0 (qw_gq ha0) h_48 dX4_growOlder_48 ?_
        refine lv_topi (fun x10 e_x10 => ?_)
        replace hf := qf_ld_e e_x10 hf
        have h_49 := qf_st_in hf
        replace hf := qf_st_e hf
        refine qw_istq S0 V q0 ha0 h_49 dX4_growOlder_49 (fun H locs A11 e_A11 V => ?_)
        replace hf := qf_let_e e_A11 hf
        obtain ⟨x13, e_x13⟩ : ∃ y : Int32, y = y5 + (1 : Int32) := ⟨_, rfl⟩
        refine lv_iinc (v := x13) (lv' := [(5, .int x13), (0, .ref a0), (1, .int y1), (3, .int y3), (4, .int y4)]) hx hb dX4_growOlder_50 hl (k := 4) rfl (by rw [e_x13]; rfl) (by decide) rfl (fun ls hl => ?_)
        replace hf := qf_let_e e_x13 hf
        refine lv_goto (tgt := 30) hx hb dX4_growOlder_53 (by decide) ?_
        exact ih hf V (lv_sub hl [1, 2, 3, 4, 0] rfl)
  unfold f_X4_growOlder at hf
  refine lv_aload_n hx hb dX4_growOlder_0 rfl (lv_at hl 0 rfl) ?_
  refine lv_iload_n hx hb dX4_growOlder_1 rfl (lv_at hl 1 rfl) ?_
  have h_2 := qf_ld_in hf
  refine qw_ild S0 V q0 (qw_gq ha0) h_2 dX4_growOlder_2 ?_
  refine lv_topi (fun x1 e_x1 => ?_)
  replace hf := qf_ld_e e_x1 hf
  refine lv_aload_n hx hb dX4_growOlder_3 rfl (lv_at hl 0 rfl) ?_
  refine lv_iload_n hx hb dX4_growOlder_4 rfl (lv_at hl 1 rfl) ?_
  refine lv_iconst (v := 1) hx hb dX4_growOlder_5 (by decide) ?_
  refine lv_iadd hx hb dX4_growOlder_6 ?_
  have h_7 := qf_ld_in hf
  refine qw_ild S0 V q0 (qw_gq ha0) h_7 dX4_growOlder_7 ?_
  refine lv_topi (fun x2 e_x2 => ?_)
  replace hf := qf_ld_e e_x2 hf
  refine lv_iadd hx hb dX4_growOlder_8 ?_
  refine lv_topi (fun x3 e_x3 => ?_)
  replace hf := qf_let_e e_x3 hf
  refine lv_istore_n (lv' := [(3, .int x3), (0, .ref a0), (1, .int p1), (2, .int p2)]) hx hb dX4_growOlder_9 rfl hl (by decide) rfl (fun ls hl => ?_)
  refine lv_aload_n hx hb dX4_growOlder_10 rfl (lv_at hl 1 rfl) ?_
  refine lv_iload_n hx hb dX4_growOlder_11 rfl (lv_at hl 2 rfl) ?_
  refine lv_iconst (v := 1) hx hb dX4_growOlder_12 (by decide) ?_
  refine lv_iadd hx hb dX4_growOlder_13 ?_
  have h_14 := qf_ld_in hf
  refine qw_ild S0 V q0 (qw_gq ha0) h_14 dX4_growOlder_14 ?_
  refine lv_topi (fun x4 e_x4 => ?_)
  replace hf := qf_ld_e e_x4 hf
  refine lv_iload_n hx hb dX4_growOlder_15 rfl (lv_at hl 3 rfl) ?_
  refine lv_imul hx hb dX4_growOlder_16 ?_
  refine lv_bipush (v := 100) hx hb dX4_growOlder_17 (by decide) ?_
  refine lv_idiv hx hb dX4_growOlder_19 (by decide) ?_
  refine lv_topi (fun x5 e_x5 => ?_)
  replace hf := qf_let_e e_x5 hf
  refine lv_istore (lv' := [(4, .int x5), (3, .int x3), (0, .ref a0), (1, .int p1), (2, .int p2)]) hx hb dX4_growOlder_20 hl (by decide) rfl (fun ls hl => ?_)
  refine lv_aload_n hx hb dX4_growOlder_22 rfl (lv_at hl 2 rfl) ?_
  refine lv_iload_n hx hb dX4_growOlder_23 rfl (lv_at hl 3 rfl) ?_
  refine lv_iload hx hb dX4_growOlder_24 (lv_at hl 0 rfl) ?_
  have h_26 := qf_st_in hf
  replace hf := qf_st_e hf
  refine qw_istq S0 V q0 ha0 h_26 dX4_growOlder_26 (fun H locs A6 e_A6 V => ?_)
  replace hf := qf_let_e e_A6 hf
  refine lv_iconst (v := 1) hx hb dX4_growOlder_27 (by decide) ?_
  refine lv_istore (lv' := [(5, .int (1 : Int32)), (4, .int x5), (3, .int x3), (0, .ref a0), (1, .int p1), (2, .int p2)]) hx hb dX4_growOlder_28 hl (by decide) rfl (fun ls hl => ?_)
  exact L_30 hf V (lv_sub hl [3, 4, 2, 1, 0] rfl)
theorem kd_X7_stepAhead : yX7_stepAhead.cls = RX7 ∧ yX7_stepAhead.cls ≠ "java/lang/invoke/MethodHandle" ∧ yX7_stepAhead.cls ≠ "java/lang/invoke/VarHandle" ∧ (parseMethodDescriptor yX7_stepAhead.desc).map (fun d => d.parameters.length) = some 2 := by decide +kernel
def f_X7_stepAhead (A : Nat → Nat → Int32) (p1 : Int32) (p2 : Int32) : Option (Int32 × (Nat → Nat → Int32)) :=
  qf_ld 4 (A 16) p2 fun x1 =>
  qf_bd2 (f_X4_growOlder 5 (A 1) (0 : Int32) x1) fun r2 f3 =>
  qf_let (qf_up A 1 f3) fun A4 =>
  qf_ld 4 (A4 15) p2 fun x5 =>
  qf_ld 5 (A4 1) x5 fun x6 =>
  qf_bd (f_X7_shareOf A4 p1 p2) fun r7 =>
  qf_st 5 x5 fun i9 =>
  qf_let (qf_up A4 1 (upd (A4 1) i9 (x6 + r7))) fun A8 =>
  some (r2, A8)
abbrev wz_X7_stepAhead : List Cond := Cond.code yX7_stepAhead cX7_stepAhead 4 (some .int) :: qw_big
def rm_X7_stepAhead : Room := { frames := 1, cells := 0, slots := 0, locals := 25 }
set_option maxHeartbeats 4000000 in
set_option maxRecDepth 100000 in
theorem c_X7_stepAhead (l : Launch) {D : va_G} {cy : Nat → ClassId} {ad : Nat → Nat} {I : Nat → Int32} {A : Nat → Nat → Int32} {G : Nat → Int32 × (Nat → Nat → Int32)} {T : Nat} {p1 : Int32} {p2 : Int32} {rv : Int32} {A9 : Nat → Nat → Int32} {sz : Nat} (hf : f_X7_stepAhead A p1 p2 = some (rv, A9)) : Met l yX7_stepAhead wz_X7_stepAhead rm_X7_stepAhead (va_Pc [.ref (ad 0), .int p1, .int p2] (qw_Pre D cy (Wo cy ad I A G T) sz)) (qw_Q (some (.int rv)) D (Wo cy ad I A9 G T) (va_A (Wo cy ad I A G T) sz)) 0 0 (va_A (Wo cy ad I A G T) sz) := by
  refine qw_of (cc := cX7_stepAhead) (maxL := 4) (ret := (some .int)) (by decide) (Nat.le_of_ble_eq_true rfl) ?_
  intro p e s m args below meth c ls S0 hr hlocks hsz V hl
  have S0 : CallFix p m c cX7_stepAhead 4 s args qw_big RX7 := S0
  have hx := S0.1; have hb := S0.2.1; have hown := S0.2.2.2.1; have hts := S0.2.2.2.2
  have hl : lv_has ls 4 [(0, .ref (ad 0)), (1, .int p1), (2, .int p2)] := hl
  generalize va_A (Wo cy ad I A G T) sz = Z9 at V ⊢
  obtain ⟨Q9, hQ⟩ : ∃ q, q = MQ below (qw_Q (some (.int rv)) D (Wo cy ad I A9 G T) Z9) args s 0 0 Z9 := ⟨_, rfl⟩
  rw [← hQ]
  clear hsz
  unfold f_X7_stepAhead at hf
  refine lv_aload_n hx hb dX7_stepAhead_0 rfl (lv_at hl 0 rfl) ?_
  refine gfO_0_4 S0 V kl_X7_34 dX7_stepAhead_1 ?_
  refine lv_iconst (v := 0) hx hb dX7_stepAhead_4 (by decide) ?_
  refine lv_aload_n hx hb dX7_stepAhead_5 rfl (lv_at hl 0 rfl) ?_
  refine gfO_0_5 S0 V kl_X7_40 dX7_stepAhead_6 ?_
  refine gfO_19_9 S0 V kl_X7_129 dX7_stepAhead_9 ?_
  refine lv_iload_n hx hb dX7_stepAhead_12 rfl (lv_at hl 2 rfl) ?_
  have h_13 := qf_ld_in hf
  refine alO_25 S0 V h_13 dX7_stepAhead_13 ?_
  refine lv_topi (fun x1 e_x1 => ?_)
  replace hf := qf_ld_e e_x1 hf
  obtain ⟨r2, f3, hc_14, hf⟩ := qf_bd2_e hf
  obtain ⟨A4, e_A4⟩ : ∃ y : Nat → Nat → Int32, y = qf_up A 1 f3 := ⟨_, rfl⟩
  replace hf := qf_let_e e_A4 hf
  refine qw_cS (rest := []) (st1 := [.int r2]) S0 V hl (c_X4_growOlder l (hs := (sO_2 e_A4)) (q0 := 2) gO_2 hc_14) kg_X7_326 rfl ⟨rfl, rfl⟩ kd_X4_growOlder ⟨Nat.le_of_ble_eq_true rfl, Nat.le_of_ble_eq_true rfl⟩ rfl rfl (Nat.le_of_ble_eq_true rfl) ⟨Nat.zero_le _, Nat.zero_le _⟩ rfl dX7_stepAhead_14 (fun H locs V => ?_)
  refine lv_istore_n (lv' := [(3, .int r2), (0, .ref (ad 0)), (1, .int p1), (2, .int p2)]) hx hb dX7_stepAhead_17 rfl hl (by decide) rfl (fun ls hl => ?_)
  refine lv_aload_n hx hb dX7_stepAhead_18 rfl (lv_at hl 1 rfl) ?_
  refine gfO_0_4 S0 V kl_X7_34 dX7_stepAhead_19 ?_
  refine lv_aload_n hx hb dX7_stepAhead_22 rfl (lv_at hl 1 rfl) ?_
  refine gfO_0_5 S0 V kl_X7_40 dX7_stepAhead_23 ?_
  refine gfO_19_8 S0 V kl_X7_126 dX7_stepAhead_26 ?_
  refine lv_iload_n hx hb dX7_stepAhead_29 rfl (lv_at hl 3 rfl) ?_
  have h_30 := qf_ld_in hf
  refine alO_24 S0 V h_30 dX7_stepAhead_30 ?_
  refine lv_topi (fun x5 e_x5 => ?_)
  replace hf := qf_ld_e e_x5 hf
  refine lv_dup2_11 hx hb dX7_stepAhead_31 rfl rfl ?_
  have h_32 := qf_ld_in hf
  refine alO_2 S0 V h_32 dX7_stepAhead_32 ?_
  refine lv_topi (fun x6 e_x6 => ?_)
  replace hf := qf_ld_e e_x6 hf
  refine lv_aload_n hx hb dX7_stepAhead_33 rfl (lv_at hl 1 rfl) ?_
  refine lv_iload_n hx hb dX7_stepAhead_34 rfl (lv_at hl 2 rfl) ?_
  refine lv_iload_n hx hb dX7_stepAhead_35 rfl (lv_at hl 3 rfl) ?_
  obtain ⟨r7, hc_36, hf⟩ := qf_bd_e hf
  refine qw_cVR (rest := [.int x6, .int x5, .ref (ad 2)]) (st1 := [.int r7, .int x6, .int x5, .ref (ad 2)]) S0 V hl 0 gO_0 rfl (c_X7_shareOf l hc_36) kg_X7_329 rfl ⟨rfl, rfl⟩ kd_X7_shareOf ⟨Nat.le_of_ble_eq_true rfl, Nat.le_of_ble_eq_true rfl⟩ rfl rfl (Nat.le_of_ble_eq_true rfl) ⟨Nat.zero_le _, Nat.zero_le _⟩ rfl dX7_stepAhead_36 ?_
  refine lv_iadd hx hb dX7_stepAhead_39 ?_
  have h_40 := qf_st_in hf
  replace hf := qf_st_e hf
  refine asO_2 S0 V h_40 dX7_stepAhead_40 (fun H locs A8 e_A8 V => ?_)
  replace hf := qf_let_e e_A8 hf
  refine lv_iload_n hx hb dX7_stepAhead_41 rfl (lv_at hl 0 rfl) ?_
  have hE := Option.some.inj hf
  obtain ⟨e0, hE⟩ := qf_pr hE
  exact qw_ireti S0 hr hlocks hQ e0 (by rw [hE]) V dX7_stepAhead_42
theorem kd_X7_lapsing : yX7_lapsing.cls = RX7 ∧ yX7_lapsing.cls ≠ "java/lang/invoke/MethodHandle" ∧ yX7_lapsing.cls ≠ "java/lang/invoke/VarHandle" ∧ (parseMethodDescriptor yX7_lapsing.desc).map (fun d => d.parameters.length) = some 2 := by decide +kernel
def f_X7_lapsing_j21 (I : Nat → Int32) (A : Nat → Nat → Int32)  (y1 : Int32) (y2 : Int32) (s0 : Int32) : Option (Option (Int32 × (Nat → Nat → Int32))) :=
  if s0 = 0 then some none else
  qf_bd (f_X7_startAhead A y1 y2) fun A3 =>
  qf_bd2 (f_X7_stepAhead A3 y1 y2) fun r4 A5 =>
  some (some (r4, A5))
def f_X7_lapsing_j20 (I : Nat → Int32) (A : Nat → Nat → Int32)  (y1 : Int32) (y2 : Int32) : Option (Option (Int32 × (Nat → Nat → Int32))) :=
  f_X7_lapsing_j21 I A y1 y2 (0 : Int32)
def f_X7_lapsing (I : Nat → Int32) (A : Nat → Nat → Int32) (p1 : Int32) (p2 : Int32) : Option (Option (Int32 × (Nat → Nat → Int32))) :=
  qf_bd (f_X7_isHouse I p1) fun r1 =>
  if r1 = 0 then (f_X7_lapsing_j20 I A p1 p2) else (qf_bd (f_X7_isGroup I p2) fun r2 =>
    if r2 = 0 then (f_X7_lapsing_j20 I A p1 p2) else (f_X7_lapsing_j21 I A p1 p2 (1 : Int32)))
abbrev wz_X7_lapsing : List Cond := Cond.code yX7_lapsing cX7_lapsing 3 (some .int) :: qw_big
def rm_X7_lapsing : Room := { frames := 7, cells := 1, slots := 6, locals := 102 }
set_option maxHeartbeats 4000000 in
set_option maxRecDepth 100000 in
theorem c_X7_lapsing (l : Launch) (hst : l.stackTraces = false) {D : va_G} {cy : Nat → ClassId} {ad : Nat → Nat} {I : Nat → Int32} {A : Nat → Nat → Int32} {G : Nat → Int32 × (Nat → Nat → Int32)} {T : Nat} {p1 : Int32} {p2 : Int32} {ro : (Option (Int32 × (Nat → Nat → Int32)))} {sz : Nat} (hf : f_X7_lapsing I A p1 p2 = some ro) : vx_Met l yX7_lapsing wz_X7_lapsing rm_X7_lapsing (va_Pc [.ref (ad 0), .int p1, .int p2] (qw_Pre D cy (Wo cy ad I A G T) sz)) (qx_Q ro (fun v9 => some (.int v9.1)) (fun v9 => (Wo cy ad I v9.2 G T)) D (va_A (Wo cy ad I A G T) sz)) (qx_X ro D (Wo cy ad I A G T) (va_A (Wo cy ad I A G T) sz)) 1 6 (va_A (Wo cy ad I A G T) sz) := by
  refine qx_of (cc := cX7_lapsing) (maxL := 3) (ret := (some .int)) (by decide) (Nat.le_of_ble_eq_true rfl) ?_
  intro p e s m args below meth c ls S0 hr hlocks htab hsz V hl
  have S0 : CallFix p m c cX7_lapsing 3 s args qw_big RX7 := S0
  have hx := S0.1; have hb := S0.2.1; have hown := S0.2.2.2.1; have hts := S0.2.2.2.2
  have hl : lv_has ls 3 [(0, .ref (ad 0)), (1, .int p1), (2, .int p2)] := hl
  generalize va_A (Wo cy ad I A G T) sz = Z9 at V ⊢
  obtain ⟨Q9, hQ⟩ : ∃ q, q = vx_MQ below (qx_Q ro (fun v9 => some (.int v9.1)) (fun v9 => (Wo cy ad I v9.2 G T)) D Z9) (qx_X ro D (Wo cy ad I A G T) Z9) args s 1 6 Z9 := ⟨_, rfl⟩
  rw [← hQ]
  clear hsz
  have J_21 : ∀   {y1 : Int32} {y2 : Int32} {s0 : Int32} {H : Heap} {locs : List Loc} {ls : Array Slot}, f_X7_lapsing_j21 I A y1 y2 s0 = some ro → qw_V D cy Z9 s (Wo cy ad I A G T) H locs → lv_has ls 3 [(0, .ref (ad 0)), (1, .int y1), (2, .int y2)] → W p l e rm_X7_lapsing s m args below meth c H locs 0 0 Q9 (F0 m 21 ls [.int s0]) := by
    intro y1 y2 s0 H locs ls hf V hl
    unfold f_X7_lapsing_j21 at hf
    by_cases c_21 : s0 = 0
    · exact qx_thr (rest := []) hst hQ S0 V hl c_21 kg_X7_119 ⟨by decide, by decide⟩ (Nat.le_of_ble_eq_true rfl) ⟨by decide, by decide⟩ dX7_lapsing_21 (by decide) (by decide) hlocks htab (fun t9 h9 h8 => ⟨rfl, (Option.some.inj (qf_t c_21 hf)).symm, h9, h8⟩)
    replace hf := qf_f c_21 hf
    refine qw_cSR (rest := []) (st1 := []) S0 V hl (c_X7_need l c_21) kg_X7_119 rfl ⟨rfl, rfl⟩ kd_X7_need ⟨by decide, by decide⟩ rfl rfl (Nat.le_of_ble_eq_true rfl) ⟨Nat.zero_le _, Nat.zero_le _⟩ rfl dX7_lapsing_21 ?_
    refine lv_aload_n hx hb dX7_lapsing_24 rfl (lv_at hl 0 rfl) ?_
    refine lv_iload_n hx hb dX7_lapsing_25 rfl (lv_at hl 1 rfl) ?_
    refine lv_iload_n hx hb dX7_lapsing_26 rfl (lv_at hl 2 rfl) ?_
    obtain ⟨A3, hc_27, hf⟩ := qf_bd_e hf
    refine qw_cV (rest := []) (st1 := []) S0 V hl 0 gO_0 rfl (c_X7_startAhead l hc_27) kg_X7_172 rfl ⟨rfl, rfl⟩ kd_X7_startAhead ⟨Nat.le_of_ble_eq_true rfl, Nat.le_of_ble_eq_true rfl⟩ rfl rfl (Nat.le_of_ble_eq_true rfl) ⟨Nat.zero_le _, Nat.zero_le _⟩ rfl dX7_lapsing_27 (fun H locs V => ?_)
    refine lv_aload_n hx hb dX7_lapsing_30 rfl (lv_at hl 0 rfl) ?_
    refine lv_iload_n hx hb dX7_lapsing_31 rfl (lv_at hl 1 rfl) ?_
    refine lv_iload_n hx hb dX7_lapsing_32 rfl (lv_at hl 2 rfl) ?_
    obtain ⟨r4, A5, hc_33, hf⟩ := qf_bd2_e hf
    refine qw_cV (rest := []) (st1 := [.int r4]) S0 V hl 0 gO_0 rfl (c_X7_stepAhead l hc_33) kg_X7_176 rfl ⟨rfl, rfl⟩ kd_X7_stepAhead ⟨Nat.le_of_ble_eq_true rfl, Nat.le_of_ble_eq_true rfl⟩ rfl rfl (Nat.le_of_ble_eq_true rfl) ⟨Nat.zero_le _, Nat.zero_le _⟩ rfl dX7_lapsing_33 (fun H locs V => ?_)
    have hE := Option.some.inj hf
    exact qx_ireti hQ S0 hr hlocks hE rfl rfl V dX7_lapsing_36
  have J_20 : ∀   {y1 : Int32} {y2 : Int32} {H : Heap} {locs : List Loc} {ls : Array Slot}, f_X7_lapsing_j20 I A y1 y2 = some ro → qw_V D cy Z9 s (Wo cy ad I A G T) H locs → lv_has ls 3 [(0, .ref (ad 0)), (1, .int y1), (2, .int y2)] → W p l e rm_X7_lapsing s m args below meth c H locs 0 0 Q9 (F0 m 20 ls []) := by
    intro y1 y2 H locs ls hf V hl
    unfold f_X7_lapsing_j20 at hf
    refine lv_iconst (v := 0) hx hb dX7_lapsing_20 (by decide) ?_
    exact J_21 hf V (lv_sub hl [0, 1, 2] rfl)
  unfold f_X7_lapsing at hf
  refine lv_aload_n hx hb dX7_lapsing_0 rfl (lv_at hl 0 rfl) ?_
  refine lv_iload_n hx hb dX7_lapsing_1 rfl (lv_at hl 1 rfl) ?_
  obtain ⟨r1, hc_2, hf⟩ := qf_bd_e hf
  refine qw_cVR (rest := []) (st1 := [.int r1]) S0 V hl 0 gO_0 rfl (c_X7_isHouse l hc_2) kg_X7_150 rfl ⟨rfl, rfl⟩ kd_X7_isHouse ⟨Nat.le_of_ble_eq_true rfl, Nat.le_of_ble_eq_true rfl⟩ rfl rfl (Nat.le_of_ble_eq_true rfl) ⟨Nat.zero_le _, Nat.zero_le _⟩ rfl dX7_lapsing_2 ?_
  refine lv_if_eq (tgt := 20) hx hb dX7_lapsing_5 (by decide) (fun c_5 => ?_) (fun c_5 => ?_)
  · replace hf := qf_t c_5 hf
    exact J_20 hf V (lv_sub hl [0, 1, 2] rfl)
  · replace hf := qf_f c_5 hf
    refine lv_aload_n hx hb dX7_lapsing_8 rfl (lv_at hl 0 rfl) ?_
    refine lv_iload_n hx hb dX7_lapsing_9 rfl (lv_at hl 2 rfl) ?_
    obtain ⟨r2, hc_10, hf⟩ := qf_bd_e hf
    refine qw_cVR (rest := []) (st1 := [.int r2]) S0 V hl 0 gO_0 rfl (c_X7_isGroup l hc_10) kg_X7_115 rfl ⟨rfl, rfl⟩ kd_X7_isGroup ⟨Nat.le_of_ble_eq_true rfl, Nat.le_of_ble_eq_true rfl⟩ rfl rfl (Nat.le_of_ble_eq_true rfl) ⟨Nat.zero_le _, Nat.zero_le _⟩ rfl dX7_lapsing_10 ?_
    refine lv_if_eq (tgt := 20) hx hb dX7_lapsing_13 (by decide) (fun c_13 => ?_) (fun c_13 => ?_)
    · replace hf := qf_t c_13 hf
      exact J_20 hf V (lv_sub hl [0, 1, 2] rfl)
    · replace hf := qf_f c_13 hf
      refine lv_iconst (v := 1) hx hb dX7_lapsing_16 (by decide) ?_
      refine lv_goto (tgt := 21) hx hb dX7_lapsing_17 (by decide) ?_
      exact J_21 hf V (lv_sub hl [0, 1, 2] rfl)
theorem kd_X7_couponsAfter : yX7_couponsAfter.cls = RX7 ∧ yX7_couponsAfter.cls ≠ "java/lang/invoke/MethodHandle" ∧ yX7_couponsAfter.cls ≠ "java/lang/invoke/VarHandle" ∧ (parseMethodDescriptor yX7_couponsAfter.desc).map (fun d => d.parameters.length) = some 3 := by decide +kernel
def f_X7_couponsAfter_l46 (I : Nat → Int32)  (y1 : Int32) (y2 : Int32) (y3 : Int32) : Nat → (Nat → Nat → Int32) → Int32 → Option (Option (Int32 × (Nat → Nat → Int32)))
  | 0, _, _ => none
  | n + 1, A, y4 =>
  if y3 ≤ y4 then (qf_bd (f_X4_total 5 (A 1) (0 : Int32)) fun r4 =>
    some (some (r4, A))) else (qf_bd2 (f_X7_stepAhead A y1 y2) fun r5 A6 =>
    qf_let (y4 + (1 : Int32)) fun x7 =>
    f_X7_couponsAfter_l46 I y1 y2 y3 n A6 x7)
def f_X7_couponsAfter_j21 (I : Nat → Int32) (A : Nat → Nat → Int32)  (y1 : Int32) (y2 : Int32) (y3 : Int32) (s0 : Int32) : Option (Option (Int32 × (Nat → Nat → Int32))) :=
  if s0 = 0 then some none else
  if y3 < 0 then (some (some ((-2 : Int32), A))) else (if y3 ≤ (50 : Int32) then (qf_bd (f_X7_startAhead A y1 y2) fun A3 =>
      f_X7_couponsAfter_l46 I y1 y2 y3 100000 A3 (0 : Int32)) else (some (some ((-2 : Int32), A))))
def f_X7_couponsAfter_j20 (I : Nat → Int32) (A : Nat → Nat → Int32)  (y1 : Int32) (y2 : Int32) (y3 : Int32) : Option (Option (Int32 × (Nat → Nat → Int32))) :=
  f_X7_couponsAfter_j21 I A y1 y2 y3 (0 : Int32)
def f_X7_couponsAfter (I : Nat → Int32) (A : Nat → Nat → Int32) (p1 : Int32) (p2 : Int32) (p3 : Int32) : Option (Option (Int32 × (Nat → Nat → Int32))) :=
  qf_bd (f_X7_isHouse I p1) fun r1 =>
  if r1 = 0 then (f_X7_couponsAfter_j20 I A p1 p2 p3) else (qf_bd (f_X7_isGroup I p2) fun r2 =>
    if r2 = 0 then (f_X7_couponsAfter_j20 I A p1 p2 p3) else (f_X7_couponsAfter_j21 I A p1 p2 p3 (1 : Int32)))
abbrev wz_X7_couponsAfter : List Cond := Cond.code yX7_couponsAfter cX7_couponsAfter 5 (some .int) :: qw_big
def rm_X7_couponsAfter : Room := { frames := 7, cells := 1, slots := 6, locals := 102 }
set_option maxHeartbeats 4000000 in
set_option maxRecDepth 100000 in
theorem c_X7_couponsAfter (l : Launch) (hst : l.stackTraces = false) {D : va_G} {cy : Nat → ClassId} {ad : Nat → Nat} {I : Nat → Int32} {A : Nat → Nat → Int32} {G : Nat → Int32 × (Nat → Nat → Int32)} {T : Nat} {p1 : Int32} {p2 : Int32} {p3 : Int32} {ro : (Option (Int32 × (Nat → Nat → Int32)))} {sz : Nat} (hf : f_X7_couponsAfter I A p1 p2 p3 = some ro) : vx_Met l yX7_couponsAfter wz_X7_couponsAfter rm_X7_couponsAfter (va_Pc [.ref (ad 0), .int p1, .int p2, .int p3] (qw_Pre D cy (Wo cy ad I A G T) sz)) (qx_Q ro (fun v9 => some (.int v9.1)) (fun v9 => (Wo cy ad I v9.2 G T)) D (va_A (Wo cy ad I A G T) sz)) (qx_X ro D (Wo cy ad I A G T) (va_A (Wo cy ad I A G T) sz)) 1 6 (va_A (Wo cy ad I A G T) sz) := by
  refine qx_of (cc := cX7_couponsAfter) (maxL := 5) (ret := (some .int)) (by decide) (Nat.le_of_ble_eq_true rfl) ?_
  intro p e s m args below meth c ls S0 hr hlocks htab hsz V hl
  have S0 : CallFix p m c cX7_couponsAfter 5 s args qw_big RX7 := S0
  have hx := S0.1; have hb := S0.2.1; have hown := S0.2.2.2.1; have hts := S0.2.2.2.2
  have hl : lv_has ls 5 [(0, .ref (ad 0)), (1, .int p1), (2, .int p2), (3, .int p3)] := hl
  generalize va_A (Wo cy ad I A G T) sz = Z9 at V ⊢
  obtain ⟨Q9, hQ⟩ : ∃ q, q = vx_MQ below (qx_Q ro (fun v9 => some (.int v9.1)) (fun v9 => (Wo cy ad I v9.2 G T)) D Z9) (qx_X ro D (Wo cy ad I A G T) Z9) args s 1 6 Z9 := ⟨_, rfl⟩
  rw [← hQ]
  clear hsz
  have L_46 : ∀  {y1 : Int32} {y2 : Int32} {y3 : Int32} {n : Nat} {A : Nat → Nat → Int32} {y4 : Int32} {H : Heap} {locs : List Loc} {ls : Array Slot}, f_X7_couponsAfter_l46 I y1 y2 y3 n A y4 = some ro → qw_V D cy Z9 s (Wo cy ad I A G T) H locs → lv_has ls 5 [(0, .ref (ad 0)), (1, .int y1), (2, .int y2), (3, .int y3), (4, .int y4)] → W p l e rm_X7_couponsAfter s m args below meth c H locs 0 0 Q9 (F0 m 46 ls []) := by
    intro y1 y2 y3 n
    induction n with
    | zero => intro A y4 H locs ls hf V hl; exact qf_no hf
    | succ n ih =>
      intro A y4 H locs ls hf V hl
      rw [f_X7_couponsAfter_l46] at hf
      refine lv_iload hx hb dX7_couponsAfter_46 (lv_at hl 4 rfl) ?_
      refine lv_iload_n hx hb dX7_couponsAfter_48 rfl (lv_at hl 3 rfl) ?_
      refine lv_icmp_ge (tgt := 65) hx hb dX7_couponsAfter_49 (by decide) (fun c_49 => ?_) (fun c_49 => ?_)
      · replace hf := qf_t c_49 hf
        refine lv_aload_n hx hb dX7_couponsAfter_65 rfl (lv_at hl 0 rfl) ?_
        refine gfO_0_4 S0 V kl_X7_34 dX7_couponsAfter_66 ?_
        refine lv_iconst (v := 0) hx hb dX7_couponsAfter_69 (by decide) ?_
        obtain ⟨r4, hc_70, hf⟩ := qf_bd_e hf
        refine qw_cSR (rest := []) (st1 := [.int r4]) S0 V hl (c_X4_total l (q0 := 2) gO_2 hc_70) kg_X7_179 rfl ⟨rfl, rfl⟩ kd_X4_total ⟨Nat.le_of_ble_eq_true rfl, Nat.le_of_ble_eq_true rfl⟩ rfl rfl (Nat.le_of_ble_eq_true rfl) ⟨Nat.zero_le _, Nat.zero_le _⟩ rfl dX7_couponsAfter_70 ?_
        have hE := Option.some.inj hf
        exact qx_ireti hQ S0 hr hlocks hE rfl rfl V dX7_couponsAfter_73
      · replace hf := qf_f c_49 hf
        refine lv_aload_n hx hb dX7_couponsAfter_52 rfl (lv_at hl 0 rfl) ?_
        refine lv_iload_n hx hb dX7_couponsAfter_53 rfl (lv_at hl 1 rfl) ?_
        refine lv_iload_n hx hb dX7_couponsAfter_54 rfl (lv_at hl 2 rfl) ?_
        obtain ⟨r5, A6, hc_55, hf⟩ := qf_bd2_e hf
        refine qw_cV (rest := []) (st1 := [.int r5]) S0 V hl 0 gO_0 rfl (c_X7_stepAhead l hc_55) kg_X7_176 rfl ⟨rfl, rfl⟩ kd_X7_stepAhead ⟨Nat.le_of_ble_eq_true rfl, Nat.le_of_ble_eq_true rfl⟩ rfl rfl (Nat.le_of_ble_eq_true rfl) ⟨Nat.zero_le _, Nat.zero_le _⟩ rfl dX7_couponsAfter_55 (fun H locs V => ?_)
        refine lv_pop hx hb dX7_couponsAfter_58 rfl ?_
        obtain ⟨x7, e_x7⟩ : ∃ y : Int32, y = y4 + (1 : Int32) := ⟨_, rfl⟩
        refine lv_iinc (v := x7) (lv' := [(4, .int x7), (0, .ref (ad 0)), (1, .int y1), (2, .int y2), (3, .int y3)]) hx hb dX7_couponsAfter_59 hl (k := 4) rfl (by rw [e_x7]; rfl) (by decide) rfl (fun ls hl => ?_)
        replace hf := qf_let_e e_x7 hf
        refine lv_goto (tgt := 46) hx hb dX7_couponsAfter_62 (by decide) ?_
        exact ih hf V (lv_sub hl [1, 2, 3, 4, 0] rfl)
  have J_21 : ∀   {y1 : Int32} {y2 : Int32} {y3 : Int32} {s0 : Int32} {H : Heap} {locs : List Loc} {ls : Array Slot}, f_X7_couponsAfter_j21 I A y1 y2 y3 s0 = some ro → qw_V D cy Z9 s (Wo cy ad I A G T) H locs → lv_has ls 5 [(0, .ref (ad 0)), (1, .int y1), (2, .int y2), (3, .int y3)] → W p l e rm_X7_couponsAfter s m args below meth c H locs 0 0 Q9 (F0 m 21 ls [.int s0]) := by
    intro y1 y2 y3 s0 H locs ls hf V hl
    unfold f_X7_couponsAfter_j21 at hf
    by_cases c_21 : s0 = 0
    · exact qx_thr (rest := []) hst hQ S0 V hl c_21 kg_X7_119 ⟨by decide, by decide⟩ (Nat.le_of_ble_eq_true rfl) ⟨by decide, by decide⟩ dX7_couponsAfter_21 (by decide) (by decide) hlocks htab (fun t9 h9 h8 => ⟨rfl, (Option.some.inj (qf_t c_21 hf)).symm, h9, h8⟩)
    replace hf := qf_f c_21 hf
    refine qw_cSR (rest := []) (st1 := []) S0 V hl (c_X7_need l c_21) kg_X7_119 rfl ⟨rfl, rfl⟩ kd_X7_need ⟨by decide, by decide⟩ rfl rfl (Nat.le_of_ble_eq_true rfl) ⟨Nat.zero_le _, Nat.zero_le _⟩ rfl dX7_couponsAfter_21 ?_
    refine lv_iload_n hx hb dX7_couponsAfter_24 rfl (lv_at hl 3 rfl) ?_
    refine lv_if_lt (tgt := 34) hx hb dX7_couponsAfter_25 (by decide) (fun c_25 => ?_) (fun c_25 => ?_)
    · replace hf := qf_t c_25 hf
      refine lv_bipush (v := -2) hx hb dX7_couponsAfter_34 (by decide) ?_
      have hE := Option.some.inj hf
      exact qx_ireti hQ S0 hr hlocks hE rfl rfl V dX7_couponsAfter_36
    · replace hf := qf_f c_25 hf
      refine lv_iload_n hx hb dX7_couponsAfter_28 rfl (lv_at hl 3 rfl) ?_
      refine lv_bipush (v := 50) hx hb dX7_couponsAfter_29 (by decide) ?_
      refine lv_icmp_le (tgt := 37) hx hb dX7_couponsAfter_31 (by decide) (fun c_31 => ?_) (fun c_31 => ?_)
      · replace hf := qf_t c_31 hf
        refine lv_aload_n hx hb dX7_couponsAfter_37 rfl (lv_at hl 0 rfl) ?_
        refine lv_iload_n hx hb dX7_couponsAfter_38 rfl (lv_at hl 1 rfl) ?_
        refine lv_iload_n hx hb dX7_couponsAfter_39 rfl (lv_at hl 2 rfl) ?_
        obtain ⟨A3, hc_40, hf⟩ := qf_bd_e hf
        refine qw_cV (rest := []) (st1 := []) S0 V hl 0 gO_0 rfl (c_X7_startAhead l hc_40) kg_X7_172 rfl ⟨rfl, rfl⟩ kd_X7_startAhead ⟨Nat.le_of_ble_eq_true rfl, Nat.le_of_ble_eq_true rfl⟩ rfl rfl (Nat.le_of_ble_eq_true rfl) ⟨Nat.zero_le _, Nat.zero_le _⟩ rfl dX7_couponsAfter_40 (fun H locs V => ?_)
        refine lv_iconst (v := 0) hx hb dX7_couponsAfter_43 (by decide) ?_
        refine lv_istore (lv' := [(4, .int (0 : Int32)), (0, .ref (ad 0)), (1, .int y1), (2, .int y2), (3, .int y3)]) hx hb dX7_couponsAfter_44 hl (by decide) rfl (fun ls hl => ?_)
        exact L_46 hf V (lv_sub hl [1, 2, 3, 4, 0] rfl)
      · replace hf := qf_f c_31 hf
        refine lv_bipush (v := -2) hx hb dX7_couponsAfter_34 (by decide) ?_
        have hE := Option.some.inj hf
        exact qx_ireti hQ S0 hr hlocks hE rfl rfl V dX7_couponsAfter_36
  have J_20 : ∀   {y1 : Int32} {y2 : Int32} {y3 : Int32} {H : Heap} {locs : List Loc} {ls : Array Slot}, f_X7_couponsAfter_j20 I A y1 y2 y3 = some ro → qw_V D cy Z9 s (Wo cy ad I A G T) H locs → lv_has ls 5 [(0, .ref (ad 0)), (1, .int y1), (2, .int y2), (3, .int y3)] → W p l e rm_X7_couponsAfter s m args below meth c H locs 0 0 Q9 (F0 m 20 ls []) := by
    intro y1 y2 y3 H locs ls hf V hl
    unfold f_X7_couponsAfter_j20 at hf
    refine lv_iconst (v := 0) hx hb dX7_couponsAfter_20 (by decide) ?_
    exact J_21 hf V (lv_sub hl [0, 1, 2, 3] rfl)
  unfold f_X7_couponsAfter at hf
  refine lv_aload_n hx hb dX7_couponsAfter_0 rfl (lv_at hl 0 rfl) ?_
  refine lv_iload_n hx hb dX7_couponsAfter_1 rfl (lv_at hl 1 rfl) ?_
  obtain ⟨r1, hc_2, hf⟩ := qf_bd_e hf
  refine qw_cVR (rest := []) (st1 := [.int r1]) S0 V hl 0 gO_0 rfl (c_X7_isHouse l hc_2) kg_X7_150 rfl ⟨rfl, rfl⟩ kd_X7_isHouse ⟨Nat.le_of_ble_eq_true rfl, Nat.le_of_ble_eq_true rfl⟩ rfl rfl (Nat.le_of_ble_eq_true rfl) ⟨Nat.zero_le _, Nat.zero_le _⟩ rfl dX7_couponsAfter_2 ?_
  refine lv_if_eq (tgt := 20) hx hb dX7_couponsAfter_5 (by decide) (fun c_5 => ?_) (fun c_5 => ?_)
  · replace hf := qf_t c_5 hf
    exact J_20 hf V (lv_sub hl [0, 1, 2, 3] rfl)
  · replace hf := qf_f c_5 hf
    refine lv_aload_n hx hb dX7_couponsAfter_8 rfl (lv_at hl 0 rfl) ?_
    refine lv_iload_n hx hb dX7_couponsAfter_9 rfl (lv_at hl 2 rfl) ?_
    obtain ⟨r2, hc_10, hf⟩ := qf_bd_e hf
    refine qw_cVR (rest := []) (st1 := [.int r2]) S0 V hl 0 gO_0 rfl (c_X7_isGroup l hc_10) kg_X7_115 rfl ⟨rfl, rfl⟩ kd_X7_isGroup ⟨Nat.le_of_ble_eq_true rfl, Nat.le_of_ble_eq_true rfl⟩ rfl rfl (Nat.le_of_ble_eq_true rfl) ⟨Nat.zero_le _, Nat.zero_le _⟩ rfl dX7_couponsAfter_10 ?_
    refine lv_if_eq (tgt := 20) hx hb dX7_couponsAfter_13 (by decide) (fun c_13 => ?_) (fun c_13 => ?_)
    · replace hf := qf_t c_13 hf
      exact J_20 hf V (lv_sub hl [0, 1, 2, 3] rfl)
    · replace hf := qf_f c_13 hf
      refine lv_iconst (v := 1) hx hb dX7_couponsAfter_16 (by decide) ?_
      refine lv_goto (tgt := 21) hx hb dX7_couponsAfter_17 (by decide) ?_
      exact J_21 hf V (lv_sub hl [0, 1, 2, 3] rfl)
theorem kd_X7_isNeedier : yX7_isNeedier.cls = RX7 ∧ yX7_isNeedier.cls ≠ "java/lang/invoke/MethodHandle" ∧ yX7_isNeedier.cls ≠ "java/lang/invoke/VarHandle" ∧ (parseMethodDescriptor yX7_isNeedier.desc).map (fun d => d.parameters.length) = some 3 := by decide +kernel
def f_X7_isNeedier (A : Nat → Nat → Int32) (p1 : Int32) (p2 : Int32) (p3 : Int32) : Option (Int32) :=
  qf_bd (f_X7_holding A p1 p3) fun r1 =>
  qf_ld 6 (A 34) p2 fun x2 =>
  qf_bd (f_X7_holding A p2 p3) fun r3 =>
  qf_ld 6 (A 34) p1 fun x4 =>
  if (r3 * x4) ≤ (r1 * x2) then (some ((0 : Int32))) else (some ((1 : Int32)))
abbrev wz_X7_isNeedier : List Cond := Cond.code yX7_isNeedier cX7_isNeedier 4 (some .boolean) :: qw_big
def rm_X7_isNeedier : Room := { frames := 2, cells := 0, slots := 0, locals := 45 }
set_option maxHeartbeats 4000000 in
set_option maxRecDepth 100000 in
theorem c_X7_isNeedier (l : Launch) {D : va_G} {cy : Nat → ClassId} {ad : Nat → Nat} {I : Nat → Int32} {A : Nat → Nat → Int32} {G : Nat → Int32 × (Nat → Nat → Int32)} {T : Nat} {p1 : Int32} {p2 : Int32} {p3 : Int32} {rv : Int32} {sz : Nat} (hf : f_X7_isNeedier A p1 p2 p3 = some (rv)) : Met l yX7_isNeedier wz_X7_isNeedier rm_X7_isNeedier (va_Pc [.ref (ad 0), .int p1, .int p2, .int p3] (qw_Pre D cy (Wo cy ad I A G T) sz)) (qw_R (some (.int rv))) 0 0 (fun _ => False) := by
  refine qw_of (cc := cX7_isNeedier) (maxL := 4) (ret := (some .boolean)) (by decide) (Nat.le_of_ble_eq_true rfl) ?_
  intro p e s m args below meth c ls S0 hr hlocks hsz V hl
  have S0 : CallFix p m c cX7_isNeedier 4 s args qw_big RX7 := S0
  have hx := S0.1; have hb := S0.2.1; have hown := S0.2.2.2.1; have hts := S0.2.2.2.2
  have hl : lv_has ls 4 [(0, .ref (ad 0)), (1, .int p1), (2, .int p2), (3, .int p3)] := hl
  obtain ⟨Q9, hQ⟩ : ∃ q, q = MQ below (qw_R (some (.int rv))) args s 0 0 (fun _ => False) := ⟨_, rfl⟩
  rw [← hQ]
  generalize va_A (Wo cy ad I A G T) sz = Z9 at V
  unfold f_X7_isNeedier at hf
  refine lv_aload_n hx hb dX7_isNeedier_0 rfl (lv_at hl 0 rfl) ?_
  refine lv_iload_n hx hb dX7_isNeedier_1 rfl (lv_at hl 1 rfl) ?_
  refine lv_iload_n hx hb dX7_isNeedier_2 rfl (lv_at hl 3 rfl) ?_
  obtain ⟨r1, hc_3, hf⟩ := qf_bd_e hf
  refine qw_cVR (rest := []) (st1 := [.int r1]) S0 V hl 0 gO_0 rfl (c_X7_holding l hc_3) kg_X7_162 rfl ⟨rfl, rfl⟩ kd_X7_holding ⟨Nat.le_of_ble_eq_true rfl, Nat.le_of_ble_eq_true rfl⟩ rfl rfl (Nat.le_of_ble_eq_true rfl) ⟨Nat.zero_le _, Nat.zero_le _⟩ rfl dX7_isNeedier_3 ?_
  refine lv_aload_n hx hb dX7_isNeedier_6 rfl (lv_at hl 0 rfl) ?_
  refine gfO_0_6 S0 V kl_X7_47 dX7_isNeedier_7 ?_
  refine gfO_43_2 S0 V kl_X7_153 dX7_isNeedier_10 ?_
  refine lv_iload_n hx hb dX7_isNeedier_13 rfl (lv_at hl 2 rfl) ?_
  have h_14 := qf_ld_in hf
  refine alO_45 S0 V h_14 dX7_isNeedier_14 ?_
  refine lv_topi (fun x2 e_x2 => ?_)
  replace hf := qf_ld_e e_x2 hf
  refine lv_imul hx hb dX7_isNeedier_15 ?_
  refine lv_aload_n hx hb dX7_isNeedier_16 rfl (lv_at hl 0 rfl) ?_
  refine lv_iload_n hx hb dX7_isNeedier_17 rfl (lv_at hl 2 rfl) ?_
  refine lv_iload_n hx hb dX7_isNeedier_18 rfl (lv_at hl 3 rfl) ?_
  obtain ⟨r3, hc_19, hf⟩ := qf_bd_e hf
  refine qw_cVR (rest := [.int (r1 * x2)]) (st1 := [.int r3, .int (r1 * x2)]) S0 V hl 0 gO_0 rfl (c_X7_holding l hc_19) kg_X7_162 rfl ⟨rfl, rfl⟩ kd_X7_holding ⟨Nat.le_of_ble_eq_true rfl, Nat.le_of_ble_eq_true rfl⟩ rfl rfl (Nat.le_of_ble_eq_true rfl) ⟨Nat.zero_le _, Nat.zero_le _⟩ rfl dX7_isNeedier_19 ?_
  refine lv_aload_n hx hb dX7_isNeedier_22 rfl (lv_at hl 0 rfl) ?_
  refine gfO_0_6 S0 V kl_X7_47 dX7_isNeedier_23 ?_
  refine gfO_43_2 S0 V kl_X7_153 dX7_isNeedier_26 ?_
  refine lv_iload_n hx hb dX7_isNeedier_29 rfl (lv_at hl 1 rfl) ?_
  have h_30 := qf_ld_in hf
  refine alO_45 S0 V h_30 dX7_isNeedier_30 ?_
  refine lv_topi (fun x4 e_x4 => ?_)
  replace hf := qf_ld_e e_x4 hf
  refine lv_imul hx hb dX7_isNeedier_31 ?_
  refine lv_icmp_ge (tgt := 39) hx hb dX7_isNeedier_32 (by decide) (fun c_32 => ?_) (fun c_32 => ?_)
  · replace hf := qf_t c_32 hf
    refine lv_iconst (v := 0) hx hb dX7_isNeedier_39 (by decide) ?_
    have hE := Option.some.inj hf
    exact qw_zretR S0 hr hlocks hQ rfl hE dX7_isNeedier_40
  · replace hf := qf_f c_32 hf
    refine lv_iconst (v := 1) hx hb dX7_isNeedier_35 (by decide) ?_
    refine lv_goto (tgt := 40) hx hb dX7_isNeedier_36 (by decide) ?_
    have hE := Option.some.inj hf
    exact qw_zretR S0 hr hlocks hQ rfl hE dX7_isNeedier_40
theorem kd_X7_neediest : yX7_neediest.cls = RX7 ∧ yX7_neediest.cls ≠ "java/lang/invoke/MethodHandle" ∧ yX7_neediest.cls ≠ "java/lang/invoke/VarHandle" ∧ (parseMethodDescriptor yX7_neediest.desc).map (fun d => d.parameters.length) = some 1 := by decide +kernel
def f_X7_neediest_j39 (I : Nat → Int32) (A : Nat → Nat → Int32) (K12 : Int32 → Int32 → Option (Option (Int32))) (y1 : Int32) (y2 : Int32) (y3 : Int32) : Option (Option (Int32)) :=
  qf_let (y3 + (1 : Int32)) fun x3 =>
  K12 y2 x3
def f_X7_neediest_j37 (I : Nat → Int32) (A : Nat → Nat → Int32) (K12 : Int32 → Int32 → Option (Option (Int32))) (y1 : Int32) (y3 : Int32) : Option (Option (Int32)) :=
  f_X7_neediest_j39 I A K12 y1 y3 y3
def f_X7_neediest_l12 (I : Nat → Int32) (A : Nat → Nat → Int32)  (y1 : Int32) : Nat → Int32 → Int32 → Option (Option (Int32))
  | 0, _, _ => none
  | n + 1, y2, y3 =>
  if (I 14) ≤ y3 then (some (some (y2))) else (if y2 < 0 then (f_X7_neediest_j37 I A (fun z0 z1 => f_X7_neediest_l12 I A y1 n z0 z1) y1 y3) else (qf_bd (f_X7_isNeedier A y3 y2 y1) fun r2 =>
      if r2 = 0 then (f_X7_neediest_j39 I A (fun z0 z1 => f_X7_neediest_l12 I A y1 n z0 z1) y1 y2 y3) else (f_X7_neediest_j37 I A (fun z0 z1 => f_X7_neediest_l12 I A y1 n z0 z1) y1 y3)))
def f_X7_neediest (I : Nat → Int32) (A : Nat → Nat → Int32) (p1 : Int32) : Option (Option (Int32)) :=
  qf_bd (f_X7_isGroup I p1) fun r1 =>
  if r1 = 0 then some none else
  f_X7_neediest_l12 I A p1 100000 (-1 : Int32) (0 : Int32)
abbrev wz_X7_neediest : List Cond := Cond.code yX7_neediest cX7_neediest 4 (some .int) :: qw_big
def rm_X7_neediest : Room := { frames := 7, cells := 1, slots := 6, locals := 102 }
set_option maxHeartbeats 4000000 in
set_option maxRecDepth 100000 in
theorem c_X7_neediest (l : Launch) (hst : l.stackTraces = false) {D : va_G} {cy : Nat → ClassId} {ad : Nat → Nat} {I : Nat → Int32} {A : Nat → Nat → Int32} {G : Nat → Int32 × (Nat → Nat → Int32)} {T : Nat} {p1 : Int32} {ro : (Option (Int32))} {sz : Nat} (hf : f_X7_neediest I A p1 = some ro) : vx_Met l yX7_neediest wz_X7_neediest rm_X7_neediest (va_Pc [.ref (ad 0), .int p1] (qw_Pre D cy (Wo cy ad I A G T) sz)) (qx_Q ro (fun v9 => some (.int v9)) (fun _ => (Wo cy ad I A G T)) D (va_A (Wo cy ad I A G T) sz)) (qx_X ro D (Wo cy ad I A G T) (va_A (Wo cy ad I A G T) sz)) 1 6 (va_A (Wo cy ad I A G T) sz) := by
  refine qx_of (cc := cX7_neediest) (maxL := 4) (ret := (some .int)) (by decide) (Nat.le_of_ble_eq_true rfl) ?_
  intro p e s m args below meth c ls S0 hr hlocks htab hsz V hl
  have S0 : CallFix p m c cX7_neediest 4 s args qw_big RX7 := S0
  have hx := S0.1; have hb := S0.2.1; have hown := S0.2.2.2.1; have hts := S0.2.2.2.2
  have hl : lv_has ls 4 [(0, .ref (ad 0)), (1, .int p1)] := hl
  generalize va_A (Wo cy ad I A G T) sz = Z9 at V ⊢
  obtain ⟨Q9, hQ⟩ : ∃ q, q = vx_MQ below (qx_Q ro (fun v9 => some (.int v9)) (fun _ => (Wo cy ad I A G T)) D Z9) (qx_X ro D (Wo cy ad I A G T) Z9) args s 1 6 Z9 := ⟨_, rfl⟩
  rw [← hQ]
  clear hsz
  have J_39 : ∀ {K12 : Int32 → Int32 → Option (Option (Int32))} {y1 : Int32}  (hK12 : ∀  {y2 : Int32} {y3 : Int32} {H : Heap} {locs : List Loc} {ls : Array Slot}, K12 y2 y3 = some ro → qw_V D cy Z9 s (Wo cy ad I A G T) H locs → lv_has ls 4 [(0, .ref (ad 0)), (1, .int y1), (2, .int y2), (3, .int y3)] → W p l e rm_X7_neediest s m args below meth c H locs 0 0 Q9 (F0 m 12 ls []))  {y2 : Int32} {y3 : Int32} {H : Heap} {locs : List Loc} {ls : Array Slot}, f_X7_neediest_j39 I A K12 y1 y2 y3 = some ro → qw_V D cy Z9 s (Wo cy ad I A G T) H locs → lv_has ls 4 [(0, .ref (ad 0)), (1, .int y1), (2, .int y2), (3, .int y3)] → W p l e rm_X7_neediest s m args below meth c H locs 0 0 Q9 (F0 m 39 ls []) := by
    intro K12 y1 hK12 y2 y3 H locs ls hf V hl
    unfold f_X7_neediest_j39 at hf
    obtain ⟨x3, e_x3⟩ : ∃ y : Int32, y = y3 + (1 : Int32) := ⟨_, rfl⟩
    refine lv_iinc (v := x3) (lv' := [(3, .int x3), (0, .ref (ad 0)), (1, .int y1), (2, .int y2)]) hx hb dX7_neediest_39 hl (k := 3) rfl (by rw [e_x3]; rfl) (by decide) rfl (fun ls hl => ?_)
    replace hf := qf_let_e e_x3 hf
    refine lv_goto (tgt := 12) hx hb dX7_neediest_42 (by decide) ?_
    exact hK12 hf V (lv_sub hl [1, 2, 3, 0] rfl)
  have J_37 : ∀ {K12 : Int32 → Int32 → Option (Option (Int32))} {y1 : Int32}  (hK12 : ∀  {y2 : Int32} {y3 : Int32} {H : Heap} {locs : List Loc} {ls : Array Slot}, K12 y2 y3 = some ro → qw_V D cy Z9 s (Wo cy ad I A G T) H locs → lv_has ls 4 [(0, .ref (ad 0)), (1, .int y1), (2, .int y2), (3, .int y3)] → W p l e rm_X7_neediest s m args below meth c H locs 0 0 Q9 (F0 m 12 ls []))  {y3 : Int32} {H : Heap} {locs : List Loc} {ls : Array Slot}, f_X7_neediest_j37 I A K12 y1 y3 = some ro → qw_V D cy Z9 s (Wo cy ad I A G T) H locs → lv_has ls 4 [(0, .ref (ad 0)), (1, .int y1), (3, .int y3)] → W p l e rm_X7_neediest s m args below meth c H locs 0 0 Q9 (F0 m 37 ls []) := by
    intro K12 y1 hK12 y3 H locs ls hf V hl
    unfold f_X7_neediest_j37 at hf
    refine lv_iload_n hx hb dX7_neediest_37 rfl (lv_at hl 2 rfl) ?_
    refine lv_istore_n (lv' := [(2, .int y3), (0, .ref (ad 0)), (1, .int y1), (3, .int y3)]) hx hb dX7_neediest_38 rfl hl (by decide) rfl (fun ls hl => ?_)
    exact J_39 hK12 hf V (lv_sub hl [1, 2, 0, 3] rfl)
  have L_12 : ∀  {y1 : Int32} {n : Nat}  {y2 : Int32} {y3 : Int32} {H : Heap} {locs : List Loc} {ls : Array Slot}, f_X7_neediest_l12 I A y1 n y2 y3 = some ro → qw_V D cy Z9 s (Wo cy ad I A G T) H locs → lv_has ls 4 [(0, .ref (ad 0)), (1, .int y1), (2, .int y2), (3, .int y3)] → W p l e rm_X7_neediest s m args below meth c H locs 0 0 Q9 (F0 m 12 ls []) := by
    intro y1 n
    induction n with
    | zero => intro y2 y3 H locs ls hf V hl; exact qf_no hf
    | succ n ih =>
      intro y2 y3 H locs ls hf V hl
      rw [f_X7_neediest_l12] at hf
      refine lv_iload_n hx hb dX7_neediest_12 rfl (lv_at hl 3 rfl) ?_
      refine lv_aload_n hx hb dX7_neediest_13 rfl (lv_at hl 0 rfl) ?_
      refine gfO_0_5 S0 V kl_X7_40 dX7_neediest_14 ?_
      refine gfO_19_2 S0 V kl_X7_87 dX7_neediest_17 ?_
      refine lv_icmp_ge (tgt := 45) hx hb dX7_neediest_20 (by decide) (fun c_20 => ?_) (fun c_20 => ?_)
      · replace hf := qf_t c_20 hf
        refine lv_iload_n hx hb dX7_neediest_45 rfl (lv_at hl 2 rfl) ?_
        have hE := Option.some.inj hf
        exact qx_ireti hQ S0 hr hlocks hE rfl rfl V dX7_neediest_46
      · replace hf := qf_f c_20 hf
        refine lv_iload_n hx hb dX7_neediest_23 rfl (lv_at hl 2 rfl) ?_
        refine lv_if_lt (tgt := 37) hx hb dX7_neediest_24 (by decide) (fun c_24 => ?_) (fun c_24 => ?_)
        · replace hf := qf_t c_24 hf
          exact J_37 (fun hf V hl => ih hf V hl) hf V (lv_sub hl [0, 1, 3] rfl)
        · replace hf := qf_f c_24 hf
          refine lv_aload_n hx hb dX7_neediest_27 rfl (lv_at hl 0 rfl) ?_
          refine lv_iload_n hx hb dX7_neediest_28 rfl (lv_at hl 3 rfl) ?_
          refine lv_iload_n hx hb dX7_neediest_29 rfl (lv_at hl 2 rfl) ?_
          refine lv_iload_n hx hb dX7_neediest_30 rfl (lv_at hl 1 rfl) ?_
          obtain ⟨r2, hc_31, hf⟩ := qf_bd_e hf
          refine qw_cVR (rest := []) (st1 := [.int r2]) S0 V hl 0 gO_0 rfl (c_X7_isNeedier l hc_31) kg_X7_184 rfl ⟨rfl, rfl⟩ kd_X7_isNeedier ⟨Nat.le_of_ble_eq_true rfl, Nat.le_of_ble_eq_true rfl⟩ rfl rfl (Nat.le_of_ble_eq_true rfl) ⟨Nat.zero_le _, Nat.zero_le _⟩ rfl dX7_neediest_31 ?_
          refine lv_if_eq (tgt := 39) hx hb dX7_neediest_34 (by decide) (fun c_34 => ?_) (fun c_34 => ?_)
          · replace hf := qf_t c_34 hf
            exact J_39 (fun hf V hl => ih hf V hl) hf V (lv_sub hl [0, 1, 2, 3] rfl)
          · replace hf := qf_f c_34 hf
            exact J_37 (fun hf V hl => ih hf V hl) hf V (lv_sub hl [0, 1, 3] rfl)
  unfold f_X7_neediest at hf
  refine lv_aload_n hx hb dX7_neediest_0 rfl (lv_at hl 0 rfl) ?_
  refine lv_iload_n hx hb dX7_neediest_1 rfl (lv_at hl 1 rfl) ?_
  obtain ⟨r1, hc_2, hf⟩ := qf_bd_e hf
  refine qw_cVR (rest := []) (st1 := [.int r1]) S0 V hl 0 gO_0 rfl (c_X7_isGroup l hc_2) kg_X7_115 rfl ⟨rfl, rfl⟩ kd_X7_isGroup ⟨Nat.le_of_ble_eq_true rfl, Nat.le_of_ble_eq_true rfl⟩ rfl rfl (Nat.le_of_ble_eq_true rfl) ⟨Nat.zero_le _, Nat.zero_le _⟩ rfl dX7_neediest_2 ?_
  by_cases c_5 : r1 = 0
  · exact qx_thr (rest := []) hst hQ S0 V hl c_5 kg_X7_119 ⟨by decide, by decide⟩ (Nat.le_of_ble_eq_true rfl) ⟨by decide, by decide⟩ dX7_neediest_5 (by decide) (by decide) hlocks htab (fun t9 h9 h8 => ⟨rfl, (Option.some.inj (qf_t c_5 hf)).symm, h9, h8⟩)
  replace hf := qf_f c_5 hf
  refine qw_cSR (rest := []) (st1 := []) S0 V hl (c_X7_need l c_5) kg_X7_119 rfl ⟨rfl, rfl⟩ kd_X7_need ⟨by decide, by decide⟩ rfl rfl (Nat.le_of_ble_eq_true rfl) ⟨Nat.zero_le _, Nat.zero_le _⟩ rfl dX7_neediest_5 ?_
  refine lv_iconst (v := -1) hx hb dX7_neediest_8 (by decide) ?_
  refine lv_istore_n (lv' := [(2, .int (-1 : Int32)), (0, .ref (ad 0)), (1, .int p1)]) hx hb dX7_neediest_9 rfl hl (by decide) rfl (fun ls hl => ?_)
  refine lv_iconst (v := 0) hx hb dX7_neediest_10 (by decide) ?_
  refine lv_istore_n (lv' := [(3, .int (0 : Int32)), (2, .int (-1 : Int32)), (0, .ref (ad 0)), (1, .int p1)]) hx hb dX7_neediest_11 rfl hl (by decide) rfl (fun ls hl => ?_)
  exact L_12 hf V (lv_sub hl [2, 3, 1, 0] rfl)
theorem kd_X7_givenBy : yX7_givenBy.cls = RX7 ∧ yX7_givenBy.cls ≠ "java/lang/invoke/MethodHandle" ∧ yX7_givenBy.cls ≠ "java/lang/invoke/VarHandle" ∧ (parseMethodDescriptor yX7_givenBy.desc).map (fun d => d.parameters.length) = some 1 := by decide +kernel
def f_X7_givenBy (I : Nat → Int32) (A : Nat → Nat → Int32) (p1 : Int32) : Option (Option (Int32)) :=
  qf_bd (f_X7_isHouse I p1) fun r1 =>
  if r1 = 0 then some none else
  qf_ld 6 (A 37) p1 fun x2 =>
  some (some (x2))
abbrev wz_X7_givenBy : List Cond := Cond.code yX7_givenBy cX7_givenBy 2 (some .int) :: qw_big
def rm_X7_givenBy : Room := { frames := 7, cells := 1, slots := 6, locals := 102 }
set_option maxHeartbeats 4000000 in
set_option maxRecDepth 100000 in
theorem c_X7_givenBy (l : Launch) (hst : l.stackTraces = false) {D : va_G} {cy : Nat → ClassId} {ad : Nat → Nat} {I : Nat → Int32} {A : Nat → Nat → Int32} {G : Nat → Int32 × (Nat → Nat → Int32)} {T : Nat} {p1 : Int32} {ro : (Option (Int32))} {sz : Nat} (hf : f_X7_givenBy I A p1 = some ro) : vx_Met l yX7_givenBy wz_X7_givenBy rm_X7_givenBy (va_Pc [.ref (ad 0), .int p1] (qw_Pre D cy (Wo cy ad I A G T) sz)) (qx_Q ro (fun v9 => some (.int v9)) (fun _ => (Wo cy ad I A G T)) D (va_A (Wo cy ad I A G T) sz)) (qx_X ro D (Wo cy ad I A G T) (va_A (Wo cy ad I A G T) sz)) 1 6 (va_A (Wo cy ad I A G T) sz) := by
  refine qx_of (cc := cX7_givenBy) (maxL := 2) (ret := (some .int)) (by decide) (Nat.le_of_ble_eq_true rfl) ?_
  intro p e s m args below meth c ls S0 hr hlocks htab hsz V hl
  have S0 : CallFix p m c cX7_givenBy 2 s args qw_big RX7 := S0
  have hx := S0.1; have hb := S0.2.1; have hown := S0.2.2.2.1; have hts := S0.2.2.2.2
  have hl : lv_has ls 2 [(0, .ref (ad 0)), (1, .int p1)] := hl
  generalize va_A (Wo cy ad I A G T) sz = Z9 at V ⊢
  obtain ⟨Q9, hQ⟩ : ∃ q, q = vx_MQ below (qx_Q ro (fun v9 => some (.int v9)) (fun _ => (Wo cy ad I A G T)) D Z9) (qx_X ro D (Wo cy ad I A G T) Z9) args s 1 6 Z9 := ⟨_, rfl⟩
  rw [← hQ]
  clear hsz
  unfold f_X7_givenBy at hf
  refine lv_aload_n hx hb dX7_givenBy_0 rfl (lv_at hl 0 rfl) ?_
  refine lv_iload_n hx hb dX7_givenBy_1 rfl (lv_at hl 1 rfl) ?_
  obtain ⟨r1, hc_2, hf⟩ := qf_bd_e hf
  refine qw_cVR (rest := []) (st1 := [.int r1]) S0 V hl 0 gO_0 rfl (c_X7_isHouse l hc_2) kg_X7_150 rfl ⟨rfl, rfl⟩ kd_X7_isHouse ⟨Nat.le_of_ble_eq_true rfl, Nat.le_of_ble_eq_true rfl⟩ rfl rfl (Nat.le_of_ble_eq_true rfl) ⟨Nat.zero_le _, Nat.zero_le _⟩ rfl dX7_givenBy_2 ?_
  by_cases c_5 : r1 = 0
  · exact qx_thr (rest := []) hst hQ S0 V hl c_5 kg_X7_119 ⟨by decide, by decide⟩ (Nat.le_of_ble_eq_true rfl) ⟨by decide, by decide⟩ dX7_givenBy_5 (by decide) (by decide) hlocks htab (fun t9 h9 h8 => ⟨rfl, (Option.some.inj (qf_t c_5 hf)).symm, h9, h8⟩)
  replace hf := qf_f c_5 hf
  refine qw_cSR (rest := []) (st1 := []) S0 V hl (c_X7_need l c_5) kg_X7_119 rfl ⟨rfl, rfl⟩ kd_X7_need ⟨by decide, by decide⟩ rfl rfl (Nat.le_of_ble_eq_true rfl) ⟨Nat.zero_le _, Nat.zero_le _⟩ rfl dX7_givenBy_5 ?_
  refine lv_aload_n hx hb dX7_givenBy_8 rfl (lv_at hl 0 rfl) ?_
  refine gfO_0_6 S0 V kl_X7_47 dX7_givenBy_9 ?_
  refine gfO_43_5 S0 V kl_X7_188 dX7_givenBy_12 ?_
  refine lv_iload_n hx hb dX7_givenBy_15 rfl (lv_at hl 1 rfl) ?_
  have h_16 := qf_ld_in hf
  refine alO_48 S0 V h_16 dX7_givenBy_16 ?_
  refine lv_topi (fun x2 e_x2 => ?_)
  replace hf := qf_ld_e e_x2 hf
  have hE := Option.some.inj hf
  exact qx_ireti hQ S0 hr hlocks hE rfl rfl V dX7_givenBy_17
theorem kd_X7_takenBy : yX7_takenBy.cls = RX7 ∧ yX7_takenBy.cls ≠ "java/lang/invoke/MethodHandle" ∧ yX7_takenBy.cls ≠ "java/lang/invoke/VarHandle" ∧ (parseMethodDescriptor yX7_takenBy.desc).map (fun d => d.parameters.length) = some 1 := by decide +kernel
def f_X7_takenBy (I : Nat → Int32) (A : Nat → Nat → Int32) (p1 : Int32) : Option (Option (Int32)) :=
  qf_bd (f_X7_isHouse I p1) fun r1 =>
  if r1 = 0 then some none else
  qf_ld 6 (A 38) p1 fun x2 =>
  some (some (x2))
abbrev wz_X7_takenBy : List Cond := Cond.code yX7_takenBy cX7_takenBy 2 (some .int) :: qw_big
def rm_X7_takenBy : Room := { frames := 7, cells := 1, slots := 6, locals := 102 }
set_option maxHeartbeats 4000000 in
set_option maxRecDepth 100000 in
theorem c_X7_takenBy (l : Launch) (hst : l.stackTraces = false) {D : va_G} {cy : Nat → ClassId} {ad : Nat → Nat} {I : Nat → Int32} {A : Nat → Nat → Int32} {G : Nat → Int32 × (Nat → Nat → Int32)} {T : Nat} {p1 : Int32} {ro : (Option (Int32))} {sz : Nat} (hf : f_X7_takenBy I A p1 = some ro) : vx_Met l yX7_takenBy wz_X7_takenBy rm_X7_takenBy (va_Pc [.ref (ad 0), .int p1] (qw_Pre D cy (Wo cy ad I A G T) sz)) (qx_Q ro (fun v9 => some (.int v9)) (fun _ => (Wo cy ad I A G T)) D (va_A (Wo cy ad I A G T) sz)) (qx_X ro D (Wo cy ad I A G T) (va_A (Wo cy ad I A G T) sz)) 1 6 (va_A (Wo cy ad I A G T) sz) := by
  refine qx_of (cc := cX7_takenBy) (maxL := 2) (ret := (some .int)) (by decide) (Nat.le_of_ble_eq_true rfl) ?_
  intro p e s m args below meth c ls S0 hr hlocks htab hsz V hl
  have S0 : CallFix p m c cX7_takenBy 2 s args qw_big RX7 := S0
  have hx := S0.1; have hb := S0.2.1; have hown := S0.2.2.2.1; have hts := S0.2.2.2.2
  have hl : lv_has ls 2 [(0, .ref (ad 0)), (1, .int p1)] := hl
  generalize va_A (Wo cy ad I A G T) sz = Z9 at V ⊢
  obtain ⟨Q9, hQ⟩ : ∃ q, q = vx_MQ below (qx_Q ro (fun v9 => some (.int v9)) (fun _ => (Wo cy ad I A G T)) D Z9) (qx_X ro D (Wo cy ad I A G T) Z9) args s 1 6 Z9 := ⟨_, rfl⟩
  rw [← hQ]
  clear hsz
  unfold f_X7_takenBy at hf
  refine lv_aload_n hx hb dX7_takenBy_0 rfl (lv_at hl 0 rfl) ?_
  refine lv_iload_n hx hb dX7_takenBy_1 rfl (lv_at hl 1 rfl) ?_
  obtain ⟨r1, hc_2, hf⟩ := qf_bd_e hf
  refine qw_cVR (rest := []) (st1 := [.int r1]) S0 V hl 0 gO_0 rfl (c_X7_isHouse l hc_2) kg_X7_150 rfl ⟨rfl, rfl⟩ kd_X7_isHouse ⟨Nat.le_of_ble_eq_true rfl, Nat.le_of_ble_eq_true rfl⟩ rfl rfl (Nat.le_of_ble_eq_true rfl) ⟨Nat.zero_le _, Nat.zero_le _⟩ rfl dX7_takenBy_2 ?_
  by_cases c_5 : r1 = 0
  · exact qx_thr (rest := []) hst hQ S0 V hl c_5 kg_X7_119 ⟨by decide, by decide⟩ (Nat.le_of_ble_eq_true rfl) ⟨by decide, by decide⟩ dX7_takenBy_5 (by decide) (by decide) hlocks htab (fun t9 h9 h8 => ⟨rfl, (Option.some.inj (qf_t c_5 hf)).symm, h9, h8⟩)
  replace hf := qf_f c_5 hf
  refine qw_cSR (rest := []) (st1 := []) S0 V hl (c_X7_need l c_5) kg_X7_119 rfl ⟨rfl, rfl⟩ kd_X7_need ⟨by decide, by decide⟩ rfl rfl (Nat.le_of_ble_eq_true rfl) ⟨Nat.zero_le _, Nat.zero_le _⟩ rfl dX7_takenBy_5 ?_
  refine lv_aload_n hx hb dX7_takenBy_8 rfl (lv_at hl 0 rfl) ?_
  refine gfO_0_6 S0 V kl_X7_47 dX7_takenBy_9 ?_
  refine gfO_43_6 S0 V kl_X7_191 dX7_takenBy_12 ?_
  refine lv_iload_n hx hb dX7_takenBy_15 rfl (lv_at hl 1 rfl) ?_
  have h_16 := qf_ld_in hf
  refine alO_49 S0 V h_16 dX7_takenBy_16 ?_
  refine lv_topi (fun x2 e_x2 => ?_)
  replace hf := qf_ld_e e_x2 hf
  have hE := Option.some.inj hf
  exact qx_ireti hQ S0 hr hlocks hE rfl rfl V dX7_takenBy_17
theorem kd_X7_giveRoom : yX7_giveRoom.cls = RX7 ∧ yX7_giveRoom.cls ≠ "java/lang/invoke/MethodHandle" ∧ yX7_giveRoom.cls ≠ "java/lang/invoke/VarHandle" ∧ (parseMethodDescriptor yX7_giveRoom.desc).map (fun d => d.parameters.length) = some 1 := by decide +kernel
def f_X7_giveRoom (A : Nat → Nat → Int32) (p1 : Int32) : Option (Int32) :=
  qf_ld 3 (A 35) (0 : Int32) fun x1 =>
  qf_ld 6 (A 37) p1 fun x2 =>
  qf_let ((if (0 : Int32) < (x1 - x2) then (x1 - x2) else (0 : Int32))) fun x3 =>
  some (x3)
abbrev wz_X7_giveRoom : List Cond := Cond.code yX7_giveRoom cX7_giveRoom 2 (some .int) :: qw_big
def rm_X7_giveRoom : Room := { frames := 1, cells := 0, slots := 0, locals := 60 }
set_option maxHeartbeats 4000000 in
set_option maxRecDepth 100000 in
theorem c_X7_giveRoom (l : Launch) {D : va_G} {cy : Nat → ClassId} {ad : Nat → Nat} {I : Nat → Int32} {A : Nat → Nat → Int32} {G : Nat → Int32 × (Nat → Nat → Int32)} {T : Nat} {p1 : Int32} {rv : Int32} {sz : Nat} (hf : f_X7_giveRoom A p1 = some (rv)) : Met l yX7_giveRoom wz_X7_giveRoom rm_X7_giveRoom (va_Pc [.ref (ad 0), .int p1] (qw_Pre D cy (Wo cy ad I A G T) sz)) (qw_R (some (.int rv))) 0 0 (fun _ => False) := by
  refine qw_of (cc := cX7_giveRoom) (maxL := 2) (ret := (some .int)) (by decide) (Nat.le_of_ble_eq_true rfl) ?_
  intro p e s m args below meth c ls S0 hr hlocks hsz V hl
  have S0 : CallFix p m c cX7_giveRoom 2 s args qw_big RX7 := S0
  have hx := S0.1; have hb := S0.2.1; have hown := S0.2.2.2.1; have hts := S0.2.2.2.2
  have hl : lv_has ls 2 [(0, .ref (ad 0)), (1, .int p1)] := hl
  obtain ⟨Q9, hQ⟩ : ∃ q, q = MQ below (qw_R (some (.int rv))) args s 0 0 (fun _ => False) := ⟨_, rfl⟩
  rw [← hQ]
  generalize va_A (Wo cy ad I A G T) sz = Z9 at V
  unfold f_X7_giveRoom at hf
  refine lv_iconst (v := 0) hx hb dX7_giveRoom_0 (by decide) ?_
  refine lv_aload_n hx hb dX7_giveRoom_1 rfl (lv_at hl 0 rfl) ?_
  refine gfO_0_6 S0 V kl_X7_47 dX7_giveRoom_2 ?_
  refine gfO_43_3 S0 V kl_X7_159 dX7_giveRoom_5 ?_
  refine lv_iconst (v := 0) hx hb dX7_giveRoom_8 (by decide) ?_
  have h_9 := qf_ld_in hf
  refine alO_46 S0 V h_9 dX7_giveRoom_9 ?_
  refine lv_topi (fun x1 e_x1 => ?_)
  replace hf := qf_ld_e e_x1 hf
  refine lv_aload_n hx hb dX7_giveRoom_10 rfl (lv_at hl 0 rfl) ?_
  refine gfO_0_6 S0 V kl_X7_47 dX7_giveRoom_11 ?_
  refine gfO_43_5 S0 V kl_X7_188 dX7_giveRoom_14 ?_
  refine lv_iload_n hx hb dX7_giveRoom_17 rfl (lv_at hl 1 rfl) ?_
  have h_18 := qf_ld_in hf
  refine alO_48 S0 V h_18 dX7_giveRoom_18 ?_
  refine lv_topi (fun x2 e_x2 => ?_)
  replace hf := qf_ld_e e_x2 hf
  refine lv_isub hx hb dX7_giveRoom_19 ?_
  refine qw_max S0 hl.1 kml_X7_290 (Nat.le_of_ble_eq_true rfl) (Nat.le_of_ble_eq_true rfl) (Nat.zero_le _) (Nat.zero_le _) dX7_giveRoom_20 ?_
  refine lv_topi (fun x3 e_x3 => ?_)
  replace hf := qf_let_e e_x3 hf
  have hE := Option.some.inj hf
  exact qw_iretR S0 hr hlocks hQ hE dX7_giveRoom_23
theorem kd_X7_mostToGive : yX7_mostToGive.cls = RX7 ∧ yX7_mostToGive.cls ≠ "java/lang/invoke/MethodHandle" ∧ yX7_mostToGive.cls ≠ "java/lang/invoke/VarHandle" ∧ (parseMethodDescriptor yX7_mostToGive.desc).map (fun d => d.parameters.length) = some 2 := by decide +kernel
def f_X7_mostToGive (A : Nat → Nat → Int32) (p1 : Int32) (p2 : Int32) : Option (Int32) :=
  qf_bd (f_X7_holding A p1 p2) fun r1 =>
  qf_bd (f_X7_giveRoom A p1) fun r2 =>
  qf_let ((if r2 < r1 then r2 else r1)) fun x3 =>
  some (x3)
abbrev wz_X7_mostToGive : List Cond := Cond.code yX7_mostToGive cX7_mostToGive 3 (some .int) :: qw_big
def rm_X7_mostToGive : Room := { frames := 2, cells := 0, slots := 0, locals := 81 }
set_option maxHeartbeats 4000000 in
set_option maxRecDepth 100000 in
theorem c_X7_mostToGive (l : Launch) {D : va_G} {cy : Nat → ClassId} {ad : Nat → Nat} {I : Nat → Int32} {A : Nat → Nat → Int32} {G : Nat → Int32 × (Nat → Nat → Int32)} {T : Nat} {p1 : Int32} {p2 : Int32} {rv : Int32} {sz : Nat} (hf : f_X7_mostToGive A p1 p2 = some (rv)) : Met l yX7_mostToGive wz_X7_mostToGive rm_X7_mostToGive (va_Pc [.ref (ad 0), .int p1, .int p2] (qw_Pre D cy (Wo cy ad I A G T) sz)) (qw_R (some (.int rv))) 0 0 (fun _ => False) := by
  refine qw_of (cc := cX7_mostToGive) (maxL := 3) (ret := (some .int)) (by decide) (Nat.le_of_ble_eq_true rfl) ?_
  intro p e s m args below meth c ls S0 hr hlocks hsz V hl
  have S0 : CallFix p m c cX7_mostToGive 3 s args qw_big RX7 := S0
  have hx := S0.1; have hb := S0.2.1; have hown := S0.2.2.2.1; have hts := S0.2.2.2.2
  have hl : lv_has ls 3 [(0, .ref (ad 0)), (1, .int p1), (2, .int p2)] := hl
  obtain ⟨Q9, hQ⟩ : ∃ q, q = MQ below (qw_R (some (.int rv))) args s 0 0 (fun _ => False) := ⟨_, rfl⟩
  rw [← hQ]
  generalize va_A (Wo cy ad I A G T) sz = Z9 at V
  unfold f_X7_mostToGive at hf
  refine lv_aload_n hx hb dX7_mostToGive_0 rfl (lv_at hl 0 rfl) ?_
  refine lv_iload_n hx hb dX7_mostToGive_1 rfl (lv_at hl 1 rfl) ?_
  refine lv_iload_n hx hb dX7_mostToGive_2 rfl (lv_at hl 2 rfl) ?_
  obtain ⟨r1, hc_3, hf⟩ := qf_bd_e hf
  refine qw_cVR (rest := []) (st1 := [.int r1]) S0 V hl 0 gO_0 rfl (c_X7_holding l hc_3) kg_X7_162 rfl ⟨rfl, rfl⟩ kd_X7_holding ⟨Nat.le_of_ble_eq_true rfl, Nat.le_of_ble_eq_true rfl⟩ rfl rfl (Nat.le_of_ble_eq_true rfl) ⟨Nat.zero_le _, Nat.zero_le _⟩ rfl dX7_mostToGive_3 ?_
  refine lv_aload_n hx hb dX7_mostToGive_6 rfl (lv_at hl 0 rfl) ?_
  refine lv_iload_n hx hb dX7_mostToGive_7 rfl (lv_at hl 1 rfl) ?_
  obtain ⟨r2, hc_8, hf⟩ := qf_bd_e hf
  refine qw_cVR (rest := [.int r1]) (st1 := [.int r2, .int r1]) S0 V hl 0 gO_0 rfl (c_X7_giveRoom l hc_8) kg_X7_307 rfl ⟨rfl, rfl⟩ kd_X7_giveRoom ⟨Nat.le_of_ble_eq_true rfl, Nat.le_of_ble_eq_true rfl⟩ rfl rfl (Nat.le_of_ble_eq_true rfl) ⟨Nat.zero_le _, Nat.zero_le _⟩ rfl dX7_mostToGive_8 ?_
  refine qw_min S0 hl.1 kml_X7_201 (Nat.le_of_ble_eq_true rfl) (Nat.le_of_ble_eq_true rfl) (Nat.zero_le _) (Nat.zero_le _) dX7_mostToGive_11 ?_
  refine lv_topi (fun x3 e_x3 => ?_)
  replace hf := qf_let_e e_x3 hf
  have hE := Option.some.inj hf
  exact qw_iretR S0 hr hlocks hQ hE dX7_mostToGive_14
theorem kd_X7_takeRoom : yX7_takeRoom.cls = RX7 ∧ yX7_takeRoom.cls ≠ "java/lang/invoke/MethodHandle" ∧ yX7_takeRoom.cls ≠ "java/lang/invoke/VarHandle" ∧ (parseMethodDescriptor yX7_takeRoom.desc).map (fun d => d.parameters.length) = some 1 := by decide +kernel
def f_X7_takeRoom (A : Nat → Nat → Int32) (p1 : Int32) : Option (Int32) :=
  qf_ld 3 (A 35) (1 : Int32) fun x1 =>
  qf_ld 6 (A 38) p1 fun x2 =>
  qf_let ((if (0 : Int32) < (x1 - x2) then (x1 - x2) else (0 : Int32))) fun x3 =>
  some (x3)
abbrev wz_X7_takeRoom : List Cond := Cond.code yX7_takeRoom cX7_takeRoom 2 (some .int) :: qw_big
def rm_X7_takeRoom : Room := { frames := 1, cells := 0, slots := 0, locals := 60 }
set_option maxHeartbeats 4000000 in
set_option maxRecDepth 100000 in
theorem c_X7_takeRoom (l : Launch) {D : va_G} {cy : Nat → ClassId} {ad : Nat → Nat} {I : Nat → Int32} {A : Nat → Nat → Int32} {G : Nat → Int32 × (Nat → Nat → Int32)} {T : Nat} {p1 : Int32} {rv : Int32} {sz : Nat} (hf : f_X7_takeRoom A p1 = some (rv)) : Met l yX7_takeRoom wz_X7_takeRoom rm_X7_takeRoom (va_Pc [.ref (ad 0), .int p1] (qw_Pre D cy (Wo cy ad I A G T) sz)) (qw_R (some (.int rv))) 0 0 (fun _ => False) := by
  refine qw_of (cc := cX7_takeRoom) (maxL := 2) (ret := (some .int)) (by decide) (Nat.le_of_ble_eq_true rfl) ?_
  intro p e s m args below meth c ls S0 hr hlocks hsz V hl
  have S0 : CallFix p m c cX7_takeRoom 2 s args qw_big RX7 := S0
  have hx := S0.1; have hb := S0.2.1; have hown := S0.2.2.2.1; have hts := S0.2.2.2.2
  have hl : lv_has ls 2 [(0, .ref (ad 0)), (1, .int p1)] := hl
  obtain ⟨Q9, hQ⟩ : ∃ q, q = MQ below (qw_R (some (.int rv))) args s 0 0 (fun _ => False) := ⟨_, rfl⟩
  rw [← hQ]
  generalize va_A (Wo cy ad I A G T) sz = Z9 at V
  unfold f_X7_takeRoom at hf
  refine lv_iconst (v := 0) hx hb dX7_takeRoom_0 (by decide) ?_
  refine lv_aload_n hx hb dX7_takeRoom_1 rfl (lv_at hl 0 rfl) ?_
  refine gfO_0_6 S0 V kl_X7_47 dX7_takeRoom_2 ?_
  refine gfO_43_3 S0 V kl_X7_159 dX7_takeRoom_5 ?_
  refine lv_iconst (v := 1) hx hb dX7_takeRoom_8 (by decide) ?_
  have h_9 := qf_ld_in hf
  refine alO_46 S0 V h_9 dX7_takeRoom_9 ?_
  refine lv_topi (fun x1 e_x1 => ?_)
  replace hf := qf_ld_e e_x1 hf
  refine lv_aload_n hx hb dX7_takeRoom_10 rfl (lv_at hl 0 rfl) ?_
  refine gfO_0_6 S0 V kl_X7_47 dX7_takeRoom_11 ?_
  refine gfO_43_6 S0 V kl_X7_191 dX7_takeRoom_14 ?_
  refine lv_iload_n hx hb dX7_takeRoom_17 rfl (lv_at hl 1 rfl) ?_
  have h_18 := qf_ld_in hf
  refine alO_49 S0 V h_18 dX7_takeRoom_18 ?_
  refine lv_topi (fun x2 e_x2 => ?_)
  replace hf := qf_ld_e e_x2 hf
  refine lv_isub hx hb dX7_takeRoom_19 ?_
  refine qw_max S0 hl.1 kml_X7_290 (Nat.le_of_ble_eq_true rfl) (Nat.le_of_ble_eq_true rfl) (Nat.zero_le _) (Nat.zero_le _) dX7_takeRoom_20 ?_
  refine lv_topi (fun x3 e_x3 => ?_)
  replace hf := qf_let_e e_x3 hf
  have hE := Option.some.inj hf
  exact qw_iretR S0 hr hlocks hQ hE dX7_takeRoom_23
theorem kd_X7_tradeRoom : yX7_tradeRoom.cls = RX7 ∧ yX7_tradeRoom.cls ≠ "java/lang/invoke/MethodHandle" ∧ yX7_tradeRoom.cls ≠ "java/lang/invoke/VarHandle" ∧ (parseMethodDescriptor yX7_tradeRoom.desc).map (fun d => d.parameters.length) = some 3 := by decide +kernel
def f_X7_tradeRoom_j29 (I : Nat → Int32) (A : Nat → Nat → Int32)  (y1 : Int32) (y2 : Int32) (y3 : Int32) (s0 : Int32) : Option (Option (Int32)) :=
  if s0 = 0 then some none else
  if y1 = y2 then (some (some ((0 : Int32)))) else (qf_bd (f_X7_mostToGive A y1 y3) fun r4 =>
    qf_bd (f_X7_takeRoom A y2) fun r5 =>
    qf_let ((if r5 < r4 then r5 else r4)) fun x6 =>
    some (some (x6)))
def f_X7_tradeRoom_j28 (I : Nat → Int32) (A : Nat → Nat → Int32)  (y1 : Int32) (y2 : Int32) (y3 : Int32) : Option (Option (Int32)) :=
  f_X7_tradeRoom_j29 I A y1 y2 y3 (0 : Int32)
def f_X7_tradeRoom (I : Nat → Int32) (A : Nat → Nat → Int32) (p1 : Int32) (p2 : Int32) (p3 : Int32) : Option (Option (Int32)) :=
  qf_bd (f_X7_isHouse I p1) fun r1 =>
  if r1 = 0 then (f_X7_tradeRoom_j28 I A p1 p2 p3) else (qf_bd (f_X7_isHouse I p2) fun r2 =>
    if r2 = 0 then (f_X7_tradeRoom_j28 I A p1 p2 p3) else (qf_bd (f_X7_isGroup I p3) fun r3 =>
      if r3 = 0 then (f_X7_tradeRoom_j28 I A p1 p2 p3) else (f_X7_tradeRoom_j29 I A p1 p2 p3 (1 : Int32))))
abbrev wz_X7_tradeRoom : List Cond := Cond.code yX7_tradeRoom cX7_tradeRoom 4 (some .int) :: qw_big
def rm_X7_tradeRoom : Room := { frames := 7, cells := 1, slots := 6, locals := 103 }
set_option maxHeartbeats 4000000 in
set_option maxRecDepth 100000 in
theorem c_X7_tradeRoom (l : Launch) (hst : l.stackTraces = false) {D : va_G} {cy : Nat → ClassId} {ad : Nat → Nat} {I : Nat → Int32} {A : Nat → Nat → Int32} {G : Nat → Int32 × (Nat → Nat → Int32)} {T : Nat} {p1 : Int32} {p2 : Int32} {p3 : Int32} {ro : (Option (Int32))} {sz : Nat} (hf : f_X7_tradeRoom I A p1 p2 p3 = some ro) : vx_Met l yX7_tradeRoom wz_X7_tradeRoom rm_X7_tradeRoom (va_Pc [.ref (ad 0), .int p1, .int p2, .int p3] (qw_Pre D cy (Wo cy ad I A G T) sz)) (qx_Q ro (fun v9 => some (.int v9)) (fun _ => (Wo cy ad I A G T)) D (va_A (Wo cy ad I A G T) sz)) (qx_X ro D (Wo cy ad I A G T) (va_A (Wo cy ad I A G T) sz)) 1 6 (va_A (Wo cy ad I A G T) sz) := by
  refine qx_of (cc := cX7_tradeRoom) (maxL := 4) (ret := (some .int)) (by decide) (Nat.le_of_ble_eq_true rfl) ?_
  intro p e s m args below meth c ls S0 hr hlocks htab hsz V hl
  have S0 : CallFix p m c cX7_tradeRoom 4 s args qw_big RX7 := S0
  have hx := S0.1; have hb := S0.2.1; have hown := S0.2.2.2.1; have hts := S0.2.2.2.2
  have hl : lv_has ls 4 [(0, .ref (ad 0)), (1, .int p1), (2, .int p2), (3, .int p3)] := hl
  generalize va_A (Wo cy ad I A G T) sz = Z9 at V ⊢
  obtain ⟨Q9, hQ⟩ : ∃ q, q = vx_MQ below (qx_Q ro (fun v9 => some (.int v9)) (fun _ => (Wo cy ad I A G T)) D Z9) (qx_X ro D (Wo cy ad I A G T) Z9) args s 1 6 Z9 := ⟨_, rfl⟩
  rw [← hQ]
  clear hsz
  have J_29 : ∀   {y1 : Int32} {y2 : Int32} {y3 : Int32} {s0 : Int32} {H : Heap} {locs : List Loc} {ls : Array Slot}, f_X7_tradeRoom_j29 I A y1 y2 y3 s0 = some ro → qw_V D cy Z9 s (Wo cy ad I A G T) H locs → lv_has ls 4 [(0, .ref (ad 0)), (1, .int y1), (2, .int y2), (3, .int y3)] → W p l e rm_X7_tradeRoom s m args below meth c H locs 0 0 Q9 (F0 m 29 ls [.int s0]) := by
    intro y1 y2 y3 s0 H locs ls hf V hl
    unfold f_X7_tradeRoom_j29 at hf
    by_cases c_29 : s0 = 0
    · exact qx_thr (rest := []) hst hQ S0 V hl c_29 kg_X7_119 ⟨by decide, by decide⟩ (Nat.le_of_ble_eq_true rfl) ⟨by decide, by decide⟩ dX7_tradeRoom_29 (by decide) (by decide) hlocks htab (fun t9 h9 h8 => ⟨rfl, (Option.some.inj (qf_t c_29 hf)).symm, h9, h8⟩)
    replace hf := qf_f c_29 hf
    refine qw_cSR (rest := []) (st1 := []) S0 V hl (c_X7_need l c_29) kg_X7_119 rfl ⟨rfl, rfl⟩ kd_X7_need ⟨by decide, by decide⟩ rfl rfl (Nat.le_of_ble_eq_true rfl) ⟨Nat.zero_le _, Nat.zero_le _⟩ rfl dX7_tradeRoom_29 ?_
    refine lv_iload_n hx hb dX7_tradeRoom_32 rfl (lv_at hl 1 rfl) ?_
    refine lv_iload_n hx hb dX7_tradeRoom_33 rfl (lv_at hl 2 rfl) ?_
    refine lv_icmp_ne (tgt := 39) hx hb dX7_tradeRoom_34 (by decide) (fun c_34 => ?_) (fun c_34 => ?_)
    · replace hf := qf_f c_34 hf
      refine lv_aload_n hx hb dX7_tradeRoom_39 rfl (lv_at hl 0 rfl) ?_
      refine lv_iload_n hx hb dX7_tradeRoom_40 rfl (lv_at hl 1 rfl) ?_
      refine lv_iload_n hx hb dX7_tradeRoom_41 rfl (lv_at hl 3 rfl) ?_
      obtain ⟨r4, hc_42, hf⟩ := qf_bd_e hf
      refine qw_cVR (rest := []) (st1 := [.int r4]) S0 V hl 0 gO_0 rfl (c_X7_mostToGive l hc_42) kg_X7_194 rfl ⟨rfl, rfl⟩ kd_X7_mostToGive ⟨Nat.le_of_ble_eq_true rfl, Nat.le_of_ble_eq_true rfl⟩ rfl rfl (Nat.le_of_ble_eq_true rfl) ⟨Nat.zero_le _, Nat.zero_le _⟩ rfl dX7_tradeRoom_42 ?_
      refine lv_aload_n hx hb dX7_tradeRoom_45 rfl (lv_at hl 0 rfl) ?_
      refine lv_iload_n hx hb dX7_tradeRoom_46 rfl (lv_at hl 2 rfl) ?_
      obtain ⟨r5, hc_47, hf⟩ := qf_bd_e hf
      refine qw_cVR (rest := [.int r4]) (st1 := [.int r5, .int r4]) S0 V hl 0 gO_0 rfl (c_X7_takeRoom l hc_47) kg_X7_197 rfl ⟨rfl, rfl⟩ kd_X7_takeRoom ⟨Nat.le_of_ble_eq_true rfl, Nat.le_of_ble_eq_true rfl⟩ rfl rfl (Nat.le_of_ble_eq_true rfl) ⟨Nat.zero_le _, Nat.zero_le _⟩ rfl dX7_tradeRoom_47 ?_
      refine qw_min S0 hl.1 kml_X7_201 (Nat.le_of_ble_eq_true rfl) (Nat.le_of_ble_eq_true rfl) (Nat.zero_le _) (Nat.zero_le _) dX7_tradeRoom_50 ?_
      refine lv_topi (fun x6 e_x6 => ?_)
      replace hf := qf_let_e e_x6 hf
      have hE := Option.some.inj hf
      exact qx_ireti hQ S0 hr hlocks hE rfl rfl V dX7_tradeRoom_53
    · replace hf := qf_t c_34 hf
      refine lv_iconst (v := 0) hx hb dX7_tradeRoom_37 (by decide) ?_
      have hE := Option.some.inj hf
      exact qx_ireti hQ S0 hr hlocks hE rfl rfl V dX7_tradeRoom_38
  have J_28 : ∀   {y1 : Int32} {y2 : Int32} {y3 : Int32} {H : Heap} {locs : List Loc} {ls : Array Slot}, f_X7_tradeRoom_j28 I A y1 y2 y3 = some ro → qw_V D cy Z9 s (Wo cy ad I A G T) H locs → lv_has ls 4 [(0, .ref (ad 0)), (1, .int y1), (2, .int y2), (3, .int y3)] → W p l e rm_X7_tradeRoom s m args below meth c H locs 0 0 Q9 (F0 m 28 ls []) := by
    intro y1 y2 y3 H locs ls hf V hl
    unfold f_X7_tradeRoom_j28 at hf
    refine lv_iconst (v := 0) hx hb dX7_tradeRoom_28 (by decide) ?_
    exact J_29 hf V (lv_sub hl [0, 1, 2, 3] rfl)
  unfold f_X7_tradeRoom at hf
  refine lv_aload_n hx hb dX7_tradeRoom_0 rfl (lv_at hl 0 rfl) ?_
  refine lv_iload_n hx hb dX7_tradeRoom_1 rfl (lv_at hl 1 rfl) ?_
  obtain ⟨r1, hc_2, hf⟩ := qf_bd_e hf
  refine qw_cVR (rest := []) (st1 := [.int r1]) S0 V hl 0 gO_0 rfl (c_X7_isHouse l hc_2) kg_X7_150 rfl ⟨rfl, rfl⟩ kd_X7_isHouse ⟨Nat.le_of_ble_eq_true rfl, Nat.le_of_ble_eq_true rfl⟩ rfl rfl (Nat.le_of_ble_eq_true rfl) ⟨Nat.zero_le _, Nat.zero_le _⟩ rfl dX7_tradeRoom_2 ?_
  refine lv_if_eq (tgt := 28) hx hb dX7_tradeRoom_5 (by decide) (fun c_5 => ?_) (fun c_5 => ?_)
  · replace hf := qf_t c_5 hf
    exact J_28 hf V (lv_sub hl [0, 1, 2, 3] rfl)
  · replace hf := qf_f c_5 hf
    refine lv_aload_n hx hb dX7_tradeRoom_8 rfl (lv_at hl 0 rfl) ?_
    refine lv_iload_n hx hb dX7_tradeRoom_9 rfl (lv_at hl 2 rfl) ?_
    obtain ⟨r2, hc_10, hf⟩ := qf_bd_e hf
    refine qw_cVR (rest := []) (st1 := [.int r2]) S0 V hl 0 gO_0 rfl (c_X7_isHouse l hc_10) kg_X7_150 rfl ⟨rfl, rfl⟩ kd_X7_isHouse ⟨Nat.le_of_ble_eq_true rfl, Nat.le_of_ble_eq_true rfl⟩ rfl rfl (Nat.le_of_ble_eq_true rfl) ⟨Nat.zero_le _, Nat.zero_le _⟩ rfl dX7_tradeRoom_10 ?_
    refine lv_if_eq (tgt := 28) hx hb dX7_tradeRoom_13 (by decide) (fun c_13 => ?_) (fun c_13 => ?_)
    · replace hf := qf_t c_13 hf
      exact J_28 hf V (lv_sub hl [0, 1, 2, 3] rfl)
    · replace hf := qf_f c_13 hf
      refine lv_aload_n hx hb dX7_tradeRoom_16 rfl (lv_at hl 0 rfl) ?_
      refine lv_iload_n hx hb dX7_tradeRoom_17 rfl (lv_at hl 3 rfl) ?_
      obtain ⟨r3, hc_18, hf⟩ := qf_bd_e hf
      refine qw_cVR (rest := []) (st1 := [.int r3]) S0 V hl 0 gO_0 rfl (c_X7_isGroup l hc_18) kg_X7_115 rfl ⟨rfl, rfl⟩ kd_X7_isGroup ⟨Nat.le_of_ble_eq_true rfl, Nat.le_of_ble_eq_true rfl⟩ rfl rfl (Nat.le_of_ble_eq_true rfl) ⟨Nat.zero_le _, Nat.zero_le _⟩ rfl dX7_tradeRoom_18 ?_
      refine lv_if_eq (tgt := 28) hx hb dX7_tradeRoom_21 (by decide) (fun c_21 => ?_) (fun c_21 => ?_)
      · replace hf := qf_t c_21 hf
        exact J_28 hf V (lv_sub hl [0, 1, 2, 3] rfl)
      · replace hf := qf_f c_21 hf
        refine lv_iconst (v := 1) hx hb dX7_tradeRoom_24 (by decide) ?_
        refine lv_goto (tgt := 29) hx hb dX7_tradeRoom_25 (by decide) ?_
        exact J_29 hf V (lv_sub hl [0, 1, 2, 3] rfl)
theorem kd_X7_bestGiver : yX7_bestGiver.cls = RX7 ∧ yX7_bestGiver.cls ≠ "java/lang/invoke/MethodHandle" ∧ yX7_bestGiver.cls ≠ "java/lang/invoke/VarHandle" ∧ (parseMethodDescriptor yX7_bestGiver.desc).map (fun d => d.parameters.length) = some 2 := by decide +kernel
def f_X7_bestGiver_j61 (I : Nat → Int32) (A : Nat → Nat → Int32) (K5 : Int32 → Int32 → Option (Int32)) (y1 : Int32) (y2 : Int32) (y3 : Int32) (y4 : Int32) : Option (Int32) :=
  qf_let (y4 + (1 : Int32)) fun x3 =>
  K5 y3 x3
def f_X7_bestGiver_j58 (I : Nat → Int32) (A : Nat → Nat → Int32) (K5 : Int32 → Int32 → Option (Int32)) (y1 : Int32) (y2 : Int32) (y4 : Int32) : Option (Int32) :=
  f_X7_bestGiver_j61 I A K5 y1 y2 y4 y4
def f_X7_bestGiver_j31 (I : Nat → Int32) (A : Nat → Nat → Int32) (K5 : Int32 → Int32 → Option (Int32)) (y1 : Int32) (y2 : Int32) (y3 : Int32) (y4 : Int32) (s0 : Int32) : Option (Int32) :=
  if s0 = 0 then (f_X7_bestGiver_j61 I A K5 y1 y2 y3 y4) else (if y3 < 0 then (f_X7_bestGiver_j58 I A K5 y1 y2 y4) else (qf_bd (f_X7_mostToGive A y4 y1) fun r1 =>
      qf_bd (f_X7_mostToGive A y3 y1) fun r2 =>
      if r1 ≤ r2 then (f_X7_bestGiver_j61 I A K5 y1 y2 y3 y4) else (f_X7_bestGiver_j58 I A K5 y1 y2 y4)))
def f_X7_bestGiver_l5 (I : Nat → Int32) (A : Nat → Nat → Int32)  (y1 : Int32) (y2 : Int32) : Nat → Int32 → Int32 → Option (Int32)
  | 0, _, _ => none
  | n + 1, y3, y4 =>
  if (I 14) ≤ y4 then (some (y3)) else (if (y2 &&& ((1 : Int32) <<< (y4 &&& 31))) = 0 then (f_X7_bestGiver_j31 I A (fun z0 z1 => f_X7_bestGiver_l5 I A y1 y2 n z0 z1) y1 y2 y3 y4 (1 : Int32)) else (f_X7_bestGiver_j31 I A (fun z0 z1 => f_X7_bestGiver_l5 I A y1 y2 n z0 z1) y1 y2 y3 y4 (0 : Int32)))
def f_X7_bestGiver (I : Nat → Int32) (A : Nat → Nat → Int32) (p1 : Int32) (p2 : Int32) : Option (Int32) :=
  f_X7_bestGiver_l5 I A p1 p2 100000 (-1 : Int32) (0 : Int32)
abbrev wz_X7_bestGiver : List Cond := Cond.code yX7_bestGiver cX7_bestGiver 6 (some .int) :: qw_big
def rm_X7_bestGiver : Room := { frames := 3, cells := 0, slots := 0, locals := 103 }
set_option maxHeartbeats 4000000 in
set_option maxRecDepth 100000 in
theorem c_X7_bestGiver (l : Launch) {D : va_G} {cy : Nat → ClassId} {ad : Nat → Nat} {I : Nat → Int32} {A : Nat → Nat → Int32} {G : Nat → Int32 × (Nat → Nat → Int32)} {T : Nat} {p1 : Int32} {p2 : Int32} {rv : Int32} {sz : Nat} (hf : f_X7_bestGiver I A p1 p2 = some (rv)) : Met l yX7_bestGiver wz_X7_bestGiver rm_X7_bestGiver (va_Pc [.ref (ad 0), .int p1, .int p2] (qw_Pre D cy (Wo cy ad I A G T) sz)) (qw_R (some (.int rv))) 0 0 (fun _ => False) := by
  refine qw_of (cc := cX7_bestGiver) (maxL := 6) (ret := (some .int)) (by decide) (Nat.le_of_ble_eq_true rfl) ?_
  intro p e s m args below meth c ls S0 hr hlocks hsz V hl
  have S0 : CallFix p m c cX7_bestGiver 6 s args qw_big RX7 := S0
  have hx := S0.1; have hb := S0.2.1; have hown := S0.2.2.2.1; have hts := S0.2.2.2.2
  have hl : lv_has ls 6 [(0, .ref (ad 0)), (1, .int p1), (2, .int p2)] := hl
  obtain ⟨Q9, hQ⟩ : ∃ q, q = MQ below (qw_R (some (.int rv))) args s 0 0 (fun _ => False) := ⟨_, rfl⟩
  rw [← hQ]
  generalize va_A (Wo cy ad I A G T) sz = Z9 at V
  have J_61 : ∀ {K5 : Int32 → Int32 → Option (Int32)} {y1 : Int32} {y2 : Int32}  (hK5 : ∀  {y3 : Int32} {y4 : Int32} {ls : Array Slot}, K5 y3 y4 = some (rv) → lv_has ls 6 [(0, .ref (ad 0)), (1, .int y1), (2, .int y2), (3, .int y3), (4, .int y4)] → W p l e rm_X7_bestGiver s m args below meth c s.heap [] 0 0 Q9 (F0 m 5 ls []))  {y3 : Int32} {y4 : Int32} {ls : Array Slot}, f_X7_bestGiver_j61 I A K5 y1 y2 y3 y4 = some (rv) → lv_has ls 6 [(0, .ref (ad 0)), (1, .int y1), (2, .int y2), (3, .int y3), (4, .int y4)] → W p l e rm_X7_bestGiver s m args below meth c s.heap [] 0 0 Q9 (F0 m 61 ls []) := by
    intro K5 y1 y2 hK5 y3 y4 ls hf hl
    unfold f_X7_bestGiver_j61 at hf
    obtain ⟨x3, e_x3⟩ : ∃ y : Int32, y = y4 + (1 : Int32) := ⟨_, rfl⟩
    refine lv_iinc (v := x3) (lv' := [(4, .int x3), (0, .ref (ad 0)), (1, .int y1), (2, .int y2), (3, .int y3)]) hx hb dX7_bestGiver_61 hl (k := 4) rfl (by rw [e_x3]; rfl) (by decide) rfl (fun ls hl => ?_)
    replace hf := qf_let_e e_x3 hf
    refine lv_goto (tgt := 5) hx hb dX7_bestGiver_64 (by decide) ?_
    exact hK5 hf (lv_sub hl [1, 2, 3, 4, 0] rfl)
  have J_58 : ∀ {K5 : Int32 → Int32 → Option (Int32)} {y1 : Int32} {y2 : Int32}  (hK5 : ∀  {y3 : Int32} {y4 : Int32} {ls : Array Slot}, K5 y3 y4 = some (rv) → lv_has ls 6 [(0, .ref (ad 0)), (1, .int y1), (2, .int y2), (3, .int y3), (4, .int y4)] → W p l e rm_X7_bestGiver s m args below meth c s.heap [] 0 0 Q9 (F0 m 5 ls []))  {y4 : Int32} {ls : Array Slot}, f_X7_bestGiver_j58 I A K5 y1 y2 y4 = some (rv) → lv_has ls 6 [(0, .ref (ad 0)), (1, .int y1), (2, .int y2), (4, .int y4)] → W p l e rm_X7_bestGiver s m args below meth c s.heap [] 0 0 Q9 (F0 m 58 ls []) := by
    intro K5 y1 y2 hK5 y4 ls hf hl
    unfold f_X7_bestGiver_j58 at hf
    refine lv_iload hx hb dX7_bestGiver_58 (lv_at hl 3 rfl) ?_
    refine lv_istore_n (lv' := [(3, .int y4), (0, .ref (ad 0)), (1, .int y1), (2, .int y2), (4, .int y4)]) hx hb dX7_bestGiver_60 rfl hl (by decide) rfl (fun ls hl => ?_)
    exact J_61 hK5 hf (lv_sub hl [1, 2, 3, 0, 4] rfl)
  have J_31 : ∀ {K5 : Int32 → Int32 → Option (Int32)} {y1 : Int32} {y2 : Int32}  (hK5 : ∀  {y3 : Int32} {y4 : Int32} {ls : Array Slot}, K5 y3 y4 = some (rv) → lv_has ls 6 [(0, .ref (ad 0)), (1, .int y1), (2, .int y2), (3, .int y3), (4, .int y4)] → W p l e rm_X7_bestGiver s m args below meth c s.heap [] 0 0 Q9 (F0 m 5 ls []))  {y3 : Int32} {y4 : Int32} {s0 : Int32} {ls : Array Slot}, f_X7_bestGiver_j31 I A K5 y1 y2 y3 y4 s0 = some (rv) → lv_has ls 6 [(0, .ref (ad 0)), (1, .int y1), (2, .int y2), (3, .int y3), (4, .int y4)] → W p l e rm_X7_bestGiver s m args below meth c s.heap [] 0 0 Q9 (F0 m 31 ls [.int s0]) := by
    intro K5 y1 y2 hK5 y3 y4 s0 ls hf hl
    unfold f_X7_bestGiver_j31 at hf
    refine lv_istore (lv' := [(5, .int s0), (0, .ref (ad 0)), (1, .int y1), (2, .int y2), (3, .int y3), (4, .int y4)]) hx hb dX7_bestGiver_31 hl (by decide) rfl (fun ls hl => ?_)
    refine lv_iload hx hb dX7_bestGiver_33 (lv_at hl 0 rfl) ?_
    refine lv_if_eq (tgt := 61) hx hb dX7_bestGiver_35 (by decide) (fun c_35 => ?_) (fun c_35 => ?_)
    · replace hf := qf_t c_35 hf
      exact J_61 hK5 hf (lv_sub hl [1, 2, 3, 4, 5] rfl)
    · replace hf := qf_f c_35 hf
      refine lv_iload_n hx hb dX7_bestGiver_38 rfl (lv_at hl 4 rfl) ?_
      refine lv_if_lt (tgt := 58) hx hb dX7_bestGiver_39 (by decide) (fun c_39 => ?_) (fun c_39 => ?_)
      · replace hf := qf_t c_39 hf
        exact J_58 hK5 hf (lv_sub hl [1, 2, 3, 5] rfl)
      · replace hf := qf_f c_39 hf
        refine lv_aload_n hx hb dX7_bestGiver_42 rfl (lv_at hl 1 rfl) ?_
        refine lv_iload hx hb dX7_bestGiver_43 (lv_at hl 5 rfl) ?_
        refine lv_iload_n hx hb dX7_bestGiver_45 rfl (lv_at hl 2 rfl) ?_
        obtain ⟨r1, hc_46, hf⟩ := qf_bd_e hf
        refine qw_cVR (rest := []) (st1 := [.int r1]) S0 V hl 0 gO_0 rfl (c_X7_mostToGive l hc_46) kg_X7_194 rfl ⟨rfl, rfl⟩ kd_X7_mostToGive ⟨Nat.le_of_ble_eq_true rfl, Nat.le_of_ble_eq_true rfl⟩ rfl rfl (Nat.le_of_ble_eq_true rfl) ⟨Nat.zero_le _, Nat.zero_le _⟩ rfl dX7_bestGiver_46 ?_
        refine lv_aload_n hx hb dX7_bestGiver_49 rfl (lv_at hl 1 rfl) ?_
        refine lv_iload_n hx hb dX7_bestGiver_50 rfl (lv_at hl 4 rfl) ?_
        refine lv_iload_n hx hb dX7_bestGiver_51 rfl (lv_at hl 2 rfl) ?_
        obtain ⟨r2, hc_52, hf⟩ := qf_bd_e hf
        refine qw_cVR (rest := [.int r1]) (st1 := [.int r2, .int r1]) S0 V hl 0 gO_0 rfl (c_X7_mostToGive l hc_52) kg_X7_194 rfl ⟨rfl, rfl⟩ kd_X7_mostToGive ⟨Nat.le_of_ble_eq_true rfl, Nat.le_of_ble_eq_true rfl⟩ rfl rfl (Nat.le_of_ble_eq_true rfl) ⟨Nat.zero_le _, Nat.zero_le _⟩ rfl dX7_bestGiver_52 ?_
        refine lv_icmp_le (tgt := 61) hx hb dX7_bestGiver_55 (by decide) (fun c_55 => ?_) (fun c_55 => ?_)
        · replace hf := qf_t c_55 hf
          exact J_61 hK5 hf (lv_sub hl [1, 2, 3, 4, 5] rfl)
        · replace hf := qf_f c_55 hf
          exact J_58 hK5 hf (lv_sub hl [1, 2, 3, 5] rfl)
  have L_5 : ∀  {y1 : Int32} {y2 : Int32} {n : Nat}  {y3 : Int32} {y4 : Int32} {ls : Array Slot}, f_X7_bestGiver_l5 I A y1 y2 n y3 y4 = some (rv) → lv_has ls 6 [(0, .ref (ad 0)), (1, .int y1), (2, .int y2), (3, .int y3), (4, .int y4)] → W p l e rm_X7_bestGiver s m args below meth c s.heap [] 0 0 Q9 (F0 m 5 ls []) := by
    intro y1 y2 n
    induction n with
    | zero => intro y3 y4 ls hf hl; exact qf_no hf
    | succ n ih =>
      intro y3 y4 ls hf hl
      rw [f_X7_bestGiver_l5] at hf
      refine lv_iload hx hb dX7_bestGiver_5 (lv_at hl 4 rfl) ?_
      refine lv_aload_n hx hb dX7_bestGiver_7 rfl (lv_at hl 0 rfl) ?_
      refine gfO_0_5 S0 V kl_X7_40 dX7_bestGiver_8 ?_
      refine gfO_19_2 S0 V kl_X7_87 dX7_bestGiver_11 ?_
      refine lv_icmp_ge (tgt := 67) hx hb dX7_bestGiver_14 (by decide) (fun c_14 => ?_) (fun c_14 => ?_)
      · replace hf := qf_t c_14 hf
        refine lv_iload_n hx hb dX7_bestGiver_67 rfl (lv_at hl 3 rfl) ?_
        have hE := Option.some.inj hf
        exact qw_iretR S0 hr hlocks hQ hE dX7_bestGiver_68
      · replace hf := qf_f c_14 hf
        refine lv_iload_n hx hb dX7_bestGiver_17 rfl (lv_at hl 2 rfl) ?_
        refine lv_iconst (v := 1) hx hb dX7_bestGiver_18 (by decide) ?_
        refine lv_iload hx hb dX7_bestGiver_19 (lv_at hl 4 rfl) ?_
        refine lv_ishl hx hb dX7_bestGiver_21 ?_
        refine lv_iand hx hb dX7_bestGiver_22 ?_
        refine lv_if_ne (tgt := 30) hx hb dX7_bestGiver_23 (by decide) (fun c_23 => ?_) (fun c_23 => ?_)
        · replace hf := qf_f c_23 hf
          refine lv_iconst (v := 0) hx hb dX7_bestGiver_30 (by decide) ?_
          exact J_31 (fun hf hl => ih hf hl) hf (lv_sub hl [0, 1, 2, 3, 4] rfl)
        · replace hf := qf_t c_23 hf
          refine lv_iconst (v := 1) hx hb dX7_bestGiver_26 (by decide) ?_
          refine lv_goto (tgt := 31) hx hb dX7_bestGiver_27 (by decide) ?_
          exact J_31 (fun hf hl => ih hf hl) hf (lv_sub hl [0, 1, 2, 3, 4] rfl)
  unfold f_X7_bestGiver at hf
  refine lv_iconst (v := -1) hx hb dX7_bestGiver_0 (by decide) ?_
  refine lv_istore_n (lv' := [(3, .int (-1 : Int32)), (0, .ref (ad 0)), (1, .int p1), (2, .int p2)]) hx hb dX7_bestGiver_1 rfl hl (by decide) rfl (fun ls hl => ?_)
  refine lv_iconst (v := 0) hx hb dX7_bestGiver_2 (by decide) ?_
  refine lv_istore (lv' := [(4, .int (0 : Int32)), (3, .int (-1 : Int32)), (0, .ref (ad 0)), (1, .int p1), (2, .int p2)]) hx hb dX7_bestGiver_3 hl (by decide) rfl (fun ls hl => ?_)
  exact L_5 hf (lv_sub hl [2, 3, 4, 1, 0] rfl)
theorem kd_X7_fewestGivers : yX7_fewestGivers.cls = RX7 ∧ yX7_fewestGivers.cls ≠ "java/lang/invoke/MethodHandle" ∧ yX7_fewestGivers.cls ≠ "java/lang/invoke/VarHandle" ∧ (parseMethodDescriptor yX7_fewestGivers.desc).map (fun d => d.parameters.length) = some 3 := by decide +kernel
def f_X7_fewestGivers_l11 (I : Nat → Int32) (A : Nat → Nat → Int32)  (y2 : Int32) : Nat → Int32 → Int32 → Int32 → Option (Int32)
  | 0, _, _, _ => none
  | n + 1, y4, y5, y6 =>
  if (I 14) ≤ y6 then (some ((-1 : Int32))) else (qf_bd (f_X7_bestGiver I A y2 y4) fun r2 =>
    if 0 ≤ r2 then (qf_let ((y4 ||| ((1 : Int32) <<< (r2 &&& 31)))) fun x3 =>
      qf_bd (f_X7_mostToGive A r2 y2) fun r4 =>
      qf_let ((y5 - r4)) fun x5 =>
      if 0 < x5 then (qf_let (y6 + (1 : Int32)) fun x6 =>
        f_X7_fewestGivers_l11 I A y2 n x3 x5 x6) else (some (y6))) else (some ((-1 : Int32))))
def f_X7_fewestGivers (I : Nat → Int32) (A : Nat → Nat → Int32) (p1 : Int32) (p2 : Int32) (p3 : Int32) : Option (Int32) :=
  qf_let (((1 : Int32) <<< (p1 &&& 31))) fun x1 =>
  f_X7_fewestGivers_l11 I A p2 100000 x1 p3 (1 : Int32)
abbrev wz_X7_fewestGivers : List Cond := Cond.code yX7_fewestGivers cX7_fewestGivers 8 (some .int) :: qw_big
def rm_X7_fewestGivers : Room := { frames := 4, cells := 0, slots := 0, locals := 128 }
set_option maxHeartbeats 4000000 in
set_option maxRecDepth 100000 in
theorem c_X7_fewestGivers (l : Launch) {D : va_G} {cy : Nat → ClassId} {ad : Nat → Nat} {I : Nat → Int32} {A : Nat → Nat → Int32} {G : Nat → Int32 × (Nat → Nat → Int32)} {T : Nat} {p1 : Int32} {p2 : Int32} {p3 : Int32} {rv : Int32} {sz : Nat} (hf : f_X7_fewestGivers I A p1 p2 p3 = some (rv)) : Met l yX7_fewestGivers wz_X7_fewestGivers rm_X7_fewestGivers (va_Pc [.ref (ad 0), .int p1, .int p2, .int p3] (qw_Pre D cy (Wo cy ad I A G T) sz)) (qw_R (some (.int rv))) 0 0 (fun _ => False) := by
  refine qw_of (cc := cX7_fewestGivers) (maxL := 8) (ret := (some .int)) (by decide) (Nat.le_of_ble_eq_true rfl) ?_
  intro p e s m args below meth c ls S0 hr hlocks hsz V hl
  have S0 : CallFix p m c cX7_fewestGivers 8 s args qw_big RX7 := S0
  have hx := S0.1; have hb := S0.2.1; have hown := S0.2.2.2.1; have hts := S0.2.2.2.2
  have hl : lv_has ls 8 [(0, .ref (ad 0)), (1, .int p1), (2, .int p2), (3, .int p3)] := hl
  obtain ⟨Q9, hQ⟩ : ∃ q, q = MQ below (qw_R (some (.int rv))) args s 0 0 (fun _ => False) := ⟨_, rfl⟩
  rw [← hQ]
  generalize va_A (Wo cy ad I A G T) sz = Z9 at V
  have L_11 : ∀  {y2 : Int32} {n : Nat}  {y4 : Int32} {y5 : Int32} {y6 : Int32} {ls : Array Slot}, f_X7_fewestGivers_l11 I A y2 n y4 y5 y6 = some (rv) → lv_has ls 8 [(0, .ref (ad 0)), (2, .int y2), (4, .int y4), (5, .int y5), (6, .int y6)] → W p l e rm_X7_fewestGivers s m args below meth c s.heap [] 0 0 Q9 (F0 m 11 ls []) := by
    intro y2 n
    induction n with
    | zero => intro y4 y5 y6 ls hf hl; exact qf_no hf
    | succ n ih =>
      intro y4 y5 y6 ls hf hl
      rw [f_X7_fewestGivers_l11] at hf
      refine lv_iload hx hb dX7_fewestGivers_11 (lv_at hl 4 rfl) ?_
      refine lv_aload_n hx hb dX7_fewestGivers_13 rfl (lv_at hl 0 rfl) ?_
      refine gfO_0_5 S0 V kl_X7_40 dX7_fewestGivers_14 ?_
      refine gfO_19_2 S0 V kl_X7_87 dX7_fewestGivers_17 ?_
      refine lv_icmp_ge (tgt := 74) hx hb dX7_fewestGivers_20 (by decide) (fun c_20 => ?_) (fun c_20 => ?_)
      · replace hf := qf_t c_20 hf
        refine lv_iconst (v := -1) hx hb dX7_fewestGivers_74 (by decide) ?_
        have hE := Option.some.inj hf
        exact qw_iretR S0 hr hlocks hQ hE dX7_fewestGivers_75
      · replace hf := qf_f c_20 hf
        refine lv_aload_n hx hb dX7_fewestGivers_23 rfl (lv_at hl 0 rfl) ?_
        refine lv_iload_n hx hb dX7_fewestGivers_24 rfl (lv_at hl 1 rfl) ?_
        refine lv_iload hx hb dX7_fewestGivers_25 (lv_at hl 2 rfl) ?_
        obtain ⟨r2, hc_27, hf⟩ := qf_bd_e hf
        refine qw_cVR (rest := []) (st1 := [.int r2]) S0 V hl 0 gO_0 rfl (c_X7_bestGiver l hc_27) kg_X7_210 rfl ⟨rfl, rfl⟩ kd_X7_bestGiver ⟨Nat.le_of_ble_eq_true rfl, Nat.le_of_ble_eq_true rfl⟩ rfl rfl (Nat.le_of_ble_eq_true rfl) ⟨Nat.zero_le _, Nat.zero_le _⟩ rfl dX7_fewestGivers_27 ?_
        refine lv_istore (lv' := [(7, .int r2), (0, .ref (ad 0)), (2, .int y2), (4, .int y4), (5, .int y5), (6, .int y6)]) hx hb dX7_fewestGivers_30 hl (by decide) rfl (fun ls hl => ?_)
        refine lv_iload hx hb dX7_fewestGivers_32 (lv_at hl 0 rfl) ?_
        refine lv_if_ge (tgt := 39) hx hb dX7_fewestGivers_34 (by decide) (fun c_34 => ?_) (fun c_34 => ?_)
        · replace hf := qf_t c_34 hf
          refine lv_iload hx hb dX7_fewestGivers_39 (lv_at hl 3 rfl) ?_
          refine lv_iconst (v := 1) hx hb dX7_fewestGivers_41 (by decide) ?_
          refine lv_iload hx hb dX7_fewestGivers_42 (lv_at hl 0 rfl) ?_
          refine lv_ishl hx hb dX7_fewestGivers_44 ?_
          refine lv_ior hx hb dX7_fewestGivers_45 ?_
          refine lv_topi (fun x3 e_x3 => ?_)
          replace hf := qf_let_e e_x3 hf
          refine lv_istore (lv' := [(4, .int x3), (7, .int r2), (0, .ref (ad 0)), (2, .int y2), (5, .int y5), (6, .int y6)]) hx hb dX7_fewestGivers_46 hl (by decide) rfl (fun ls hl => ?_)
          refine lv_iload hx hb dX7_fewestGivers_48 (lv_at hl 4 rfl) ?_
          refine lv_aload_n hx hb dX7_fewestGivers_50 rfl (lv_at hl 2 rfl) ?_
          refine lv_iload hx hb dX7_fewestGivers_51 (lv_at hl 1 rfl) ?_
          refine lv_iload_n hx hb dX7_fewestGivers_53 rfl (lv_at hl 3 rfl) ?_
          obtain ⟨r4, hc_54, hf⟩ := qf_bd_e hf
          refine qw_cVR (rest := [.int y5]) (st1 := [.int r4, .int y5]) S0 V hl 0 gO_0 rfl (c_X7_mostToGive l hc_54) kg_X7_194 rfl ⟨rfl, rfl⟩ kd_X7_mostToGive ⟨Nat.le_of_ble_eq_true rfl, Nat.le_of_ble_eq_true rfl⟩ rfl rfl (Nat.le_of_ble_eq_true rfl) ⟨Nat.zero_le _, Nat.zero_le _⟩ rfl dX7_fewestGivers_54 ?_
          refine lv_isub hx hb dX7_fewestGivers_57 ?_
          refine lv_topi (fun x5 e_x5 => ?_)
          replace hf := qf_let_e e_x5 hf
          refine lv_istore (lv' := [(5, .int x5), (4, .int x3), (7, .int r2), (0, .ref (ad 0)), (2, .int y2), (6, .int y6)]) hx hb dX7_fewestGivers_58 hl (by decide) rfl (fun ls hl => ?_)
          refine lv_iload hx hb dX7_fewestGivers_60 (lv_at hl 0 rfl) ?_
          refine lv_if_gt (tgt := 68) hx hb dX7_fewestGivers_62 (by decide) (fun c_62 => ?_) (fun c_62 => ?_)
          · replace hf := qf_t c_62 hf
            obtain ⟨x6, e_x6⟩ : ∃ y : Int32, y = y6 + (1 : Int32) := ⟨_, rfl⟩
            refine lv_iinc (v := x6) (lv' := [(6, .int x6), (5, .int x5), (4, .int x3), (7, .int r2), (0, .ref (ad 0)), (2, .int y2)]) hx hb dX7_fewestGivers_68 hl (k := 5) rfl (by rw [e_x6]; rfl) (by decide) rfl (fun ls hl => ?_)
            replace hf := qf_let_e e_x6 hf
            refine lv_goto (tgt := 11) hx hb dX7_fewestGivers_71 (by decide) ?_
            exact ih hf (lv_sub hl [4, 5, 2, 1, 0] rfl)
          · replace hf := qf_f c_62 hf
            refine lv_iload hx hb dX7_fewestGivers_65 (lv_at hl 5 rfl) ?_
            have hE := Option.some.inj hf
            exact qw_iretR S0 hr hlocks hQ hE dX7_fewestGivers_67
        · replace hf := qf_f c_34 hf
          refine lv_iconst (v := -1) hx hb dX7_fewestGivers_37 (by decide) ?_
          have hE := Option.some.inj hf
          exact qw_iretR S0 hr hlocks hQ hE dX7_fewestGivers_38
  unfold f_X7_fewestGivers at hf
  refine lv_iconst (v := 1) hx hb dX7_fewestGivers_0 (by decide) ?_
  refine lv_iload_n hx hb dX7_fewestGivers_1 rfl (lv_at hl 1 rfl) ?_
  refine lv_ishl hx hb dX7_fewestGivers_2 ?_
  refine lv_topi (fun x1 e_x1 => ?_)
  replace hf := qf_let_e e_x1 hf
  refine lv_istore (lv' := [(4, .int x1), (0, .ref (ad 0)), (1, .int p1), (2, .int p2), (3, .int p3)]) hx hb dX7_fewestGivers_3 hl (by decide) rfl (fun ls hl => ?_)
  refine lv_iload_n hx hb dX7_fewestGivers_5 rfl (lv_at hl 4 rfl) ?_
  refine lv_istore (lv' := [(5, .int p3), (4, .int x1), (0, .ref (ad 0)), (1, .int p1), (2, .int p2), (3, .int p3)]) hx hb dX7_fewestGivers_6 hl (by decide) rfl (fun ls hl => ?_)
  refine lv_iconst (v := 1) hx hb dX7_fewestGivers_8 (by decide) ?_
  refine lv_istore (lv' := [(6, .int (1 : Int32)), (5, .int p3), (4, .int x1), (0, .ref (ad 0)), (1, .int p1), (2, .int p2), (3, .int p3)]) hx hb dX7_fewestGivers_9 hl (by decide) rfl (fun ls hl => ?_)
  exact L_11 hf (lv_sub hl [3, 5, 2, 1, 0] rfl)
theorem kd_X7_helpers : yX7_helpers.cls = RX7 ∧ yX7_helpers.cls ≠ "java/lang/invoke/MethodHandle" ∧ yX7_helpers.cls ≠ "java/lang/invoke/VarHandle" ∧ (parseMethodDescriptor yX7_helpers.desc).map (fun d => d.parameters.length) = some 3 := by decide +kernel
def f_X7_helpers_j21 (I : Nat → Int32) (A : Nat → Nat → Int32)  (y1 : Int32) (y2 : Int32) (y3 : Int32) (s0 : Int32) : Option (Option (Int32)) :=
  if s0 = 0 then some none else
  if y3 < 0 then (some (some ((-2 : Int32)))) else (if y3 ≤ (9999 : Int32) then (qf_bd (f_X7_holding A y1 y2) fun r3 =>
      qf_let ((y3 - r3)) fun x4 =>
      if 0 < x4 then (qf_bd (f_X7_takeRoom A y1) fun r5 =>
        if r5 < x4 then (some (some ((-1 : Int32)))) else (qf_bd (f_X7_fewestGivers I A y1 y2 x4) fun r6 =>
          some (some (r6)))) else (some (some ((0 : Int32))))) else (some (some ((-2 : Int32)))))
def f_X7_helpers_j20 (I : Nat → Int32) (A : Nat → Nat → Int32)  (y1 : Int32) (y2 : Int32) (y3 : Int32) : Option (Option (Int32)) :=
  f_X7_helpers_j21 I A y1 y2 y3 (0 : Int32)
def f_X7_helpers (I : Nat → Int32) (A : Nat → Nat → Int32) (p1 : Int32) (p2 : Int32) (p3 : Int32) : Option (Option (Int32)) :=
  qf_bd (f_X7_isHouse I p1) fun r1 =>
  if r1 = 0 then (f_X7_helpers_j20 I A p1 p2 p3) else (qf_bd (f_X7_isGroup I p2) fun r2 =>
    if r2 = 0 then (f_X7_helpers_j20 I A p1 p2 p3) else (f_X7_helpers_j21 I A p1 p2 p3 (1 : Int32)))
abbrev wz_X7_helpers : List Cond := Cond.code yX7_helpers cX7_helpers 5 (some .int) :: qw_big
def rm_X7_helpers : Room := { frames := 7, cells := 1, slots := 6, locals := 155 }
set_option maxHeartbeats 4000000 in
set_option maxRecDepth 100000 in
theorem c_X7_helpers (l : Launch) (hst : l.stackTraces = false) {D : va_G} {cy : Nat → ClassId} {ad : Nat → Nat} {I : Nat → Int32} {A : Nat → Nat → Int32} {G : Nat → Int32 × (Nat → Nat → Int32)} {T : Nat} {p1 : Int32} {p2 : Int32} {p3 : Int32} {ro : (Option (Int32))} {sz : Nat} (hf : f_X7_helpers I A p1 p2 p3 = some ro) : vx_Met l yX7_helpers wz_X7_helpers rm_X7_helpers (va_Pc [.ref (ad 0), .int p1, .int p2, .int p3] (qw_Pre D cy (Wo cy ad I A G T) sz)) (qx_Q ro (fun v9 => some (.int v9)) (fun _ => (Wo cy ad I A G T)) D (va_A (Wo cy ad I A G T) sz)) (qx_X ro D (Wo cy ad I A G T) (va_A (Wo cy ad I A G T) sz)) 1 6 (va_A (Wo cy ad I A G T) sz) := by
  refine qx_of (cc := cX7_helpers) (maxL := 5) (ret := (some .int)) (by decide) (Nat.le_of_ble_eq_true rfl) ?_
  intro p e s m args below meth c ls S0 hr hlocks htab hsz V hl
  have S0 : CallFix p m c cX7_helpers 5 s args qw_big RX7 := S0
  have hx := S0.1; have hb := S0.2.1; have hown := S0.2.2.2.1; have hts := S0.2.2.2.2
  have hl : lv_has ls 5 [(0, .ref (ad 0)), (1, .int p1), (2, .int p2), (3, .int p3)] := hl
  generalize va_A (Wo cy ad I A G T) sz = Z9 at V ⊢
  obtain ⟨Q9, hQ⟩ : ∃ q, q = vx_MQ below (qx_Q ro (fun v9 => some (.int v9)) (fun _ => (Wo cy ad I A G T)) D Z9) (qx_X ro D (Wo cy ad I A G T) Z9) args s 1 6 Z9 := ⟨_, rfl⟩
  rw [← hQ]
  clear hsz
  have J_21 : ∀   {y1 : Int32} {y2 : Int32} {y3 : Int32} {s0 : Int32} {H : Heap} {locs : List Loc} {ls : Array Slot}, f_X7_helpers_j21 I A y1 y2 y3 s0 = some ro → qw_V D cy Z9 s (Wo cy ad I A G T) H locs → lv_has ls 5 [(0, .ref (ad 0)), (1, .int y1), (2, .int y2), (3, .int y3)] → W p l e rm_X7_helpers s m args below meth c H locs 0 0 Q9 (F0 m 21 ls [.int s0]) := by
    intro y1 y2 y3 s0 H locs ls hf V hl
    unfold f_X7_helpers_j21 at hf
    by_cases c_21 : s0 = 0
    · exact qx_thr (rest := []) hst hQ S0 V hl c_21 kg_X7_119 ⟨by decide, by decide⟩ (Nat.le_of_ble_eq_true rfl) ⟨by decide, by decide⟩ dX7_helpers_21 (by decide) (by decide) hlocks htab (fun t9 h9 h8 => ⟨rfl, (Option.some.inj (qf_t c_21 hf)).symm, h9, h8⟩)
    replace hf := qf_f c_21 hf
    refine qw_cSR (rest := []) (st1 := []) S0 V hl (c_X7_need l c_21) kg_X7_119 rfl ⟨rfl, rfl⟩ kd_X7_need ⟨by decide, by decide⟩ rfl rfl (Nat.le_of_ble_eq_true rfl) ⟨Nat.zero_le _, Nat.zero_le _⟩ rfl dX7_helpers_21 ?_
    refine lv_iload_n hx hb dX7_helpers_24 rfl (lv_at hl 3 rfl) ?_
    refine lv_if_lt (tgt := 35) hx hb dX7_helpers_25 (by decide) (fun c_25 => ?_) (fun c_25 => ?_)
    · replace hf := qf_t c_25 hf
      refine lv_bipush (v := -2) hx hb dX7_helpers_35 (by decide) ?_
      have hE := Option.some.inj hf
      exact qx_ireti hQ S0 hr hlocks hE rfl rfl V dX7_helpers_37
    · replace hf := qf_f c_25 hf
      refine lv_iload_n hx hb dX7_helpers_28 rfl (lv_at hl 3 rfl) ?_
      refine lv_sipush (v := 9999) hx hb dX7_helpers_29 (by decide) ?_
      refine lv_icmp_le (tgt := 38) hx hb dX7_helpers_32 (by decide) (fun c_32 => ?_) (fun c_32 => ?_)
      · replace hf := qf_t c_32 hf
        refine lv_iload_n hx hb dX7_helpers_38 rfl (lv_at hl 3 rfl) ?_
        refine lv_aload_n hx hb dX7_helpers_39 rfl (lv_at hl 0 rfl) ?_
        refine lv_iload_n hx hb dX7_helpers_40 rfl (lv_at hl 1 rfl) ?_
        refine lv_iload_n hx hb dX7_helpers_41 rfl (lv_at hl 2 rfl) ?_
        obtain ⟨r3, hc_42, hf⟩ := qf_bd_e hf
        refine qw_cVR (rest := [.int y3]) (st1 := [.int r3, .int y3]) S0 V hl 0 gO_0 rfl (c_X7_holding l hc_42) kg_X7_162 rfl ⟨rfl, rfl⟩ kd_X7_holding ⟨Nat.le_of_ble_eq_true rfl, Nat.le_of_ble_eq_true rfl⟩ rfl rfl (Nat.le_of_ble_eq_true rfl) ⟨Nat.zero_le _, Nat.zero_le _⟩ rfl dX7_helpers_42 ?_
        refine lv_isub hx hb dX7_helpers_45 ?_
        refine lv_topi (fun x4 e_x4 => ?_)
        replace hf := qf_let_e e_x4 hf
        refine lv_istore (lv' := [(4, .int x4), (0, .ref (ad 0)), (1, .int y1), (2, .int y2), (3, .int y3)]) hx hb dX7_helpers_46 hl (by decide) rfl (fun ls hl => ?_)
        refine lv_iload hx hb dX7_helpers_48 (lv_at hl 0 rfl) ?_
        refine lv_if_gt (tgt := 55) hx hb dX7_helpers_50 (by decide) (fun c_50 => ?_) (fun c_50 => ?_)
        · replace hf := qf_t c_50 hf
          refine lv_iload hx hb dX7_helpers_55 (lv_at hl 0 rfl) ?_
          refine lv_aload_n hx hb dX7_helpers_57 rfl (lv_at hl 1 rfl) ?_
          refine lv_iload_n hx hb dX7_helpers_58 rfl (lv_at hl 2 rfl) ?_
          obtain ⟨r5, hc_59, hf⟩ := qf_bd_e hf
          refine qw_cVR (rest := [.int x4]) (st1 := [.int r5, .int x4]) S0 V hl 0 gO_0 rfl (c_X7_takeRoom l hc_59) kg_X7_197 rfl ⟨rfl, rfl⟩ kd_X7_takeRoom ⟨Nat.le_of_ble_eq_true rfl, Nat.le_of_ble_eq_true rfl⟩ rfl rfl (Nat.le_of_ble_eq_true rfl) ⟨Nat.zero_le _, Nat.zero_le _⟩ rfl dX7_helpers_59 ?_
          refine lv_icmp_gt (tgt := 76) hx hb dX7_helpers_62 (by decide) (fun c_62 => ?_) (fun c_62 => ?_)
          · replace hf := qf_t c_62 hf
            refine lv_iconst (v := -1) hx hb dX7_helpers_76 (by decide) ?_
            have hE := Option.some.inj hf
            exact qx_ireti hQ S0 hr hlocks hE rfl rfl V dX7_helpers_77
          · replace hf := qf_f c_62 hf
            refine lv_aload_n hx hb dX7_helpers_65 rfl (lv_at hl 1 rfl) ?_
            refine lv_iload_n hx hb dX7_helpers_66 rfl (lv_at hl 2 rfl) ?_
            refine lv_iload_n hx hb dX7_helpers_67 rfl (lv_at hl 3 rfl) ?_
            refine lv_iload hx hb dX7_helpers_68 (lv_at hl 0 rfl) ?_
            obtain ⟨r6, hc_70, hf⟩ := qf_bd_e hf
            refine qw_cVR (rest := []) (st1 := [.int r6]) S0 V hl 0 gO_0 rfl (c_X7_fewestGivers l hc_70) kg_X7_206 rfl ⟨rfl, rfl⟩ kd_X7_fewestGivers ⟨Nat.le_of_ble_eq_true rfl, Nat.le_of_ble_eq_true rfl⟩ rfl rfl (Nat.le_of_ble_eq_true rfl) ⟨Nat.zero_le _, Nat.zero_le _⟩ rfl dX7_helpers_70 ?_
            refine lv_goto (tgt := 77) hx hb dX7_helpers_73 (by decide) ?_
            have hE := Option.some.inj hf
            exact qx_ireti hQ S0 hr hlocks hE rfl rfl V dX7_helpers_77
        · replace hf := qf_f c_50 hf
          refine lv_iconst (v := 0) hx hb dX7_helpers_53 (by decide) ?_
          have hE := Option.some.inj hf
          exact qx_ireti hQ S0 hr hlocks hE rfl rfl V dX7_helpers_54
      · replace hf := qf_f c_32 hf
        refine lv_bipush (v := -2) hx hb dX7_helpers_35 (by decide) ?_
        have hE := Option.some.inj hf
        exact qx_ireti hQ S0 hr hlocks hE rfl rfl V dX7_helpers_37
  have J_20 : ∀   {y1 : Int32} {y2 : Int32} {y3 : Int32} {H : Heap} {locs : List Loc} {ls : Array Slot}, f_X7_helpers_j20 I A y1 y2 y3 = some ro → qw_V D cy Z9 s (Wo cy ad I A G T) H locs → lv_has ls 5 [(0, .ref (ad 0)), (1, .int y1), (2, .int y2), (3, .int y3)] → W p l e rm_X7_helpers s m args below meth c H locs 0 0 Q9 (F0 m 20 ls []) := by
    intro y1 y2 y3 H locs ls hf V hl
    unfold f_X7_helpers_j20 at hf
    refine lv_iconst (v := 0) hx hb dX7_helpers_20 (by decide) ?_
    exact J_21 hf V (lv_sub hl [0, 1, 2, 3] rfl)
  unfold f_X7_helpers at hf
  refine lv_aload_n hx hb dX7_helpers_0 rfl (lv_at hl 0 rfl) ?_
  refine lv_iload_n hx hb dX7_helpers_1 rfl (lv_at hl 1 rfl) ?_
  obtain ⟨r1, hc_2, hf⟩ := qf_bd_e hf
  refine qw_cVR (rest := []) (st1 := [.int r1]) S0 V hl 0 gO_0 rfl (c_X7_isHouse l hc_2) kg_X7_150 rfl ⟨rfl, rfl⟩ kd_X7_isHouse ⟨Nat.le_of_ble_eq_true rfl, Nat.le_of_ble_eq_true rfl⟩ rfl rfl (Nat.le_of_ble_eq_true rfl) ⟨Nat.zero_le _, Nat.zero_le _⟩ rfl dX7_helpers_2 ?_
  refine lv_if_eq (tgt := 20) hx hb dX7_helpers_5 (by decide) (fun c_5 => ?_) (fun c_5 => ?_)
  · replace hf := qf_t c_5 hf
    exact J_20 hf V (lv_sub hl [0, 1, 2, 3] rfl)
  · replace hf := qf_f c_5 hf
    refine lv_aload_n hx hb dX7_helpers_8 rfl (lv_at hl 0 rfl) ?_
    refine lv_iload_n hx hb dX7_helpers_9 rfl (lv_at hl 2 rfl) ?_
    obtain ⟨r2, hc_10, hf⟩ := qf_bd_e hf
    refine qw_cVR (rest := []) (st1 := [.int r2]) S0 V hl 0 gO_0 rfl (c_X7_isGroup l hc_10) kg_X7_115 rfl ⟨rfl, rfl⟩ kd_X7_isGroup ⟨Nat.le_of_ble_eq_true rfl, Nat.le_of_ble_eq_true rfl⟩ rfl rfl (Nat.le_of_ble_eq_true rfl) ⟨Nat.zero_le _, Nat.zero_le _⟩ rfl dX7_helpers_10 ?_
    refine lv_if_eq (tgt := 20) hx hb dX7_helpers_13 (by decide) (fun c_13 => ?_) (fun c_13 => ?_)
    · replace hf := qf_t c_13 hf
      exact J_20 hf V (lv_sub hl [0, 1, 2, 3] rfl)
    · replace hf := qf_f c_13 hf
      refine lv_iconst (v := 1) hx hb dX7_helpers_16 (by decide) ?_
      refine lv_goto (tgt := 21) hx hb dX7_helpers_17 (by decide) ?_
      exact J_21 hf V (lv_sub hl [0, 1, 2, 3] rfl)
theorem kd_X7_isShop : yX7_isShop.cls = RX7 ∧ yX7_isShop.cls ≠ "java/lang/invoke/MethodHandle" ∧ yX7_isShop.cls ≠ "java/lang/invoke/VarHandle" ∧ (parseMethodDescriptor yX7_isShop.desc).map (fun d => d.parameters.length) = some 1 := by decide +kernel
def f_X7_isShop (I : Nat → Int32) (p1 : Int32) : Option (Int32) :=
  if p1 < 0 then (some ((0 : Int32))) else (if (I 15) ≤ p1 then (some ((0 : Int32))) else (some ((1 : Int32))))
abbrev wz_X7_isShop : List Cond := Cond.code yX7_isShop cX7_isShop 2 (some .boolean) :: qw_big
def rm_X7_isShop : Room := { frames := 0, cells := 0, slots := 0, locals := 0 }
set_option maxHeartbeats 4000000 in
set_option maxRecDepth 100000 in
theorem c_X7_isShop (l : Launch) {D : va_G} {cy : Nat → ClassId} {ad : Nat → Nat} {I : Nat → Int32} {A : Nat → Nat → Int32} {G : Nat → Int32 × (Nat → Nat → Int32)} {T : Nat} {p1 : Int32} {rv : Int32} {sz : Nat} (hf : f_X7_isShop I p1 = some (rv)) : Met l yX7_isShop wz_X7_isShop rm_X7_isShop (va_Pc [.ref (ad 0), .int p1] (qw_Pre D cy (Wo cy ad I A G T) sz)) (qw_R (some (.int rv))) 0 0 (fun _ => False) := by
  refine qw_of (cc := cX7_isShop) (maxL := 2) (ret := (some .boolean)) (by decide) (Nat.le_of_ble_eq_true rfl) ?_
  intro p e s m args below meth c ls S0 hr hlocks hsz V hl
  have S0 : CallFix p m c cX7_isShop 2 s args qw_big RX7 := S0
  have hx := S0.1; have hb := S0.2.1; have hown := S0.2.2.2.1; have hts := S0.2.2.2.2
  have hl : lv_has ls 2 [(0, .ref (ad 0)), (1, .int p1)] := hl
  obtain ⟨Q9, hQ⟩ : ∃ q, q = MQ below (qw_R (some (.int rv))) args s 0 0 (fun _ => False) := ⟨_, rfl⟩
  rw [← hQ]
  generalize va_A (Wo cy ad I A G T) sz = Z9 at V
  unfold f_X7_isShop at hf
  refine lv_iload_n hx hb dX7_isShop_0 rfl (lv_at hl 1 rfl) ?_
  refine lv_if_lt (tgt := 19) hx hb dX7_isShop_1 (by decide) (fun c_1 => ?_) (fun c_1 => ?_)
  · replace hf := qf_t c_1 hf
    refine lv_iconst (v := 0) hx hb dX7_isShop_19 (by decide) ?_
    have hE := Option.some.inj hf
    exact qw_zretR S0 hr hlocks hQ rfl hE dX7_isShop_20
  · replace hf := qf_f c_1 hf
    refine lv_iload_n hx hb dX7_isShop_4 rfl (lv_at hl 1 rfl) ?_
    refine lv_aload_n hx hb dX7_isShop_5 rfl (lv_at hl 0 rfl) ?_
    refine gfO_0_5 S0 V kl_X7_40 dX7_isShop_6 ?_
    refine gfO_19_3 S0 V kl_X7_90 dX7_isShop_9 ?_
    refine lv_icmp_ge (tgt := 19) hx hb dX7_isShop_12 (by decide) (fun c_12 => ?_) (fun c_12 => ?_)
    · replace hf := qf_t c_12 hf
      refine lv_iconst (v := 0) hx hb dX7_isShop_19 (by decide) ?_
      have hE := Option.some.inj hf
      exact qw_zretR S0 hr hlocks hQ rfl hE dX7_isShop_20
    · replace hf := qf_f c_12 hf
      refine lv_iconst (v := 1) hx hb dX7_isShop_15 (by decide) ?_
      refine lv_goto (tgt := 20) hx hb dX7_isShop_16 (by decide) ?_
      have hE := Option.some.inj hf
      exact qw_zretR S0 hr hlocks hQ rfl hE dX7_isShop_20
theorem kd_X7_stockOf : yX7_stockOf.cls = RX7 ∧ yX7_stockOf.cls ≠ "java/lang/invoke/MethodHandle" ∧ yX7_stockOf.cls ≠ "java/lang/invoke/VarHandle" ∧ (parseMethodDescriptor yX7_stockOf.desc).map (fun d => d.parameters.length) = some 2 := by decide +kernel
def f_X7_stockOf_j21 (I : Nat → Int32) (A : Nat → Nat → Int32)  (y1 : Int32) (y2 : Int32) (s0 : Int32) : Option (Option (Int32)) :=
  if s0 = 0 then some none else
  qf_bd (f_X5_shelf y1 y2) fun r3 =>
  qf_ld 24 (A 39) r3 fun x4 =>
  some (some (x4))
def f_X7_stockOf_j20 (I : Nat → Int32) (A : Nat → Nat → Int32)  (y1 : Int32) (y2 : Int32) : Option (Option (Int32)) :=
  f_X7_stockOf_j21 I A y1 y2 (0 : Int32)
def f_X7_stockOf (I : Nat → Int32) (A : Nat → Nat → Int32) (p1 : Int32) (p2 : Int32) : Option (Option (Int32)) :=
  qf_bd (f_X7_isShop I p1) fun r1 =>
  if r1 = 0 then (f_X7_stockOf_j20 I A p1 p2) else (qf_bd (f_X7_isGood I p2) fun r2 =>
    if r2 = 0 then (f_X7_stockOf_j20 I A p1 p2) else (f_X7_stockOf_j21 I A p1 p2 (1 : Int32)))
abbrev wz_X7_stockOf : List Cond := Cond.code yX7_stockOf cX7_stockOf 3 (some .int) :: qw_big
def rm_X7_stockOf : Room := { frames := 7, cells := 1, slots := 6, locals := 102 }
set_option maxHeartbeats 4000000 in
set_option maxRecDepth 100000 in
theorem c_X7_stockOf (l : Launch) (hst : l.stackTraces = false) {D : va_G} {cy : Nat → ClassId} {ad : Nat → Nat} {I : Nat → Int32} {A : Nat → Nat → Int32} {G : Nat → Int32 × (Nat → Nat → Int32)} {T : Nat} {p1 : Int32} {p2 : Int32} {ro : (Option (Int32))} {sz : Nat} (hf : f_X7_stockOf I A p1 p2 = some ro) : vx_Met l yX7_stockOf wz_X7_stockOf rm_X7_stockOf (va_Pc [.ref (ad 0), .int p1, .int p2] (qw_Pre D cy (Wo cy ad I A G T) sz)) (qx_Q ro (fun v9 => some (.int v9)) (fun _ => (Wo cy ad I A G T)) D (va_A (Wo cy ad I A G T) sz)) (qx_X ro D (Wo cy ad I A G T) (va_A (Wo cy ad I A G T) sz)) 1 6 (va_A (Wo cy ad I A G T) sz) := by
  refine qx_of (cc := cX7_stockOf) (maxL := 3) (ret := (some .int)) (by decide) (Nat.le_of_ble_eq_true rfl) ?_
  intro p e s m args below meth c ls S0 hr hlocks htab hsz V hl
  have S0 : CallFix p m c cX7_stockOf 3 s args qw_big RX7 := S0
  have hx := S0.1; have hb := S0.2.1; have hown := S0.2.2.2.1; have hts := S0.2.2.2.2
  have hl : lv_has ls 3 [(0, .ref (ad 0)), (1, .int p1), (2, .int p2)] := hl
  generalize va_A (Wo cy ad I A G T) sz = Z9 at V ⊢
  obtain ⟨Q9, hQ⟩ : ∃ q, q = vx_MQ below (qx_Q ro (fun v9 => some (.int v9)) (fun _ => (Wo cy ad I A G T)) D Z9) (qx_X ro D (Wo cy ad I A G T) Z9) args s 1 6 Z9 := ⟨_, rfl⟩
  rw [← hQ]
  clear hsz
  have J_21 : ∀   {y1 : Int32} {y2 : Int32} {s0 : Int32} {H : Heap} {locs : List Loc} {ls : Array Slot}, f_X7_stockOf_j21 I A y1 y2 s0 = some ro → qw_V D cy Z9 s (Wo cy ad I A G T) H locs → lv_has ls 3 [(0, .ref (ad 0)), (1, .int y1), (2, .int y2)] → W p l e rm_X7_stockOf s m args below meth c H locs 0 0 Q9 (F0 m 21 ls [.int s0]) := by
    intro y1 y2 s0 H locs ls hf V hl
    unfold f_X7_stockOf_j21 at hf
    by_cases c_21 : s0 = 0
    · exact qx_thr (rest := []) hst hQ S0 V hl c_21 kg_X7_119 ⟨by decide, by decide⟩ (Nat.le_of_ble_eq_true rfl) ⟨by decide, by decide⟩ dX7_stockOf_21 (by decide) (by decide) hlocks htab (fun t9 h9 h8 => ⟨rfl, (Option.some.inj (qf_t c_21 hf)).symm, h9, h8⟩)
    replace hf := qf_f c_21 hf
    refine qw_cSR (rest := []) (st1 := []) S0 V hl (c_X7_need l c_21) kg_X7_119 rfl ⟨rfl, rfl⟩ kd_X7_need ⟨by decide, by decide⟩ rfl rfl (Nat.le_of_ble_eq_true rfl) ⟨Nat.zero_le _, Nat.zero_le _⟩ rfl dX7_stockOf_21 ?_
    refine lv_aload_n hx hb dX7_stockOf_24 rfl (lv_at hl 0 rfl) ?_
    refine gfO_0_6 S0 V kl_X7_47 dX7_stockOf_25 ?_
    refine gfO_43_7 S0 V kl_X7_216 dX7_stockOf_28 ?_
    refine lv_iload_n hx hb dX7_stockOf_31 rfl (lv_at hl 1 rfl) ?_
    refine lv_iload_n hx hb dX7_stockOf_32 rfl (lv_at hl 2 rfl) ?_
    obtain ⟨r3, hc_33, hf⟩ := qf_bd_e hf
    refine qw_cSR (rest := [.ref (ad 50)]) (st1 := [.int r3, .ref (ad 50)]) S0 V hl (c_X5_shelf l hc_33) kg_X7_219 rfl ⟨rfl, rfl⟩ kd_X5_shelf ⟨Nat.le_of_ble_eq_true rfl, Nat.le_of_ble_eq_true rfl⟩ rfl rfl (Nat.le_of_ble_eq_true rfl) ⟨Nat.zero_le _, Nat.zero_le _⟩ rfl dX7_stockOf_33 ?_
    have h_36 := qf_ld_in hf
    refine alO_50 S0 V h_36 dX7_stockOf_36 ?_
    refine lv_topi (fun x4 e_x4 => ?_)
    replace hf := qf_ld_e e_x4 hf
    have hE := Option.some.inj hf
    exact qx_ireti hQ S0 hr hlocks hE rfl rfl V dX7_stockOf_37
  have J_20 : ∀   {y1 : Int32} {y2 : Int32} {H : Heap} {locs : List Loc} {ls : Array Slot}, f_X7_stockOf_j20 I A y1 y2 = some ro → qw_V D cy Z9 s (Wo cy ad I A G T) H locs → lv_has ls 3 [(0, .ref (ad 0)), (1, .int y1), (2, .int y2)] → W p l e rm_X7_stockOf s m args below meth c H locs 0 0 Q9 (F0 m 20 ls []) := by
    intro y1 y2 H locs ls hf V hl
    unfold f_X7_stockOf_j20 at hf
    refine lv_iconst (v := 0) hx hb dX7_stockOf_20 (by decide) ?_
    exact J_21 hf V (lv_sub hl [0, 1, 2] rfl)
  unfold f_X7_stockOf at hf
  refine lv_aload_n hx hb dX7_stockOf_0 rfl (lv_at hl 0 rfl) ?_
  refine lv_iload_n hx hb dX7_stockOf_1 rfl (lv_at hl 1 rfl) ?_
  obtain ⟨r1, hc_2, hf⟩ := qf_bd_e hf
  refine qw_cVR (rest := []) (st1 := [.int r1]) S0 V hl 0 gO_0 rfl (c_X7_isShop l hc_2) kg_X7_213 rfl ⟨rfl, rfl⟩ kd_X7_isShop ⟨Nat.le_of_ble_eq_true rfl, Nat.le_of_ble_eq_true rfl⟩ rfl rfl (Nat.le_of_ble_eq_true rfl) ⟨Nat.zero_le _, Nat.zero_le _⟩ rfl dX7_stockOf_2 ?_
  refine lv_if_eq (tgt := 20) hx hb dX7_stockOf_5 (by decide) (fun c_5 => ?_) (fun c_5 => ?_)
  · replace hf := qf_t c_5 hf
    exact J_20 hf V (lv_sub hl [0, 1, 2] rfl)
  · replace hf := qf_f c_5 hf
    refine lv_aload_n hx hb dX7_stockOf_8 rfl (lv_at hl 0 rfl) ?_
    refine lv_iload_n hx hb dX7_stockOf_9 rfl (lv_at hl 2 rfl) ?_
    obtain ⟨r2, hc_10, hf⟩ := qf_bd_e hf
    refine qw_cVR (rest := []) (st1 := [.int r2]) S0 V hl 0 gO_0 rfl (c_X7_isGood l hc_10) kg_X7_138 rfl ⟨rfl, rfl⟩ kd_X7_isGood ⟨Nat.le_of_ble_eq_true rfl, Nat.le_of_ble_eq_true rfl⟩ rfl rfl (Nat.le_of_ble_eq_true rfl) ⟨Nat.zero_le _, Nat.zero_le _⟩ rfl dX7_stockOf_10 ?_
    refine lv_if_eq (tgt := 20) hx hb dX7_stockOf_13 (by decide) (fun c_13 => ?_) (fun c_13 => ?_)
    · replace hf := qf_t c_13 hf
      exact J_20 hf V (lv_sub hl [0, 1, 2] rfl)
    · replace hf := qf_f c_13 hf
      refine lv_iconst (v := 1) hx hb dX7_stockOf_16 (by decide) ?_
      refine lv_goto (tgt := 21) hx hb dX7_stockOf_17 (by decide) ?_
      exact J_21 hf V (lv_sub hl [0, 1, 2] rfl)
theorem kd_X5_entry : yX5_entry.cls ≠ "java/lang/invoke/MethodHandle" ∧ yX5_entry.cls ≠ "java/lang/invoke/VarHandle" ∧ (parseMethodDescriptor yX5_entry.desc).map (fun d => d.parameters.length) = some 2 := by decide +kernel
def f_X5_entry (p1 : Int32) (p2 : Int32) : Option (Int32) :=
  some (((p1 * (4 : Int32)) + p2))
abbrev wz_X5_entry : List Cond := Cond.code yX5_entry cX5_entry 2 (some .int) :: qw_big
def rm_X5_entry : Room := { frames := 0, cells := 0, slots := 0, locals := 0 }
set_option maxHeartbeats 4000000 in
set_option maxRecDepth 100000 in
theorem c_X5_entry (l : Launch) {D : va_G} {cy : Nat → ClassId} {ws : va_W} {p1 : Int32} {p2 : Int32} {rv : Int32} {sz : Nat} (hf : f_X5_entry p1 p2 = some (rv)) : Met l yX5_entry wz_X5_entry rm_X5_entry (va_Pc [.int p1, .int p2] (qw_Pre D cy ws sz)) (qw_R (some (.int rv))) 0 0 (fun _ => False) := by
  refine qw_of (cc := cX5_entry) (maxL := 2) (ret := (some .int)) (by decide) (Nat.le_of_ble_eq_true rfl) ?_
  intro p e s m args below meth c ls S0 hr hlocks hsz V hl
  have S0 : CallFix p m c cX5_entry 2 s args qw_big RX5 := S0
  have hx := S0.1; have hb := S0.2.1; have hown := S0.2.2.2.1; have hts := S0.2.2.2.2
  have hl : lv_has ls 2 [(0, .int p1), (1, .int p2)] := hl
  obtain ⟨Q9, hQ⟩ : ∃ q, q = MQ below (qw_R (some (.int rv))) args s 0 0 (fun _ => False) := ⟨_, rfl⟩
  rw [← hQ]
  generalize va_A ws sz = Z9 at V
  unfold f_X5_entry at hf
  refine lv_iload_n hx hb dX5_entry_0 rfl (lv_at hl 0 rfl) ?_
  refine lv_iconst (v := 4) hx hb dX5_entry_1 (by decide) ?_
  refine lv_imul hx hb dX5_entry_2 ?_
  refine lv_iload_n hx hb dX5_entry_3 rfl (lv_at hl 1 rfl) ?_
  refine lv_iadd hx hb dX5_entry_4 ?_
  have hE := Option.some.inj hf
  exact qw_iretR S0 hr hlocks hQ hE dX5_entry_5
theorem kd_X7_accountOf : yX7_accountOf.cls = RX7 ∧ yX7_accountOf.cls ≠ "java/lang/invoke/MethodHandle" ∧ yX7_accountOf.cls ≠ "java/lang/invoke/VarHandle" ∧ (parseMethodDescriptor yX7_accountOf.desc).map (fun d => d.parameters.length) = some 2 := by decide +kernel
def f_X7_accountOf_j21 (I : Nat → Int32) (A : Nat → Nat → Int32)  (y1 : Int32) (y2 : Int32) (s0 : Int32) : Option (Option (Int32)) :=
  if s0 = 0 then some none else
  qf_bd (f_X5_entry y1 y2) fun r3 =>
  qf_ld 16 (A 40) r3 fun x4 =>
  some (some (x4))
def f_X7_accountOf_j20 (I : Nat → Int32) (A : Nat → Nat → Int32)  (y1 : Int32) (y2 : Int32) : Option (Option (Int32)) :=
  f_X7_accountOf_j21 I A y1 y2 (0 : Int32)
def f_X7_accountOf (I : Nat → Int32) (A : Nat → Nat → Int32) (p1 : Int32) (p2 : Int32) : Option (Option (Int32)) :=
  qf_bd (f_X7_isShop I p1) fun r1 =>
  if r1 = 0 then (f_X7_accountOf_j20 I A p1 p2) else (qf_bd (f_X7_isGroup I p2) fun r2 =>
    if r2 = 0 then (f_X7_accountOf_j20 I A p1 p2) else (f_X7_accountOf_j21 I A p1 p2 (1 : Int32)))
abbrev wz_X7_accountOf : List Cond := Cond.code yX7_accountOf cX7_accountOf 3 (some .int) :: qw_big
def rm_X7_accountOf : Room := { frames := 7, cells := 1, slots := 6, locals := 102 }
set_option maxHeartbeats 4000000 in
set_option maxRecDepth 100000 in
theorem c_X7_accountOf (l : Launch) (hst : l.stackTraces = false) {D : va_G} {cy : Nat → ClassId} {ad : Nat → Nat} {I : Nat → Int32} {A : Nat → Nat → Int32} {G : Nat → Int32 × (Nat → Nat → Int32)} {T : Nat} {p1 : Int32} {p2 : Int32} {ro : (Option (Int32))} {sz : Nat} (hf : f_X7_accountOf I A p1 p2 = some ro) : vx_Met l yX7_accountOf wz_X7_accountOf rm_X7_accountOf (va_Pc [.ref (ad 0), .int p1, .int p2] (qw_Pre D cy (Wo cy ad I A G T) sz)) (qx_Q ro (fun v9 => some (.int v9)) (fun _ => (Wo cy ad I A G T)) D (va_A (Wo cy ad I A G T) sz)) (qx_X ro D (Wo cy ad I A G T) (va_A (Wo cy ad I A G T) sz)) 1 6 (va_A (Wo cy ad I A G T) sz) := by
  refine qx_of (cc := cX7_accountOf) (maxL := 3) (ret := (some .int)) (by decide) (Nat.le_of_ble_eq_true rfl) ?_
  intro p e s m args below meth c ls S0 hr hlocks htab hsz V hl
  have S0 : CallFix p m c cX7_accountOf 3 s args qw_big RX7 := S0
  have hx := S0.1; have hb := S0.2.1; have hown := S0.2.2.2.1; have hts := S0.2.2.2.2
  have hl : lv_has ls 3 [(0, .ref (ad 0)), (1, .int p1), (2, .int p2)] := hl
  generalize va_A (Wo cy ad I A G T) sz = Z9 at V ⊢
  obtain ⟨Q9, hQ⟩ : ∃ q, q = vx_MQ below (qx_Q ro (fun v9 => some (.int v9)) (fun _ => (Wo cy ad I A G T)) D Z9) (qx_X ro D (Wo cy ad I A G T) Z9) args s 1 6 Z9 := ⟨_, rfl⟩
  rw [← hQ]
  clear hsz
  have J_21 : ∀   {y1 : Int32} {y2 : Int32} {s0 : Int32} {H : Heap} {locs : List Loc} {ls : Array Slot}, f_X7_accountOf_j21 I A y1 y2 s0 = some ro → qw_V D cy Z9 s (Wo cy ad I A G T) H locs → lv_has ls 3 [(0, .ref (ad 0)), (1, .int y1), (2, .int y2)] → W p l e rm_X7_accountOf s m args below meth c H locs 0 0 Q9 (F0 m 21 ls [.int s0]) := by
    intro y1 y2 s0 H locs ls hf V hl
    unfold f_X7_accountOf_j21 at hf
    by_cases c_21 : s0 = 0
    · exact qx_thr (rest := []) hst hQ S0 V hl c_21 kg_X7_119 ⟨by decide, by decide⟩ (Nat.le_of_ble_eq_true rfl) ⟨by decide, by decide⟩ dX7_accountOf_21 (by decide) (by decide) hlocks htab (fun t9 h9 h8 => ⟨rfl, (Option.some.inj (qf_t c_21 hf)).symm, h9, h8⟩)
    replace hf := qf_f c_21 hf
    refine qw_cSR (rest := []) (st1 := []) S0 V hl (c_X7_need l c_21) kg_X7_119 rfl ⟨rfl, rfl⟩ kd_X7_need ⟨by decide, by decide⟩ rfl rfl (Nat.le_of_ble_eq_true rfl) ⟨Nat.zero_le _, Nat.zero_le _⟩ rfl dX7_accountOf_21 ?_
    refine lv_aload_n hx hb dX7_accountOf_24 rfl (lv_at hl 0 rfl) ?_
    refine gfO_0_6 S0 V kl_X7_47 dX7_accountOf_25 ?_
    refine gfO_43_8 S0 V kl_X7_222 dX7_accountOf_28 ?_
    refine lv_iload_n hx hb dX7_accountOf_31 rfl (lv_at hl 1 rfl) ?_
    refine lv_iload_n hx hb dX7_accountOf_32 rfl (lv_at hl 2 rfl) ?_
    obtain ⟨r3, hc_33, hf⟩ := qf_bd_e hf
    refine qw_cSR (rest := [.ref (ad 51)]) (st1 := [.int r3, .ref (ad 51)]) S0 V hl (c_X5_entry l hc_33) kg_X7_225 rfl ⟨rfl, rfl⟩ kd_X5_entry ⟨Nat.le_of_ble_eq_true rfl, Nat.le_of_ble_eq_true rfl⟩ rfl rfl (Nat.le_of_ble_eq_true rfl) ⟨Nat.zero_le _, Nat.zero_le _⟩ rfl dX7_accountOf_33 ?_
    have h_36 := qf_ld_in hf
    refine alO_51 S0 V h_36 dX7_accountOf_36 ?_
    refine lv_topi (fun x4 e_x4 => ?_)
    replace hf := qf_ld_e e_x4 hf
    have hE := Option.some.inj hf
    exact qx_ireti hQ S0 hr hlocks hE rfl rfl V dX7_accountOf_37
  have J_20 : ∀   {y1 : Int32} {y2 : Int32} {H : Heap} {locs : List Loc} {ls : Array Slot}, f_X7_accountOf_j20 I A y1 y2 = some ro → qw_V D cy Z9 s (Wo cy ad I A G T) H locs → lv_has ls 3 [(0, .ref (ad 0)), (1, .int y1), (2, .int y2)] → W p l e rm_X7_accountOf s m args below meth c H locs 0 0 Q9 (F0 m 20 ls []) := by
    intro y1 y2 H locs ls hf V hl
    unfold f_X7_accountOf_j20 at hf
    refine lv_iconst (v := 0) hx hb dX7_accountOf_20 (by decide) ?_
    exact J_21 hf V (lv_sub hl [0, 1, 2] rfl)
  unfold f_X7_accountOf at hf
  refine lv_aload_n hx hb dX7_accountOf_0 rfl (lv_at hl 0 rfl) ?_
  refine lv_iload_n hx hb dX7_accountOf_1 rfl (lv_at hl 1 rfl) ?_
  obtain ⟨r1, hc_2, hf⟩ := qf_bd_e hf
  refine qw_cVR (rest := []) (st1 := [.int r1]) S0 V hl 0 gO_0 rfl (c_X7_isShop l hc_2) kg_X7_213 rfl ⟨rfl, rfl⟩ kd_X7_isShop ⟨Nat.le_of_ble_eq_true rfl, Nat.le_of_ble_eq_true rfl⟩ rfl rfl (Nat.le_of_ble_eq_true rfl) ⟨Nat.zero_le _, Nat.zero_le _⟩ rfl dX7_accountOf_2 ?_
  refine lv_if_eq (tgt := 20) hx hb dX7_accountOf_5 (by decide) (fun c_5 => ?_) (fun c_5 => ?_)
  · replace hf := qf_t c_5 hf
    exact J_20 hf V (lv_sub hl [0, 1, 2] rfl)
  · replace hf := qf_f c_5 hf
    refine lv_aload_n hx hb dX7_accountOf_8 rfl (lv_at hl 0 rfl) ?_
    refine lv_iload_n hx hb dX7_accountOf_9 rfl (lv_at hl 2 rfl) ?_
    obtain ⟨r2, hc_10, hf⟩ := qf_bd_e hf
    refine qw_cVR (rest := []) (st1 := [.int r2]) S0 V hl 0 gO_0 rfl (c_X7_isGroup l hc_10) kg_X7_115 rfl ⟨rfl, rfl⟩ kd_X7_isGroup ⟨Nat.le_of_ble_eq_true rfl, Nat.le_of_ble_eq_true rfl⟩ rfl rfl (Nat.le_of_ble_eq_true rfl) ⟨Nat.zero_le _, Nat.zero_le _⟩ rfl dX7_accountOf_10 ?_
    refine lv_if_eq (tgt := 20) hx hb dX7_accountOf_13 (by decide) (fun c_13 => ?_) (fun c_13 => ?_)
    · replace hf := qf_t c_13 hf
      exact J_20 hf V (lv_sub hl [0, 1, 2] rfl)
    · replace hf := qf_f c_13 hf
      refine lv_iconst (v := 1) hx hb dX7_accountOf_16 (by decide) ?_
      refine lv_goto (tgt := 21) hx hb dX7_accountOf_17 (by decide) ?_
      exact J_21 hf V (lv_sub hl [0, 1, 2] rfl)
theorem kd_X7_penaltyOf : yX7_penaltyOf.cls = RX7 ∧ yX7_penaltyOf.cls ≠ "java/lang/invoke/MethodHandle" ∧ yX7_penaltyOf.cls ≠ "java/lang/invoke/VarHandle" ∧ (parseMethodDescriptor yX7_penaltyOf.desc).map (fun d => d.parameters.length) = some 1 := by decide +kernel
def f_X7_penaltyOf (I : Nat → Int32) (A : Nat → Nat → Int32) (p1 : Int32) : Option (Option (Int32)) :=
  qf_bd (f_X7_isShop I p1) fun r1 =>
  if r1 = 0 then some none else
  qf_ld 4 (A 41) p1 fun x2 =>
  some (some (x2))
abbrev wz_X7_penaltyOf : List Cond := Cond.code yX7_penaltyOf cX7_penaltyOf 2 (some .int) :: qw_big
def rm_X7_penaltyOf : Room := { frames := 7, cells := 1, slots := 6, locals := 102 }
set_option maxHeartbeats 4000000 in
set_option maxRecDepth 100000 in
theorem c_X7_penaltyOf (l : Launch) (hst : l.stackTraces = false) {D : va_G} {cy : Nat → ClassId} {ad : Nat → Nat} {I : Nat → Int32} {A : Nat → Nat → Int32} {G : Nat → Int32 × (Nat → Nat → Int32)} {T : Nat} {p1 : Int32} {ro : (Option (Int32))} {sz : Nat} (hf : f_X7_penaltyOf I A p1 = some ro) : vx_Met l yX7_penaltyOf wz_X7_penaltyOf rm_X7_penaltyOf (va_Pc [.ref (ad 0), .int p1] (qw_Pre D cy (Wo cy ad I A G T) sz)) (qx_Q ro (fun v9 => some (.int v9)) (fun _ => (Wo cy ad I A G T)) D (va_A (Wo cy ad I A G T) sz)) (qx_X ro D (Wo cy ad I A G T) (va_A (Wo cy ad I A G T) sz)) 1 6 (va_A (Wo cy ad I A G T) sz) := by
  refine qx_of (cc := cX7_penaltyOf) (maxL := 2) (ret := (some .int)) (by decide) (Nat.le_of_ble_eq_true rfl) ?_
  intro p e s m args below meth c ls S0 hr hlocks htab hsz V hl
  have S0 : CallFix p m c cX7_penaltyOf 2 s args qw_big RX7 := S0
  have hx := S0.1; have hb := S0.2.1; have hown := S0.2.2.2.1; have hts := S0.2.2.2.2
  have hl : lv_has ls 2 [(0, .ref (ad 0)), (1, .int p1)] := hl
  generalize va_A (Wo cy ad I A G T) sz = Z9 at V ⊢
  obtain ⟨Q9, hQ⟩ : ∃ q, q = vx_MQ below (qx_Q ro (fun v9 => some (.int v9)) (fun _ => (Wo cy ad I A G T)) D Z9) (qx_X ro D (Wo cy ad I A G T) Z9) args s 1 6 Z9 := ⟨_, rfl⟩
  rw [← hQ]
  clear hsz
  unfold f_X7_penaltyOf at hf
  refine lv_aload_n hx hb dX7_penaltyOf_0 rfl (lv_at hl 0 rfl) ?_
  refine lv_iload_n hx hb dX7_penaltyOf_1 rfl (lv_at hl 1 rfl) ?_
  obtain ⟨r1, hc_2, hf⟩ := qf_bd_e hf
  refine qw_cVR (rest := []) (st1 := [.int r1]) S0 V hl 0 gO_0 rfl (c_X7_isShop l hc_2) kg_X7_213 rfl ⟨rfl, rfl⟩ kd_X7_isShop ⟨Nat.le_of_ble_eq_true rfl, Nat.le_of_ble_eq_true rfl⟩ rfl rfl (Nat.le_of_ble_eq_true rfl) ⟨Nat.zero_le _, Nat.zero_le _⟩ rfl dX7_penaltyOf_2 ?_
  by_cases c_5 : r1 = 0
  · exact qx_thr (rest := []) hst hQ S0 V hl c_5 kg_X7_119 ⟨by decide, by decide⟩ (Nat.le_of_ble_eq_true rfl) ⟨by decide, by decide⟩ dX7_penaltyOf_5 (by decide) (by decide) hlocks htab (fun t9 h9 h8 => ⟨rfl, (Option.some.inj (qf_t c_5 hf)).symm, h9, h8⟩)
  replace hf := qf_f c_5 hf
  refine qw_cSR (rest := []) (st1 := []) S0 V hl (c_X7_need l c_5) kg_X7_119 rfl ⟨rfl, rfl⟩ kd_X7_need ⟨by decide, by decide⟩ rfl rfl (Nat.le_of_ble_eq_true rfl) ⟨Nat.zero_le _, Nat.zero_le _⟩ rfl dX7_penaltyOf_5 ?_
  refine lv_aload_n hx hb dX7_penaltyOf_8 rfl (lv_at hl 0 rfl) ?_
  refine gfO_0_6 S0 V kl_X7_47 dX7_penaltyOf_9 ?_
  refine gfO_43_9 S0 V kl_X7_228 dX7_penaltyOf_12 ?_
  refine lv_iload_n hx hb dX7_penaltyOf_15 rfl (lv_at hl 1 rfl) ?_
  have h_16 := qf_ld_in hf
  refine alO_52 S0 V h_16 dX7_penaltyOf_16 ?_
  refine lv_topi (fun x2 e_x2 => ?_)
  replace hf := qf_ld_e e_x2 hf
  have hE := Option.some.inj hf
  exact qx_ireti hQ S0 hr hlocks hE rfl rfl V dX7_penaltyOf_17
theorem kd_X7_isClosed : yX7_isClosed.cls = RX7 ∧ yX7_isClosed.cls ≠ "java/lang/invoke/MethodHandle" ∧ yX7_isClosed.cls ≠ "java/lang/invoke/VarHandle" ∧ (parseMethodDescriptor yX7_isClosed.desc).map (fun d => d.parameters.length) = some 1 := by decide +kernel
def f_X7_isClosed (A : Nat → Nat → Int32) (p1 : Int32) : Option (Int32) :=
  qf_ld 4 (A 41) p1 fun x1 =>
  qf_ld 3 (A 35) (2 : Int32) fun x2 =>
  if x1 ≤ x2 then (some ((0 : Int32))) else (some ((1 : Int32)))
abbrev wz_X7_isClosed : List Cond := Cond.code yX7_isClosed cX7_isClosed 2 (some .boolean) :: qw_big
def rm_X7_isClosed : Room := { frames := 0, cells := 0, slots := 0, locals := 0 }
set_option maxHeartbeats 4000000 in
set_option maxRecDepth 100000 in
theorem c_X7_isClosed (l : Launch) {D : va_G} {cy : Nat → ClassId} {ad : Nat → Nat} {I : Nat → Int32} {A : Nat → Nat → Int32} {G : Nat → Int32 × (Nat → Nat → Int32)} {T : Nat} {p1 : Int32} {rv : Int32} {sz : Nat} (hf : f_X7_isClosed A p1 = some (rv)) : Met l yX7_isClosed wz_X7_isClosed rm_X7_isClosed (va_Pc [.ref (ad 0), .int p1] (qw_Pre D cy (Wo cy ad I A G T) sz)) (qw_R (some (.int rv))) 0 0 (fun _ => False) := by
  refine qw_of (cc := cX7_isClosed) (maxL := 2) (ret := (some .boolean)) (by decide) (Nat.le_of_ble_eq_true rfl) ?_
  intro p e s m args below meth c ls S0 hr hlocks hsz V hl
  have S0 : CallFix p m c cX7_isClosed 2 s args qw_big RX7 := S0
  have hx := S0.1; have hb := S0.2.1; have hown := S0.2.2.2.1; have hts := S0.2.2.2.2
  have hl : lv_has ls 2 [(0, .ref (ad 0)), (1, .int p1)] := hl
  obtain ⟨Q9, hQ⟩ : ∃ q, q = MQ below (qw_R (some (.int rv))) args s 0 0 (fun _ => False) := ⟨_, rfl⟩
  rw [← hQ]
  generalize va_A (Wo cy ad I A G T) sz = Z9 at V
  unfold f_X7_isClosed at hf
  refine lv_aload_n hx hb dX7_isClosed_0 rfl (lv_at hl 0 rfl) ?_
  refine gfO_0_6 S0 V kl_X7_47 dX7_isClosed_1 ?_
  refine gfO_43_9 S0 V kl_X7_228 dX7_isClosed_4 ?_
  refine lv_iload_n hx hb dX7_isClosed_7 rfl (lv_at hl 1 rfl) ?_
  have h_8 := qf_ld_in hf
  refine alO_52 S0 V h_8 dX7_isClosed_8 ?_
  refine lv_topi (fun x1 e_x1 => ?_)
  replace hf := qf_ld_e e_x1 hf
  refine lv_aload_n hx hb dX7_isClosed_9 rfl (lv_at hl 0 rfl) ?_
  refine gfO_0_6 S0 V kl_X7_47 dX7_isClosed_10 ?_
  refine gfO_43_3 S0 V kl_X7_159 dX7_isClosed_13 ?_
  refine lv_iconst (v := 2) hx hb dX7_isClosed_16 (by decide) ?_
  have h_17 := qf_ld_in hf
  refine alO_46 S0 V h_17 dX7_isClosed_17 ?_
  refine lv_topi (fun x2 e_x2 => ?_)
  replace hf := qf_ld_e e_x2 hf
  refine lv_icmp_le (tgt := 25) hx hb dX7_isClosed_18 (by decide) (fun c_18 => ?_) (fun c_18 => ?_)
  · replace hf := qf_t c_18 hf
    refine lv_iconst (v := 0) hx hb dX7_isClosed_25 (by decide) ?_
    have hE := Option.some.inj hf
    exact qw_zretR S0 hr hlocks hQ rfl hE dX7_isClosed_26
  · replace hf := qf_f c_18 hf
    refine lv_iconst (v := 1) hx hb dX7_isClosed_21 (by decide) ?_
    refine lv_goto (tgt := 26) hx hb dX7_isClosed_22 (by decide) ?_
    have hE := Option.some.inj hf
    exact qw_zretR S0 hr hlocks hQ rfl hE dX7_isClosed_26
theorem kd_X7_isSuspended : yX7_isSuspended.cls = RX7 ∧ yX7_isSuspended.cls ≠ "java/lang/invoke/MethodHandle" ∧ yX7_isSuspended.cls ≠ "java/lang/invoke/VarHandle" ∧ (parseMethodDescriptor yX7_isSuspended.desc).map (fun d => d.parameters.length) = some 1 := by decide +kernel
def f_X7_isSuspended (I : Nat → Int32) (A : Nat → Nat → Int32) (p1 : Int32) : Option (Option (Int32)) :=
  qf_bd (f_X7_isShop I p1) fun r1 =>
  if r1 = 0 then some none else
  qf_bd (f_X7_isClosed A p1) fun r2 =>
  qf_ck (r2 = 0 ∨ r2 = 1) <|
  some (some (r2))
abbrev wz_X7_isSuspended : List Cond := Cond.code yX7_isSuspended cX7_isSuspended 2 (some .boolean) :: qw_big
def rm_X7_isSuspended : Room := { frames := 7, cells := 1, slots := 6, locals := 102 }
set_option maxHeartbeats 4000000 in
set_option maxRecDepth 100000 in
theorem c_X7_isSuspended (l : Launch) (hst : l.stackTraces = false) {D : va_G} {cy : Nat → ClassId} {ad : Nat → Nat} {I : Nat → Int32} {A : Nat → Nat → Int32} {G : Nat → Int32 × (Nat → Nat → Int32)} {T : Nat} {p1 : Int32} {ro : (Option (Int32))} {sz : Nat} (hf : f_X7_isSuspended I A p1 = some ro) : vx_Met l yX7_isSuspended wz_X7_isSuspended rm_X7_isSuspended (va_Pc [.ref (ad 0), .int p1] (qw_Pre D cy (Wo cy ad I A G T) sz)) (qx_Q ro (fun v9 => some (.int v9)) (fun _ => (Wo cy ad I A G T)) D (va_A (Wo cy ad I A G T) sz)) (qx_X ro D (Wo cy ad I A G T) (va_A (Wo cy ad I A G T) sz)) 1 6 (va_A (Wo cy ad I A G T) sz) := by
  refine qx_of (cc := cX7_isSuspended) (maxL := 2) (ret := (some .boolean)) (by decide) (Nat.le_of_ble_eq_true rfl) ?_
  intro p e s m args below meth c ls S0 hr hlocks htab hsz V hl
  have S0 : CallFix p m c cX7_isSuspended 2 s args qw_big RX7 := S0
  have hx := S0.1; have hb := S0.2.1; have hown := S0.2.2.2.1; have hts := S0.2.2.2.2
  have hl : lv_has ls 2 [(0, .ref (ad 0)), (1, .int p1)] := hl
  generalize va_A (Wo cy ad I A G T) sz = Z9 at V ⊢
  obtain ⟨Q9, hQ⟩ : ∃ q, q = vx_MQ below (qx_Q ro (fun v9 => some (.int v9)) (fun _ => (Wo cy ad I A G T)) D Z9) (qx_X ro D (Wo cy ad I A G T) Z9) args s 1 6 Z9 := ⟨_, rfl⟩
  rw [← hQ]
  clear hsz
  unfold f_X7_isSuspended at hf
  refine lv_aload_n hx hb dX7_isSuspended_0 rfl (lv_at hl 0 rfl) ?_
  refine lv_iload_n hx hb dX7_isSuspended_1 rfl (lv_at hl 1 rfl) ?_
  obtain ⟨r1, hc_2, hf⟩ := qf_bd_e hf
  refine qw_cVR (rest := []) (st1 := [.int r1]) S0 V hl 0 gO_0 rfl (c_X7_isShop l hc_2) kg_X7_213 rfl ⟨rfl, rfl⟩ kd_X7_isShop ⟨Nat.le_of_ble_eq_true rfl, Nat.le_of_ble_eq_true rfl⟩ rfl rfl (Nat.le_of_ble_eq_true rfl) ⟨Nat.zero_le _, Nat.zero_le _⟩ rfl dX7_isSuspended_2 ?_
  by_cases c_5 : r1 = 0
  · exact qx_thr (rest := []) hst hQ S0 V hl c_5 kg_X7_119 ⟨by decide, by decide⟩ (Nat.le_of_ble_eq_true rfl) ⟨by decide, by decide⟩ dX7_isSuspended_5 (by decide) (by decide) hlocks htab (fun t9 h9 h8 => ⟨rfl, (Option.some.inj (qf_t c_5 hf)).symm, h9, h8⟩)
  replace hf := qf_f c_5 hf
  refine qw_cSR (rest := []) (st1 := []) S0 V hl (c_X7_need l c_5) kg_X7_119 rfl ⟨rfl, rfl⟩ kd_X7_need ⟨by decide, by decide⟩ rfl rfl (Nat.le_of_ble_eq_true rfl) ⟨Nat.zero_le _, Nat.zero_le _⟩ rfl dX7_isSuspended_5 ?_
  refine lv_aload_n hx hb dX7_isSuspended_8 rfl (lv_at hl 0 rfl) ?_
  refine lv_iload_n hx hb dX7_isSuspended_9 rfl (lv_at hl 1 rfl) ?_
  obtain ⟨r2, hc_10, hf⟩ := qf_bd_e hf
  refine qw_cVR (rest := []) (st1 := [.int r2]) S0 V hl 0 gO_0 rfl (c_X7_isClosed l hc_10) kg_X7_231 rfl ⟨rfl, rfl⟩ kd_X7_isClosed ⟨Nat.le_of_ble_eq_true rfl, Nat.le_of_ble_eq_true rfl⟩ rfl rfl (Nat.le_of_ble_eq_true rfl) ⟨Nat.zero_le _, Nat.zero_le _⟩ rfl dX7_isSuspended_10 ?_
  obtain ⟨h_z, hf⟩ := qf_ck_e hf
  have hE := Option.some.inj hf
  exact qx_zreti hQ S0 hr hlocks (qw_nz h_z) hE rfl rfl V dX7_isSuspended_13
theorem kd_X7_soldBy : yX7_soldBy.cls = RX7 ∧ yX7_soldBy.cls ≠ "java/lang/invoke/MethodHandle" ∧ yX7_soldBy.cls ≠ "java/lang/invoke/VarHandle" ∧ (parseMethodDescriptor yX7_soldBy.desc).map (fun d => d.parameters.length) = some 2 := by decide +kernel
def f_X7_soldBy_j21 (I : Nat → Int32) (A : Nat → Nat → Int32)  (y1 : Int32) (y2 : Int32) (s0 : Int32) : Option (Option (Int32)) :=
  if s0 = 0 then some none else
  qf_bd (f_X5_shelf y1 y2) fun r3 =>
  qf_ld 24 (A 42) r3 fun x4 =>
  some (some (x4))
def f_X7_soldBy_j20 (I : Nat → Int32) (A : Nat → Nat → Int32)  (y1 : Int32) (y2 : Int32) : Option (Option (Int32)) :=
  f_X7_soldBy_j21 I A y1 y2 (0 : Int32)
def f_X7_soldBy (I : Nat → Int32) (A : Nat → Nat → Int32) (p1 : Int32) (p2 : Int32) : Option (Option (Int32)) :=
  qf_bd (f_X7_isShop I p1) fun r1 =>
  if r1 = 0 then (f_X7_soldBy_j20 I A p1 p2) else (qf_bd (f_X7_isGood I p2) fun r2 =>
    if r2 = 0 then (f_X7_soldBy_j20 I A p1 p2) else (f_X7_soldBy_j21 I A p1 p2 (1 : Int32)))
abbrev wz_X7_soldBy : List Cond := Cond.code yX7_soldBy cX7_soldBy 3 (some .int) :: qw_big
def rm_X7_soldBy : Room := { frames := 7, cells := 1, slots := 6, locals := 102 }
set_option maxHeartbeats 4000000 in
set_option maxRecDepth 100000 in
theorem c_X7_soldBy (l : Launch) (hst : l.stackTraces = false) {D : va_G} {cy : Nat → ClassId} {ad : Nat → Nat} {I : Nat → Int32} {A : Nat → Nat → Int32} {G : Nat → Int32 × (Nat → Nat → Int32)} {T : Nat} {p1 : Int32} {p2 : Int32} {ro : (Option (Int32))} {sz : Nat} (hf : f_X7_soldBy I A p1 p2 = some ro) : vx_Met l yX7_soldBy wz_X7_soldBy rm_X7_soldBy (va_Pc [.ref (ad 0), .int p1, .int p2] (qw_Pre D cy (Wo cy ad I A G T) sz)) (qx_Q ro (fun v9 => some (.int v9)) (fun _ => (Wo cy ad I A G T)) D (va_A (Wo cy ad I A G T) sz)) (qx_X ro D (Wo cy ad I A G T) (va_A (Wo cy ad I A G T) sz)) 1 6 (va_A (Wo cy ad I A G T) sz) := by
  refine qx_of (cc := cX7_soldBy) (maxL := 3) (ret := (some .int)) (by decide) (Nat.le_of_ble_eq_true rfl) ?_
  intro p e s m args below meth c ls S0 hr hlocks htab hsz V hl
  have S0 : CallFix p m c cX7_soldBy 3 s args qw_big RX7 := S0
  have hx := S0.1; have hb := S0.2.1; have hown := S0.2.2.2.1; have hts := S0.2.2.2.2
  have hl : lv_has ls 3 [(0, .ref (ad 0)), (1, .int p1), (2, .int p2)] := hl
  generalize va_A (Wo cy ad I A G T) sz = Z9 at V ⊢
  obtain ⟨Q9, hQ⟩ : ∃ q, q = vx_MQ below (qx_Q ro (fun v9 => some (.int v9)) (fun _ => (Wo cy ad I A G T)) D Z9) (qx_X ro D (Wo cy ad I A G T) Z9) args s 1 6 Z9 := ⟨_, rfl⟩
  rw [← hQ]
  clear hsz
  have J_21 : ∀   {y1 : Int32} {y2 : Int32} {s0 : Int32} {H : Heap} {locs : List Loc} {ls : Array Slot}, f_X7_soldBy_j21 I A y1 y2 s0 = some ro → qw_V D cy Z9 s (Wo cy ad I A G T) H locs → lv_has ls 3 [(0, .ref (ad 0)), (1, .int y1), (2, .int y2)] → W p l e rm_X7_soldBy s m args below meth c H locs 0 0 Q9 (F0 m 21 ls [.int s0]) := by
    intro y1 y2 s0 H locs ls hf V hl
    unfold f_X7_soldBy_j21 at hf
    by_cases c_21 : s0 = 0
    · exact qx_thr (rest := []) hst hQ S0 V hl c_21 kg_X7_119 ⟨by decide, by decide⟩ (Nat.le_of_ble_eq_true rfl) ⟨by decide, by decide⟩ dX7_soldBy_21 (by decide) (by decide) hlocks htab (fun t9 h9 h8 => ⟨rfl, (Option.some.inj (qf_t c_21 hf)).symm, h9, h8⟩)
    replace hf := qf_f c_21 hf
    refine qw_cSR (rest := []) (st1 := []) S0 V hl (c_X7_need l c_21) kg_X7_119 rfl ⟨rfl, rfl⟩ kd_X7_need ⟨by decide, by decide⟩ rfl rfl (Nat.le_of_ble_eq_true rfl) ⟨Nat.zero_le _, Nat.zero_le _⟩ rfl dX7_soldBy_21 ?_
    refine lv_aload_n hx hb dX7_soldBy_24 rfl (lv_at hl 0 rfl) ?_
    refine gfO_0_6 S0 V kl_X7_47 dX7_soldBy_25 ?_
    refine gfO_43_10 S0 V kl_X7_234 dX7_soldBy_28 ?_
    refine lv_iload_n hx hb dX7_soldBy_31 rfl (lv_at hl 1 rfl) ?_
    refine lv_iload_n hx hb dX7_soldBy_32 rfl (lv_at hl 2 rfl) ?_
    obtain ⟨r3, hc_33, hf⟩ := qf_bd_e hf
    refine qw_cSR (rest := [.ref (ad 53)]) (st1 := [.int r3, .ref (ad 53)]) S0 V hl (c_X5_shelf l hc_33) kg_X7_219 rfl ⟨rfl, rfl⟩ kd_X5_shelf ⟨Nat.le_of_ble_eq_true rfl, Nat.le_of_ble_eq_true rfl⟩ rfl rfl (Nat.le_of_ble_eq_true rfl) ⟨Nat.zero_le _, Nat.zero_le _⟩ rfl dX7_soldBy_33 ?_
    have h_36 := qf_ld_in hf
    refine alO_53 S0 V h_36 dX7_soldBy_36 ?_
    refine lv_topi (fun x4 e_x4 => ?_)
    replace hf := qf_ld_e e_x4 hf
    have hE := Option.some.inj hf
    exact qx_ireti hQ S0 hr hlocks hE rfl rfl V dX7_soldBy_37
  have J_20 : ∀   {y1 : Int32} {y2 : Int32} {H : Heap} {locs : List Loc} {ls : Array Slot}, f_X7_soldBy_j20 I A y1 y2 = some ro → qw_V D cy Z9 s (Wo cy ad I A G T) H locs → lv_has ls 3 [(0, .ref (ad 0)), (1, .int y1), (2, .int y2)] → W p l e rm_X7_soldBy s m args below meth c H locs 0 0 Q9 (F0 m 20 ls []) := by
    intro y1 y2 H locs ls hf V hl
    unfold f_X7_soldBy_j20 at hf
    refine lv_iconst (v := 0) hx hb dX7_soldBy_20 (by decide) ?_
    exact J_21 hf V (lv_sub hl [0, 1, 2] rfl)
  unfold f_X7_soldBy at hf
  refine lv_aload_n hx hb dX7_soldBy_0 rfl (lv_at hl 0 rfl) ?_
  refine lv_iload_n hx hb dX7_soldBy_1 rfl (lv_at hl 1 rfl) ?_
  obtain ⟨r1, hc_2, hf⟩ := qf_bd_e hf
  refine qw_cVR (rest := []) (st1 := [.int r1]) S0 V hl 0 gO_0 rfl (c_X7_isShop l hc_2) kg_X7_213 rfl ⟨rfl, rfl⟩ kd_X7_isShop ⟨Nat.le_of_ble_eq_true rfl, Nat.le_of_ble_eq_true rfl⟩ rfl rfl (Nat.le_of_ble_eq_true rfl) ⟨Nat.zero_le _, Nat.zero_le _⟩ rfl dX7_soldBy_2 ?_
  refine lv_if_eq (tgt := 20) hx hb dX7_soldBy_5 (by decide) (fun c_5 => ?_) (fun c_5 => ?_)
  · replace hf := qf_t c_5 hf
    exact J_20 hf V (lv_sub hl [0, 1, 2] rfl)
  · replace hf := qf_f c_5 hf
    refine lv_aload_n hx hb dX7_soldBy_8 rfl (lv_at hl 0 rfl) ?_
    refine lv_iload_n hx hb dX7_soldBy_9 rfl (lv_at hl 2 rfl) ?_
    obtain ⟨r2, hc_10, hf⟩ := qf_bd_e hf
    refine qw_cVR (rest := []) (st1 := [.int r2]) S0 V hl 0 gO_0 rfl (c_X7_isGood l hc_10) kg_X7_138 rfl ⟨rfl, rfl⟩ kd_X7_isGood ⟨Nat.le_of_ble_eq_true rfl, Nat.le_of_ble_eq_true rfl⟩ rfl rfl (Nat.le_of_ble_eq_true rfl) ⟨Nat.zero_le _, Nat.zero_le _⟩ rfl dX7_soldBy_10 ?_
    refine lv_if_eq (tgt := 20) hx hb dX7_soldBy_13 (by decide) (fun c_13 => ?_) (fun c_13 => ?_)
    · replace hf := qf_t c_13 hf
      exact J_20 hf V (lv_sub hl [0, 1, 2] rfl)
    · replace hf := qf_f c_13 hf
      refine lv_iconst (v := 1) hx hb dX7_soldBy_16 (by decide) ?_
      refine lv_goto (tgt := 21) hx hb dX7_soldBy_17 (by decide) ?_
      exact J_21 hf V (lv_sub hl [0, 1, 2] rfl)
theorem kd_X7_deliveredTo : yX7_deliveredTo.cls = RX7 ∧ yX7_deliveredTo.cls ≠ "java/lang/invoke/MethodHandle" ∧ yX7_deliveredTo.cls ≠ "java/lang/invoke/VarHandle" ∧ (parseMethodDescriptor yX7_deliveredTo.desc).map (fun d => d.parameters.length) = some 2 := by decide +kernel
def f_X7_deliveredTo_j21 (I : Nat → Int32) (A : Nat → Nat → Int32)  (y1 : Int32) (y2 : Int32) (s0 : Int32) : Option (Option (Int32)) :=
  if s0 = 0 then some none else
  qf_bd (f_X5_shelf y1 y2) fun r3 =>
  qf_ld 24 (A 43) r3 fun x4 =>
  some (some (x4))
def f_X7_deliveredTo_j20 (I : Nat → Int32) (A : Nat → Nat → Int32)  (y1 : Int32) (y2 : Int32) : Option (Option (Int32)) :=
  f_X7_deliveredTo_j21 I A y1 y2 (0 : Int32)
def f_X7_deliveredTo (I : Nat → Int32) (A : Nat → Nat → Int32) (p1 : Int32) (p2 : Int32) : Option (Option (Int32)) :=
  qf_bd (f_X7_isShop I p1) fun r1 =>
  if r1 = 0 then (f_X7_deliveredTo_j20 I A p1 p2) else (qf_bd (f_X7_isGood I p2) fun r2 =>
    if r2 = 0 then (f_X7_deliveredTo_j20 I A p1 p2) else (f_X7_deliveredTo_j21 I A p1 p2 (1 : Int32)))
abbrev wz_X7_deliveredTo : List Cond := Cond.code yX7_deliveredTo cX7_deliveredTo 3 (some .int) :: qw_big
def rm_X7_deliveredTo : Room := { frames := 7, cells := 1, slots := 6, locals := 102 }
set_option maxHeartbeats 4000000 in
set_option maxRecDepth 100000 in
theorem c_X7_deliveredTo (l : Launch) (hst : l.stackTraces = false) {D : va_G} {cy : Nat → ClassId} {ad : Nat → Nat} {I : Nat → Int32} {A : Nat → Nat → Int32} {G : Nat → Int32 × (Nat → Nat → Int32)} {T : Nat} {p1 : Int32} {p2 : Int32} {ro : (Option (Int32))} {sz : Nat} (hf : f_X7_deliveredTo I A p1 p2 = some ro) : vx_Met l yX7_deliveredTo wz_X7_deliveredTo rm_X7_deliveredTo (va_Pc [.ref (ad 0), .int p1, .int p2] (qw_Pre D cy (Wo cy ad I A G T) sz)) (qx_Q ro (fun v9 => some (.int v9)) (fun _ => (Wo cy ad I A G T)) D (va_A (Wo cy ad I A G T) sz)) (qx_X ro D (Wo cy ad I A G T) (va_A (Wo cy ad I A G T) sz)) 1 6 (va_A (Wo cy ad I A G T) sz) := by
  refine qx_of (cc := cX7_deliveredTo) (maxL := 3) (ret := (some .int)) (by decide) (Nat.le_of_ble_eq_true rfl) ?_
  intro p e s m args below meth c ls S0 hr hlocks htab hsz V hl
  have S0 : CallFix p m c cX7_deliveredTo 3 s args qw_big RX7 := S0
  have hx := S0.1; have hb := S0.2.1; have hown := S0.2.2.2.1; have hts := S0.2.2.2.2
  have hl : lv_has ls 3 [(0, .ref (ad 0)), (1, .int p1), (2, .int p2)] := hl
  generalize va_A (Wo cy ad I A G T) sz = Z9 at V ⊢
  obtain ⟨Q9, hQ⟩ : ∃ q, q = vx_MQ below (qx_Q ro (fun v9 => some (.int v9)) (fun _ => (Wo cy ad I A G T)) D Z9) (qx_X ro D (Wo cy ad I A G T) Z9) args s 1 6 Z9 := ⟨_, rfl⟩
  rw [← hQ]
  clear hsz
  have J_21 : ∀   {y1 : Int32} {y2 : Int32} {s0 : Int32} {H : Heap} {locs : List Loc} {ls : Array Slot}, f_X7_deliveredTo_j21 I A y1 y2 s0 = some ro → qw_V D cy Z9 s (Wo cy ad I A G T) H locs → lv_has ls 3 [(0, .ref (ad 0)), (1, .int y1), (2, .int y2)] → W p l e rm_X7_deliveredTo s m args below meth c H locs 0 0 Q9 (F0 m 21 ls [.int s0]) := by
    intro y1 y2 s0 H locs ls hf V hl
    unfold f_X7_deliveredTo_j21 at hf
    by_cases c_21 : s0 = 0
    · exact qx_thr (rest := []) hst hQ S0 V hl c_21 kg_X7_119 ⟨by decide, by decide⟩ (Nat.le_of_ble_eq_true rfl) ⟨by decide, by decide⟩ dX7_deliveredTo_21 (by decide) (by decide) hlocks htab (fun t9 h9 h8 => ⟨rfl, (Option.some.inj (qf_t c_21 hf)).symm, h9, h8⟩)
    replace hf := qf_f c_21 hf
    refine qw_cSR (rest := []) (st1 := []) S0 V hl (c_X7_need l c_21) kg_X7_119 rfl ⟨rfl, rfl⟩ kd_X7_need ⟨by decide, by decide⟩ rfl rfl (Nat.le_of_ble_eq_true rfl) ⟨Nat.zero_le _, Nat.zero_le _⟩ rfl dX7_deliveredTo_21 ?_
    refine lv_aload_n hx hb dX7_deliveredTo_24 rfl (lv_at hl 0 rfl) ?_
    refine gfO_0_6 S0 V kl_X7_47 dX7_deliveredTo_25 ?_
    refine gfO_43_11 S0 V kl_X7_237 dX7_deliveredTo_28 ?_
    refine lv_iload_n hx hb dX7_deliveredTo_31 rfl (lv_at hl 1 rfl) ?_
    refine lv_iload_n hx hb dX7_deliveredTo_32 rfl (lv_at hl 2 rfl) ?_
    obtain ⟨r3, hc_33, hf⟩ := qf_bd_e hf
    refine qw_cSR (rest := [.ref (ad 54)]) (st1 := [.int r3, .ref (ad 54)]) S0 V hl (c_X5_shelf l hc_33) kg_X7_219 rfl ⟨rfl, rfl⟩ kd_X5_shelf ⟨Nat.le_of_ble_eq_true rfl, Nat.le_of_ble_eq_true rfl⟩ rfl rfl (Nat.le_of_ble_eq_true rfl) ⟨Nat.zero_le _, Nat.zero_le _⟩ rfl dX7_deliveredTo_33 ?_
    have h_36 := qf_ld_in hf
    refine alO_54 S0 V h_36 dX7_deliveredTo_36 ?_
    refine lv_topi (fun x4 e_x4 => ?_)
    replace hf := qf_ld_e e_x4 hf
    have hE := Option.some.inj hf
    exact qx_ireti hQ S0 hr hlocks hE rfl rfl V dX7_deliveredTo_37
  have J_20 : ∀   {y1 : Int32} {y2 : Int32} {H : Heap} {locs : List Loc} {ls : Array Slot}, f_X7_deliveredTo_j20 I A y1 y2 = some ro → qw_V D cy Z9 s (Wo cy ad I A G T) H locs → lv_has ls 3 [(0, .ref (ad 0)), (1, .int y1), (2, .int y2)] → W p l e rm_X7_deliveredTo s m args below meth c H locs 0 0 Q9 (F0 m 20 ls []) := by
    intro y1 y2 H locs ls hf V hl
    unfold f_X7_deliveredTo_j20 at hf
    refine lv_iconst (v := 0) hx hb dX7_deliveredTo_20 (by decide) ?_
    exact J_21 hf V (lv_sub hl [0, 1, 2] rfl)
  unfold f_X7_deliveredTo at hf
  refine lv_aload_n hx hb dX7_deliveredTo_0 rfl (lv_at hl 0 rfl) ?_
  refine lv_iload_n hx hb dX7_deliveredTo_1 rfl (lv_at hl 1 rfl) ?_
  obtain ⟨r1, hc_2, hf⟩ := qf_bd_e hf
  refine qw_cVR (rest := []) (st1 := [.int r1]) S0 V hl 0 gO_0 rfl (c_X7_isShop l hc_2) kg_X7_213 rfl ⟨rfl, rfl⟩ kd_X7_isShop ⟨Nat.le_of_ble_eq_true rfl, Nat.le_of_ble_eq_true rfl⟩ rfl rfl (Nat.le_of_ble_eq_true rfl) ⟨Nat.zero_le _, Nat.zero_le _⟩ rfl dX7_deliveredTo_2 ?_
  refine lv_if_eq (tgt := 20) hx hb dX7_deliveredTo_5 (by decide) (fun c_5 => ?_) (fun c_5 => ?_)
  · replace hf := qf_t c_5 hf
    exact J_20 hf V (lv_sub hl [0, 1, 2] rfl)
  · replace hf := qf_f c_5 hf
    refine lv_aload_n hx hb dX7_deliveredTo_8 rfl (lv_at hl 0 rfl) ?_
    refine lv_iload_n hx hb dX7_deliveredTo_9 rfl (lv_at hl 2 rfl) ?_
    obtain ⟨r2, hc_10, hf⟩ := qf_bd_e hf
    refine qw_cVR (rest := []) (st1 := [.int r2]) S0 V hl 0 gO_0 rfl (c_X7_isGood l hc_10) kg_X7_138 rfl ⟨rfl, rfl⟩ kd_X7_isGood ⟨Nat.le_of_ble_eq_true rfl, Nat.le_of_ble_eq_true rfl⟩ rfl rfl (Nat.le_of_ble_eq_true rfl) ⟨Nat.zero_le _, Nat.zero_le _⟩ rfl dX7_deliveredTo_10 ?_
    refine lv_if_eq (tgt := 20) hx hb dX7_deliveredTo_13 (by decide) (fun c_13 => ?_) (fun c_13 => ?_)
    · replace hf := qf_t c_13 hf
      exact J_20 hf V (lv_sub hl [0, 1, 2] rfl)
    · replace hf := qf_f c_13 hf
      refine lv_iconst (v := 1) hx hb dX7_deliveredTo_16 (by decide) ?_
      refine lv_goto (tgt := 21) hx hb dX7_deliveredTo_17 (by decide) ?_
      exact J_21 hf V (lv_sub hl [0, 1, 2] rfl)
theorem kd_X7_turnover : yX7_turnover.cls = RX7 ∧ yX7_turnover.cls ≠ "java/lang/invoke/MethodHandle" ∧ yX7_turnover.cls ≠ "java/lang/invoke/VarHandle" ∧ (parseMethodDescriptor yX7_turnover.desc).map (fun d => d.parameters.length) = some 1 := by decide +kernel
def f_X7_turnover_l12 (I : Nat → Int32) (A : Nat → Nat → Int32)  (y1 : Int32) : Nat → Int32 → Int32 → Option (Option (Int32))
  | 0, _, _ => none
  | n + 1, y2, y3 =>
  if (I 13) ≤ y3 then (some (some (y2))) else (qf_bd (f_X5_shelf y1 y3) fun r2 =>
    qf_ld 24 (A 42) r2 fun x3 =>
    qf_ld 6 (A 20) y3 fun x4 =>
    qf_let ((y2 + (x3 * x4))) fun x5 =>
    qf_let (y3 + (1 : Int32)) fun x6 =>
    f_X7_turnover_l12 I A y1 n x5 x6)
def f_X7_turnover (I : Nat → Int32) (A : Nat → Nat → Int32) (p1 : Int32) : Option (Option (Int32)) :=
  qf_bd (f_X7_isShop I p1) fun r1 =>
  if r1 = 0 then some none else
  f_X7_turnover_l12 I A p1 100000 (0 : Int32) (0 : Int32)
abbrev wz_X7_turnover : List Cond := Cond.code yX7_turnover cX7_turnover 4 (some .int) :: qw_big
def rm_X7_turnover : Room := { frames := 7, cells := 1, slots := 6, locals := 102 }
set_option maxHeartbeats 4000000 in
set_option maxRecDepth 100000 in
theorem c_X7_turnover (l : Launch) (hst : l.stackTraces = false) {D : va_G} {cy : Nat → ClassId} {ad : Nat → Nat} {I : Nat → Int32} {A : Nat → Nat → Int32} {G : Nat → Int32 × (Nat → Nat → Int32)} {T : Nat} {p1 : Int32} {ro : (Option (Int32))} {sz : Nat} (hf : f_X7_turnover I A p1 = some ro) : vx_Met l yX7_turnover wz_X7_turnover rm_X7_turnover (va_Pc [.ref (ad 0), .int p1] (qw_Pre D cy (Wo cy ad I A G T) sz)) (qx_Q ro (fun v9 => some (.int v9)) (fun _ => (Wo cy ad I A G T)) D (va_A (Wo cy ad I A G T) sz)) (qx_X ro D (Wo cy ad I A G T) (va_A (Wo cy ad I A G T) sz)) 1 6 (va_A (Wo cy ad I A G T) sz) := by
  refine qx_of (cc := cX7_turnover) (maxL := 4) (ret := (some .int)) (by decide) (Nat.le_of_ble_eq_true rfl) ?_
  intro p e s m args below meth c ls S0 hr hlocks htab hsz V hl
  have S0 : CallFix p m c cX7_turnover 4 s args qw_big RX7 := S0
  have hx := S0.1; have hb := S0.2.1; have hown := S0.2.2.2.1; have hts := S0.2.2.2.2
  have hl : lv_has ls 4 [(0, .ref (ad 0)), (1, .int p1)] := hl
  generalize va_A (Wo cy ad I A G T) sz = Z9 at V ⊢
  obtain ⟨Q9, hQ⟩ : ∃ q, q = vx_MQ below (qx_Q ro (fun v9 => some (.int v9)) (fun _ => (Wo cy ad I A G T)) D Z9) (qx_X ro D (Wo cy ad I A G T) Z9) args s 1 6 Z9 := ⟨_, rfl⟩
  rw [← hQ]
  clear hsz
  have L_12 : ∀  {y1 : Int32} {n : Nat}  {y2 : Int32} {y3 : Int32} {H : Heap} {locs : List Loc} {ls : Array Slot}, f_X7_turnover_l12 I A y1 n y2 y3 = some ro → qw_V D cy Z9 s (Wo cy ad I A G T) H locs → lv_has ls 4 [(0, .ref (ad 0)), (1, .int y1), (2, .int y2), (3, .int y3)] → W p l e rm_X7_turnover s m args below meth c H locs 0 0 Q9 (F0 m 12 ls []) := by
    intro y1 n
    induction n with
    | zero => intro y2 y3 H locs ls hf V hl; exact qf_no hf
    | succ n ih =>
      intro y2 y3 H locs ls hf V hl
      rw [f_X7_turnover_l12] at hf
      refine lv_iload_n hx hb dX7_turnover_12 rfl (lv_at hl 3 rfl) ?_
      refine lv_aload_n hx hb dX7_turnover_13 rfl (lv_at hl 0 rfl) ?_
      refine gfO_0_5 S0 V kl_X7_40 dX7_turnover_14 ?_
      refine gfO_19_1 S0 V kl_X7_84 dX7_turnover_17 ?_
      refine lv_icmp_ge (tgt := 55) hx hb dX7_turnover_20 (by decide) (fun c_20 => ?_) (fun c_20 => ?_)
      · replace hf := qf_t c_20 hf
        refine lv_iload_n hx hb dX7_turnover_55 rfl (lv_at hl 2 rfl) ?_
        have hE := Option.some.inj hf
        exact qx_ireti hQ S0 hr hlocks hE rfl rfl V dX7_turnover_56
      · replace hf := qf_f c_20 hf
        refine lv_iload_n hx hb dX7_turnover_23 rfl (lv_at hl 2 rfl) ?_
        refine lv_aload_n hx hb dX7_turnover_24 rfl (lv_at hl 0 rfl) ?_
        refine gfO_0_6 S0 V kl_X7_47 dX7_turnover_25 ?_
        refine gfO_43_10 S0 V kl_X7_234 dX7_turnover_28 ?_
        refine lv_iload_n hx hb dX7_turnover_31 rfl (lv_at hl 1 rfl) ?_
        refine lv_iload_n hx hb dX7_turnover_32 rfl (lv_at hl 3 rfl) ?_
        obtain ⟨r2, hc_33, hf⟩ := qf_bd_e hf
        refine qw_cSR (rest := [.ref (ad 53), .int y2]) (st1 := [.int r2, .ref (ad 53), .int y2]) S0 V hl (c_X5_shelf l hc_33) kg_X7_219 rfl ⟨rfl, rfl⟩ kd_X5_shelf ⟨Nat.le_of_ble_eq_true rfl, Nat.le_of_ble_eq_true rfl⟩ rfl rfl (Nat.le_of_ble_eq_true rfl) ⟨Nat.zero_le _, Nat.zero_le _⟩ rfl dX7_turnover_33 ?_
        have h_36 := qf_ld_in hf
        refine alO_53 S0 V h_36 dX7_turnover_36 ?_
        refine lv_topi (fun x3 e_x3 => ?_)
        replace hf := qf_ld_e e_x3 hf
        refine lv_aload_n hx hb dX7_turnover_37 rfl (lv_at hl 0 rfl) ?_
        refine gfO_0_5 S0 V kl_X7_40 dX7_turnover_38 ?_
        refine gfO_19_13 S0 V kl_X7_144 dX7_turnover_41 ?_
        refine lv_iload_n hx hb dX7_turnover_44 rfl (lv_at hl 3 rfl) ?_
        have h_45 := qf_ld_in hf
        refine alO_29 S0 V h_45 dX7_turnover_45 ?_
        refine lv_topi (fun x4 e_x4 => ?_)
        replace hf := qf_ld_e e_x4 hf
        refine lv_imul hx hb dX7_turnover_46 ?_
        refine lv_iadd hx hb dX7_turnover_47 ?_
        refine lv_topi (fun x5 e_x5 => ?_)
        replace hf := qf_let_e e_x5 hf
        refine lv_istore_n (lv' := [(2, .int x5), (0, .ref (ad 0)), (1, .int y1), (3, .int y3)]) hx hb dX7_turnover_48 rfl hl (by decide) rfl (fun ls hl => ?_)
        obtain ⟨x6, e_x6⟩ : ∃ y : Int32, y = y3 + (1 : Int32) := ⟨_, rfl⟩
        refine lv_iinc (v := x6) (lv' := [(3, .int x6), (2, .int x5), (0, .ref (ad 0)), (1, .int y1)]) hx hb dX7_turnover_49 hl (k := 3) rfl (by rw [e_x6]; rfl) (by decide) rfl (fun ls hl => ?_)
        replace hf := qf_let_e e_x6 hf
        refine lv_goto (tgt := 12) hx hb dX7_turnover_52 (by decide) ?_
        exact ih hf V (lv_sub hl [2, 3, 1, 0] rfl)
  unfold f_X7_turnover at hf
  refine lv_aload_n hx hb dX7_turnover_0 rfl (lv_at hl 0 rfl) ?_
  refine lv_iload_n hx hb dX7_turnover_1 rfl (lv_at hl 1 rfl) ?_
  obtain ⟨r1, hc_2, hf⟩ := qf_bd_e hf
  refine qw_cVR (rest := []) (st1 := [.int r1]) S0 V hl 0 gO_0 rfl (c_X7_isShop l hc_2) kg_X7_213 rfl ⟨rfl, rfl⟩ kd_X7_isShop ⟨Nat.le_of_ble_eq_true rfl, Nat.le_of_ble_eq_true rfl⟩ rfl rfl (Nat.le_of_ble_eq_true rfl) ⟨Nat.zero_le _, Nat.zero_le _⟩ rfl dX7_turnover_2 ?_
  by_cases c_5 : r1 = 0
  · exact qx_thr (rest := []) hst hQ S0 V hl c_5 kg_X7_119 ⟨by decide, by decide⟩ (Nat.le_of_ble_eq_true rfl) ⟨by decide, by decide⟩ dX7_turnover_5 (by decide) (by decide) hlocks htab (fun t9 h9 h8 => ⟨rfl, (Option.some.inj (qf_t c_5 hf)).symm, h9, h8⟩)
  replace hf := qf_f c_5 hf
  refine qw_cSR (rest := []) (st1 := []) S0 V hl (c_X7_need l c_5) kg_X7_119 rfl ⟨rfl, rfl⟩ kd_X7_need ⟨by decide, by decide⟩ rfl rfl (Nat.le_of_ble_eq_true rfl) ⟨Nat.zero_le _, Nat.zero_le _⟩ rfl dX7_turnover_5 ?_
  refine lv_iconst (v := 0) hx hb dX7_turnover_8 (by decide) ?_
  refine lv_istore_n (lv' := [(2, .int (0 : Int32)), (0, .ref (ad 0)), (1, .int p1)]) hx hb dX7_turnover_9 rfl hl (by decide) rfl (fun ls hl => ?_)
  refine lv_iconst (v := 0) hx hb dX7_turnover_10 (by decide) ?_
  refine lv_istore_n (lv' := [(3, .int (0 : Int32)), (2, .int (0 : Int32)), (0, .ref (ad 0)), (1, .int p1)]) hx hb dX7_turnover_11 rfl hl (by decide) rfl (fun ls hl => ?_)
  exact L_12 hf V (lv_sub hl [2, 3, 1, 0] rfl)
theorem kd_X7_issued : yX7_issued.cls = RX7 ∧ yX7_issued.cls ≠ "java/lang/invoke/MethodHandle" ∧ yX7_issued.cls ≠ "java/lang/invoke/VarHandle" ∧ (parseMethodDescriptor yX7_issued.desc).map (fun d => d.parameters.length) = some 1 := by decide +kernel
def f_X7_issued (I : Nat → Int32) (A : Nat → Nat → Int32) (p1 : Int32) : Option (Option (Int32)) :=
  qf_bd (f_X7_isGroup I p1) fun r1 =>
  if r1 = 0 then some none else
  qf_ld 4 (A 44) p1 fun x2 =>
  some (some (x2))
abbrev wz_X7_issued : List Cond := Cond.code yX7_issued cX7_issued 2 (some .int) :: qw_big
def rm_X7_issued : Room := { frames := 7, cells := 1, slots := 6, locals := 102 }
set_option maxHeartbeats 4000000 in
set_option maxRecDepth 100000 in
theorem c_X7_issued (l : Launch) (hst : l.stackTraces = false) {D : va_G} {cy : Nat → ClassId} {ad : Nat → Nat} {I : Nat → Int32} {A : Nat → Nat → Int32} {G : Nat → Int32 × (Nat → Nat → Int32)} {T : Nat} {p1 : Int32} {ro : (Option (Int32))} {sz : Nat} (hf : f_X7_issued I A p1 = some ro) : vx_Met l yX7_issued wz_X7_issued rm_X7_issued (va_Pc [.ref (ad 0), .int p1] (qw_Pre D cy (Wo cy ad I A G T) sz)) (qx_Q ro (fun v9 => some (.int v9)) (fun _ => (Wo cy ad I A G T)) D (va_A (Wo cy ad I A G T) sz)) (qx_X ro D (Wo cy ad I A G T) (va_A (Wo cy ad I A G T) sz)) 1 6 (va_A (Wo cy ad I A G T) sz) := by
  refine qx_of (cc := cX7_issued) (maxL := 2) (ret := (some .int)) (by decide) (Nat.le_of_ble_eq_true rfl) ?_
  intro p e s m args below meth c ls S0 hr hlocks htab hsz V hl
  have S0 : CallFix p m c cX7_issued 2 s args qw_big RX7 := S0
  have hx := S0.1; have hb := S0.2.1; have hown := S0.2.2.2.1; have hts := S0.2.2.2.2
  have hl : lv_has ls 2 [(0, .ref (ad 0)), (1, .int p1)] := hl
  generalize va_A (Wo cy ad I A G T) sz = Z9 at V ⊢
  obtain ⟨Q9, hQ⟩ : ∃ q, q = vx_MQ below (qx_Q ro (fun v9 => some (.int v9)) (fun _ => (Wo cy ad I A G T)) D Z9) (qx_X ro D (Wo cy ad I A G T) Z9) args s 1 6 Z9 := ⟨_, rfl⟩
  rw [← hQ]
  clear hsz
  unfold f_X7_issued at hf
  refine lv_aload_n hx hb dX7_issued_0 rfl (lv_at hl 0 rfl) ?_
  refine lv_iload_n hx hb dX7_issued_1 rfl (lv_at hl 1 rfl) ?_
  obtain ⟨r1, hc_2, hf⟩ := qf_bd_e hf
  refine qw_cVR (rest := []) (st1 := [.int r1]) S0 V hl 0 gO_0 rfl (c_X7_isGroup l hc_2) kg_X7_115 rfl ⟨rfl, rfl⟩ kd_X7_isGroup ⟨Nat.le_of_ble_eq_true rfl, Nat.le_of_ble_eq_true rfl⟩ rfl rfl (Nat.le_of_ble_eq_true rfl) ⟨Nat.zero_le _, Nat.zero_le _⟩ rfl dX7_issued_2 ?_
  by_cases c_5 : r1 = 0
  · exact qx_thr (rest := []) hst hQ S0 V hl c_5 kg_X7_119 ⟨by decide, by decide⟩ (Nat.le_of_ble_eq_true rfl) ⟨by decide, by decide⟩ dX7_issued_5 (by decide) (by decide) hlocks htab (fun t9 h9 h8 => ⟨rfl, (Option.some.inj (qf_t c_5 hf)).symm, h9, h8⟩)
  replace hf := qf_f c_5 hf
  refine qw_cSR (rest := []) (st1 := []) S0 V hl (c_X7_need l c_5) kg_X7_119 rfl ⟨rfl, rfl⟩ kd_X7_need ⟨by decide, by decide⟩ rfl rfl (Nat.le_of_ble_eq_true rfl) ⟨Nat.zero_le _, Nat.zero_le _⟩ rfl dX7_issued_5 ?_
  refine lv_aload_n hx hb dX7_issued_8 rfl (lv_at hl 0 rfl) ?_
  refine gfO_0_6 S0 V kl_X7_47 dX7_issued_9 ?_
  refine gfO_43_12 S0 V kl_X7_240 dX7_issued_12 ?_
  refine lv_iload_n hx hb dX7_issued_15 rfl (lv_at hl 1 rfl) ?_
  have h_16 := qf_ld_in hf
  refine alO_55 S0 V h_16 dX7_issued_16 ?_
  refine lv_topi (fun x2 e_x2 => ?_)
  replace hf := qf_ld_e e_x2 hf
  have hE := Option.some.inj hf
  exact qx_ireti hQ S0 hr hlocks hE rfl rfl V dX7_issued_17
theorem kd_X7_spent : yX7_spent.cls = RX7 ∧ yX7_spent.cls ≠ "java/lang/invoke/MethodHandle" ∧ yX7_spent.cls ≠ "java/lang/invoke/VarHandle" ∧ (parseMethodDescriptor yX7_spent.desc).map (fun d => d.parameters.length) = some 1 := by decide +kernel
def f_X7_spent (I : Nat → Int32) (A : Nat → Nat → Int32) (p1 : Int32) : Option (Option (Int32)) :=
  qf_bd (f_X7_isGroup I p1) fun r1 =>
  if r1 = 0 then some none else
  qf_ld 4 (A 45) p1 fun x2 =>
  some (some (x2))
abbrev wz_X7_spent : List Cond := Cond.code yX7_spent cX7_spent 2 (some .int) :: qw_big
def rm_X7_spent : Room := { frames := 7, cells := 1, slots := 6, locals := 102 }
set_option maxHeartbeats 4000000 in
set_option maxRecDepth 100000 in
theorem c_X7_spent (l : Launch) (hst : l.stackTraces = false) {D : va_G} {cy : Nat → ClassId} {ad : Nat → Nat} {I : Nat → Int32} {A : Nat → Nat → Int32} {G : Nat → Int32 × (Nat → Nat → Int32)} {T : Nat} {p1 : Int32} {ro : (Option (Int32))} {sz : Nat} (hf : f_X7_spent I A p1 = some ro) : vx_Met l yX7_spent wz_X7_spent rm_X7_spent (va_Pc [.ref (ad 0), .int p1] (qw_Pre D cy (Wo cy ad I A G T) sz)) (qx_Q ro (fun v9 => some (.int v9)) (fun _ => (Wo cy ad I A G T)) D (va_A (Wo cy ad I A G T) sz)) (qx_X ro D (Wo cy ad I A G T) (va_A (Wo cy ad I A G T) sz)) 1 6 (va_A (Wo cy ad I A G T) sz) := by
  refine qx_of (cc := cX7_spent) (maxL := 2) (ret := (some .int)) (by decide) (Nat.le_of_ble_eq_true rfl) ?_
  intro p e s m args below meth c ls S0 hr hlocks htab hsz V hl
  have S0 : CallFix p m c cX7_spent 2 s args qw_big RX7 := S0
  have hx := S0.1; have hb := S0.2.1; have hown := S0.2.2.2.1; have hts := S0.2.2.2.2
  have hl : lv_has ls 2 [(0, .ref (ad 0)), (1, .int p1)] := hl
  generalize va_A (Wo cy ad I A G T) sz = Z9 at V ⊢
  obtain ⟨Q9, hQ⟩ : ∃ q, q = vx_MQ below (qx_Q ro (fun v9 => some (.int v9)) (fun _ => (Wo cy ad I A G T)) D Z9) (qx_X ro D (Wo cy ad I A G T) Z9) args s 1 6 Z9 := ⟨_, rfl⟩
  rw [← hQ]
  clear hsz
  unfold f_X7_spent at hf
  refine lv_aload_n hx hb dX7_spent_0 rfl (lv_at hl 0 rfl) ?_
  refine lv_iload_n hx hb dX7_spent_1 rfl (lv_at hl 1 rfl) ?_
  obtain ⟨r1, hc_2, hf⟩ := qf_bd_e hf
  refine qw_cVR (rest := []) (st1 := [.int r1]) S0 V hl 0 gO_0 rfl (c_X7_isGroup l hc_2) kg_X7_115 rfl ⟨rfl, rfl⟩ kd_X7_isGroup ⟨Nat.le_of_ble_eq_true rfl, Nat.le_of_ble_eq_true rfl⟩ rfl rfl (Nat.le_of_ble_eq_true rfl) ⟨Nat.zero_le _, Nat.zero_le _⟩ rfl dX7_spent_2 ?_
  by_cases c_5 : r1 = 0
  · exact qx_thr (rest := []) hst hQ S0 V hl c_5 kg_X7_119 ⟨by decide, by decide⟩ (Nat.le_of_ble_eq_true rfl) ⟨by decide, by decide⟩ dX7_spent_5 (by decide) (by decide) hlocks htab (fun t9 h9 h8 => ⟨rfl, (Option.some.inj (qf_t c_5 hf)).symm, h9, h8⟩)
  replace hf := qf_f c_5 hf
  refine qw_cSR (rest := []) (st1 := []) S0 V hl (c_X7_need l c_5) kg_X7_119 rfl ⟨rfl, rfl⟩ kd_X7_need ⟨by decide, by decide⟩ rfl rfl (Nat.le_of_ble_eq_true rfl) ⟨Nat.zero_le _, Nat.zero_le _⟩ rfl dX7_spent_5 ?_
  refine lv_aload_n hx hb dX7_spent_8 rfl (lv_at hl 0 rfl) ?_
  refine gfO_0_6 S0 V kl_X7_47 dX7_spent_9 ?_
  refine gfO_43_13 S0 V kl_X7_243 dX7_spent_12 ?_
  refine lv_iload_n hx hb dX7_spent_15 rfl (lv_at hl 1 rfl) ?_
  have h_16 := qf_ld_in hf
  refine alO_56 S0 V h_16 dX7_spent_16 ?_
  refine lv_topi (fun x2 e_x2 => ?_)
  replace hf := qf_ld_e e_x2 hf
  have hE := Option.some.inj hf
  exact qx_ireti hQ S0 hr hlocks hE rfl rfl V dX7_spent_17
theorem kd_X7_lapsed : yX7_lapsed.cls = RX7 ∧ yX7_lapsed.cls ≠ "java/lang/invoke/MethodHandle" ∧ yX7_lapsed.cls ≠ "java/lang/invoke/VarHandle" ∧ (parseMethodDescriptor yX7_lapsed.desc).map (fun d => d.parameters.length) = some 1 := by decide +kernel
def f_X7_lapsed (I : Nat → Int32) (A : Nat → Nat → Int32) (p1 : Int32) : Option (Option (Int32)) :=
  qf_bd (f_X7_isGroup I p1) fun r1 =>
  if r1 = 0 then some none else
  qf_ld 4 (A 46) p1 fun x2 =>
  some (some (x2))
abbrev wz_X7_lapsed : List Cond := Cond.code yX7_lapsed cX7_lapsed 2 (some .int) :: qw_big
def rm_X7_lapsed : Room := { frames := 7, cells := 1, slots := 6, locals := 102 }
set_option maxHeartbeats 4000000 in
set_option maxRecDepth 100000 in
theorem c_X7_lapsed (l : Launch) (hst : l.stackTraces = false) {D : va_G} {cy : Nat → ClassId} {ad : Nat → Nat} {I : Nat → Int32} {A : Nat → Nat → Int32} {G : Nat → Int32 × (Nat → Nat → Int32)} {T : Nat} {p1 : Int32} {ro : (Option (Int32))} {sz : Nat} (hf : f_X7_lapsed I A p1 = some ro) : vx_Met l yX7_lapsed wz_X7_lapsed rm_X7_lapsed (va_Pc [.ref (ad 0), .int p1] (qw_Pre D cy (Wo cy ad I A G T) sz)) (qx_Q ro (fun v9 => some (.int v9)) (fun _ => (Wo cy ad I A G T)) D (va_A (Wo cy ad I A G T) sz)) (qx_X ro D (Wo cy ad I A G T) (va_A (Wo cy ad I A G T) sz)) 1 6 (va_A (Wo cy ad I A G T) sz) := by
  refine qx_of (cc := cX7_lapsed) (maxL := 2) (ret := (some .int)) (by decide) (Nat.le_of_ble_eq_true rfl) ?_
  intro p e s m args below meth c ls S0 hr hlocks htab hsz V hl
  have S0 : CallFix p m c cX7_lapsed 2 s args qw_big RX7 := S0
  have hx := S0.1; have hb := S0.2.1; have hown := S0.2.2.2.1; have hts := S0.2.2.2.2
  have hl : lv_has ls 2 [(0, .ref (ad 0)), (1, .int p1)] := hl
  generalize va_A (Wo cy ad I A G T) sz = Z9 at V ⊢
  obtain ⟨Q9, hQ⟩ : ∃ q, q = vx_MQ below (qx_Q ro (fun v9 => some (.int v9)) (fun _ => (Wo cy ad I A G T)) D Z9) (qx_X ro D (Wo cy ad I A G T) Z9) args s 1 6 Z9 := ⟨_, rfl⟩
  rw [← hQ]
  clear hsz
  unfold f_X7_lapsed at hf
  refine lv_aload_n hx hb dX7_lapsed_0 rfl (lv_at hl 0 rfl) ?_
  refine lv_iload_n hx hb dX7_lapsed_1 rfl (lv_at hl 1 rfl) ?_
  obtain ⟨r1, hc_2, hf⟩ := qf_bd_e hf
  refine qw_cVR (rest := []) (st1 := [.int r1]) S0 V hl 0 gO_0 rfl (c_X7_isGroup l hc_2) kg_X7_115 rfl ⟨rfl, rfl⟩ kd_X7_isGroup ⟨Nat.le_of_ble_eq_true rfl, Nat.le_of_ble_eq_true rfl⟩ rfl rfl (Nat.le_of_ble_eq_true rfl) ⟨Nat.zero_le _, Nat.zero_le _⟩ rfl dX7_lapsed_2 ?_
  by_cases c_5 : r1 = 0
  · exact qx_thr (rest := []) hst hQ S0 V hl c_5 kg_X7_119 ⟨by decide, by decide⟩ (Nat.le_of_ble_eq_true rfl) ⟨by decide, by decide⟩ dX7_lapsed_5 (by decide) (by decide) hlocks htab (fun t9 h9 h8 => ⟨rfl, (Option.some.inj (qf_t c_5 hf)).symm, h9, h8⟩)
  replace hf := qf_f c_5 hf
  refine qw_cSR (rest := []) (st1 := []) S0 V hl (c_X7_need l c_5) kg_X7_119 rfl ⟨rfl, rfl⟩ kd_X7_need ⟨by decide, by decide⟩ rfl rfl (Nat.le_of_ble_eq_true rfl) ⟨Nat.zero_le _, Nat.zero_le _⟩ rfl dX7_lapsed_5 ?_
  refine lv_aload_n hx hb dX7_lapsed_8 rfl (lv_at hl 0 rfl) ?_
  refine gfO_0_6 S0 V kl_X7_47 dX7_lapsed_9 ?_
  refine gfO_43_14 S0 V kl_X7_246 dX7_lapsed_12 ?_
  refine lv_iload_n hx hb dX7_lapsed_15 rfl (lv_at hl 1 rfl) ?_
  have h_16 := qf_ld_in hf
  refine alO_57 S0 V h_16 dX7_lapsed_16 ?_
  refine lv_topi (fun x2 e_x2 => ?_)
  replace hf := qf_ld_e e_x2 hf
  have hE := Option.some.inj hf
  exact qx_ireti hQ S0 hr hlocks hE rfl rfl V dX7_lapsed_17
theorem kd_X7_heldByAll : yX7_heldByAll.cls = RX7 ∧ yX7_heldByAll.cls ≠ "java/lang/invoke/MethodHandle" ∧ yX7_heldByAll.cls ≠ "java/lang/invoke/VarHandle" ∧ (parseMethodDescriptor yX7_heldByAll.desc).map (fun d => d.parameters.length) = some 1 := by decide +kernel
def f_X7_heldByAll_l4 (I : Nat → Int32) (A : Nat → Nat → Int32)  (y1 : Int32) : Nat → Int32 → Int32 → Option (Int32)
  | 0, _, _ => none
  | n + 1, y2, y3 =>
  if (I 14) ≤ y3 then (some (y2)) else (qf_bd (f_X7_holding A y3 y1) fun r1 =>
    qf_let ((y2 + r1)) fun x2 =>
    qf_let (y3 + (1 : Int32)) fun x3 =>
    f_X7_heldByAll_l4 I A y1 n x2 x3)
def f_X7_heldByAll (I : Nat → Int32) (A : Nat → Nat → Int32) (p1 : Int32) : Option (Int32) :=
  f_X7_heldByAll_l4 I A p1 100000 (0 : Int32) (0 : Int32)
abbrev wz_X7_heldByAll : List Cond := Cond.code yX7_heldByAll cX7_heldByAll 4 (some .int) :: qw_big
def rm_X7_heldByAll : Room := { frames := 2, cells := 0, slots := 0, locals := 45 }
set_option maxHeartbeats 4000000 in
set_option maxRecDepth 100000 in
theorem c_X7_heldByAll (l : Launch) {D : va_G} {cy : Nat → ClassId} {ad : Nat → Nat} {I : Nat → Int32} {A : Nat → Nat → Int32} {G : Nat → Int32 × (Nat → Nat → Int32)} {T : Nat} {p1 : Int32} {rv : Int32} {sz : Nat} (hf : f_X7_heldByAll I A p1 = some (rv)) : Met l yX7_heldByAll wz_X7_heldByAll rm_X7_heldByAll (va_Pc [.ref (ad 0), .int p1] (qw_Pre D cy (Wo cy ad I A G T) sz)) (qw_R (some (.int rv))) 0 0 (fun _ => False) := by
  refine qw_of (cc := cX7_heldByAll) (maxL := 4) (ret := (some .int)) (by decide) (Nat.le_of_ble_eq_true rfl) ?_
  intro p e s m args below meth c ls S0 hr hlocks hsz V hl
  have S0 : CallFix p m c cX7_heldByAll 4 s args qw_big RX7 := S0
  have hx := S0.1; have hb := S0.2.1; have hown := S0.2.2.2.1; have hts := S0.2.2.2.2
  have hl : lv_has ls 4 [(0, .ref (ad 0)), (1, .int p1)] := hl
  obtain ⟨Q9, hQ⟩ : ∃ q, q = MQ below (qw_R (some (.int rv))) args s 0 0 (fun _ => False) := ⟨_, rfl⟩
  rw [← hQ]
  generalize va_A (Wo cy ad I A G T) sz = Z9 at V
  have L_4 : ∀  {y1 : Int32} {n : Nat}  {y2 : Int32} {y3 : Int32} {ls : Array Slot}, f_X7_heldByAll_l4 I A y1 n y2 y3 = some (rv) → lv_has ls 4 [(0, .ref (ad 0)), (1, .int y1), (2, .int y2), (3, .int y3)] → W p l e rm_X7_heldByAll s m args below meth c s.heap [] 0 0 Q9 (F0 m 4 ls []) := by
    intro y1 n
    induction n with
    | zero => intro y2 y3 ls hf hl; exact qf_no hf
    | succ n ih =>
      intro y2 y3 ls hf hl
      rw [f_X7_heldByAll_l4] at hf
      refine lv_iload_n hx hb dX7_heldByAll_4 rfl (lv_at hl 3 rfl) ?_
      refine lv_aload_n hx hb dX7_heldByAll_5 rfl (lv_at hl 0 rfl) ?_
      refine gfO_0_5 S0 V kl_X7_40 dX7_heldByAll_6 ?_
      refine gfO_19_2 S0 V kl_X7_87 dX7_heldByAll_9 ?_
      refine lv_icmp_ge (tgt := 30) hx hb dX7_heldByAll_12 (by decide) (fun c_12 => ?_) (fun c_12 => ?_)
      · replace hf := qf_t c_12 hf
        refine lv_iload_n hx hb dX7_heldByAll_30 rfl (lv_at hl 2 rfl) ?_
        have hE := Option.some.inj hf
        exact qw_iretR S0 hr hlocks hQ hE dX7_heldByAll_31
      · replace hf := qf_f c_12 hf
        refine lv_iload_n hx hb dX7_heldByAll_15 rfl (lv_at hl 2 rfl) ?_
        refine lv_aload_n hx hb dX7_heldByAll_16 rfl (lv_at hl 0 rfl) ?_
        refine lv_iload_n hx hb dX7_heldByAll_17 rfl (lv_at hl 3 rfl) ?_
        refine lv_iload_n hx hb dX7_heldByAll_18 rfl (lv_at hl 1 rfl) ?_
        obtain ⟨r1, hc_19, hf⟩ := qf_bd_e hf
        refine qw_cVR (rest := [.int y2]) (st1 := [.int r1, .int y2]) S0 V hl 0 gO_0 rfl (c_X7_holding l hc_19) kg_X7_162 rfl ⟨rfl, rfl⟩ kd_X7_holding ⟨Nat.le_of_ble_eq_true rfl, Nat.le_of_ble_eq_true rfl⟩ rfl rfl (Nat.le_of_ble_eq_true rfl) ⟨Nat.zero_le _, Nat.zero_le _⟩ rfl dX7_heldByAll_19 ?_
        refine lv_iadd hx hb dX7_heldByAll_22 ?_
        refine lv_topi (fun x2 e_x2 => ?_)
        replace hf := qf_let_e e_x2 hf
        refine lv_istore_n (lv' := [(2, .int x2), (0, .ref (ad 0)), (1, .int y1), (3, .int y3)]) hx hb dX7_heldByAll_23 rfl hl (by decide) rfl (fun ls hl => ?_)
        obtain ⟨x3, e_x3⟩ : ∃ y : Int32, y = y3 + (1 : Int32) := ⟨_, rfl⟩
        refine lv_iinc (v := x3) (lv' := [(3, .int x3), (2, .int x2), (0, .ref (ad 0)), (1, .int y1)]) hx hb dX7_heldByAll_24 hl (k := 3) rfl (by rw [e_x3]; rfl) (by decide) rfl (fun ls hl => ?_)
        replace hf := qf_let_e e_x3 hf
        refine lv_goto (tgt := 4) hx hb dX7_heldByAll_27 (by decide) ?_
        exact ih hf (lv_sub hl [2, 3, 1, 0] rfl)
  unfold f_X7_heldByAll at hf
  refine lv_iconst (v := 0) hx hb dX7_heldByAll_0 (by decide) ?_
  refine lv_istore_n (lv' := [(2, .int (0 : Int32)), (0, .ref (ad 0)), (1, .int p1)]) hx hb dX7_heldByAll_1 rfl hl (by decide) rfl (fun ls hl => ?_)
  refine lv_iconst (v := 0) hx hb dX7_heldByAll_2 (by decide) ?_
  refine lv_istore_n (lv' := [(3, .int (0 : Int32)), (2, .int (0 : Int32)), (0, .ref (ad 0)), (1, .int p1)]) hx hb dX7_heldByAll_3 rfl hl (by decide) rfl (fun ls hl => ?_)
  exact L_4 hf (lv_sub hl [2, 3, 1, 0] rfl)
theorem kd_X7_held : yX7_held.cls = RX7 ∧ yX7_held.cls ≠ "java/lang/invoke/MethodHandle" ∧ yX7_held.cls ≠ "java/lang/invoke/VarHandle" ∧ (parseMethodDescriptor yX7_held.desc).map (fun d => d.parameters.length) = some 1 := by decide +kernel
def f_X7_held (I : Nat → Int32) (A : Nat → Nat → Int32) (p1 : Int32) : Option (Option (Int32)) :=
  qf_bd (f_X7_isGroup I p1) fun r1 =>
  if r1 = 0 then some none else
  qf_bd (f_X7_heldByAll I A p1) fun r2 =>
  some (some (r2))
abbrev wz_X7_held : List Cond := Cond.code yX7_held cX7_held 2 (some .int) :: qw_big
def rm_X7_held : Room := { frames := 7, cells := 1, slots := 6, locals := 102 }
set_option maxHeartbeats 4000000 in
set_option maxRecDepth 100000 in
theorem c_X7_held (l : Launch) (hst : l.stackTraces = false) {D : va_G} {cy : Nat → ClassId} {ad : Nat → Nat} {I : Nat → Int32} {A : Nat → Nat → Int32} {G : Nat → Int32 × (Nat → Nat → Int32)} {T : Nat} {p1 : Int32} {ro : (Option (Int32))} {sz : Nat} (hf : f_X7_held I A p1 = some ro) : vx_Met l yX7_held wz_X7_held rm_X7_held (va_Pc [.ref (ad 0), .int p1] (qw_Pre D cy (Wo cy ad I A G T) sz)) (qx_Q ro (fun v9 => some (.int v9)) (fun _ => (Wo cy ad I A G T)) D (va_A (Wo cy ad I A G T) sz)) (qx_X ro D (Wo cy ad I A G T) (va_A (Wo cy ad I A G T) sz)) 1 6 (va_A (Wo cy ad I A G T) sz) := by
  refine qx_of (cc := cX7_held) (maxL := 2) (ret := (some .int)) (by decide) (Nat.le_of_ble_eq_true rfl) ?_
  intro p e s m args below meth c ls S0 hr hlocks htab hsz V hl
  have S0 : CallFix p m c cX7_held 2 s args qw_big RX7 := S0
  have hx := S0.1; have hb := S0.2.1; have hown := S0.2.2.2.1; have hts := S0.2.2.2.2
  have hl : lv_has ls 2 [(0, .ref (ad 0)), (1, .int p1)] := hl
  generalize va_A (Wo cy ad I A G T) sz = Z9 at V ⊢
  obtain ⟨Q9, hQ⟩ : ∃ q, q = vx_MQ below (qx_Q ro (fun v9 => some (.int v9)) (fun _ => (Wo cy ad I A G T)) D Z9) (qx_X ro D (Wo cy ad I A G T) Z9) args s 1 6 Z9 := ⟨_, rfl⟩
  rw [← hQ]
  clear hsz
  unfold f_X7_held at hf
  refine lv_aload_n hx hb dX7_held_0 rfl (lv_at hl 0 rfl) ?_
  refine lv_iload_n hx hb dX7_held_1 rfl (lv_at hl 1 rfl) ?_
  obtain ⟨r1, hc_2, hf⟩ := qf_bd_e hf
  refine qw_cVR (rest := []) (st1 := [.int r1]) S0 V hl 0 gO_0 rfl (c_X7_isGroup l hc_2) kg_X7_115 rfl ⟨rfl, rfl⟩ kd_X7_isGroup ⟨Nat.le_of_ble_eq_true rfl, Nat.le_of_ble_eq_true rfl⟩ rfl rfl (Nat.le_of_ble_eq_true rfl) ⟨Nat.zero_le _, Nat.zero_le _⟩ rfl dX7_held_2 ?_
  by_cases c_5 : r1 = 0
  · exact qx_thr (rest := []) hst hQ S0 V hl c_5 kg_X7_119 ⟨by decide, by decide⟩ (Nat.le_of_ble_eq_true rfl) ⟨by decide, by decide⟩ dX7_held_5 (by decide) (by decide) hlocks htab (fun t9 h9 h8 => ⟨rfl, (Option.some.inj (qf_t c_5 hf)).symm, h9, h8⟩)
  replace hf := qf_f c_5 hf
  refine qw_cSR (rest := []) (st1 := []) S0 V hl (c_X7_need l c_5) kg_X7_119 rfl ⟨rfl, rfl⟩ kd_X7_need ⟨by decide, by decide⟩ rfl rfl (Nat.le_of_ble_eq_true rfl) ⟨Nat.zero_le _, Nat.zero_le _⟩ rfl dX7_held_5 ?_
  refine lv_aload_n hx hb dX7_held_8 rfl (lv_at hl 0 rfl) ?_
  refine lv_iload_n hx hb dX7_held_9 rfl (lv_at hl 1 rfl) ?_
  obtain ⟨r2, hc_10, hf⟩ := qf_bd_e hf
  refine qw_cVR (rest := []) (st1 := [.int r2]) S0 V hl 0 gO_0 rfl (c_X7_heldByAll l hc_10) kg_X7_249 rfl ⟨rfl, rfl⟩ kd_X7_heldByAll ⟨Nat.le_of_ble_eq_true rfl, Nat.le_of_ble_eq_true rfl⟩ rfl rfl (Nat.le_of_ble_eq_true rfl) ⟨Nat.zero_le _, Nat.zero_le _⟩ rfl dX7_held_10 ?_
  have hE := Option.some.inj hf
  exact qx_ireti hQ S0 hr hlocks hE rfl rfl V dX7_held_13
theorem kd_X7_areUnits : yX7_areUnits.cls ≠ "java/lang/invoke/MethodHandle" ∧ yX7_areUnits.cls ≠ "java/lang/invoke/VarHandle" ∧ (parseMethodDescriptor yX7_areUnits.desc).map (fun d => d.parameters.length) = some 1 := by decide +kernel
def f_X7_areUnits (p1 : Int32) : Option (Int32) :=
  if p1 < (1 : Int32) then (some ((0 : Int32))) else (if (9999 : Int32) < p1 then (some ((0 : Int32))) else (some ((1 : Int32))))
abbrev wz_X7_areUnits : List Cond := Cond.code yX7_areUnits cX7_areUnits 1 (some .boolean) :: qw_big
def rm_X7_areUnits : Room := { frames := 0, cells := 0, slots := 0, locals := 0 }
set_option maxHeartbeats 4000000 in
set_option maxRecDepth 100000 in
theorem c_X7_areUnits (l : Launch) {D : va_G} {cy : Nat → ClassId} {ws : va_W} {p1 : Int32} {rv : Int32} {sz : Nat} (hf : f_X7_areUnits p1 = some (rv)) : Met l yX7_areUnits wz_X7_areUnits rm_X7_areUnits (va_Pc [.int p1] (qw_Pre D cy ws sz)) (qw_R (some (.int rv))) 0 0 (fun _ => False) := by
  refine qw_of (cc := cX7_areUnits) (maxL := 1) (ret := (some .boolean)) (by decide) (Nat.le_of_ble_eq_true rfl) ?_
  intro p e s m args below meth c ls S0 hr hlocks hsz V hl
  have S0 : CallFix p m c cX7_areUnits 1 s args qw_big RX7 := S0
  have hx := S0.1; have hb := S0.2.1; have hown := S0.2.2.2.1; have hts := S0.2.2.2.2
  have hl : lv_has ls 1 [(0, .int p1)] := hl
  obtain ⟨Q9, hQ⟩ : ∃ q, q = MQ below (qw_R (some (.int rv))) args s 0 0 (fun _ => False) := ⟨_, rfl⟩
  rw [← hQ]
  generalize va_A ws sz = Z9 at V
  unfold f_X7_areUnits at hf
  refine lv_iload_n hx hb dX7_areUnits_0 rfl (lv_at hl 0 rfl) ?_
  refine lv_iconst (v := 1) hx hb dX7_areUnits_1 (by decide) ?_
  refine lv_icmp_lt (tgt := 16) hx hb dX7_areUnits_2 (by decide) (fun c_2 => ?_) (fun c_2 => ?_)
  · replace hf := qf_t c_2 hf
    refine lv_iconst (v := 0) hx hb dX7_areUnits_16 (by decide) ?_
    have hE := Option.some.inj hf
    exact qw_zretR S0 hr hlocks hQ rfl hE dX7_areUnits_17
  · replace hf := qf_f c_2 hf
    refine lv_iload_n hx hb dX7_areUnits_5 rfl (lv_at hl 0 rfl) ?_
    refine lv_sipush (v := 9999) hx hb dX7_areUnits_6 (by decide) ?_
    refine lv_icmp_gt (tgt := 16) hx hb dX7_areUnits_9 (by decide) (fun c_9 => ?_) (fun c_9 => ?_)
    · replace hf := qf_t c_9 hf
      refine lv_iconst (v := 0) hx hb dX7_areUnits_16 (by decide) ?_
      have hE := Option.some.inj hf
      exact qw_zretR S0 hr hlocks hQ rfl hE dX7_areUnits_17
    · replace hf := qf_f c_9 hf
      refine lv_iconst (v := 1) hx hb dX7_areUnits_12 (by decide) ?_
      refine lv_goto (tgt := 17) hx hb dX7_areUnits_13 (by decide) ?_
      have hE := Option.some.inj hf
      exact qw_zretR S0 hr hlocks hQ rfl hE dX7_areUnits_17
theorem kd_X7_fromSubstitute : yX7_fromSubstitute.cls = RX7 ∧ yX7_fromSubstitute.cls ≠ "java/lang/invoke/MethodHandle" ∧ yX7_fromSubstitute.cls ≠ "java/lang/invoke/VarHandle" ∧ (parseMethodDescriptor yX7_fromSubstitute.desc).map (fun d => d.parameters.length) = some 3 := by decide +kernel
def f_X7_fromSubstitute (A : Nat → Nat → Int32) (p1 : Int32) (p2 : Int32) (p3 : Int32) : Option (Int32) :=
  qf_ld 6 (A 19) p2 fun x1 =>
  qf_ld 6 (A 20) p2 fun x2 =>
  qf_bd (f_X7_holding A p1 x1) fun r3 =>
  qf_let (((p3 * x2) - r3)) fun x4 =>
  qf_let ((if (0 : Int32) < x4 then x4 else (0 : Int32))) fun x5 =>
  qf_ld 4 (A 18) x1 fun x6 =>
  some ((x5 * x6))
abbrev wz_X7_fromSubstitute : List Cond := Cond.code yX7_fromSubstitute cX7_fromSubstitute 6 (some .int) :: qw_big
def rm_X7_fromSubstitute : Room := { frames := 2, cells := 0, slots := 0, locals := 60 }
set_option maxHeartbeats 4000000 in
set_option maxRecDepth 100000 in
theorem c_X7_fromSubstitute (l : Launch) {D : va_G} {cy : Nat → ClassId} {ad : Nat → Nat} {I : Nat → Int32} {A : Nat → Nat → Int32} {G : Nat → Int32 × (Nat → Nat → Int32)} {T : Nat} {p1 : Int32} {p2 : Int32} {p3 : Int32} {rv : Int32} {sz : Nat} (hf : f_X7_fromSubstitute A p1 p2 p3 = some (rv)) : Met l yX7_fromSubstitute wz_X7_fromSubstitute rm_X7_fromSubstitute (va_Pc [.ref (ad 0), .int p1, .int p2, .int p3] (qw_Pre D cy (Wo cy ad I A G T) sz)) (qw_R (some (.int rv))) 0 0 (fun _ => False) := by
  refine qw_of (cc := cX7_fromSubstitute) (maxL := 6) (ret := (some .int)) (by decide) (Nat.le_of_ble_eq_true rfl) ?_
  intro p e s m args below meth c ls S0 hr hlocks hsz V hl
  have S0 : CallFix p m c cX7_fromSubstitute 6 s args qw_big RX7 := S0
  have hx := S0.1; have hb := S0.2.1; have hown := S0.2.2.2.1; have hts := S0.2.2.2.2
  have hl : lv_has ls 6 [(0, .ref (ad 0)), (1, .int p1), (2, .int p2), (3, .int p3)] := hl
  obtain ⟨Q9, hQ⟩ : ∃ q, q = MQ below (qw_R (some (.int rv))) args s 0 0 (fun _ => False) := ⟨_, rfl⟩
  rw [← hQ]
  generalize va_A (Wo cy ad I A G T) sz = Z9 at V
  unfold f_X7_fromSubstitute at hf
  refine lv_aload_n hx hb dX7_fromSubstitute_0 rfl (lv_at hl 0 rfl) ?_
  refine gfO_0_5 S0 V kl_X7_40 dX7_fromSubstitute_1 ?_
  refine gfO_19_12 S0 V kl_X7_141 dX7_fromSubstitute_4 ?_
  refine lv_iload_n hx hb dX7_fromSubstitute_7 rfl (lv_at hl 2 rfl) ?_
  have h_8 := qf_ld_in hf
  refine alO_28 S0 V h_8 dX7_fromSubstitute_8 ?_
  refine lv_topi (fun x1 e_x1 => ?_)
  replace hf := qf_ld_e e_x1 hf
  refine lv_istore (lv' := [(4, .int x1), (0, .ref (ad 0)), (1, .int p1), (2, .int p2), (3, .int p3)]) hx hb dX7_fromSubstitute_9 hl (by decide) rfl (fun ls hl => ?_)
  refine lv_iload_n hx hb dX7_fromSubstitute_11 rfl (lv_at hl 4 rfl) ?_
  refine lv_aload_n hx hb dX7_fromSubstitute_12 rfl (lv_at hl 1 rfl) ?_
  refine gfO_0_5 S0 V kl_X7_40 dX7_fromSubstitute_13 ?_
  refine gfO_19_13 S0 V kl_X7_144 dX7_fromSubstitute_16 ?_
  refine lv_iload_n hx hb dX7_fromSubstitute_19 rfl (lv_at hl 3 rfl) ?_
  have h_20 := qf_ld_in hf
  refine alO_29 S0 V h_20 dX7_fromSubstitute_20 ?_
  refine lv_topi (fun x2 e_x2 => ?_)
  replace hf := qf_ld_e e_x2 hf
  refine lv_imul hx hb dX7_fromSubstitute_21 ?_
  refine lv_aload_n hx hb dX7_fromSubstitute_22 rfl (lv_at hl 1 rfl) ?_
  refine lv_iload_n hx hb dX7_fromSubstitute_23 rfl (lv_at hl 2 rfl) ?_
  refine lv_iload hx hb dX7_fromSubstitute_24 (lv_at hl 0 rfl) ?_
  obtain ⟨r3, hc_26, hf⟩ := qf_bd_e hf
  refine qw_cVR (rest := [.int (p3 * x2)]) (st1 := [.int r3, .int (p3 * x2)]) S0 V hl 0 gO_0 rfl (c_X7_holding l hc_26) kg_X7_162 rfl ⟨rfl, rfl⟩ kd_X7_holding ⟨Nat.le_of_ble_eq_true rfl, Nat.le_of_ble_eq_true rfl⟩ rfl rfl (Nat.le_of_ble_eq_true rfl) ⟨Nat.zero_le _, Nat.zero_le _⟩ rfl dX7_fromSubstitute_26 ?_
  refine lv_isub hx hb dX7_fromSubstitute_29 ?_
  refine lv_topi (fun x4 e_x4 => ?_)
  replace hf := qf_let_e e_x4 hf
  refine lv_istore (lv' := [(5, .int x4), (4, .int x1), (0, .ref (ad 0)), (1, .int p1), (2, .int p2), (3, .int p3)]) hx hb dX7_fromSubstitute_30 hl (by decide) rfl (fun ls hl => ?_)
  refine lv_iconst (v := 0) hx hb dX7_fromSubstitute_32 (by decide) ?_
  refine lv_iload hx hb dX7_fromSubstitute_33 (lv_at hl 0 rfl) ?_
  refine qw_max S0 hl.1 kml_X7_290 (Nat.le_of_ble_eq_true rfl) (Nat.le_of_ble_eq_true rfl) (Nat.zero_le _) (Nat.zero_le _) dX7_fromSubstitute_35 ?_
  refine lv_topi (fun x5 e_x5 => ?_)
  replace hf := qf_let_e e_x5 hf
  refine lv_aload_n hx hb dX7_fromSubstitute_38 rfl (lv_at hl 2 rfl) ?_
  refine gfO_0_5 S0 V kl_X7_40 dX7_fromSubstitute_39 ?_
  refine gfO_19_11 S0 V kl_X7_135 dX7_fromSubstitute_42 ?_
  refine lv_iload hx hb dX7_fromSubstitute_45 (lv_at hl 1 rfl) ?_
  have h_47 := qf_ld_in hf
  refine alO_27 S0 V h_47 dX7_fromSubstitute_47 ?_
  refine lv_topi (fun x6 e_x6 => ?_)
  replace hf := qf_ld_e e_x6 hf
  refine lv_imul hx hb dX7_fromSubstitute_48 ?_
  have hE := Option.some.inj hf
  exact qw_iretR S0 hr hlocks hQ hE dX7_fromSubstitute_49
theorem kd_X7_canPay : yX7_canPay.cls = RX7 ∧ yX7_canPay.cls ≠ "java/lang/invoke/MethodHandle" ∧ yX7_canPay.cls ≠ "java/lang/invoke/VarHandle" ∧ (parseMethodDescriptor yX7_canPay.desc).map (fun d => d.parameters.length) = some 3 := by decide +kernel
def f_X7_canPay (A : Nat → Nat → Int32) (p1 : Int32) (p2 : Int32) (p3 : Int32) : Option (Int32) :=
  qf_ld 6 (A 19) p2 fun x1 =>
  qf_ld 4 (A 17) x1 fun x2 =>
  if 0 ≤ x2 then (qf_bd (f_X7_holding A p1 x2) fun r3 =>
    qf_bd (f_X7_fromSubstitute A p1 p2 p3) fun r4 =>
    if r3 < r4 then (some ((0 : Int32))) else (some ((1 : Int32)))) else (qf_bd (f_X7_holding A p1 x1) fun r5 =>
    qf_ld 6 (A 20) p2 fun x6 =>
    if r5 < (p3 * x6) then (some ((0 : Int32))) else (some ((1 : Int32))))
abbrev wz_X7_canPay : List Cond := Cond.code yX7_canPay cX7_canPay 6 (some .boolean) :: qw_big
def rm_X7_canPay : Room := { frames := 3, cells := 0, slots := 0, locals := 85 }
set_option maxHeartbeats 4000000 in
set_option maxRecDepth 100000 in
theorem c_X7_canPay (l : Launch) {D : va_G} {cy : Nat → ClassId} {ad : Nat → Nat} {I : Nat → Int32} {A : Nat → Nat → Int32} {G : Nat → Int32 × (Nat → Nat → Int32)} {T : Nat} {p1 : Int32} {p2 : Int32} {p3 : Int32} {rv : Int32} {sz : Nat} (hf : f_X7_canPay A p1 p2 p3 = some (rv)) : Met l yX7_canPay wz_X7_canPay rm_X7_canPay (va_Pc [.ref (ad 0), .int p1, .int p2, .int p3] (qw_Pre D cy (Wo cy ad I A G T) sz)) (qw_R (some (.int rv))) 0 0 (fun _ => False) := by
  refine qw_of (cc := cX7_canPay) (maxL := 6) (ret := (some .boolean)) (by decide) (Nat.le_of_ble_eq_true rfl) ?_
  intro p e s m args below meth c ls S0 hr hlocks hsz V hl
  have S0 : CallFix p m c cX7_canPay 6 s args qw_big RX7 := S0
  have hx := S0.1; have hb := S0.2.1; have hown := S0.2.2.2.1; have hts := S0.2.2.2.2
  have hl : lv_has ls 6 [(0, .ref (ad 0)), (1, .int p1), (2, .int p2), (3, .int p3)] := hl
  obtain ⟨Q9, hQ⟩ : ∃ q, q = MQ below (qw_R (some (.int rv))) args s 0 0 (fun _ => False) := ⟨_, rfl⟩
  rw [← hQ]
  generalize va_A (Wo cy ad I A G T) sz = Z9 at V
  unfold f_X7_canPay at hf
  refine lv_aload_n hx hb dX7_canPay_0 rfl (lv_at hl 0 rfl) ?_
  refine gfO_0_5 S0 V kl_X7_40 dX7_canPay_1 ?_
  refine gfO_19_12 S0 V kl_X7_141 dX7_canPay_4 ?_
  refine lv_iload_n hx hb dX7_canPay_7 rfl (lv_at hl 2 rfl) ?_
  have h_8 := qf_ld_in hf
  refine alO_28 S0 V h_8 dX7_canPay_8 ?_
  refine lv_topi (fun x1 e_x1 => ?_)
  replace hf := qf_ld_e e_x1 hf
  refine lv_istore (lv' := [(4, .int x1), (0, .ref (ad 0)), (1, .int p1), (2, .int p2), (3, .int p3)]) hx hb dX7_canPay_9 hl (by decide) rfl (fun ls hl => ?_)
  refine lv_aload_n hx hb dX7_canPay_11 rfl (lv_at hl 1 rfl) ?_
  refine gfO_0_5 S0 V kl_X7_40 dX7_canPay_12 ?_
  refine gfO_19_10 S0 V kl_X7_132 dX7_canPay_15 ?_
  refine lv_iload hx hb dX7_canPay_18 (lv_at hl 0 rfl) ?_
  have h_20 := qf_ld_in hf
  refine alO_26 S0 V h_20 dX7_canPay_20 ?_
  refine lv_topi (fun x2 e_x2 => ?_)
  replace hf := qf_ld_e e_x2 hf
  refine lv_istore (lv' := [(5, .int x2), (4, .int x1), (0, .ref (ad 0)), (1, .int p1), (2, .int p2), (3, .int p3)]) hx hb dX7_canPay_21 hl (by decide) rfl (fun ls hl => ?_)
  refine lv_iload hx hb dX7_canPay_23 (lv_at hl 0 rfl) ?_
  refine lv_if_ge (tgt := 55) hx hb dX7_canPay_25 (by decide) (fun c_25 => ?_) (fun c_25 => ?_)
  · replace hf := qf_t c_25 hf
    refine lv_aload_n hx hb dX7_canPay_55 rfl (lv_at hl 2 rfl) ?_
    refine lv_iload_n hx hb dX7_canPay_56 rfl (lv_at hl 3 rfl) ?_
    refine lv_iload hx hb dX7_canPay_57 (lv_at hl 0 rfl) ?_
    obtain ⟨r3, hc_59, hf⟩ := qf_bd_e hf
    refine qw_cVR (rest := []) (st1 := [.int r3]) S0 V hl 0 gO_0 rfl (c_X7_holding l hc_59) kg_X7_162 rfl ⟨rfl, rfl⟩ kd_X7_holding ⟨Nat.le_of_ble_eq_true rfl, Nat.le_of_ble_eq_true rfl⟩ rfl rfl (Nat.le_of_ble_eq_true rfl) ⟨Nat.zero_le _, Nat.zero_le _⟩ rfl dX7_canPay_59 ?_
    refine lv_aload_n hx hb dX7_canPay_62 rfl (lv_at hl 2 rfl) ?_
    refine lv_iload_n hx hb dX7_canPay_63 rfl (lv_at hl 3 rfl) ?_
    refine lv_iload_n hx hb dX7_canPay_64 rfl (lv_at hl 4 rfl) ?_
    refine lv_iload_n hx hb dX7_canPay_65 rfl (lv_at hl 5 rfl) ?_
    obtain ⟨r4, hc_66, hf⟩ := qf_bd_e hf
    refine qw_cVR (rest := [.int r3]) (st1 := [.int r4, .int r3]) S0 V hl 0 gO_0 rfl (c_X7_fromSubstitute l hc_66) kg_X7_268 rfl ⟨rfl, rfl⟩ kd_X7_fromSubstitute ⟨Nat.le_of_ble_eq_true rfl, Nat.le_of_ble_eq_true rfl⟩ rfl rfl (Nat.le_of_ble_eq_true rfl) ⟨Nat.zero_le _, Nat.zero_le _⟩ rfl dX7_canPay_66 ?_
    refine lv_icmp_lt (tgt := 76) hx hb dX7_canPay_69 (by decide) (fun c_69 => ?_) (fun c_69 => ?_)
    · replace hf := qf_t c_69 hf
      refine lv_iconst (v := 0) hx hb dX7_canPay_76 (by decide) ?_
      have hE := Option.some.inj hf
      exact qw_zretR S0 hr hlocks hQ rfl hE dX7_canPay_77
    · replace hf := qf_f c_69 hf
      refine lv_iconst (v := 1) hx hb dX7_canPay_72 (by decide) ?_
      refine lv_goto (tgt := 77) hx hb dX7_canPay_73 (by decide) ?_
      have hE := Option.some.inj hf
      exact qw_zretR S0 hr hlocks hQ rfl hE dX7_canPay_77
  · replace hf := qf_f c_25 hf
    refine lv_aload_n hx hb dX7_canPay_28 rfl (lv_at hl 2 rfl) ?_
    refine lv_iload_n hx hb dX7_canPay_29 rfl (lv_at hl 3 rfl) ?_
    refine lv_iload hx hb dX7_canPay_30 (lv_at hl 1 rfl) ?_
    obtain ⟨r5, hc_32, hf⟩ := qf_bd_e hf
    refine qw_cVR (rest := []) (st1 := [.int r5]) S0 V hl 0 gO_0 rfl (c_X7_holding l hc_32) kg_X7_162 rfl ⟨rfl, rfl⟩ kd_X7_holding ⟨Nat.le_of_ble_eq_true rfl, Nat.le_of_ble_eq_true rfl⟩ rfl rfl (Nat.le_of_ble_eq_true rfl) ⟨Nat.zero_le _, Nat.zero_le _⟩ rfl dX7_canPay_32 ?_
    refine lv_iload_n hx hb dX7_canPay_35 rfl (lv_at hl 5 rfl) ?_
    refine lv_aload_n hx hb dX7_canPay_36 rfl (lv_at hl 2 rfl) ?_
    refine gfO_0_5 S0 V kl_X7_40 dX7_canPay_37 ?_
    refine gfO_19_13 S0 V kl_X7_144 dX7_canPay_40 ?_
    refine lv_iload_n hx hb dX7_canPay_43 rfl (lv_at hl 4 rfl) ?_
    have h_44 := qf_ld_in hf
    refine alO_29 S0 V h_44 dX7_canPay_44 ?_
    refine lv_topi (fun x6 e_x6 => ?_)
    replace hf := qf_ld_e e_x6 hf
    refine lv_imul hx hb dX7_canPay_45 ?_
    refine lv_icmp_lt (tgt := 53) hx hb dX7_canPay_46 (by decide) (fun c_46 => ?_) (fun c_46 => ?_)
    · replace hf := qf_t c_46 hf
      refine lv_iconst (v := 0) hx hb dX7_canPay_53 (by decide) ?_
      have hE := Option.some.inj hf
      exact qw_zretR S0 hr hlocks hQ rfl hE dX7_canPay_54
    · replace hf := qf_f c_46 hf
      refine lv_iconst (v := 1) hx hb dX7_canPay_49 (by decide) ?_
      refine lv_goto (tgt := 54) hx hb dX7_canPay_50 (by decide) ?_
      have hE := Option.some.inj hf
      exact qw_zretR S0 hr hlocks hQ rfl hE dX7_canPay_54
theorem kd_X7_reasonAgainst : yX7_reasonAgainst.cls = RX7 ∧ yX7_reasonAgainst.cls ≠ "java/lang/invoke/MethodHandle" ∧ yX7_reasonAgainst.cls ≠ "java/lang/invoke/VarHandle" ∧ (parseMethodDescriptor yX7_reasonAgainst.desc).map (fun d => d.parameters.length) = some 4 := by decide +kernel
def f_X7_reasonAgainst (A : Nat → Nat → Int32) (p1 : Int32) (p2 : Int32) (p3 : Int32) (p4 : Int32) : Option (Int32) :=
  qf_bd (f_X7_isClosed A p2) fun r1 =>
  if r1 = 0 then (qf_bd (f_X5_shelf p2 p3) fun r2 =>
    qf_ld 24 (A 39) r2 fun x3 =>
    if p4 ≤ x3 then (qf_bd (f_X7_canPay A p1 p3 p4) fun r4 =>
      if r4 = 0 then (some ((3 : Int32))) else (some ((0 : Int32)))) else (some ((2 : Int32)))) else (some ((1 : Int32)))
abbrev wz_X7_reasonAgainst : List Cond := Cond.code yX7_reasonAgainst cX7_reasonAgainst 5 (some .int) :: qw_big
def rm_X7_reasonAgainst : Room := { frames := 4, cells := 0, slots := 0, locals := 110 }
set_option maxHeartbeats 4000000 in
set_option maxRecDepth 100000 in
theorem c_X7_reasonAgainst (l : Launch) {D : va_G} {cy : Nat → ClassId} {ad : Nat → Nat} {I : Nat → Int32} {A : Nat → Nat → Int32} {G : Nat → Int32 × (Nat → Nat → Int32)} {T : Nat} {p1 : Int32} {p2 : Int32} {p3 : Int32} {p4 : Int32} {rv : Int32} {sz : Nat} (hf : f_X7_reasonAgainst A p1 p2 p3 p4 = some (rv)) : Met l yX7_reasonAgainst wz_X7_reasonAgainst rm_X7_reasonAgainst (va_Pc [.ref (ad 0), .int p1, .int p2, .int p3, .int p4] (qw_Pre D cy (Wo cy ad I A G T) sz)) (qw_R (some (.int rv))) 0 0 (fun _ => False) := by
  refine qw_of (cc := cX7_reasonAgainst) (maxL := 5) (ret := (some .int)) (by decide) (Nat.le_of_ble_eq_true rfl) ?_
  intro p e s m args below meth c ls S0 hr hlocks hsz V hl
  have S0 : CallFix p m c cX7_reasonAgainst 5 s args qw_big RX7 := S0
  have hx := S0.1; have hb := S0.2.1; have hown := S0.2.2.2.1; have hts := S0.2.2.2.2
  have hl : lv_has ls 5 [(0, .ref (ad 0)), (1, .int p1), (2, .int p2), (3, .int p3), (4, .int p4)] := hl
  obtain ⟨Q9, hQ⟩ : ∃ q, q = MQ below (qw_R (some (.int rv))) args s 0 0 (fun _ => False) := ⟨_, rfl⟩
  rw [← hQ]
  generalize va_A (Wo cy ad I A G T) sz = Z9 at V
  unfold f_X7_reasonAgainst at hf
  refine lv_aload_n hx hb dX7_reasonAgainst_0 rfl (lv_at hl 0 rfl) ?_
  refine lv_iload_n hx hb dX7_reasonAgainst_1 rfl (lv_at hl 2 rfl) ?_
  obtain ⟨r1, hc_2, hf⟩ := qf_bd_e hf
  refine qw_cVR (rest := []) (st1 := [.int r1]) S0 V hl 0 gO_0 rfl (c_X7_isClosed l hc_2) kg_X7_231 rfl ⟨rfl, rfl⟩ kd_X7_isClosed ⟨Nat.le_of_ble_eq_true rfl, Nat.le_of_ble_eq_true rfl⟩ rfl rfl (Nat.le_of_ble_eq_true rfl) ⟨Nat.zero_le _, Nat.zero_le _⟩ rfl dX7_reasonAgainst_2 ?_
  refine lv_if_eq (tgt := 10) hx hb dX7_reasonAgainst_5 (by decide) (fun c_5 => ?_) (fun c_5 => ?_)
  · replace hf := qf_t c_5 hf
    refine lv_aload_n hx hb dX7_reasonAgainst_10 rfl (lv_at hl 0 rfl) ?_
    refine gfO_0_6 S0 V kl_X7_47 dX7_reasonAgainst_11 ?_
    refine gfO_43_7 S0 V kl_X7_216 dX7_reasonAgainst_14 ?_
    refine lv_iload_n hx hb dX7_reasonAgainst_17 rfl (lv_at hl 2 rfl) ?_
    refine lv_iload_n hx hb dX7_reasonAgainst_18 rfl (lv_at hl 3 rfl) ?_
    obtain ⟨r2, hc_19, hf⟩ := qf_bd_e hf
    refine qw_cSR (rest := [.ref (ad 50)]) (st1 := [.int r2, .ref (ad 50)]) S0 V hl (c_X5_shelf l hc_19) kg_X7_219 rfl ⟨rfl, rfl⟩ kd_X5_shelf ⟨Nat.le_of_ble_eq_true rfl, Nat.le_of_ble_eq_true rfl⟩ rfl rfl (Nat.le_of_ble_eq_true rfl) ⟨Nat.zero_le _, Nat.zero_le _⟩ rfl dX7_reasonAgainst_19 ?_
    have h_22 := qf_ld_in hf
    refine alO_50 S0 V h_22 dX7_reasonAgainst_22 ?_
    refine lv_topi (fun x3 e_x3 => ?_)
    replace hf := qf_ld_e e_x3 hf
    refine lv_iload hx hb dX7_reasonAgainst_23 (lv_at hl 4 rfl) ?_
    refine lv_icmp_ge (tgt := 30) hx hb dX7_reasonAgainst_25 (by decide) (fun c_25 => ?_) (fun c_25 => ?_)
    · replace hf := qf_t c_25 hf
      refine lv_aload_n hx hb dX7_reasonAgainst_30 rfl (lv_at hl 0 rfl) ?_
      refine lv_iload_n hx hb dX7_reasonAgainst_31 rfl (lv_at hl 1 rfl) ?_
      refine lv_iload_n hx hb dX7_reasonAgainst_32 rfl (lv_at hl 3 rfl) ?_
      refine lv_iload hx hb dX7_reasonAgainst_33 (lv_at hl 4 rfl) ?_
      obtain ⟨r4, hc_35, hf⟩ := qf_bd_e hf
      refine qw_cVR (rest := []) (st1 := [.int r4]) S0 V hl 0 gO_0 rfl (c_X7_canPay l hc_35) kg_X7_259 rfl ⟨rfl, rfl⟩ kd_X7_canPay ⟨Nat.le_of_ble_eq_true rfl, Nat.le_of_ble_eq_true rfl⟩ rfl rfl (Nat.le_of_ble_eq_true rfl) ⟨Nat.zero_le _, Nat.zero_le _⟩ rfl dX7_reasonAgainst_35 ?_
      refine lv_if_eq (tgt := 45) hx hb dX7_reasonAgainst_38 (by decide) (fun c_38 => ?_) (fun c_38 => ?_)
      · replace hf := qf_t c_38 hf
        refine lv_iconst (v := 3) hx hb dX7_reasonAgainst_45 (by decide) ?_
        have hE := Option.some.inj hf
        exact qw_iretR S0 hr hlocks hQ hE dX7_reasonAgainst_46
      · replace hf := qf_f c_38 hf
        refine lv_iconst (v := 0) hx hb dX7_reasonAgainst_41 (by decide) ?_
        refine lv_goto (tgt := 46) hx hb dX7_reasonAgainst_42 (by decide) ?_
        have hE := Option.some.inj hf
        exact qw_iretR S0 hr hlocks hQ hE dX7_reasonAgainst_46
    · replace hf := qf_f c_25 hf
      refine lv_iconst (v := 2) hx hb dX7_reasonAgainst_28 (by decide) ?_
      have hE := Option.some.inj hf
      exact qw_iretR S0 hr hlocks hQ hE dX7_reasonAgainst_29
  · replace hf := qf_f c_5 hf
    refine lv_iconst (v := 1) hx hb dX7_reasonAgainst_8 (by decide) ?_
    have hE := Option.some.inj hf
    exact qw_iretR S0 hr hlocks hQ hE dX7_reasonAgainst_9
theorem kd_X7_reasonFor : yX7_reasonFor.cls = RX7 ∧ yX7_reasonFor.cls ≠ "java/lang/invoke/MethodHandle" ∧ yX7_reasonFor.cls ≠ "java/lang/invoke/VarHandle" ∧ (parseMethodDescriptor yX7_reasonFor.desc).map (fun d => d.parameters.length) = some 4 := by decide +kernel
def f_X7_reasonFor_j29 (I : Nat → Int32) (A : Nat → Nat → Int32)  (y1 : Int32) (y2 : Int32) (y3 : Int32) (y4 : Int32) (s0 : Int32) : Option (Option (Int32)) :=
  if s0 = 0 then some none else
  qf_bd (f_X7_areUnits y4) fun r4 =>
  if r4 = 0 then (some (some ((-2 : Int32)))) else (qf_bd (f_X7_reasonAgainst A y1 y2 y3 y4) fun r5 =>
    some (some (r5)))
def f_X7_reasonFor_j28 (I : Nat → Int32) (A : Nat → Nat → Int32)  (y1 : Int32) (y2 : Int32) (y3 : Int32) (y4 : Int32) : Option (Option (Int32)) :=
  f_X7_reasonFor_j29 I A y1 y2 y3 y4 (0 : Int32)
def f_X7_reasonFor (I : Nat → Int32) (A : Nat → Nat → Int32) (p1 : Int32) (p2 : Int32) (p3 : Int32) (p4 : Int32) : Option (Option (Int32)) :=
  qf_bd (f_X7_isHouse I p1) fun r1 =>
  if r1 = 0 then (f_X7_reasonFor_j28 I A p1 p2 p3 p4) else (qf_bd (f_X7_isShop I p2) fun r2 =>
    if r2 = 0 then (f_X7_reasonFor_j28 I A p1 p2 p3 p4) else (qf_bd (f_X7_isGood I p3) fun r3 =>
      if r3 = 0 then (f_X7_reasonFor_j28 I A p1 p2 p3 p4) else (f_X7_reasonFor_j29 I A p1 p2 p3 p4 (1 : Int32))))
abbrev wz_X7_reasonFor : List Cond := Cond.code yX7_reasonFor cX7_reasonFor 5 (some .int) :: qw_big
def rm_X7_reasonFor : Room := { frames := 7, cells := 1, slots := 6, locals := 134 }
set_option maxHeartbeats 4000000 in
set_option maxRecDepth 100000 in
theorem c_X7_reasonFor (l : Launch) (hst : l.stackTraces = false) {D : va_G} {cy : Nat → ClassId} {ad : Nat → Nat} {I : Nat → Int32} {A : Nat → Nat → Int32} {G : Nat → Int32 × (Nat → Nat → Int32)} {T : Nat} {p1 : Int32} {p2 : Int32} {p3 : Int32} {p4 : Int32} {ro : (Option (Int32))} {sz : Nat} (hf : f_X7_reasonFor I A p1 p2 p3 p4 = some ro) : vx_Met l yX7_reasonFor wz_X7_reasonFor rm_X7_reasonFor (va_Pc [.ref (ad 0), .int p1, .int p2, .int p3, .int p4] (qw_Pre D cy (Wo cy ad I A G T) sz)) (qx_Q ro (fun v9 => some (.int v9)) (fun _ => (Wo cy ad I A G T)) D (va_A (Wo cy ad I A G T) sz)) (qx_X ro D (Wo cy ad I A G T) (va_A (Wo cy ad I A G T) sz)) 1 6 (va_A (Wo cy ad I A G T) sz) := by
  refine qx_of (cc := cX7_reasonFor) (maxL := 5) (ret := (some .int)) (by decide) (Nat.le_of_ble_eq_true rfl) ?_
  intro p e s m args below meth c ls S0 hr hlocks htab hsz V hl
  have S0 : CallFix p m c cX7_reasonFor 5 s args qw_big RX7 := S0
  have hx := S0.1; have hb := S0.2.1; have hown := S0.2.2.2.1; have hts := S0.2.2.2.2
  have hl : lv_has ls 5 [(0, .ref (ad 0)), (1, .int p1), (2, .int p2), (3, .int p3), (4, .int p4)] := hl
  generalize va_A (Wo cy ad I A G T) sz = Z9 at V ⊢
  obtain ⟨Q9, hQ⟩ : ∃ q, q = vx_MQ below (qx_Q ro (fun v9 => some (.int v9)) (fun _ => (Wo cy ad I A G T)) D Z9) (qx_X ro D (Wo cy ad I A G T) Z9) args s 1 6 Z9 := ⟨_, rfl⟩
  rw [← hQ]
  clear hsz
  have J_29 : ∀   {y1 : Int32} {y2 : Int32} {y3 : Int32} {y4 : Int32} {s0 : Int32} {H : Heap} {locs : List Loc} {ls : Array Slot}, f_X7_reasonFor_j29 I A y1 y2 y3 y4 s0 = some ro → qw_V D cy Z9 s (Wo cy ad I A G T) H locs → lv_has ls 5 [(0, .ref (ad 0)), (1, .int y1), (2, .int y2), (3, .int y3), (4, .int y4)] → W p l e rm_X7_reasonFor s m args below meth c H locs 0 0 Q9 (F0 m 29 ls [.int s0]) := by
    intro y1 y2 y3 y4 s0 H locs ls hf V hl
    unfold f_X7_reasonFor_j29 at hf
    by_cases c_29 : s0 = 0
    · exact qx_thr (rest := []) hst hQ S0 V hl c_29 kg_X7_119 ⟨by decide, by decide⟩ (Nat.le_of_ble_eq_true rfl) ⟨by decide, by decide⟩ dX7_reasonFor_29 (by decide) (by decide) hlocks htab (fun t9 h9 h8 => ⟨rfl, (Option.some.inj (qf_t c_29 hf)).symm, h9, h8⟩)
    replace hf := qf_f c_29 hf
    refine qw_cSR (rest := []) (st1 := []) S0 V hl (c_X7_need l c_29) kg_X7_119 rfl ⟨rfl, rfl⟩ kd_X7_need ⟨by decide, by decide⟩ rfl rfl (Nat.le_of_ble_eq_true rfl) ⟨Nat.zero_le _, Nat.zero_le _⟩ rfl dX7_reasonFor_29 ?_
    refine lv_iload hx hb dX7_reasonFor_32 (lv_at hl 4 rfl) ?_
    obtain ⟨r4, hc_34, hf⟩ := qf_bd_e hf
    refine qw_cSR (rest := []) (st1 := [.int r4]) S0 V hl (c_X7_areUnits l hc_34) kg_X7_252 rfl ⟨rfl, rfl⟩ kd_X7_areUnits ⟨Nat.le_of_ble_eq_true rfl, Nat.le_of_ble_eq_true rfl⟩ rfl rfl (Nat.le_of_ble_eq_true rfl) ⟨Nat.zero_le _, Nat.zero_le _⟩ rfl dX7_reasonFor_34 ?_
    refine lv_if_eq (tgt := 52) hx hb dX7_reasonFor_37 (by decide) (fun c_37 => ?_) (fun c_37 => ?_)
    · replace hf := qf_t c_37 hf
      refine lv_bipush (v := -2) hx hb dX7_reasonFor_52 (by decide) ?_
      have hE := Option.some.inj hf
      exact qx_ireti hQ S0 hr hlocks hE rfl rfl V dX7_reasonFor_54
    · replace hf := qf_f c_37 hf
      refine lv_aload_n hx hb dX7_reasonFor_40 rfl (lv_at hl 0 rfl) ?_
      refine lv_iload_n hx hb dX7_reasonFor_41 rfl (lv_at hl 1 rfl) ?_
      refine lv_iload_n hx hb dX7_reasonFor_42 rfl (lv_at hl 2 rfl) ?_
      refine lv_iload_n hx hb dX7_reasonFor_43 rfl (lv_at hl 3 rfl) ?_
      refine lv_iload hx hb dX7_reasonFor_44 (lv_at hl 4 rfl) ?_
      obtain ⟨r5, hc_46, hf⟩ := qf_bd_e hf
      refine qw_cVR (rest := []) (st1 := [.int r5]) S0 V hl 0 gO_0 rfl (c_X7_reasonAgainst l hc_46) kg_X7_255 rfl ⟨rfl, rfl⟩ kd_X7_reasonAgainst ⟨Nat.le_of_ble_eq_true rfl, Nat.le_of_ble_eq_true rfl⟩ rfl rfl (Nat.le_of_ble_eq_true rfl) ⟨Nat.zero_le _, Nat.zero_le _⟩ rfl dX7_reasonFor_46 ?_
      refine lv_goto (tgt := 54) hx hb dX7_reasonFor_49 (by decide) ?_
      have hE := Option.some.inj hf
      exact qx_ireti hQ S0 hr hlocks hE rfl rfl V dX7_reasonFor_54
  have J_28 : ∀   {y1 : Int32} {y2 : Int32} {y3 : Int32} {y4 : Int32} {H : Heap} {locs : List Loc} {ls : Array Slot}, f_X7_reasonFor_j28 I A y1 y2 y3 y4 = some ro → qw_V D cy Z9 s (Wo cy ad I A G T) H locs → lv_has ls 5 [(0, .ref (ad 0)), (1, .int y1), (2, .int y2), (3, .int y3), (4, .int y4)] → W p l e rm_X7_reasonFor s m args below meth c H locs 0 0 Q9 (F0 m 28 ls []) := by
    intro y1 y2 y3 y4 H locs ls hf V hl
    unfold f_X7_reasonFor_j28 at hf
    refine lv_iconst (v := 0) hx hb dX7_reasonFor_28 (by decide) ?_
    exact J_29 hf V (lv_sub hl [0, 1, 2, 3, 4] rfl)
  unfold f_X7_reasonFor at hf
  refine lv_aload_n hx hb dX7_reasonFor_0 rfl (lv_at hl 0 rfl) ?_
  refine lv_iload_n hx hb dX7_reasonFor_1 rfl (lv_at hl 1 rfl) ?_
  obtain ⟨r1, hc_2, hf⟩ := qf_bd_e hf
  refine qw_cVR (rest := []) (st1 := [.int r1]) S0 V hl 0 gO_0 rfl (c_X7_isHouse l hc_2) kg_X7_150 rfl ⟨rfl, rfl⟩ kd_X7_isHouse ⟨Nat.le_of_ble_eq_true rfl, Nat.le_of_ble_eq_true rfl⟩ rfl rfl (Nat.le_of_ble_eq_true rfl) ⟨Nat.zero_le _, Nat.zero_le _⟩ rfl dX7_reasonFor_2 ?_
  refine lv_if_eq (tgt := 28) hx hb dX7_reasonFor_5 (by decide) (fun c_5 => ?_) (fun c_5 => ?_)
  · replace hf := qf_t c_5 hf
    exact J_28 hf V (lv_sub hl [0, 1, 2, 3, 4] rfl)
  · replace hf := qf_f c_5 hf
    refine lv_aload_n hx hb dX7_reasonFor_8 rfl (lv_at hl 0 rfl) ?_
    refine lv_iload_n hx hb dX7_reasonFor_9 rfl (lv_at hl 2 rfl) ?_
    obtain ⟨r2, hc_10, hf⟩ := qf_bd_e hf
    refine qw_cVR (rest := []) (st1 := [.int r2]) S0 V hl 0 gO_0 rfl (c_X7_isShop l hc_10) kg_X7_213 rfl ⟨rfl, rfl⟩ kd_X7_isShop ⟨Nat.le_of_ble_eq_true rfl, Nat.le_of_ble_eq_true rfl⟩ rfl rfl (Nat.le_of_ble_eq_true rfl) ⟨Nat.zero_le _, Nat.zero_le _⟩ rfl dX7_reasonFor_10 ?_
    refine lv_if_eq (tgt := 28) hx hb dX7_reasonFor_13 (by decide) (fun c_13 => ?_) (fun c_13 => ?_)
    · replace hf := qf_t c_13 hf
      exact J_28 hf V (lv_sub hl [0, 1, 2, 3, 4] rfl)
    · replace hf := qf_f c_13 hf
      refine lv_aload_n hx hb dX7_reasonFor_16 rfl (lv_at hl 0 rfl) ?_
      refine lv_iload_n hx hb dX7_reasonFor_17 rfl (lv_at hl 3 rfl) ?_
      obtain ⟨r3, hc_18, hf⟩ := qf_bd_e hf
      refine qw_cVR (rest := []) (st1 := [.int r3]) S0 V hl 0 gO_0 rfl (c_X7_isGood l hc_18) kg_X7_138 rfl ⟨rfl, rfl⟩ kd_X7_isGood ⟨Nat.le_of_ble_eq_true rfl, Nat.le_of_ble_eq_true rfl⟩ rfl rfl (Nat.le_of_ble_eq_true rfl) ⟨Nat.zero_le _, Nat.zero_le _⟩ rfl dX7_reasonFor_18 ?_
      refine lv_if_eq (tgt := 28) hx hb dX7_reasonFor_21 (by decide) (fun c_21 => ?_) (fun c_21 => ?_)
      · replace hf := qf_t c_21 hf
        exact J_28 hf V (lv_sub hl [0, 1, 2, 3, 4] rfl)
      · replace hf := qf_f c_21 hf
        refine lv_iconst (v := 1) hx hb dX7_reasonFor_24 (by decide) ?_
        refine lv_goto (tgt := 29) hx hb dX7_reasonFor_25 (by decide) ?_
        exact J_29 hf V (lv_sub hl [0, 1, 2, 3, 4] rfl)
theorem kd_X7_quotient : yX7_quotient.cls ≠ "java/lang/invoke/MethodHandle" ∧ yX7_quotient.cls ≠ "java/lang/invoke/VarHandle" ∧ (parseMethodDescriptor yX7_quotient.desc).map (fun d => d.parameters.length) = some 2 := by decide +kernel
def f_X7_quotient (p1 : Int32) (p2 : Int32) : Option (Int32) :=
  if p2 ≤ 0 then (some ((0 : Int32))) else (qf_ck (¬ p2 = 0) <|
    some ((p1 / p2)))
abbrev wz_X7_quotient : List Cond := Cond.code yX7_quotient cX7_quotient 2 (some .int) :: qw_big
def rm_X7_quotient : Room := { frames := 0, cells := 0, slots := 0, locals := 0 }
set_option maxHeartbeats 4000000 in
set_option maxRecDepth 100000 in
theorem c_X7_quotient (l : Launch) {D : va_G} {cy : Nat → ClassId} {ws : va_W} {p1 : Int32} {p2 : Int32} {rv : Int32} {sz : Nat} (hf : f_X7_quotient p1 p2 = some (rv)) : Met l yX7_quotient wz_X7_quotient rm_X7_quotient (va_Pc [.int p1, .int p2] (qw_Pre D cy ws sz)) (qw_R (some (.int rv))) 0 0 (fun _ => False) := by
  refine qw_of (cc := cX7_quotient) (maxL := 2) (ret := (some .int)) (by decide) (Nat.le_of_ble_eq_true rfl) ?_
  intro p e s m args below meth c ls S0 hr hlocks hsz V hl
  have S0 : CallFix p m c cX7_quotient 2 s args qw_big RX7 := S0
  have hx := S0.1; have hb := S0.2.1; have hown := S0.2.2.2.1; have hts := S0.2.2.2.2
  have hl : lv_has ls 2 [(0, .int p1), (1, .int p2)] := hl
  obtain ⟨Q9, hQ⟩ : ∃ q, q = MQ below (qw_R (some (.int rv))) args s 0 0 (fun _ => False) := ⟨_, rfl⟩
  rw [← hQ]
  generalize va_A ws sz = Z9 at V
  unfold f_X7_quotient at hf
  refine lv_iload_n hx hb dX7_quotient_0 rfl (lv_at hl 1 rfl) ?_
  refine lv_if_le (tgt := 10) hx hb dX7_quotient_1 (by decide) (fun c_1 => ?_) (fun c_1 => ?_)
  · replace hf := qf_t c_1 hf
    refine lv_iconst (v := 0) hx hb dX7_quotient_10 (by decide) ?_
    have hE := Option.some.inj hf
    exact qw_iretR S0 hr hlocks hQ hE dX7_quotient_11
  · replace hf := qf_f c_1 hf
    refine lv_iload_n hx hb dX7_quotient_4 rfl (lv_at hl 0 rfl) ?_
    refine lv_iload_n hx hb dX7_quotient_5 rfl (lv_at hl 1 rfl) ?_
    obtain ⟨h_6, hf⟩ := qf_ck_e hf
    refine lv_idiv hx hb dX7_quotient_6 h_6 ?_
    refine lv_goto (tgt := 11) hx hb dX7_quotient_7 (by decide) ?_
    have hE := Option.some.inj hf
    exact qw_iretR S0 hr hlocks hQ hE dX7_quotient_11
theorem kd_X7_mostToBuy : yX7_mostToBuy.cls = RX7 ∧ yX7_mostToBuy.cls ≠ "java/lang/invoke/MethodHandle" ∧ yX7_mostToBuy.cls ≠ "java/lang/invoke/VarHandle" ∧ (parseMethodDescriptor yX7_mostToBuy.desc).map (fun d => d.parameters.length) = some 3 := by decide +kernel
def f_X7_mostToBuy_j72 (A : Nat → Nat → Int32)  (y2 : Int32) (y3 : Int32) (y6 : Int32) : Option (Int32) :=
  qf_ld 6 (A 20) y3 fun x9 =>
  qf_bd (f_X7_quotient y6 x9) fun r10 =>
  qf_bd (f_X5_shelf y2 y3) fun r11 =>
  qf_ld 24 (A 39) r11 fun x12 =>
  qf_let ((if x12 < r10 then x12 else r10)) fun x13 =>
  qf_let ((if (9999 : Int32) < x13 then (9999 : Int32) else x13)) fun x14 =>
  some (x14)
def f_X7_mostToBuy (A : Nat → Nat → Int32) (p1 : Int32) (p2 : Int32) (p3 : Int32) : Option (Int32) :=
  qf_bd (f_X7_isClosed A p2) fun r1 =>
  if r1 = 0 then (qf_ld 6 (A 19) p3 fun x2 =>
    qf_ld 4 (A 17) x2 fun x3 =>
    qf_bd (f_X7_holding A p1 x2) fun r4 =>
    if x3 < 0 then (f_X7_mostToBuy_j72 A p2 p3 r4) else (qf_bd (f_X7_holding A p1 x3) fun r5 =>
      qf_ld 4 (A 18) x2 fun x6 =>
      qf_bd (f_X7_quotient r5 x6) fun r7 =>
      qf_let ((r4 + r7)) fun x8 =>
      f_X7_mostToBuy_j72 A p2 p3 x8)) else (some ((0 : Int32)))
abbrev wz_X7_mostToBuy : List Cond := Cond.code yX7_mostToBuy cX7_mostToBuy 8 (some .int) :: qw_big
def rm_X7_mostToBuy : Room := { frames := 2, cells := 0, slots := 0, locals := 60 }
set_option maxHeartbeats 4000000 in
set_option maxRecDepth 100000 in
theorem c_X7_mostToBuy (l : Launch) {D : va_G} {cy : Nat → ClassId} {ad : Nat → Nat} {I : Nat → Int32} {A : Nat → Nat → Int32} {G : Nat → Int32 × (Nat → Nat → Int32)} {T : Nat} {p1 : Int32} {p2 : Int32} {p3 : Int32} {rv : Int32} {sz : Nat} (hf : f_X7_mostToBuy A p1 p2 p3 = some (rv)) : Met l yX7_mostToBuy wz_X7_mostToBuy rm_X7_mostToBuy (va_Pc [.ref (ad 0), .int p1, .int p2, .int p3] (qw_Pre D cy (Wo cy ad I A G T) sz)) (qw_R (some (.int rv))) 0 0 (fun _ => False) := by
  refine qw_of (cc := cX7_mostToBuy) (maxL := 8) (ret := (some .int)) (by decide) (Nat.le_of_ble_eq_true rfl) ?_
  intro p e s m args below meth c ls S0 hr hlocks hsz V hl
  have S0 : CallFix p m c cX7_mostToBuy 8 s args qw_big RX7 := S0
  have hx := S0.1; have hb := S0.2.1; have hown := S0.2.2.2.1; have hts := S0.2.2.2.2
  have hl : lv_has ls 8 [(0, .ref (ad 0)), (1, .int p1), (2, .int p2), (3, .int p3)] := hl
  obtain ⟨Q9, hQ⟩ : ∃ q, q = MQ below (qw_R (some (.int rv))) args s 0 0 (fun _ => False) := ⟨_, rfl⟩
  rw [← hQ]
  generalize va_A (Wo cy ad I A G T) sz = Z9 at V
  have J_72 : ∀   {y2 : Int32} {y3 : Int32} {y6 : Int32} {ls : Array Slot}, f_X7_mostToBuy_j72 A y2 y3 y6 = some (rv) → lv_has ls 8 [(0, .ref (ad 0)), (2, .int y2), (3, .int y3), (6, .int y6)] → W p l e rm_X7_mostToBuy s m args below meth c s.heap [] 0 0 Q9 (F0 m 72 ls []) := by
    intro y2 y3 y6 ls hf hl
    unfold f_X7_mostToBuy_j72 at hf
    refine lv_iload hx hb dX7_mostToBuy_72 (lv_at hl 3 rfl) ?_
    refine lv_aload_n hx hb dX7_mostToBuy_74 rfl (lv_at hl 0 rfl) ?_
    refine gfO_0_5 S0 V kl_X7_40 dX7_mostToBuy_75 ?_
    refine gfO_19_13 S0 V kl_X7_144 dX7_mostToBuy_78 ?_
    refine lv_iload_n hx hb dX7_mostToBuy_81 rfl (lv_at hl 2 rfl) ?_
    have h_82 := qf_ld_in hf
    refine alO_29 S0 V h_82 dX7_mostToBuy_82 ?_
    refine lv_topi (fun x9 e_x9 => ?_)
    replace hf := qf_ld_e e_x9 hf
    obtain ⟨r10, hc_83, hf⟩ := qf_bd_e hf
    refine qw_cSR (rest := []) (st1 := [.int r10]) S0 V hl (c_X7_quotient l hc_83) kg_X7_265 rfl ⟨rfl, rfl⟩ kd_X7_quotient ⟨Nat.le_of_ble_eq_true rfl, Nat.le_of_ble_eq_true rfl⟩ rfl rfl (Nat.le_of_ble_eq_true rfl) ⟨Nat.zero_le _, Nat.zero_le _⟩ rfl dX7_mostToBuy_83 ?_
    refine lv_aload_n hx hb dX7_mostToBuy_86 rfl (lv_at hl 0 rfl) ?_
    refine gfO_0_6 S0 V kl_X7_47 dX7_mostToBuy_87 ?_
    refine gfO_43_7 S0 V kl_X7_216 dX7_mostToBuy_90 ?_
    refine lv_iload_n hx hb dX7_mostToBuy_93 rfl (lv_at hl 1 rfl) ?_
    refine lv_iload_n hx hb dX7_mostToBuy_94 rfl (lv_at hl 2 rfl) ?_
    obtain ⟨r11, hc_95, hf⟩ := qf_bd_e hf
    refine qw_cSR (rest := [.ref (ad 50), .int r10]) (st1 := [.int r11, .ref (ad 50), .int r10]) S0 V hl (c_X5_shelf l hc_95) kg_X7_219 rfl ⟨rfl, rfl⟩ kd_X5_shelf ⟨Nat.le_of_ble_eq_true rfl, Nat.le_of_ble_eq_true rfl⟩ rfl rfl (Nat.le_of_ble_eq_true rfl) ⟨Nat.zero_le _, Nat.zero_le _⟩ rfl dX7_mostToBuy_95 ?_
    have h_98 := qf_ld_in hf
    refine alO_50 S0 V h_98 dX7_mostToBuy_98 ?_
    refine lv_topi (fun x12 e_x12 => ?_)
    replace hf := qf_ld_e e_x12 hf
    refine qw_min S0 hl.1 kml_X7_201 (Nat.le_of_ble_eq_true rfl) (Nat.le_of_ble_eq_true rfl) (Nat.zero_le _) (Nat.zero_le _) dX7_mostToBuy_99 ?_
    refine lv_topi (fun x13 e_x13 => ?_)
    replace hf := qf_let_e e_x13 hf
    refine lv_istore (lv' := [(7, .int x13), (0, .ref (ad 0)), (2, .int y2), (3, .int y3), (6, .int y6)]) hx hb dX7_mostToBuy_102 hl (by decide) rfl (fun ls hl => ?_)
    refine lv_iload hx hb dX7_mostToBuy_104 (lv_at hl 0 rfl) ?_
    refine lv_sipush (v := 9999) hx hb dX7_mostToBuy_106 (by decide) ?_
    refine qw_min S0 hl.1 kml_X7_201 (Nat.le_of_ble_eq_true rfl) (Nat.le_of_ble_eq_true rfl) (Nat.zero_le _) (Nat.zero_le _) dX7_mostToBuy_109 ?_
    refine lv_topi (fun x14 e_x14 => ?_)
    replace hf := qf_let_e e_x14 hf
    have hE := Option.some.inj hf
    exact qw_iretR S0 hr hlocks hQ hE dX7_mostToBuy_112
  unfold f_X7_mostToBuy at hf
  refine lv_aload_n hx hb dX7_mostToBuy_0 rfl (lv_at hl 0 rfl) ?_
  refine lv_iload_n hx hb dX7_mostToBuy_1 rfl (lv_at hl 2 rfl) ?_
  obtain ⟨r1, hc_2, hf⟩ := qf_bd_e hf
  refine qw_cVR (rest := []) (st1 := [.int r1]) S0 V hl 0 gO_0 rfl (c_X7_isClosed l hc_2) kg_X7_231 rfl ⟨rfl, rfl⟩ kd_X7_isClosed ⟨Nat.le_of_ble_eq_true rfl, Nat.le_of_ble_eq_true rfl⟩ rfl rfl (Nat.le_of_ble_eq_true rfl) ⟨Nat.zero_le _, Nat.zero_le _⟩ rfl dX7_mostToBuy_2 ?_
  refine lv_if_eq (tgt := 10) hx hb dX7_mostToBuy_5 (by decide) (fun c_5 => ?_) (fun c_5 => ?_)
  · replace hf := qf_t c_5 hf
    refine lv_aload_n hx hb dX7_mostToBuy_10 rfl (lv_at hl 0 rfl) ?_
    refine gfO_0_5 S0 V kl_X7_40 dX7_mostToBuy_11 ?_
    refine gfO_19_12 S0 V kl_X7_141 dX7_mostToBuy_14 ?_
    refine lv_iload_n hx hb dX7_mostToBuy_17 rfl (lv_at hl 3 rfl) ?_
    have h_18 := qf_ld_in hf
    refine alO_28 S0 V h_18 dX7_mostToBuy_18 ?_
    refine lv_topi (fun x2 e_x2 => ?_)
    replace hf := qf_ld_e e_x2 hf
    refine lv_istore (lv' := [(4, .int x2), (0, .ref (ad 0)), (1, .int p1), (2, .int p2), (3, .int p3)]) hx hb dX7_mostToBuy_19 hl (by decide) rfl (fun ls hl => ?_)
    refine lv_aload_n hx hb dX7_mostToBuy_21 rfl (lv_at hl 1 rfl) ?_
    refine gfO_0_5 S0 V kl_X7_40 dX7_mostToBuy_22 ?_
    refine gfO_19_10 S0 V kl_X7_132 dX7_mostToBuy_25 ?_
    refine lv_iload hx hb dX7_mostToBuy_28 (lv_at hl 0 rfl) ?_
    have h_30 := qf_ld_in hf
    refine alO_26 S0 V h_30 dX7_mostToBuy_30 ?_
    refine lv_topi (fun x3 e_x3 => ?_)
    replace hf := qf_ld_e e_x3 hf
    refine lv_istore (lv' := [(5, .int x3), (4, .int x2), (0, .ref (ad 0)), (1, .int p1), (2, .int p2), (3, .int p3)]) hx hb dX7_mostToBuy_31 hl (by decide) rfl (fun ls hl => ?_)
    refine lv_aload_n hx hb dX7_mostToBuy_33 rfl (lv_at hl 2 rfl) ?_
    refine lv_iload_n hx hb dX7_mostToBuy_34 rfl (lv_at hl 3 rfl) ?_
    refine lv_iload hx hb dX7_mostToBuy_35 (lv_at hl 1 rfl) ?_
    obtain ⟨r4, hc_37, hf⟩ := qf_bd_e hf
    refine qw_cVR (rest := []) (st1 := [.int r4]) S0 V hl 0 gO_0 rfl (c_X7_holding l hc_37) kg_X7_162 rfl ⟨rfl, rfl⟩ kd_X7_holding ⟨Nat.le_of_ble_eq_true rfl, Nat.le_of_ble_eq_true rfl⟩ rfl rfl (Nat.le_of_ble_eq_true rfl) ⟨Nat.zero_le _, Nat.zero_le _⟩ rfl dX7_mostToBuy_37 ?_
    refine lv_istore (lv' := [(6, .int r4), (5, .int x3), (4, .int x2), (0, .ref (ad 0)), (1, .int p1), (2, .int p2), (3, .int p3)]) hx hb dX7_mostToBuy_40 hl (by decide) rfl (fun ls hl => ?_)
    refine lv_iload hx hb dX7_mostToBuy_42 (lv_at hl 1 rfl) ?_
    refine lv_if_lt (tgt := 72) hx hb dX7_mostToBuy_44 (by decide) (fun c_44 => ?_) (fun c_44 => ?_)
    · replace hf := qf_t c_44 hf
      exact J_72 hf (lv_sub hl [3, 5, 6, 0] rfl)
    · replace hf := qf_f c_44 hf
      refine lv_iload hx hb dX7_mostToBuy_47 (lv_at hl 0 rfl) ?_
      refine lv_aload_n hx hb dX7_mostToBuy_49 rfl (lv_at hl 3 rfl) ?_
      refine lv_iload_n hx hb dX7_mostToBuy_50 rfl (lv_at hl 4 rfl) ?_
      refine lv_iload hx hb dX7_mostToBuy_51 (lv_at hl 1 rfl) ?_
      obtain ⟨r5, hc_53, hf⟩ := qf_bd_e hf
      refine qw_cVR (rest := [.int r4]) (st1 := [.int r5, .int r4]) S0 V hl 0 gO_0 rfl (c_X7_holding l hc_53) kg_X7_162 rfl ⟨rfl, rfl⟩ kd_X7_holding ⟨Nat.le_of_ble_eq_true rfl, Nat.le_of_ble_eq_true rfl⟩ rfl rfl (Nat.le_of_ble_eq_true rfl) ⟨Nat.zero_le _, Nat.zero_le _⟩ rfl dX7_mostToBuy_53 ?_
      refine lv_aload_n hx hb dX7_mostToBuy_56 rfl (lv_at hl 3 rfl) ?_
      refine gfO_0_5 S0 V kl_X7_40 dX7_mostToBuy_57 ?_
      refine gfO_19_11 S0 V kl_X7_135 dX7_mostToBuy_60 ?_
      refine lv_iload hx hb dX7_mostToBuy_63 (lv_at hl 2 rfl) ?_
      have h_65 := qf_ld_in hf
      refine alO_27 S0 V h_65 dX7_mostToBuy_65 ?_
      refine lv_topi (fun x6 e_x6 => ?_)
      replace hf := qf_ld_e e_x6 hf
      obtain ⟨r7, hc_66, hf⟩ := qf_bd_e hf
      refine qw_cSR (rest := [.int r4]) (st1 := [.int r7, .int r4]) S0 V hl (c_X7_quotient l hc_66) kg_X7_265 rfl ⟨rfl, rfl⟩ kd_X7_quotient ⟨Nat.le_of_ble_eq_true rfl, Nat.le_of_ble_eq_true rfl⟩ rfl rfl (Nat.le_of_ble_eq_true rfl) ⟨Nat.zero_le _, Nat.zero_le _⟩ rfl dX7_mostToBuy_66 ?_
      refine lv_iadd hx hb dX7_mostToBuy_69 ?_
      refine lv_topi (fun x8 e_x8 => ?_)
      replace hf := qf_let_e e_x8 hf
      refine lv_istore (lv' := [(6, .int x8), (5, .int x3), (4, .int x2), (0, .ref (ad 0)), (1, .int p1), (2, .int p2), (3, .int p3)]) hx hb dX7_mostToBuy_70 hl (by decide) rfl (fun ls hl => ?_)
      exact J_72 hf (lv_sub hl [3, 5, 6, 0] rfl)
  · replace hf := qf_f c_5 hf
    refine lv_iconst (v := 0) hx hb dX7_mostToBuy_8 (by decide) ?_
    have hE := Option.some.inj hf
    exact qw_iretR S0 hr hlocks hQ hE dX7_mostToBuy_9
theorem kd_X7_mostUnits : yX7_mostUnits.cls = RX7 ∧ yX7_mostUnits.cls ≠ "java/lang/invoke/MethodHandle" ∧ yX7_mostUnits.cls ≠ "java/lang/invoke/VarHandle" ∧ (parseMethodDescriptor yX7_mostUnits.desc).map (fun d => d.parameters.length) = some 3 := by decide +kernel
def f_X7_mostUnits_j29 (I : Nat → Int32) (A : Nat → Nat → Int32)  (y1 : Int32) (y2 : Int32) (y3 : Int32) (s0 : Int32) : Option (Option (Int32)) :=
  if s0 = 0 then some none else
  qf_bd (f_X7_mostToBuy A y1 y2 y3) fun r4 =>
  some (some (r4))
def f_X7_mostUnits_j28 (I : Nat → Int32) (A : Nat → Nat → Int32)  (y1 : Int32) (y2 : Int32) (y3 : Int32) : Option (Option (Int32)) :=
  f_X7_mostUnits_j29 I A y1 y2 y3 (0 : Int32)
def f_X7_mostUnits (I : Nat → Int32) (A : Nat → Nat → Int32) (p1 : Int32) (p2 : Int32) (p3 : Int32) : Option (Option (Int32)) :=
  qf_bd (f_X7_isHouse I p1) fun r1 =>
  if r1 = 0 then (f_X7_mostUnits_j28 I A p1 p2 p3) else (qf_bd (f_X7_isShop I p2) fun r2 =>
    if r2 = 0 then (f_X7_mostUnits_j28 I A p1 p2 p3) else (qf_bd (f_X7_isGood I p3) fun r3 =>
      if r3 = 0 then (f_X7_mostUnits_j28 I A p1 p2 p3) else (f_X7_mostUnits_j29 I A p1 p2 p3 (1 : Int32))))
abbrev wz_X7_mostUnits : List Cond := Cond.code yX7_mostUnits cX7_mostUnits 4 (some .int) :: qw_big
def rm_X7_mostUnits : Room := { frames := 7, cells := 1, slots := 6, locals := 102 }
set_option maxHeartbeats 4000000 in
set_option maxRecDepth 100000 in
theorem c_X7_mostUnits (l : Launch) (hst : l.stackTraces = false) {D : va_G} {cy : Nat → ClassId} {ad : Nat → Nat} {I : Nat → Int32} {A : Nat → Nat → Int32} {G : Nat → Int32 × (Nat → Nat → Int32)} {T : Nat} {p1 : Int32} {p2 : Int32} {p3 : Int32} {ro : (Option (Int32))} {sz : Nat} (hf : f_X7_mostUnits I A p1 p2 p3 = some ro) : vx_Met l yX7_mostUnits wz_X7_mostUnits rm_X7_mostUnits (va_Pc [.ref (ad 0), .int p1, .int p2, .int p3] (qw_Pre D cy (Wo cy ad I A G T) sz)) (qx_Q ro (fun v9 => some (.int v9)) (fun _ => (Wo cy ad I A G T)) D (va_A (Wo cy ad I A G T) sz)) (qx_X ro D (Wo cy ad I A G T) (va_A (Wo cy ad I A G T) sz)) 1 6 (va_A (Wo cy ad I A G T) sz) := by
  refine qx_of (cc := cX7_mostUnits) (maxL := 4) (ret := (some .int)) (by decide) (Nat.le_of_ble_eq_true rfl) ?_
  intro p e s m args below meth c ls S0 hr hlocks htab hsz V hl
  have S0 : CallFix p m c cX7_mostUnits 4 s args qw_big RX7 := S0
  have hx := S0.1; have hb := S0.2.1; have hown := S0.2.2.2.1; have hts := S0.2.2.2.2
  have hl : lv_has ls 4 [(0, .ref (ad 0)), (1, .int p1), (2, .int p2), (3, .int p3)] := hl
  generalize va_A (Wo cy ad I A G T) sz = Z9 at V ⊢
  obtain ⟨Q9, hQ⟩ : ∃ q, q = vx_MQ below (qx_Q ro (fun v9 => some (.int v9)) (fun _ => (Wo cy ad I A G T)) D Z9) (qx_X ro D (Wo cy ad I A G T) Z9) args s 1 6 Z9 := ⟨_, rfl⟩
  rw [← hQ]
  clear hsz
  have J_29 : ∀   {y1 : Int32} {y2 : Int32} {y3 : Int32} {s0 : Int32} {H : Heap} {locs : List Loc} {ls : Array Slot}, f_X7_mostUnits_j29 I A y1 y2 y3 s0 = some ro → qw_V D cy Z9 s (Wo cy ad I A G T) H locs → lv_has ls 4 [(0, .ref (ad 0)), (1, .int y1), (2, .int y2), (3, .int y3)] → W p l e rm_X7_mostUnits s m args below meth c H locs 0 0 Q9 (F0 m 29 ls [.int s0]) := by
    intro y1 y2 y3 s0 H locs ls hf V hl
    unfold f_X7_mostUnits_j29 at hf
    by_cases c_29 : s0 = 0
    · exact qx_thr (rest := []) hst hQ S0 V hl c_29 kg_X7_119 ⟨by decide, by decide⟩ (Nat.le_of_ble_eq_true rfl) ⟨by decide, by decide⟩ dX7_mostUnits_29 (by decide) (by decide) hlocks htab (fun t9 h9 h8 => ⟨rfl, (Option.some.inj (qf_t c_29 hf)).symm, h9, h8⟩)
    replace hf := qf_f c_29 hf
    refine qw_cSR (rest := []) (st1 := []) S0 V hl (c_X7_need l c_29) kg_X7_119 rfl ⟨rfl, rfl⟩ kd_X7_need ⟨by decide, by decide⟩ rfl rfl (Nat.le_of_ble_eq_true rfl) ⟨Nat.zero_le _, Nat.zero_le _⟩ rfl dX7_mostUnits_29 ?_
    refine lv_aload_n hx hb dX7_mostUnits_32 rfl (lv_at hl 0 rfl) ?_
    refine lv_iload_n hx hb dX7_mostUnits_33 rfl (lv_at hl 1 rfl) ?_
    refine lv_iload_n hx hb dX7_mostUnits_34 rfl (lv_at hl 2 rfl) ?_
    refine lv_iload_n hx hb dX7_mostUnits_35 rfl (lv_at hl 3 rfl) ?_
    obtain ⟨r4, hc_36, hf⟩ := qf_bd_e hf
    refine qw_cVR (rest := []) (st1 := [.int r4]) S0 V hl 0 gO_0 rfl (c_X7_mostToBuy l hc_36) kg_X7_262 rfl ⟨rfl, rfl⟩ kd_X7_mostToBuy ⟨Nat.le_of_ble_eq_true rfl, Nat.le_of_ble_eq_true rfl⟩ rfl rfl (Nat.le_of_ble_eq_true rfl) ⟨Nat.zero_le _, Nat.zero_le _⟩ rfl dX7_mostUnits_36 ?_
    have hE := Option.some.inj hf
    exact qx_ireti hQ S0 hr hlocks hE rfl rfl V dX7_mostUnits_39
  have J_28 : ∀   {y1 : Int32} {y2 : Int32} {y3 : Int32} {H : Heap} {locs : List Loc} {ls : Array Slot}, f_X7_mostUnits_j28 I A y1 y2 y3 = some ro → qw_V D cy Z9 s (Wo cy ad I A G T) H locs → lv_has ls 4 [(0, .ref (ad 0)), (1, .int y1), (2, .int y2), (3, .int y3)] → W p l e rm_X7_mostUnits s m args below meth c H locs 0 0 Q9 (F0 m 28 ls []) := by
    intro y1 y2 y3 H locs ls hf V hl
    unfold f_X7_mostUnits_j28 at hf
    refine lv_iconst (v := 0) hx hb dX7_mostUnits_28 (by decide) ?_
    exact J_29 hf V (lv_sub hl [0, 1, 2, 3] rfl)
  unfold f_X7_mostUnits at hf
  refine lv_aload_n hx hb dX7_mostUnits_0 rfl (lv_at hl 0 rfl) ?_
  refine lv_iload_n hx hb dX7_mostUnits_1 rfl (lv_at hl 1 rfl) ?_
  obtain ⟨r1, hc_2, hf⟩ := qf_bd_e hf
  refine qw_cVR (rest := []) (st1 := [.int r1]) S0 V hl 0 gO_0 rfl (c_X7_isHouse l hc_2) kg_X7_150 rfl ⟨rfl, rfl⟩ kd_X7_isHouse ⟨Nat.le_of_ble_eq_true rfl, Nat.le_of_ble_eq_true rfl⟩ rfl rfl (Nat.le_of_ble_eq_true rfl) ⟨Nat.zero_le _, Nat.zero_le _⟩ rfl dX7_mostUnits_2 ?_
  refine lv_if_eq (tgt := 28) hx hb dX7_mostUnits_5 (by decide) (fun c_5 => ?_) (fun c_5 => ?_)
  · replace hf := qf_t c_5 hf
    exact J_28 hf V (lv_sub hl [0, 1, 2, 3] rfl)
  · replace hf := qf_f c_5 hf
    refine lv_aload_n hx hb dX7_mostUnits_8 rfl (lv_at hl 0 rfl) ?_
    refine lv_iload_n hx hb dX7_mostUnits_9 rfl (lv_at hl 2 rfl) ?_
    obtain ⟨r2, hc_10, hf⟩ := qf_bd_e hf
    refine qw_cVR (rest := []) (st1 := [.int r2]) S0 V hl 0 gO_0 rfl (c_X7_isShop l hc_10) kg_X7_213 rfl ⟨rfl, rfl⟩ kd_X7_isShop ⟨Nat.le_of_ble_eq_true rfl, Nat.le_of_ble_eq_true rfl⟩ rfl rfl (Nat.le_of_ble_eq_true rfl) ⟨Nat.zero_le _, Nat.zero_le _⟩ rfl dX7_mostUnits_10 ?_
    refine lv_if_eq (tgt := 28) hx hb dX7_mostUnits_13 (by decide) (fun c_13 => ?_) (fun c_13 => ?_)
    · replace hf := qf_t c_13 hf
      exact J_28 hf V (lv_sub hl [0, 1, 2, 3] rfl)
    · replace hf := qf_f c_13 hf
      refine lv_aload_n hx hb dX7_mostUnits_16 rfl (lv_at hl 0 rfl) ?_
      refine lv_iload_n hx hb dX7_mostUnits_17 rfl (lv_at hl 3 rfl) ?_
      obtain ⟨r3, hc_18, hf⟩ := qf_bd_e hf
      refine qw_cVR (rest := []) (st1 := [.int r3]) S0 V hl 0 gO_0 rfl (c_X7_isGood l hc_18) kg_X7_138 rfl ⟨rfl, rfl⟩ kd_X7_isGood ⟨Nat.le_of_ble_eq_true rfl, Nat.le_of_ble_eq_true rfl⟩ rfl rfl (Nat.le_of_ble_eq_true rfl) ⟨Nat.zero_le _, Nat.zero_le _⟩ rfl dX7_mostUnits_18 ?_
      refine lv_if_eq (tgt := 28) hx hb dX7_mostUnits_21 (by decide) (fun c_21 => ?_) (fun c_21 => ?_)
      · replace hf := qf_t c_21 hf
        exact J_28 hf V (lv_sub hl [0, 1, 2, 3] rfl)
      · replace hf := qf_f c_21 hf
        refine lv_iconst (v := 1) hx hb dX7_mostUnits_24 (by decide) ?_
        refine lv_goto (tgt := 29) hx hb dX7_mostUnits_25 (by decide) ?_
        exact J_29 hf V (lv_sub hl [0, 1, 2, 3] rfl)
theorem kd_X7_substituted : yX7_substituted.cls = RX7 ∧ yX7_substituted.cls ≠ "java/lang/invoke/MethodHandle" ∧ yX7_substituted.cls ≠ "java/lang/invoke/VarHandle" ∧ (parseMethodDescriptor yX7_substituted.desc).map (fun d => d.parameters.length) = some 3 := by decide +kernel
def f_X7_substituted_j21 (I : Nat → Int32) (A : Nat → Nat → Int32)  (y1 : Int32) (y2 : Int32) (y3 : Int32) (s0 : Int32) : Option (Option (Int32)) :=
  if s0 = 0 then some none else
  qf_bd (f_X7_areUnits y3) fun r3 =>
  if r3 = 0 then (some (some ((-2 : Int32)))) else (qf_bd (f_X7_canPay A y1 y2 y3) fun r4 =>
    if r4 = 0 then (some (some ((-1 : Int32)))) else (qf_bd (f_X7_fromSubstitute A y1 y2 y3) fun r5 =>
      some (some (r5))))
def f_X7_substituted_j20 (I : Nat → Int32) (A : Nat → Nat → Int32)  (y1 : Int32) (y2 : Int32) (y3 : Int32) : Option (Option (Int32)) :=
  f_X7_substituted_j21 I A y1 y2 y3 (0 : Int32)
def f_X7_substituted (I : Nat → Int32) (A : Nat → Nat → Int32) (p1 : Int32) (p2 : Int32) (p3 : Int32) : Option (Option (Int32)) :=
  qf_bd (f_X7_isHouse I p1) fun r1 =>
  if r1 = 0 then (f_X7_substituted_j20 I A p1 p2 p3) else (qf_bd (f_X7_isGood I p2) fun r2 =>
    if r2 = 0 then (f_X7_substituted_j20 I A p1 p2 p3) else (f_X7_substituted_j21 I A p1 p2 p3 (1 : Int32)))
abbrev wz_X7_substituted : List Cond := Cond.code yX7_substituted cX7_substituted 4 (some .int) :: qw_big
def rm_X7_substituted : Room := { frames := 7, cells := 1, slots := 6, locals := 110 }
set_option maxHeartbeats 4000000 in
set_option maxRecDepth 100000 in
theorem c_X7_substituted (l : Launch) (hst : l.stackTraces = false) {D : va_G} {cy : Nat → ClassId} {ad : Nat → Nat} {I : Nat → Int32} {A : Nat → Nat → Int32} {G : Nat → Int32 × (Nat → Nat → Int32)} {T : Nat} {p1 : Int32} {p2 : Int32} {p3 : Int32} {ro : (Option (Int32))} {sz : Nat} (hf : f_X7_substituted I A p1 p2 p3 = some ro) : vx_Met l yX7_substituted wz_X7_substituted rm_X7_substituted (va_Pc [.ref (ad 0), .int p1, .int p2, .int p3] (qw_Pre D cy (Wo cy ad I A G T) sz)) (qx_Q ro (fun v9 => some (.int v9)) (fun _ => (Wo cy ad I A G T)) D (va_A (Wo cy ad I A G T) sz)) (qx_X ro D (Wo cy ad I A G T) (va_A (Wo cy ad I A G T) sz)) 1 6 (va_A (Wo cy ad I A G T) sz) := by
  refine qx_of (cc := cX7_substituted) (maxL := 4) (ret := (some .int)) (by decide) (Nat.le_of_ble_eq_true rfl) ?_
  intro p e s m args below meth c ls S0 hr hlocks htab hsz V hl
  have S0 : CallFix p m c cX7_substituted 4 s args qw_big RX7 := S0
  have hx := S0.1; have hb := S0.2.1; have hown := S0.2.2.2.1; have hts := S0.2.2.2.2
  have hl : lv_has ls 4 [(0, .ref (ad 0)), (1, .int p1), (2, .int p2), (3, .int p3)] := hl
  generalize va_A (Wo cy ad I A G T) sz = Z9 at V ⊢
  obtain ⟨Q9, hQ⟩ : ∃ q, q = vx_MQ below (qx_Q ro (fun v9 => some (.int v9)) (fun _ => (Wo cy ad I A G T)) D Z9) (qx_X ro D (Wo cy ad I A G T) Z9) args s 1 6 Z9 := ⟨_, rfl⟩
  rw [← hQ]
  clear hsz
  have J_21 : ∀   {y1 : Int32} {y2 : Int32} {y3 : Int32} {s0 : Int32} {H : Heap} {locs : List Loc} {ls : Array Slot}, f_X7_substituted_j21 I A y1 y2 y3 s0 = some ro → qw_V D cy Z9 s (Wo cy ad I A G T) H locs → lv_has ls 4 [(0, .ref (ad 0)), (1, .int y1), (2, .int y2), (3, .int y3)] → W p l e rm_X7_substituted s m args below meth c H locs 0 0 Q9 (F0 m 21 ls [.int s0]) := by
    intro y1 y2 y3 s0 H locs ls hf V hl
    unfold f_X7_substituted_j21 at hf
    by_cases c_21 : s0 = 0
    · exact qx_thr (rest := []) hst hQ S0 V hl c_21 kg_X7_119 ⟨by decide, by decide⟩ (Nat.le_of_ble_eq_true rfl) ⟨by decide, by decide⟩ dX7_substituted_21 (by decide) (by decide) hlocks htab (fun t9 h9 h8 => ⟨rfl, (Option.some.inj (qf_t c_21 hf)).symm, h9, h8⟩)
    replace hf := qf_f c_21 hf
    refine qw_cSR (rest := []) (st1 := []) S0 V hl (c_X7_need l c_21) kg_X7_119 rfl ⟨rfl, rfl⟩ kd_X7_need ⟨by decide, by decide⟩ rfl rfl (Nat.le_of_ble_eq_true rfl) ⟨Nat.zero_le _, Nat.zero_le _⟩ rfl dX7_substituted_21 ?_
    refine lv_iload_n hx hb dX7_substituted_24 rfl (lv_at hl 3 rfl) ?_
    obtain ⟨r3, hc_25, hf⟩ := qf_bd_e hf
    refine qw_cSR (rest := []) (st1 := [.int r3]) S0 V hl (c_X7_areUnits l hc_25) kg_X7_252 rfl ⟨rfl, rfl⟩ kd_X7_areUnits ⟨Nat.le_of_ble_eq_true rfl, Nat.le_of_ble_eq_true rfl⟩ rfl rfl (Nat.le_of_ble_eq_true rfl) ⟨Nat.zero_le _, Nat.zero_le _⟩ rfl dX7_substituted_25 ?_
    refine lv_if_ne (tgt := 34) hx hb dX7_substituted_28 (by decide) (fun c_28 => ?_) (fun c_28 => ?_)
    · replace hf := qf_f c_28 hf
      refine lv_aload_n hx hb dX7_substituted_34 rfl (lv_at hl 0 rfl) ?_
      refine lv_iload_n hx hb dX7_substituted_35 rfl (lv_at hl 1 rfl) ?_
      refine lv_iload_n hx hb dX7_substituted_36 rfl (lv_at hl 2 rfl) ?_
      refine lv_iload_n hx hb dX7_substituted_37 rfl (lv_at hl 3 rfl) ?_
      obtain ⟨r4, hc_38, hf⟩ := qf_bd_e hf
      refine qw_cVR (rest := []) (st1 := [.int r4]) S0 V hl 0 gO_0 rfl (c_X7_canPay l hc_38) kg_X7_259 rfl ⟨rfl, rfl⟩ kd_X7_canPay ⟨Nat.le_of_ble_eq_true rfl, Nat.le_of_ble_eq_true rfl⟩ rfl rfl (Nat.le_of_ble_eq_true rfl) ⟨Nat.zero_le _, Nat.zero_le _⟩ rfl dX7_substituted_38 ?_
      refine lv_if_eq (tgt := 54) hx hb dX7_substituted_41 (by decide) (fun c_41 => ?_) (fun c_41 => ?_)
      · replace hf := qf_t c_41 hf
        refine lv_iconst (v := -1) hx hb dX7_substituted_54 (by decide) ?_
        have hE := Option.some.inj hf
        exact qx_ireti hQ S0 hr hlocks hE rfl rfl V dX7_substituted_55
      · replace hf := qf_f c_41 hf
        refine lv_aload_n hx hb dX7_substituted_44 rfl (lv_at hl 0 rfl) ?_
        refine lv_iload_n hx hb dX7_substituted_45 rfl (lv_at hl 1 rfl) ?_
        refine lv_iload_n hx hb dX7_substituted_46 rfl (lv_at hl 2 rfl) ?_
        refine lv_iload_n hx hb dX7_substituted_47 rfl (lv_at hl 3 rfl) ?_
        obtain ⟨r5, hc_48, hf⟩ := qf_bd_e hf
        refine qw_cVR (rest := []) (st1 := [.int r5]) S0 V hl 0 gO_0 rfl (c_X7_fromSubstitute l hc_48) kg_X7_268 rfl ⟨rfl, rfl⟩ kd_X7_fromSubstitute ⟨Nat.le_of_ble_eq_true rfl, Nat.le_of_ble_eq_true rfl⟩ rfl rfl (Nat.le_of_ble_eq_true rfl) ⟨Nat.zero_le _, Nat.zero_le _⟩ rfl dX7_substituted_48 ?_
        refine lv_goto (tgt := 55) hx hb dX7_substituted_51 (by decide) ?_
        have hE := Option.some.inj hf
        exact qx_ireti hQ S0 hr hlocks hE rfl rfl V dX7_substituted_55
    · replace hf := qf_t c_28 hf
      refine lv_bipush (v := -2) hx hb dX7_substituted_31 (by decide) ?_
      have hE := Option.some.inj hf
      exact qx_ireti hQ S0 hr hlocks hE rfl rfl V dX7_substituted_33
  have J_20 : ∀   {y1 : Int32} {y2 : Int32} {y3 : Int32} {H : Heap} {locs : List Loc} {ls : Array Slot}, f_X7_substituted_j20 I A y1 y2 y3 = some ro → qw_V D cy Z9 s (Wo cy ad I A G T) H locs → lv_has ls 4 [(0, .ref (ad 0)), (1, .int y1), (2, .int y2), (3, .int y3)] → W p l e rm_X7_substituted s m args below meth c H locs 0 0 Q9 (F0 m 20 ls []) := by
    intro y1 y2 y3 H locs ls hf V hl
    unfold f_X7_substituted_j20 at hf
    refine lv_iconst (v := 0) hx hb dX7_substituted_20 (by decide) ?_
    exact J_21 hf V (lv_sub hl [0, 1, 2, 3] rfl)
  unfold f_X7_substituted at hf
  refine lv_aload_n hx hb dX7_substituted_0 rfl (lv_at hl 0 rfl) ?_
  refine lv_iload_n hx hb dX7_substituted_1 rfl (lv_at hl 1 rfl) ?_
  obtain ⟨r1, hc_2, hf⟩ := qf_bd_e hf
  refine qw_cVR (rest := []) (st1 := [.int r1]) S0 V hl 0 gO_0 rfl (c_X7_isHouse l hc_2) kg_X7_150 rfl ⟨rfl, rfl⟩ kd_X7_isHouse ⟨Nat.le_of_ble_eq_true rfl, Nat.le_of_ble_eq_true rfl⟩ rfl rfl (Nat.le_of_ble_eq_true rfl) ⟨Nat.zero_le _, Nat.zero_le _⟩ rfl dX7_substituted_2 ?_
  refine lv_if_eq (tgt := 20) hx hb dX7_substituted_5 (by decide) (fun c_5 => ?_) (fun c_5 => ?_)
  · replace hf := qf_t c_5 hf
    exact J_20 hf V (lv_sub hl [0, 1, 2, 3] rfl)
  · replace hf := qf_f c_5 hf
    refine lv_aload_n hx hb dX7_substituted_8 rfl (lv_at hl 0 rfl) ?_
    refine lv_iload_n hx hb dX7_substituted_9 rfl (lv_at hl 2 rfl) ?_
    obtain ⟨r2, hc_10, hf⟩ := qf_bd_e hf
    refine qw_cVR (rest := []) (st1 := [.int r2]) S0 V hl 0 gO_0 rfl (c_X7_isGood l hc_10) kg_X7_138 rfl ⟨rfl, rfl⟩ kd_X7_isGood ⟨Nat.le_of_ble_eq_true rfl, Nat.le_of_ble_eq_true rfl⟩ rfl rfl (Nat.le_of_ble_eq_true rfl) ⟨Nat.zero_le _, Nat.zero_le _⟩ rfl dX7_substituted_10 ?_
    refine lv_if_eq (tgt := 20) hx hb dX7_substituted_13 (by decide) (fun c_13 => ?_) (fun c_13 => ?_)
    · replace hf := qf_t c_13 hf
      exact J_20 hf V (lv_sub hl [0, 1, 2, 3] rfl)
    · replace hf := qf_f c_13 hf
      refine lv_iconst (v := 1) hx hb dX7_substituted_16 (by decide) ?_
      refine lv_goto (tgt := 21) hx hb dX7_substituted_17 (by decide) ?_
      exact J_21 hf V (lv_sub hl [0, 1, 2, 3] rfl)
theorem kd_X7_served : yX7_served.cls = RX7 ∧ yX7_served.cls ≠ "java/lang/invoke/MethodHandle" ∧ yX7_served.cls ≠ "java/lang/invoke/VarHandle" ∧ (parseMethodDescriptor yX7_served.desc).map (fun d => d.parameters.length) = some 3 := by decide +kernel
def f_X7_served_j76 (I : Nat → Int32) (A : Nat → Nat → Int32) (K50 : Int32 → Int32 → Option (Option (Int32))) (y1 : Int32) (y2 : Int32) (y3 : Int32) (y4 : Int32) (y5 : Int32) : Option (Option (Int32)) :=
  qf_let (y5 + (1 : Int32)) fun x11 =>
  K50 y4 x11
def f_X7_served_l50 (I : Nat → Int32) (A : Nat → Nat → Int32)  (y1 : Int32) (y2 : Int32) (y3 : Int32) : Nat → Int32 → Int32 → Option (Option (Int32))
  | 0, _, _ => none
  | n + 1, y4, y5 =>
  if (I 14) ≤ y5 then (qf_bd (f_X5_shelf y1 y2) fun r5 =>
    qf_ld 24 (A 39) r5 fun x6 =>
    qf_bd (f_X7_quotient x6 y3) fun r7 =>
    qf_let ((if r7 < y4 then r7 else y4)) fun x8 =>
    some (some (x8))) else (qf_bd (f_X7_canPay A y5 y2 y3) fun r9 =>
    if r9 = 0 then (f_X7_served_j76 I A (fun z0 z1 => f_X7_served_l50 I A y1 y2 y3 n z0 z1) y1 y2 y3 y4 y5) else (qf_let (y4 + (1 : Int32)) fun x10 =>
      f_X7_served_j76 I A (fun z0 z1 => f_X7_served_l50 I A y1 y2 y3 n z0 z1) y1 y2 y3 x10 y5))
def f_X7_served_j21 (I : Nat → Int32) (A : Nat → Nat → Int32)  (y1 : Int32) (y2 : Int32) (y3 : Int32) (s0 : Int32) : Option (Option (Int32)) :=
  if s0 = 0 then some none else
  qf_bd (f_X7_areUnits y3) fun r3 =>
  if r3 = 0 then (some (some ((-2 : Int32)))) else (qf_bd (f_X7_isClosed A y1) fun r4 =>
    if r4 = 0 then (f_X7_served_l50 I A y1 y2 y3 100000 (0 : Int32) (0 : Int32)) else (some (some ((0 : Int32)))))
def f_X7_served_j20 (I : Nat → Int32) (A : Nat → Nat → Int32)  (y1 : Int32) (y2 : Int32) (y3 : Int32) : Option (Option (Int32)) :=
  f_X7_served_j21 I A y1 y2 y3 (0 : Int32)
def f_X7_served (I : Nat → Int32) (A : Nat → Nat → Int32) (p1 : Int32) (p2 : Int32) (p3 : Int32) : Option (Option (Int32)) :=
  qf_bd (f_X7_isShop I p1) fun r1 =>
  if r1 = 0 then (f_X7_served_j20 I A p1 p2 p3) else (qf_bd (f_X7_isGood I p2) fun r2 =>
    if r2 = 0 then (f_X7_served_j20 I A p1 p2 p3) else (f_X7_served_j21 I A p1 p2 p3 (1 : Int32)))
abbrev wz_X7_served : List Cond := Cond.code yX7_served cX7_served 6 (some .int) :: qw_big
def rm_X7_served : Room := { frames := 7, cells := 1, slots := 6, locals := 110 }
set_option maxHeartbeats 4000000 in
set_option maxRecDepth 100000 in
theorem c_X7_served (l : Launch) (hst : l.stackTraces = false) {D : va_G} {cy : Nat → ClassId} {ad : Nat → Nat} {I : Nat → Int32} {A : Nat → Nat → Int32} {G : Nat → Int32 × (Nat → Nat → Int32)} {T : Nat} {p1 : Int32} {p2 : Int32} {p3 : Int32} {ro : (Option (Int32))} {sz : Nat} (hf : f_X7_served I A p1 p2 p3 = some ro) : vx_Met l yX7_served wz_X7_served rm_X7_served (va_Pc [.ref (ad 0), .int p1, .int p2, .int p3] (qw_Pre D cy (Wo cy ad I A G T) sz)) (qx_Q ro (fun v9 => some (.int v9)) (fun _ => (Wo cy ad I A G T)) D (va_A (Wo cy ad I A G T) sz)) (qx_X ro D (Wo cy ad I A G T) (va_A (Wo cy ad I A G T) sz)) 1 6 (va_A (Wo cy ad I A G T) sz) := by
  refine qx_of (cc := cX7_served) (maxL := 6) (ret := (some .int)) (by decide) (Nat.le_of_ble_eq_true rfl) ?_
  intro p e s m args below meth c ls S0 hr hlocks htab hsz V hl
  have S0 : CallFix p m c cX7_served 6 s args qw_big RX7 := S0
  have hx := S0.1; have hb := S0.2.1; have hown := S0.2.2.2.1; have hts := S0.2.2.2.2
  have hl : lv_has ls 6 [(0, .ref (ad 0)), (1, .int p1), (2, .int p2), (3, .int p3)] := hl
  generalize va_A (Wo cy ad I A G T) sz = Z9 at V ⊢
  obtain ⟨Q9, hQ⟩ : ∃ q, q = vx_MQ below (qx_Q ro (fun v9 => some (.int v9)) (fun _ => (Wo cy ad I A G T)) D Z9) (qx_X ro D (Wo cy ad I A G T) Z9) args s 1 6 Z9 := ⟨_, rfl⟩
  rw [← hQ]
  clear hsz
  have J_76 : ∀ {K50 : Int32 → Int32 → Option (Option (Int32))} {y1 : Int32} {y2 : Int32} {y3 : Int32}  (hK50 : ∀  {y4 : Int32} {y5 : Int32} {H : Heap} {locs : List Loc} {ls : Array Slot}, K50 y4 y5 = some ro → qw_V D cy Z9 s (Wo cy ad I A G T) H locs → lv_has ls 6 [(0, .ref (ad 0)), (1, .int y1), (2, .int y2), (3, .int y3), (4, .int y4), (5, .int y5)] → W p l e rm_X7_served s m args below meth c H locs 0 0 Q9 (F0 m 50 ls []))  {y4 : Int32} {y5 : Int32} {H : Heap} {locs : List Loc} {ls : Array Slot}, f_X7_served_j76 I A K50 y1 y2 y3 y4 y5 = some ro → qw_V D cy Z9 s (Wo cy ad I A G T) H locs → lv_has ls 6 [(0, .ref (ad 0)), (1, .int y1), (2, .int y2), (3, .int y3), (4, .int y4), (5, .int y5)] → W p l e rm_X7_served s m args below meth c H locs 0 0 Q9 (F0 m 76 ls []) := by
    intro K50 y1 y2 y3 hK50 y4 y5 H locs ls hf V hl
    unfold f_X7_served_j76 at hf
    obtain ⟨x11, e_x11⟩ : ∃ y : Int32, y = y5 + (1 : Int32) := ⟨_, rfl⟩
    refine lv_iinc (v := x11) (lv' := [(5, .int x11), (0, .ref (ad 0)), (1, .int y1), (2, .int y2), (3, .int y3), (4, .int y4)]) hx hb dX7_served_76 hl (k := 5) rfl (by rw [e_x11]; rfl) (by decide) rfl (fun ls hl => ?_)
    replace hf := qf_let_e e_x11 hf
    refine lv_goto (tgt := 50) hx hb dX7_served_79 (by decide) ?_
    exact hK50 hf V (lv_sub hl [1, 2, 3, 4, 5, 0] rfl)
  have L_50 : ∀  {y1 : Int32} {y2 : Int32} {y3 : Int32} {n : Nat}  {y4 : Int32} {y5 : Int32} {H : Heap} {locs : List Loc} {ls : Array Slot}, f_X7_served_l50 I A y1 y2 y3 n y4 y5 = some ro → qw_V D cy Z9 s (Wo cy ad I A G T) H locs → lv_has ls 6 [(0, .ref (ad 0)), (1, .int y1), (2, .int y2), (3, .int y3), (4, .int y4), (5, .int y5)] → W p l e rm_X7_served s m args below meth c H locs 0 0 Q9 (F0 m 50 ls []) := by
    intro y1 y2 y3 n
    induction n with
    | zero => intro y4 y5 H locs ls hf V hl; exact qf_no hf
    | succ n ih =>
      intro y4 y5 H locs ls hf V hl
      rw [f_X7_served_l50] at hf
      refine lv_iload hx hb dX7_served_50 (lv_at hl 5 rfl) ?_
      refine lv_aload_n hx hb dX7_served_52 rfl (lv_at hl 0 rfl) ?_
      refine gfO_0_5 S0 V kl_X7_40 dX7_served_53 ?_
      refine gfO_19_2 S0 V kl_X7_87 dX7_served_56 ?_
      refine lv_icmp_ge (tgt := 82) hx hb dX7_served_59 (by decide) (fun c_59 => ?_) (fun c_59 => ?_)
      · replace hf := qf_t c_59 hf
        refine lv_iload hx hb dX7_served_82 (lv_at hl 4 rfl) ?_
        refine lv_aload_n hx hb dX7_served_84 rfl (lv_at hl 0 rfl) ?_
        refine gfO_0_6 S0 V kl_X7_47 dX7_served_85 ?_
        refine gfO_43_7 S0 V kl_X7_216 dX7_served_88 ?_
        refine lv_iload_n hx hb dX7_served_91 rfl (lv_at hl 1 rfl) ?_
        refine lv_iload_n hx hb dX7_served_92 rfl (lv_at hl 2 rfl) ?_
        obtain ⟨r5, hc_93, hf⟩ := qf_bd_e hf
        refine qw_cSR (rest := [.ref (ad 50), .int y4]) (st1 := [.int r5, .ref (ad 50), .int y4]) S0 V hl (c_X5_shelf l hc_93) kg_X7_219 rfl ⟨rfl, rfl⟩ kd_X5_shelf ⟨Nat.le_of_ble_eq_true rfl, Nat.le_of_ble_eq_true rfl⟩ rfl rfl (Nat.le_of_ble_eq_true rfl) ⟨Nat.zero_le _, Nat.zero_le _⟩ rfl dX7_served_93 ?_
        have h_96 := qf_ld_in hf
        refine alO_50 S0 V h_96 dX7_served_96 ?_
        refine lv_topi (fun x6 e_x6 => ?_)
        replace hf := qf_ld_e e_x6 hf
        refine lv_iload_n hx hb dX7_served_97 rfl (lv_at hl 3 rfl) ?_
        obtain ⟨r7, hc_98, hf⟩ := qf_bd_e hf
        refine qw_cSR (rest := [.int y4]) (st1 := [.int r7, .int y4]) S0 V hl (c_X7_quotient l hc_98) kg_X7_265 rfl ⟨rfl, rfl⟩ kd_X7_quotient ⟨Nat.le_of_ble_eq_true rfl, Nat.le_of_ble_eq_true rfl⟩ rfl rfl (Nat.le_of_ble_eq_true rfl) ⟨Nat.zero_le _, Nat.zero_le _⟩ rfl dX7_served_98 ?_
        refine qw_min S0 hl.1 kml_X7_201 (Nat.le_of_ble_eq_true rfl) (Nat.le_of_ble_eq_true rfl) (Nat.zero_le _) (Nat.zero_le _) dX7_served_101 ?_
        refine lv_topi (fun x8 e_x8 => ?_)
        replace hf := qf_let_e e_x8 hf
        have hE := Option.some.inj hf
        exact qx_ireti hQ S0 hr hlocks hE rfl rfl V dX7_served_104
      · replace hf := qf_f c_59 hf
        refine lv_aload_n hx hb dX7_served_62 rfl (lv_at hl 0 rfl) ?_
        refine lv_iload hx hb dX7_served_63 (lv_at hl 5 rfl) ?_
        refine lv_iload_n hx hb dX7_served_65 rfl (lv_at hl 2 rfl) ?_
        refine lv_iload_n hx hb dX7_served_66 rfl (lv_at hl 3 rfl) ?_
        obtain ⟨r9, hc_67, hf⟩ := qf_bd_e hf
        refine qw_cVR (rest := []) (st1 := [.int r9]) S0 V hl 0 gO_0 rfl (c_X7_canPay l hc_67) kg_X7_259 rfl ⟨rfl, rfl⟩ kd_X7_canPay ⟨Nat.le_of_ble_eq_true rfl, Nat.le_of_ble_eq_true rfl⟩ rfl rfl (Nat.le_of_ble_eq_true rfl) ⟨Nat.zero_le _, Nat.zero_le _⟩ rfl dX7_served_67 ?_
        refine lv_if_eq (tgt := 76) hx hb dX7_served_70 (by decide) (fun c_70 => ?_) (fun c_70 => ?_)
        · replace hf := qf_t c_70 hf
          exact J_76 (fun hf V hl => ih hf V hl) hf V (lv_sub hl [0, 1, 2, 3, 4, 5] rfl)
        · replace hf := qf_f c_70 hf
          obtain ⟨x10, e_x10⟩ : ∃ y : Int32, y = y4 + (1 : Int32) := ⟨_, rfl⟩
          refine lv_iinc (v := x10) (lv' := [(4, .int x10), (0, .ref (ad 0)), (1, .int y1), (2, .int y2), (3, .int y3), (5, .int y5)]) hx hb dX7_served_73 hl (k := 4) rfl (by rw [e_x10]; rfl) (by decide) rfl (fun ls hl => ?_)
          replace hf := qf_let_e e_x10 hf
          exact J_76 (fun hf V hl => ih hf V hl) hf V (lv_sub hl [1, 2, 3, 4, 0, 5] rfl)
  have J_21 : ∀   {y1 : Int32} {y2 : Int32} {y3 : Int32} {s0 : Int32} {H : Heap} {locs : List Loc} {ls : Array Slot}, f_X7_served_j21 I A y1 y2 y3 s0 = some ro → qw_V D cy Z9 s (Wo cy ad I A G T) H locs → lv_has ls 6 [(0, .ref (ad 0)), (1, .int y1), (2, .int y2), (3, .int y3)] → W p l e rm_X7_served s m args below meth c H locs 0 0 Q9 (F0 m 21 ls [.int s0]) := by
    intro y1 y2 y3 s0 H locs ls hf V hl
    unfold f_X7_served_j21 at hf
    by_cases c_21 : s0 = 0
    · exact qx_thr (rest := []) hst hQ S0 V hl c_21 kg_X7_119 ⟨by decide, by decide⟩ (Nat.le_of_ble_eq_true rfl) ⟨by decide, by decide⟩ dX7_served_21 (by decide) (by decide) hlocks htab (fun t9 h9 h8 => ⟨rfl, (Option.some.inj (qf_t c_21 hf)).symm, h9, h8⟩)
    replace hf := qf_f c_21 hf
    refine qw_cSR (rest := []) (st1 := []) S0 V hl (c_X7_need l c_21) kg_X7_119 rfl ⟨rfl, rfl⟩ kd_X7_need ⟨by decide, by decide⟩ rfl rfl (Nat.le_of_ble_eq_true rfl) ⟨Nat.zero_le _, Nat.zero_le _⟩ rfl dX7_served_21 ?_
    refine lv_iload_n hx hb dX7_served_24 rfl (lv_at hl 3 rfl) ?_
    obtain ⟨r3, hc_25, hf⟩ := qf_bd_e hf
    refine qw_cSR (rest := []) (st1 := [.int r3]) S0 V hl (c_X7_areUnits l hc_25) kg_X7_252 rfl ⟨rfl, rfl⟩ kd_X7_areUnits ⟨Nat.le_of_ble_eq_true rfl, Nat.le_of_ble_eq_true rfl⟩ rfl rfl (Nat.le_of_ble_eq_true rfl) ⟨Nat.zero_le _, Nat.zero_le _⟩ rfl dX7_served_25 ?_
    refine lv_if_ne (tgt := 34) hx hb dX7_served_28 (by decide) (fun c_28 => ?_) (fun c_28 => ?_)
    · replace hf := qf_f c_28 hf
      refine lv_aload_n hx hb dX7_served_34 rfl (lv_at hl 0 rfl) ?_
      refine lv_iload_n hx hb dX7_served_35 rfl (lv_at hl 1 rfl) ?_
      obtain ⟨r4, hc_36, hf⟩ := qf_bd_e hf
      refine qw_cVR (rest := []) (st1 := [.int r4]) S0 V hl 0 gO_0 rfl (c_X7_isClosed l hc_36) kg_X7_231 rfl ⟨rfl, rfl⟩ kd_X7_isClosed ⟨Nat.le_of_ble_eq_true rfl, Nat.le_of_ble_eq_true rfl⟩ rfl rfl (Nat.le_of_ble_eq_true rfl) ⟨Nat.zero_le _, Nat.zero_le _⟩ rfl dX7_served_36 ?_
      refine lv_if_eq (tgt := 44) hx hb dX7_served_39 (by decide) (fun c_39 => ?_) (fun c_39 => ?_)
      · replace hf := qf_t c_39 hf
        refine lv_iconst (v := 0) hx hb dX7_served_44 (by decide) ?_
        refine lv_istore (lv' := [(4, .int (0 : Int32)), (0, .ref (ad 0)), (1, .int y1), (2, .int y2), (3, .int y3)]) hx hb dX7_served_45 hl (by decide) rfl (fun ls hl => ?_)
        refine lv_iconst (v := 0) hx hb dX7_served_47 (by decide) ?_
        refine lv_istore (lv' := [(5, .int (0 : Int32)), (4, .int (0 : Int32)), (0, .ref (ad 0)), (1, .int y1), (2, .int y2), (3, .int y3)]) hx hb dX7_served_48 hl (by decide) rfl (fun ls hl => ?_)
        exact L_50 hf V (lv_sub hl [2, 3, 4, 5, 1, 0] rfl)
      · replace hf := qf_f c_39 hf
        refine lv_iconst (v := 0) hx hb dX7_served_42 (by decide) ?_
        have hE := Option.some.inj hf
        exact qx_ireti hQ S0 hr hlocks hE rfl rfl V dX7_served_43
    · replace hf := qf_t c_28 hf
      refine lv_bipush (v := -2) hx hb dX7_served_31 (by decide) ?_
      have hE := Option.some.inj hf
      exact qx_ireti hQ S0 hr hlocks hE rfl rfl V dX7_served_33
  have J_20 : ∀   {y1 : Int32} {y2 : Int32} {y3 : Int32} {H : Heap} {locs : List Loc} {ls : Array Slot}, f_X7_served_j20 I A y1 y2 y3 = some ro → qw_V D cy Z9 s (Wo cy ad I A G T) H locs → lv_has ls 6 [(0, .ref (ad 0)), (1, .int y1), (2, .int y2), (3, .int y3)] → W p l e rm_X7_served s m args below meth c H locs 0 0 Q9 (F0 m 20 ls []) := by
    intro y1 y2 y3 H locs ls hf V hl
    unfold f_X7_served_j20 at hf
    refine lv_iconst (v := 0) hx hb dX7_served_20 (by decide) ?_
    exact J_21 hf V (lv_sub hl [0, 1, 2, 3] rfl)
  unfold f_X7_served at hf
  refine lv_aload_n hx hb dX7_served_0 rfl (lv_at hl 0 rfl) ?_
  refine lv_iload_n hx hb dX7_served_1 rfl (lv_at hl 1 rfl) ?_
  obtain ⟨r1, hc_2, hf⟩ := qf_bd_e hf
  refine qw_cVR (rest := []) (st1 := [.int r1]) S0 V hl 0 gO_0 rfl (c_X7_isShop l hc_2) kg_X7_213 rfl ⟨rfl, rfl⟩ kd_X7_isShop ⟨Nat.le_of_ble_eq_true rfl, Nat.le_of_ble_eq_true rfl⟩ rfl rfl (Nat.le_of_ble_eq_true rfl) ⟨Nat.zero_le _, Nat.zero_le _⟩ rfl dX7_served_2 ?_
  refine lv_if_eq (tgt := 20) hx hb dX7_served_5 (by decide) (fun c_5 => ?_) (fun c_5 => ?_)
  · replace hf := qf_t c_5 hf
    exact J_20 hf V (lv_sub hl [0, 1, 2, 3] rfl)
  · replace hf := qf_f c_5 hf
    refine lv_aload_n hx hb dX7_served_8 rfl (lv_at hl 0 rfl) ?_
    refine lv_iload_n hx hb dX7_served_9 rfl (lv_at hl 2 rfl) ?_
    obtain ⟨r2, hc_10, hf⟩ := qf_bd_e hf
    refine qw_cVR (rest := []) (st1 := [.int r2]) S0 V hl 0 gO_0 rfl (c_X7_isGood l hc_10) kg_X7_138 rfl ⟨rfl, rfl⟩ kd_X7_isGood ⟨Nat.le_of_ble_eq_true rfl, Nat.le_of_ble_eq_true rfl⟩ rfl rfl (Nat.le_of_ble_eq_true rfl) ⟨Nat.zero_le _, Nat.zero_le _⟩ rfl dX7_served_10 ?_
    refine lv_if_eq (tgt := 20) hx hb dX7_served_13 (by decide) (fun c_13 => ?_) (fun c_13 => ?_)
    · replace hf := qf_t c_13 hf
      exact J_20 hf V (lv_sub hl [0, 1, 2, 3] rfl)
    · replace hf := qf_f c_13 hf
      refine lv_iconst (v := 1) hx hb dX7_served_16 (by decide) ?_
      refine lv_goto (tgt := 21) hx hb dX7_served_17 (by decide) ?_
      exact J_21 hf V (lv_sub hl [0, 1, 2, 3] rfl)
theorem kd_X0_addLot : yX0_addLot.cls ≠ "java/lang/invoke/MethodHandle" ∧ yX0_addLot.cls ≠ "java/lang/invoke/VarHandle" ∧ (parseMethodDescriptor yX0_addLot.desc).map (fun d => d.parameters.length) = some 4 := by decide +kernel
def f_X0_addLot_l3 (n0 : Nat)  (y1 : Int32) (y2 : Int32) : Nat → (Nat → Int32) → Int32 → Option ((Nat → Int32))
  | 0, _, _ => none
  | n + 1, f0, y4 =>
  if y4 < y1 then (some (f0)) else (qf_ld n0 f0 y4 fun x1 =>
    qf_ld n0 f0 (y4 - y1) fun x2 =>
    qf_let ((if x1 < (x2 + y2) then (x2 + y2) else x1)) fun x3 =>
    qf_st n0 y4 fun i5 =>
    qf_let (upd f0 i5 x3) fun A4 =>
    qf_let (y4 + (-1 : Int32)) fun x6 =>
    f_X0_addLot_l3 n0 y1 y2 n A4 x6)
def f_X0_addLot (n0 : Nat) (f0 : Nat → Int32) (p1 : Int32) (p2 : Int32) (p3 : Int32) : Option ((Nat → Int32)) :=
  f_X0_addLot_l3 n0 p1 p2 100000 f0 p3
abbrev wz_X0_addLot : List Cond := Cond.code yX0_addLot cX0_addLot 5 none :: qw_big
def rm_X0_addLot : Room := { frames := 1, cells := 0, slots := 0, locals := 60 }
set_option maxHeartbeats 4000000 in
set_option maxRecDepth 100000 in
theorem c_X0_addLot (l : Launch) {D : va_G} {cy : Nat → ClassId} {ws : va_W} {q0 a0 n0 : Nat} {f0 : Nat → Int32} (ha0 : ws[q0]? = some (a0, .inl (cy 0, n0, .inl f0))) {p1 : Int32} {p2 : Int32} {p3 : Int32} {f09 : Nat → Int32} {ws9 : va_W} (hs : ws.set q0 (a0, .inl (cy 0, n0, .inl f09)) = ws9) {sz : Nat} (hf : f_X0_addLot n0 f0 p1 p2 p3 = some (f09)) : Met l yX0_addLot wz_X0_addLot rm_X0_addLot (va_Pc [.ref a0, .int p1, .int p2, .int p3] (qw_Pre D cy ws sz)) (qw_Q none D ws9 (va_A ws sz)) 0 0 (va_A ws sz) := by
  refine qw_of (cc := cX0_addLot) (maxL := 5) (ret := none) (by decide) (Nat.le_of_ble_eq_true rfl) ?_
  intro p e s m args below meth c ls S0 hr hlocks hsz V hl
  have S0 : CallFix p m c cX0_addLot 5 s args qw_big RX0 := S0
  have hx := S0.1; have hb := S0.2.1; have hown := S0.2.2.2.1; have hts := S0.2.2.2.2
  have hl : lv_has ls 5 [(0, .ref a0), (1, .int p1), (2, .int p2), (3, .int p3)] := hl
  generalize va_A ws sz = Z9 at V ⊢
  obtain ⟨Q9, hQ⟩ : ∃ q, q = MQ below (qw_Q none D ws9 Z9) args s 0 0 Z9 := ⟨_, rfl⟩
  rw [← hQ]
  have V := qw_V.toq ha0 V
  subst hs
  clear hsz
  have L_3 : ∀  {y1 : Int32} {y2 : Int32} {n : Nat} {f0 : Nat → Int32} {y4 : Int32} {H : Heap} {locs : List Loc} {ls : Array Slot}, f_X0_addLot_l3 n0 y1 y2 n f0 y4 = some (f09) → qw_V D cy Z9 s (ws.set q0 (a0, .inl (cy 0, n0, .inl f0))) H locs → lv_has ls 5 [(0, .ref a0), (1, .int y1), (2, .int y2), (4, .int y4)] → W p l e rm_X0_addLot s m args below meth c H locs 0 0 Q9 (F0 m 3 ls []) := by
    intro y1 y2 n
    induction n with
    | zero => intro f0 y4 H locs ls hf V hl; exact qf_no hf
    | succ n ih =>
      intro f0 y4 H locs ls hf V hl
      rw [f_X0_addLot_l3] at hf
      refine lv_iload hx hb dX0_addLot_3 (lv_at hl 3 rfl) ?_
      refine lv_iload_n hx hb dX0_addLot_5 rfl (lv_at hl 1 rfl) ?_
      refine lv_icmp_lt (tgt := 34) hx hb dX0_addLot_6 (by decide) (fun c_6 => ?_) (fun c_6 => ?_)
      · replace hf := qf_t c_6 hf
        have hE := Option.some.inj hf
        exact qw_vreti S0 hr hlocks hQ (by rw [hE]) V dX0_addLot_34
      · replace hf := qf_f c_6 hf
        refine lv_aload_n hx hb dX0_addLot_9 rfl (lv_at hl 0 rfl) ?_
        refine lv_iload hx hb dX0_addLot_10 (lv_at hl 3 rfl) ?_
        refine lv_aload_n hx hb dX0_addLot_12 rfl (lv_at hl 0 rfl) ?_
        refine lv_iload hx hb dX0_addLot_13 (lv_at hl 3 rfl) ?_
        have h_15 := qf_ld_in hf
        refine qw_ild S0 V q0 (qw_gq ha0) h_15 dX0_addLot_15 ?_
        refine lv_topi (fun x1 e_x1 => ?_)
        replace hf := qf_ld_e e_x1 hf
        refine lv_aload_n hx hb dX0_addLot_16 rfl (lv_at hl 0 rfl) ?_
        refine lv_iload hx hb dX0_addLot_17 (lv_at hl 3 rfl) ?_
        refine lv_iload_n hx hb dX0_addLot_19 rfl (lv_at hl 1 rfl) ?_
        refine lv_isub hx hb dX0_addLot_20 ?_
        have h_21 := qf_ld_in hf
        refine qw_ild S0 V q0 (qw_gq ha0) h_21 dX0_addLot_21 ?_
        refine lv_topi (fun x2 e_x2 => ?_)
        replace hf := qf_ld_e e_x2 hf
        refine lv_iload_n hx hb dX0_addLot_22 rfl (lv_at hl 2 rfl) ?_
        refine lv_iadd hx hb dX0_addLot_23 ?_
        refine qw_max S0 hl.1 kml_X0_103 (Nat.le_of_ble_eq_true rfl) (Nat.le_of_ble_eq_true rfl) (Nat.zero_le _) (Nat.zero_le _) dX0_addLot_24 ?_
        refine lv_topi (fun x3 e_x3 => ?_)
        replace hf := qf_let_e e_x3 hf
        have h_27 := qf_st_in hf
        replace hf := qf_st_e hf
        refine qw_istq S0 V q0 ha0 h_27 dX0_addLot_27 (fun H locs A4 e_A4 V => ?_)
        replace hf := qf_let_e e_A4 hf
        obtain ⟨x6, e_x6⟩ : ∃ y : Int32, y = y4 + (-1 : Int32) := ⟨_, rfl⟩
        refine lv_iinc (v := x6) (lv' := [(4, .int x6), (0, .ref a0), (1, .int y1), (2, .int y2)]) hx hb dX0_addLot_28 hl (k := 3) rfl (by rw [e_x6]; rfl) (by decide) rfl (fun ls hl => ?_)
        replace hf := qf_let_e e_x6 hf
        refine lv_goto (tgt := 3) hx hb dX0_addLot_31 (by decide) ?_
        exact ih hf V (lv_sub hl [1, 2, 3, 0] rfl)
  unfold f_X0_addLot at hf
  refine lv_iload_n hx hb dX0_addLot_0 rfl (lv_at hl 3 rfl) ?_
  refine lv_istore (lv' := [(4, .int p3), (0, .ref a0), (1, .int p1), (2, .int p2), (3, .int p3)]) hx hb dX0_addLot_1 hl (by decide) rfl (fun ls hl => ?_)
  exact L_3 hf V (lv_sub hl [1, 2, 3, 0] rfl)
theorem kd_X0_addUnits : yX0_addUnits.cls = RX0 ∧ yX0_addUnits.cls ≠ "java/lang/invoke/MethodHandle" ∧ yX0_addUnits.cls ≠ "java/lang/invoke/VarHandle" ∧ (parseMethodDescriptor yX0_addUnits.desc).map (fun d => d.parameters.length) = some 5 := by decide +kernel
def f_X0_addUnits_l6   (y1 : Int32) (y2 : Int32) (y3 : Int32) (y4 : Int32) (y5 : Int32) : Nat → (Nat → Nat → Int32) → Int32 → Int32 → Option ((Nat → Nat → Int32))
  | 0, _, _, _ => none
  | n + 1, A, y6, y7 =>
  if y2 < y7 then (some (A)) else (if (400 : Int32) < y7 then (some (A)) else (qf_let ((if y6 < y7 then y6 else y7)) fun x1 =>
      qf_st 7 y1 fun j2 =>
      qf_bd (f_X0_addLot 401 (A (2 + j2)) (x1 * y3) (x1 * y4) y5) fun f3 =>
      qf_let (qf_up A (2 + j2) f3) fun A4 =>
      qf_let ((y6 - x1)) fun x5 =>
      qf_let ((y7 * (2 : Int32))) fun x6 =>
      f_X0_addUnits_l6 y1 y2 y3 y4 y5 n A4 x5 x6))
def f_X0_addUnits (A : Nat → Nat → Int32) (p1 : Int32) (p2 : Int32) (p3 : Int32) (p4 : Int32) (p5 : Int32) : Option ((Nat → Nat → Int32)) :=
  f_X0_addUnits_l6 p1 p2 p3 p4 p5 100000 A p2 (1 : Int32)
abbrev wz_X0_addUnits : List Cond := Cond.code yX0_addUnits cX0_addUnits 9 none :: qw_big
def rm_X0_addUnits : Room := { frames := 2, cells := 0, slots := 0, locals := 84 }
set_option maxHeartbeats 4000000 in
set_option maxRecDepth 100000 in
theorem c_X0_addUnits (l : Launch) {D : va_G} {cy : Nat → ClassId} {ad : Nat → Nat} {I : Nat → Int32} {A : Nat → Nat → Int32} {G : Nat → Int32 × (Nat → Nat → Int32)} {T : Nat} {p1 : Int32} {p2 : Int32} {p3 : Int32} {p4 : Int32} {p5 : Int32} {A9 : Nat → Nat → Int32} {sz : Nat} (hf : f_X0_addUnits A p1 p2 p3 p4 p5 = some (A9)) : Met l yX0_addUnits wz_X0_addUnits rm_X0_addUnits (va_Pc [.ref (ad 8), .int p1, .int p2, .int p3, .int p4, .int p5] (qw_Pre D cy (Wo cy ad I A G T) sz)) (qw_Q none D (Wo cy ad I A9 G T) (va_A (Wo cy ad I A G T) sz)) 0 0 (va_A (Wo cy ad I A G T) sz) := by
  refine qw_of (cc := cX0_addUnits) (maxL := 9) (ret := none) (by decide) (Nat.le_of_ble_eq_true rfl) ?_
  intro p e s m args below meth c ls S0 hr hlocks hsz V hl
  have S0 : CallFix p m c cX0_addUnits 9 s args qw_big RX0 := S0
  have hx := S0.1; have hb := S0.2.1; have hown := S0.2.2.2.1; have hts := S0.2.2.2.2
  have hl : lv_has ls 9 [(0, .ref (ad 8)), (1, .int p1), (2, .int p2), (3, .int p3), (4, .int p4), (5, .int p5)] := hl
  generalize va_A (Wo cy ad I A G T) sz = Z9 at V ⊢
  obtain ⟨Q9, hQ⟩ : ∃ q, q = MQ below (qw_Q none D (Wo cy ad I A9 G T) Z9) args s 0 0 Z9 := ⟨_, rfl⟩
  rw [← hQ]
  clear hsz
  have L_6 : ∀  {y1 : Int32} {y2 : Int32} {y3 : Int32} {y4 : Int32} {y5 : Int32} {n : Nat} {A : Nat → Nat → Int32} {y6 : Int32} {y7 : Int32} {H : Heap} {locs : List Loc} {ls : Array Slot}, f_X0_addUnits_l6 y1 y2 y3 y4 y5 n A y6 y7 = some (A9) → qw_V D cy Z9 s (Wo cy ad I A G T) H locs → lv_has ls 9 [(0, .ref (ad 8)), (1, .int y1), (2, .int y2), (3, .int y3), (4, .int y4), (5, .int y5), (6, .int y6), (7, .int y7)] → W p l e rm_X0_addUnits s m args below meth c H locs 0 0 Q9 (F0 m 6 ls []) := by
    intro y1 y2 y3 y4 y5 n
    induction n with
    | zero => intro A y6 y7 H locs ls hf V hl; exact qf_no hf
    | succ n ih =>
      intro A y6 y7 H locs ls hf V hl
      rw [f_X0_addUnits_l6] at hf
      refine lv_iload hx hb dX0_addUnits_6 (lv_at hl 7 rfl) ?_
      refine lv_iload_n hx hb dX0_addUnits_8 rfl (lv_at hl 2 rfl) ?_
      refine lv_icmp_gt (tgt := 65) hx hb dX0_addUnits_9 (by decide) (fun c_9 => ?_) (fun c_9 => ?_)
      · replace hf := qf_t c_9 hf
        have hE := Option.some.inj hf
        exact qw_vreti S0 hr hlocks hQ (by rw [hE]) V dX0_addUnits_65
      · replace hf := qf_f c_9 hf
        refine lv_iload hx hb dX0_addUnits_12 (lv_at hl 7 rfl) ?_
        refine lv_sipush (v := 400) hx hb dX0_addUnits_14 (by decide) ?_
        refine lv_icmp_gt (tgt := 65) hx hb dX0_addUnits_17 (by decide) (fun c_17 => ?_) (fun c_17 => ?_)
        · replace hf := qf_t c_17 hf
          have hE := Option.some.inj hf
          exact qw_vreti S0 hr hlocks hQ (by rw [hE]) V dX0_addUnits_65
        · replace hf := qf_f c_17 hf
          refine lv_iload hx hb dX0_addUnits_20 (lv_at hl 7 rfl) ?_
          refine lv_iload hx hb dX0_addUnits_22 (lv_at hl 6 rfl) ?_
          refine qw_min S0 hl.1 kml_X0_56 (Nat.le_of_ble_eq_true rfl) (Nat.le_of_ble_eq_true rfl) (Nat.zero_le _) (Nat.zero_le _) dX0_addUnits_24 ?_
          refine lv_topi (fun x1 e_x1 => ?_)
          replace hf := qf_let_e e_x1 hf
          refine lv_istore (lv' := [(8, .int x1), (0, .ref (ad 8)), (1, .int y1), (2, .int y2), (3, .int y3), (4, .int y4), (5, .int y5), (6, .int y6), (7, .int y7)]) hx hb dX0_addUnits_27 hl (by decide) rfl (fun ls hl => ?_)
          refine lv_aload_n hx hb dX0_addUnits_29 rfl (lv_at hl 1 rfl) ?_
          refine gfO_8_0 S0 V kl_X0_11 dX0_addUnits_30 ?_
          refine lv_iload_n hx hb dX0_addUnits_33 rfl (lv_at hl 2 rfl) ?_
          have h_34 := qf_st_in hf
          replace hf := qf_st_e hf
          refine al_best S0 V h_34 dX0_addUnits_34 (fun j2 e_j2 l_j2 => ?_)
          rw [← e_j2] at hf
          refine lv_iload hx hb dX0_addUnits_35 (lv_at hl 0 rfl) ?_
          refine lv_iload_n hx hb dX0_addUnits_37 rfl (lv_at hl 4 rfl) ?_
          refine lv_imul hx hb dX0_addUnits_38 ?_
          refine lv_iload hx hb dX0_addUnits_39 (lv_at hl 0 rfl) ?_
          refine lv_iload hx hb dX0_addUnits_41 (lv_at hl 5 rfl) ?_
          refine lv_imul hx hb dX0_addUnits_43 ?_
          refine lv_iload hx hb dX0_addUnits_44 (lv_at hl 6 rfl) ?_
          obtain ⟨f3, hc_46, hf⟩ := qf_bd_e hf
          obtain ⟨A4, e_A4⟩ : ∃ y : Nat → Nat → Int32, y = qf_up A (2 + j2) f3 := ⟨_, rfl⟩
          replace hf := qf_let_e e_A4 hf
          refine qw_cS (rest := []) (st1 := []) S0 V hl (c_X0_addLot l (hs := (s_best l_j2 e_A4)) (q0 := (10 + j2)) (g_best l_j2) hc_46) kg_X0_99 rfl ⟨rfl, rfl⟩ kd_X0_addLot ⟨Nat.le_of_ble_eq_true rfl, Nat.le_of_ble_eq_true rfl⟩ rfl rfl (Nat.le_of_ble_eq_true rfl) ⟨Nat.zero_le _, Nat.zero_le _⟩ rfl dX0_addUnits_46 (fun H locs V => ?_)
          refine lv_iload hx hb dX0_addUnits_49 (lv_at hl 7 rfl) ?_
          refine lv_iload hx hb dX0_addUnits_51 (lv_at hl 0 rfl) ?_
          refine lv_isub hx hb dX0_addUnits_53 ?_
          refine lv_topi (fun x5 e_x5 => ?_)
          replace hf := qf_let_e e_x5 hf
          refine lv_istore (lv' := [(6, .int x5), (8, .int x1), (0, .ref (ad 8)), (1, .int y1), (2, .int y2), (3, .int y3), (4, .int y4), (5, .int y5), (7, .int y7)]) hx hb dX0_addUnits_54 hl (by decide) rfl (fun ls hl => ?_)
          refine lv_iload hx hb dX0_addUnits_56 (lv_at hl 8 rfl) ?_
          refine lv_iconst (v := 2) hx hb dX0_addUnits_58 (by decide) ?_
          refine lv_imul hx hb dX0_addUnits_59 ?_
          refine lv_topi (fun x6 e_x6 => ?_)
          replace hf := qf_let_e e_x6 hf
          refine lv_istore (lv' := [(7, .int x6), (6, .int x5), (8, .int x1), (0, .ref (ad 8)), (1, .int y1), (2, .int y2), (3, .int y3), (4, .int y4), (5, .int y5)]) hx hb dX0_addUnits_60 hl (by decide) rfl (fun ls hl => ?_)
          refine lv_goto (tgt := 6) hx hb dX0_addUnits_62 (by decide) ?_
          exact ih hf V (lv_sub hl [3, 4, 5, 6, 7, 8, 1, 0] rfl)
  unfold f_X0_addUnits at hf
  refine lv_iload_n hx hb dX0_addUnits_0 rfl (lv_at hl 2 rfl) ?_
  refine lv_istore (lv' := [(6, .int p2), (0, .ref (ad 8)), (1, .int p1), (2, .int p2), (3, .int p3), (4, .int p4), (5, .int p5)]) hx hb dX0_addUnits_1 hl (by decide) rfl (fun ls hl => ?_)
  refine lv_iconst (v := 1) hx hb dX0_addUnits_3 (by decide) ?_
  refine lv_istore (lv' := [(7, .int (1 : Int32)), (6, .int p2), (0, .ref (ad 8)), (1, .int p1), (2, .int p2), (3, .int p3), (4, .int p4), (5, .int p5)]) hx hb dX0_addUnits_4 hl (by decide) rfl (fun ls hl => ?_)
  exact L_6 hf V (lv_sub hl [2, 3, 4, 5, 6, 7, 1, 0] rfl)
theorem kd_X0_weigh : yX0_weigh.cls = RX0 ∧ yX0_weigh.cls ≠ "java/lang/invoke/MethodHandle" ∧ yX0_weigh.cls ≠ "java/lang/invoke/VarHandle" ∧ (parseMethodDescriptor yX0_weigh.desc).map (fun d => d.parameters.length) = some 5 := by decide +kernel
def f_X0_weigh_r19_r43_j102 (I : Nat → Int32) (K8 : (Nat → Nat → Int32) → Int32 → Option ((Nat → Nat → Int32))) (A : Nat → Nat → Int32) (y3 : Int32) (y4 : Int32) (y5 : Int32) (y6 : Int32) : Option ((Nat → Nat → Int32)) :=
  qf_let (y6 + (-1 : Int32)) fun x14 =>
  K8 A x14
def f_X0_weigh_r19_r43_l8 (I : Nat → Int32)  (y3 : Int32) (y4 : Int32) (y5 : Int32) : Nat → (Nat → Nat → Int32) → Int32 → Option ((Nat → Nat → Int32))
  | 0, _, _ => none
  | n + 1, A, y6 =>
  if y6 < 0 then (some (A)) else (qf_st 7 (y6 + (1 : Int32)) fun j2 =>
    qf_st 7 y6 fun j3 =>
    qf_ck ((¬ (0 : Int32) < 0 ∧ ¬ (0 : Int32) < 0 ∧ ¬ (y5 + (1 : Int32)) < 0) ∧ (0 : Int32).toNatClampNeg + (y5 + (1 : Int32)).toNatClampNeg ≤ 401 ∧ (0 : Int32).toNatClampNeg + (y5 + (1 : Int32)).toNatClampNeg ≤ 401) <|
    qf_let (qf_up A (2 + j3) (va_cpy (A (2 + j2)) (A (2 + j3)) (0 : Int32).toNatClampNeg (0 : Int32).toNatClampNeg (y5 + (1 : Int32)).toNatClampNeg)) fun A4 =>
    qf_ld 6 (A4 19) y6 fun x5 =>
    if x5 = y4 then (qf_bd (f_X5_shelf y3 y6) fun r6 =>
      qf_ld 24 (A4 39) r6 fun x7 =>
      qf_ld 6 (A4 20) y6 fun x8 =>
      qf_bd (f_X7_quotient y5 x8) fun r9 =>
      qf_let ((if r9 < x7 then r9 else x7)) fun x10 =>
      qf_ld 6 (A4 20) y6 fun x11 =>
      qf_ld 6 (A4 21) y6 fun x12 =>
      qf_bd (f_X0_addUnits A4 y6 x10 x11 x12 y5) fun A13 =>
      f_X0_weigh_r19_r43_j102 I (fun z0 z1 => f_X0_weigh_r19_r43_l8 I y3 y4 y5 n z0 z1) A13 y3 y4 y5 y6) else (f_X0_weigh_r19_r43_j102 I (fun z0 z1 => f_X0_weigh_r19_r43_l8 I y3 y4 y5 n z0 z1) A4 y3 y4 y5 y6))
def f_X0_weigh_r19_r43 (I : Nat → Int32) (A : Nat → Nat → Int32) (p1 : Int32) (p2 : Int32) (p3 : Int32) : Option ((Nat → Nat → Int32)) :=
  qf_let (((I 13) - (1 : Int32))) fun x1 =>
  f_X0_weigh_r19_r43_l8 I p1 p2 p3 100000 A x1
abbrev wz_X0_weigh : List Cond := Cond.code yX0_weigh cX0_weigh 8 none :: qw_big
def rm_X0_weigh_r19_r43 : Room := { frames := 3, cells := 0, slots := 0, locals := 112 }
set_option maxHeartbeats 4000000 in
set_option maxRecDepth 100000 in
theorem c_X0_weigh_r19_r43 (l : Launch) {D : va_G} {cy : Nat → ClassId} {ad : Nat → Nat} {I : Nat → Int32} {A : Nat → Nat → Int32} {G : Nat → Int32 × (Nat → Nat → Int32)} {T : Nat} {p1 : Int32} {p2 : Int32} {p3 : Int32} {A9 : Nat → Nat → Int32} {sz : Nat} (hf : f_X0_weigh_r19_r43 I A p1 p2 p3 = some (A9)) : Met l yX0_weigh wz_X0_weigh rm_X0_weigh_r19_r43 (va_Pc [.ref (ad 8), .ref (ad 19), .ref (ad 43), .int p1, .int p2, .int p3] (qw_Pre D cy (Wo cy ad I A G T) sz)) (qw_Q none D (Wo cy ad I A9 G T) (va_A (Wo cy ad I A G T) sz)) 0 0 (va_A (Wo cy ad I A G T) sz) := by
  refine qw_of (cc := cX0_weigh) (maxL := 8) (ret := none) (by decide) (Nat.le_of_ble_eq_true rfl) ?_
  intro p e s m args below meth c ls S0 hr hlocks hsz V hl
  have S0 : CallFix p m c cX0_weigh 8 s args qw_big RX0 := S0
  have hx := S0.1; have hb := S0.2.1; have hown := S0.2.2.2.1; have hts := S0.2.2.2.2
  have hl : lv_has ls 8 [(0, .ref (ad 8)), (1, .ref (ad 19)), (2, .ref (ad 43)), (3, .int p1), (4, .int p2), (5, .int p3)] := hl
  generalize va_A (Wo cy ad I A G T) sz = Z9 at V ⊢
  obtain ⟨Q9, hQ⟩ : ∃ q, q = MQ below (qw_Q none D (Wo cy ad I A9 G T) Z9) args s 0 0 Z9 := ⟨_, rfl⟩
  rw [← hQ]
  clear hsz
  have J_102 : ∀ {K8 : (Nat → Nat → Int32) → Int32 → Option ((Nat → Nat → Int32))} {y3 : Int32} {y4 : Int32} {y5 : Int32}  (hK8 : ∀ {A : Nat → Nat → Int32} {y6 : Int32} {H : Heap} {locs : List Loc} {ls : Array Slot}, K8 A y6 = some (A9) → qw_V D cy Z9 s (Wo cy ad I A G T) H locs → lv_has ls 8 [(0, .ref (ad 8)), (1, .ref (ad 19)), (2, .ref (ad 43)), (3, .int y3), (4, .int y4), (5, .int y5), (6, .int y6)] → W p l e rm_X0_weigh_r19_r43 s m args below meth c H locs 0 0 Q9 (F0 m 8 ls [])) {A : Nat → Nat → Int32} {y6 : Int32} {H : Heap} {locs : List Loc} {ls : Array Slot}, f_X0_weigh_r19_r43_j102 I K8 A y3 y4 y5 y6 = some (A9) → qw_V D cy Z9 s (Wo cy ad I A G T) H locs → lv_has ls 8 [(0, .ref (ad 8)), (1, .ref (ad 19)), (2, .ref (ad 43)), (3, .int y3), (4, .int y4), (5, .int y5), (6, .int y6)] → W p l e rm_X0_weigh_r19_r43 s m args below meth c H locs 0 0 Q9 (F0 m 102 ls []) := by
    intro K8 y3 y4 y5 hK8 A y6 H locs ls hf V hl
    unfold f_X0_weigh_r19_r43_j102 at hf
    obtain ⟨x14, e_x14⟩ : ∃ y : Int32, y = y6 + (-1 : Int32) := ⟨_, rfl⟩
    refine lv_iinc (v := x14) (lv' := [(6, .int x14), (0, .ref (ad 8)), (1, .ref (ad 19)), (2, .ref (ad 43)), (3, .int y3), (4, .int y4), (5, .int y5)]) hx hb dX0_weigh_102 hl (k := 6) rfl (by rw [e_x14]; rfl) (by decide) rfl (fun ls hl => ?_)
    replace hf := qf_let_e e_x14 hf
    refine lv_goto (tgt := 8) hx hb dX0_weigh_105 (by decide) ?_
    exact hK8 hf V (lv_sub hl [1, 2, 3, 4, 5, 6, 0] rfl)
  have L_8 : ∀  {y3 : Int32} {y4 : Int32} {y5 : Int32} {n : Nat} {A : Nat → Nat → Int32} {y6 : Int32} {H : Heap} {locs : List Loc} {ls : Array Slot}, f_X0_weigh_r19_r43_l8 I y3 y4 y5 n A y6 = some (A9) → qw_V D cy Z9 s (Wo cy ad I A G T) H locs → lv_has ls 8 [(0, .ref (ad 8)), (1, .ref (ad 19)), (2, .ref (ad 43)), (3, .int y3), (4, .int y4), (5, .int y5), (6, .int y6)] → W p l e rm_X0_weigh_r19_r43 s m args below meth c H locs 0 0 Q9 (F0 m 8 ls []) := by
    intro y3 y4 y5 n
    induction n with
    | zero => intro A y6 H locs ls hf V hl; exact qf_no hf
    | succ n ih =>
      intro A y6 H locs ls hf V hl
      rw [f_X0_weigh_r19_r43_l8] at hf
      refine lv_iload hx hb dX0_weigh_8 (lv_at hl 6 rfl) ?_
      refine lv_if_lt (tgt := 108) hx hb dX0_weigh_10 (by decide) (fun c_10 => ?_) (fun c_10 => ?_)
      · replace hf := qf_t c_10 hf
        have hE := Option.some.inj hf
        exact qw_vreti S0 hr hlocks hQ (by rw [hE]) V dX0_weigh_108
      · replace hf := qf_f c_10 hf
        refine lv_aload_n hx hb dX0_weigh_13 rfl (lv_at hl 0 rfl) ?_
        refine gfO_8_0 S0 V kl_X0_11 dX0_weigh_14 ?_
        refine lv_iload hx hb dX0_weigh_17 (lv_at hl 6 rfl) ?_
        refine lv_iconst (v := 1) hx hb dX0_weigh_19 (by decide) ?_
        refine lv_iadd hx hb dX0_weigh_20 ?_
        have h_21 := qf_st_in hf
        replace hf := qf_st_e hf
        refine al_best S0 V h_21 dX0_weigh_21 (fun j2 e_j2 l_j2 => ?_)
        rw [← e_j2] at hf
        refine lv_iconst (v := 0) hx hb dX0_weigh_22 (by decide) ?_
        refine lv_aload_n hx hb dX0_weigh_23 rfl (lv_at hl 0 rfl) ?_
        refine gfO_8_0 S0 V kl_X0_11 dX0_weigh_24 ?_
        refine lv_iload hx hb dX0_weigh_27 (lv_at hl 6 rfl) ?_
        have h_29 := qf_st_in hf
        replace hf := qf_st_e hf
        refine al_best S0 V h_29 dX0_weigh_29 (fun j3 e_j3 l_j3 => ?_)
        rw [← e_j3] at hf
        refine lv_iconst (v := 0) hx hb dX0_weigh_30 (by decide) ?_
        refine lv_iload hx hb dX0_weigh_31 (lv_at hl 5 rfl) ?_
        refine lv_iconst (v := 1) hx hb dX0_weigh_33 (by decide) ?_
        refine lv_iadd hx hb dX0_weigh_34 ?_
        obtain ⟨h_35, hf⟩ := qf_ck_e hf
        refine qw_cpA S0 V hl.1 kml_X0_72 (10 + j2) (10 + j3) (g_best l_j2) (g_best l_j3) h_35 (fun A9 f9 e9 => s_best l_j3 e9) (Nat.le_of_ble_eq_true rfl) (Nat.le_of_ble_eq_true rfl) dX0_weigh_35 (fun H locs A4 e_A4 V => ?_)
        replace hf := qf_let_e e_A4 hf
        refine lv_aload_n hx hb dX0_weigh_38 rfl (lv_at hl 1 rfl) ?_
        refine gfO_19_12 S0 V kl_X0_78 dX0_weigh_39 ?_
        refine lv_iload hx hb dX0_weigh_42 (lv_at hl 6 rfl) ?_
        have h_44 := qf_ld_in hf
        refine alO_28 S0 V h_44 dX0_weigh_44 ?_
        refine lv_topi (fun x5 e_x5 => ?_)
        replace hf := qf_ld_e e_x5 hf
        refine lv_iload hx hb dX0_weigh_45 (lv_at hl 4 rfl) ?_
        refine lv_icmp_ne (tgt := 102) hx hb dX0_weigh_47 (by decide) (fun c_47 => ?_) (fun c_47 => ?_)
        · replace hf := qf_f c_47 hf
          exact J_102 (fun hf V hl => ih hf V hl) hf V (lv_sub hl [0, 1, 2, 3, 4, 5, 6] rfl)
        · replace hf := qf_t c_47 hf
          refine lv_aload_n hx hb dX0_weigh_50 rfl (lv_at hl 2 rfl) ?_
          refine gfO_43_7 S0 V kl_X0_81 dX0_weigh_51 ?_
          refine lv_iload_n hx hb dX0_weigh_54 rfl (lv_at hl 3 rfl) ?_
          refine lv_iload hx hb dX0_weigh_55 (lv_at hl 6 rfl) ?_
          obtain ⟨r6, hc_57, hf⟩ := qf_bd_e hf
          refine qw_cSR (rest := [.ref (ad 50)]) (st1 := [.int r6, .ref (ad 50)]) S0 V hl (c_X5_shelf l hc_57) kg_X0_84 rfl ⟨rfl, rfl⟩ kd_X5_shelf ⟨Nat.le_of_ble_eq_true rfl, Nat.le_of_ble_eq_true rfl⟩ rfl rfl (Nat.le_of_ble_eq_true rfl) ⟨Nat.zero_le _, Nat.zero_le _⟩ rfl dX0_weigh_57 ?_
          have h_60 := qf_ld_in hf
          refine alO_50 S0 V h_60 dX0_weigh_60 ?_
          refine lv_topi (fun x7 e_x7 => ?_)
          replace hf := qf_ld_e e_x7 hf
          refine lv_iload hx hb dX0_weigh_61 (lv_at hl 5 rfl) ?_
          refine lv_aload_n hx hb dX0_weigh_63 rfl (lv_at hl 1 rfl) ?_
          refine gfO_19_13 S0 V kl_X0_87 dX0_weigh_64 ?_
          refine lv_iload hx hb dX0_weigh_67 (lv_at hl 6 rfl) ?_
          have h_69 := qf_ld_in hf
          refine alO_29 S0 V h_69 dX0_weigh_69 ?_
          refine lv_topi (fun x8 e_x8 => ?_)
          replace hf := qf_ld_e e_x8 hf
          obtain ⟨r9, hc_70, hf⟩ := qf_bd_e hf
          refine qw_cSRN (host := "RationOffice") (rest := [.int x7]) (st1 := [.int r9, .int x7]) S0 V hl (c_X7_quotient l hc_70) kw_X7_quotient (V.2.2.2.2.2.1 _ (List.mem_of_getElem? (i := 5) rfl)) kini_X7 kst_X7_quotient rfl ⟨rfl, rfl⟩ kd_X7_quotient ⟨Nat.le_of_ble_eq_true rfl, Nat.le_of_ble_eq_true rfl⟩ rfl rfl (Nat.le_of_ble_eq_true rfl) ⟨Nat.zero_le _, Nat.zero_le _⟩ rfl dX0_weigh_70 ?_
          refine qw_min S0 hl.1 kml_X0_56 (Nat.le_of_ble_eq_true rfl) (Nat.le_of_ble_eq_true rfl) (Nat.zero_le _) (Nat.zero_le _) dX0_weigh_73 ?_
          refine lv_topi (fun x10 e_x10 => ?_)
          replace hf := qf_let_e e_x10 hf
          refine lv_istore (lv' := [(7, .int x10), (0, .ref (ad 8)), (1, .ref (ad 19)), (2, .ref (ad 43)), (3, .int y3), (4, .int y4), (5, .int y5), (6, .int y6)]) hx hb dX0_weigh_76 hl (by decide) rfl (fun ls hl => ?_)
          refine lv_aload_n hx hb dX0_weigh_78 rfl (lv_at hl 1 rfl) ?_
          refine lv_iload hx hb dX0_weigh_79 (lv_at hl 7 rfl) ?_
          refine lv_iload hx hb dX0_weigh_81 (lv_at hl 0 rfl) ?_
          refine lv_aload_n hx hb dX0_weigh_83 rfl (lv_at hl 2 rfl) ?_
          refine gfO_19_13 S0 V kl_X0_87 dX0_weigh_84 ?_
          refine lv_iload hx hb dX0_weigh_87 (lv_at hl 7 rfl) ?_
          have h_89 := qf_ld_in hf
          refine alO_29 S0 V h_89 dX0_weigh_89 ?_
          refine lv_topi (fun x11 e_x11 => ?_)
          replace hf := qf_ld_e e_x11 hf
          refine lv_aload_n hx hb dX0_weigh_90 rfl (lv_at hl 2 rfl) ?_
          refine gfO_19_14 S0 V kl_X0_93 dX0_weigh_91 ?_
          refine lv_iload hx hb dX0_weigh_94 (lv_at hl 7 rfl) ?_
          have h_96 := qf_ld_in hf
          refine alO_30 S0 V h_96 dX0_weigh_96 ?_
          refine lv_topi (fun x12 e_x12 => ?_)
          replace hf := qf_ld_e e_x12 hf
          refine lv_iload hx hb dX0_weigh_97 (lv_at hl 6 rfl) ?_
          obtain ⟨A13, hc_99, hf⟩ := qf_bd_e hf
          refine qw_cV (rest := []) (st1 := []) S0 V hl 8 gO_8 rfl (c_X0_addUnits l hc_99) kg_X0_95 rfl ⟨rfl, rfl⟩ kd_X0_addUnits ⟨Nat.le_of_ble_eq_true rfl, Nat.le_of_ble_eq_true rfl⟩ rfl rfl (Nat.le_of_ble_eq_true rfl) ⟨Nat.zero_le _, Nat.zero_le _⟩ rfl dX0_weigh_99 (fun H locs V => ?_)
          exact J_102 (fun hf V hl => ih hf V hl) hf V (lv_sub hl [1, 2, 3, 4, 5, 6, 7] rfl)
  unfold f_X0_weigh_r19_r43 at hf
  refine lv_aload_n hx hb dX0_weigh_0 rfl (lv_at hl 1 rfl) ?_
  refine gfO_19_1 S0 V kl_X0_27 dX0_weigh_1 ?_
  refine lv_iconst (v := 1) hx hb dX0_weigh_4 (by decide) ?_
  refine lv_isub hx hb dX0_weigh_5 ?_
  refine lv_topi (fun x1 e_x1 => ?_)
  replace hf := qf_let_e e_x1 hf
  refine lv_istore (lv' := [(6, .int x1), (0, .ref (ad 8)), (1, .ref (ad 19)), (2, .ref (ad 43)), (3, .int p1), (4, .int p2), (5, .int p3)]) hx hb dX0_weigh_6 hl (by decide) rfl (fun ls hl => ?_)
  exact L_8 hf V (lv_sub hl [1, 2, 3, 4, 5, 6, 0] rfl)
theorem kd_X0_cheapest : yX0_cheapest.cls = RX0 ∧ yX0_cheapest.cls ≠ "java/lang/invoke/MethodHandle" ∧ yX0_cheapest.cls ≠ "java/lang/invoke/VarHandle" ∧ (parseMethodDescriptor yX0_cheapest.desc).map (fun d => d.parameters.length) = some 1 := by decide +kernel
def f_X0_cheapest_l2 (A : Nat → Nat → Int32)  (y1 : Int32) : Nat → Int32 → Option (Int32)
  | 0, _ => none
  | n + 1, y2 =>
  if y1 ≤ y2 then (some (y1)) else (qf_st 7 (0 : Int32) fun j1 =>
    qf_ld 401 (A (2 + j1)) y2 fun x2 =>
    qf_st 7 (0 : Int32) fun j3 =>
    qf_ld 401 (A (2 + j3)) y1 fun x4 =>
    if x2 = x4 then (some (y2)) else (qf_let (y2 + (1 : Int32)) fun x5 =>
      f_X0_cheapest_l2 A y1 n x5))
def f_X0_cheapest (A : Nat → Nat → Int32) (p1 : Int32) : Option (Int32) :=
  f_X0_cheapest_l2 A p1 100000 (0 : Int32)
abbrev wz_X0_cheapest : List Cond := Cond.code yX0_cheapest cX0_cheapest 3 (some .int) :: qw_big
def rm_X0_cheapest : Room := { frames := 0, cells := 0, slots := 0, locals := 0 }
set_option maxHeartbeats 4000000 in
set_option maxRecDepth 100000 in
theorem c_X0_cheapest (l : Launch) {D : va_G} {cy : Nat → ClassId} {ad : Nat → Nat} {I : Nat → Int32} {A : Nat → Nat → Int32} {G : Nat → Int32 × (Nat → Nat → Int32)} {T : Nat} {p1 : Int32} {rv : Int32} {sz : Nat} (hf : f_X0_cheapest A p1 = some (rv)) : Met l yX0_cheapest wz_X0_cheapest rm_X0_cheapest (va_Pc [.ref (ad 8), .int p1] (qw_Pre D cy (Wo cy ad I A G T) sz)) (qw_R (some (.int rv))) 0 0 (fun _ => False) := by
  refine qw_of (cc := cX0_cheapest) (maxL := 3) (ret := (some .int)) (by decide) (Nat.le_of_ble_eq_true rfl) ?_
  intro p e s m args below meth c ls S0 hr hlocks hsz V hl
  have S0 : CallFix p m c cX0_cheapest 3 s args qw_big RX0 := S0
  have hx := S0.1; have hb := S0.2.1; have hown := S0.2.2.2.1; have hts := S0.2.2.2.2
  have hl : lv_has ls 3 [(0, .ref (ad 8)), (1, .int p1)] := hl
  obtain ⟨Q9, hQ⟩ : ∃ q, q = MQ below (qw_R (some (.int rv))) args s 0 0 (fun _ => False) := ⟨_, rfl⟩
  rw [← hQ]
  generalize va_A (Wo cy ad I A G T) sz = Z9 at V
  have L_2 : ∀  {y1 : Int32} {n : Nat}  {y2 : Int32} {ls : Array Slot}, f_X0_cheapest_l2 A y1 n y2 = some (rv) → lv_has ls 3 [(0, .ref (ad 8)), (1, .int y1), (2, .int y2)] → W p l e rm_X0_cheapest s m args below meth c s.heap [] 0 0 Q9 (F0 m 2 ls []) := by
    intro y1 n
    induction n with
    | zero => intro y2 ls hf hl; exact qf_no hf
    | succ n ih =>
      intro y2 ls hf hl
      rw [f_X0_cheapest_l2] at hf
      refine lv_iload_n hx hb dX0_cheapest_2 rfl (lv_at hl 2 rfl) ?_
      refine lv_iload_n hx hb dX0_cheapest_3 rfl (lv_at hl 1 rfl) ?_
      refine lv_icmp_ge (tgt := 34) hx hb dX0_cheapest_4 (by decide) (fun c_4 => ?_) (fun c_4 => ?_)
      · replace hf := qf_t c_4 hf
        refine lv_iload_n hx hb dX0_cheapest_34 rfl (lv_at hl 1 rfl) ?_
        have hE := Option.some.inj hf
        exact qw_iretR S0 hr hlocks hQ hE dX0_cheapest_35
      · replace hf := qf_f c_4 hf
        refine lv_aload_n hx hb dX0_cheapest_7 rfl (lv_at hl 0 rfl) ?_
        refine gfO_8_0 S0 V kl_X0_11 dX0_cheapest_8 ?_
        refine lv_iconst (v := 0) hx hb dX0_cheapest_11 (by decide) ?_
        have h_12 := qf_st_in hf
        replace hf := qf_st_e hf
        refine al_best S0 V h_12 dX0_cheapest_12 (fun j1 e_j1 l_j1 => ?_)
        rw [← e_j1] at hf
        refine lv_iload_n hx hb dX0_cheapest_13 rfl (lv_at hl 2 rfl) ?_
        have h_14 := qf_ld_in hf
        refine al_bestr l_j1 S0 V h_14 dX0_cheapest_14 ?_
        refine lv_topi (fun x2 e_x2 => ?_)
        replace hf := qf_ld_e e_x2 hf
        refine lv_aload_n hx hb dX0_cheapest_15 rfl (lv_at hl 0 rfl) ?_
        refine gfO_8_0 S0 V kl_X0_11 dX0_cheapest_16 ?_
        refine lv_iconst (v := 0) hx hb dX0_cheapest_19 (by decide) ?_
        have h_20 := qf_st_in hf
        replace hf := qf_st_e hf
        refine al_best S0 V h_20 dX0_cheapest_20 (fun j3 e_j3 l_j3 => ?_)
        rw [← e_j3] at hf
        refine lv_iload_n hx hb dX0_cheapest_21 rfl (lv_at hl 1 rfl) ?_
        have h_22 := qf_ld_in hf
        refine al_bestr l_j3 S0 V h_22 dX0_cheapest_22 ?_
        refine lv_topi (fun x4 e_x4 => ?_)
        replace hf := qf_ld_e e_x4 hf
        refine lv_icmp_ne (tgt := 28) hx hb dX0_cheapest_23 (by decide) (fun c_23 => ?_) (fun c_23 => ?_)
        · replace hf := qf_f c_23 hf
          obtain ⟨x5, e_x5⟩ : ∃ y : Int32, y = y2 + (1 : Int32) := ⟨_, rfl⟩
          refine lv_iinc (v := x5) (lv' := [(2, .int x5), (0, .ref (ad 8)), (1, .int y1)]) hx hb dX0_cheapest_28 hl (k := 2) rfl (by rw [e_x5]; rfl) (by decide) rfl (fun ls hl => ?_)
          replace hf := qf_let_e e_x5 hf
          refine lv_goto (tgt := 2) hx hb dX0_cheapest_31 (by decide) ?_
          exact ih hf (lv_sub hl [1, 2, 0] rfl)
        · replace hf := qf_t c_23 hf
          refine lv_iload_n hx hb dX0_cheapest_26 rfl (lv_at hl 2 rfl) ?_
          have hE := Option.some.inj hf
          exact qw_iretR S0 hr hlocks hQ hE dX0_cheapest_27
  unfold f_X0_cheapest at hf
  refine lv_iconst (v := 0) hx hb dX0_cheapest_0 (by decide) ?_
  refine lv_istore_n (lv' := [(2, .int (0 : Int32)), (0, .ref (ad 8)), (1, .int p1)]) hx hb dX0_cheapest_1 rfl hl (by decide) rfl (fun ls hl => ?_)
  exact L_2 hf (lv_sub hl [1, 2, 0] rfl)
theorem kd_X0_mostWithoutLoss : yX0_mostWithoutLoss.cls = RX0 ∧ yX0_mostWithoutLoss.cls ≠ "java/lang/invoke/MethodHandle" ∧ yX0_mostWithoutLoss.cls ≠ "java/lang/invoke/VarHandle" ∧ (parseMethodDescriptor yX0_mostWithoutLoss.desc).map (fun d => d.parameters.length) = some 5 := by decide +kernel
def f_X0_mostWithoutLoss_l3 (A : Nat → Nat → Int32)  (y1 : Int32) (y3 : Int32) (y4 : Int32) (y5 : Int32) : Nat → Int32 → Option (Int32)
  | 0, _ => none
  | n + 1, y6 =>
  if y6 ≤ 0 then (some ((0 : Int32))) else (qf_st 7 (y1 + (1 : Int32)) fun j1 =>
    qf_ld 401 (A (2 + j1)) (y5 - (y6 * y3)) fun x2 =>
    qf_st 7 y1 fun j3 =>
    qf_ld 401 (A (2 + j3)) y5 fun x4 =>
    if (x2 + (y6 * y4)) = x4 then (some (y6)) else (qf_let (y6 + (-1 : Int32)) fun x5 =>
      f_X0_mostWithoutLoss_l3 A y1 y3 y4 y5 n x5))
def f_X0_mostWithoutLoss (A : Nat → Nat → Int32) (p1 : Int32) (p2 : Int32) (p3 : Int32) (p4 : Int32) (p5 : Int32) : Option (Int32) :=
  f_X0_mostWithoutLoss_l3 A p1 p3 p4 p5 100000 p2
abbrev wz_X0_mostWithoutLoss : List Cond := Cond.code yX0_mostWithoutLoss cX0_mostWithoutLoss 7 (some .int) :: qw_big
def rm_X0_mostWithoutLoss : Room := { frames := 0, cells := 0, slots := 0, locals := 0 }
set_option maxHeartbeats 4000000 in
set_option maxRecDepth 100000 in
theorem c_X0_mostWithoutLoss (l : Launch) {D : va_G} {cy : Nat → ClassId} {ad : Nat → Nat} {I : Nat → Int32} {A : Nat → Nat → Int32} {G : Nat → Int32 × (Nat → Nat → Int32)} {T : Nat} {p1 : Int32} {p2 : Int32} {p3 : Int32} {p4 : Int32} {p5 : Int32} {rv : Int32} {sz : Nat} (hf : f_X0_mostWithoutLoss A p1 p2 p3 p4 p5 = some (rv)) : Met l yX0_mostWithoutLoss wz_X0_mostWithoutLoss rm_X0_mostWithoutLoss (va_Pc [.ref (ad 8), .int p1, .int p2, .int p3, .int p4, .int p5] (qw_Pre D cy (Wo cy ad I A G T) sz)) (qw_R (some (.int rv))) 0 0 (fun _ => False) := by
  refine qw_of (cc := cX0_mostWithoutLoss) (maxL := 7) (ret := (some .int)) (by decide) (Nat.le_of_ble_eq_true rfl) ?_
  intro p e s m args below meth c ls S0 hr hlocks hsz V hl
  have S0 : CallFix p m c cX0_mostWithoutLoss 7 s args qw_big RX0 := S0
  have hx := S0.1; have hb := S0.2.1; have hown := S0.2.2.2.1; have hts := S0.2.2.2.2
  have hl : lv_has ls 7 [(0, .ref (ad 8)), (1, .int p1), (2, .int p2), (3, .int p3), (4, .int p4), (5, .int p5)] := hl
  obtain ⟨Q9, hQ⟩ : ∃ q, q = MQ below (qw_R (some (.int rv))) args s 0 0 (fun _ => False) := ⟨_, rfl⟩
  rw [← hQ]
  generalize va_A (Wo cy ad I A G T) sz = Z9 at V
  have L_3 : ∀  {y1 : Int32} {y3 : Int32} {y4 : Int32} {y5 : Int32} {n : Nat}  {y6 : Int32} {ls : Array Slot}, f_X0_mostWithoutLoss_l3 A y1 y3 y4 y5 n y6 = some (rv) → lv_has ls 7 [(0, .ref (ad 8)), (1, .int y1), (3, .int y3), (4, .int y4), (5, .int y5), (6, .int y6)] → W p l e rm_X0_mostWithoutLoss s m args below meth c s.heap [] 0 0 Q9 (F0 m 3 ls []) := by
    intro y1 y3 y4 y5 n
    induction n with
    | zero => intro y6 ls hf hl; exact qf_no hf
    | succ n ih =>
      intro y6 ls hf hl
      rw [f_X0_mostWithoutLoss_l3] at hf
      refine lv_iload hx hb dX0_mostWithoutLoss_3 (lv_at hl 5 rfl) ?_
      refine lv_if_le (tgt := 51) hx hb dX0_mostWithoutLoss_5 (by decide) (fun c_5 => ?_) (fun c_5 => ?_)
      · replace hf := qf_t c_5 hf
        refine lv_iconst (v := 0) hx hb dX0_mostWithoutLoss_51 (by decide) ?_
        have hE := Option.some.inj hf
        exact qw_iretR S0 hr hlocks hQ hE dX0_mostWithoutLoss_52
      · replace hf := qf_f c_5 hf
        refine lv_aload_n hx hb dX0_mostWithoutLoss_8 rfl (lv_at hl 0 rfl) ?_
        refine gfO_8_0 S0 V kl_X0_11 dX0_mostWithoutLoss_9 ?_
        refine lv_iload_n hx hb dX0_mostWithoutLoss_12 rfl (lv_at hl 1 rfl) ?_
        refine lv_iconst (v := 1) hx hb dX0_mostWithoutLoss_13 (by decide) ?_
        refine lv_iadd hx hb dX0_mostWithoutLoss_14 ?_
        have h_15 := qf_st_in hf
        replace hf := qf_st_e hf
        refine al_best S0 V h_15 dX0_mostWithoutLoss_15 (fun j1 e_j1 l_j1 => ?_)
        rw [← e_j1] at hf
        refine lv_iload hx hb dX0_mostWithoutLoss_16 (lv_at hl 4 rfl) ?_
        refine lv_iload hx hb dX0_mostWithoutLoss_18 (lv_at hl 5 rfl) ?_
        refine lv_iload_n hx hb dX0_mostWithoutLoss_20 rfl (lv_at hl 2 rfl) ?_
        refine lv_imul hx hb dX0_mostWithoutLoss_21 ?_
        refine lv_isub hx hb dX0_mostWithoutLoss_22 ?_
        have h_23 := qf_ld_in hf
        refine al_bestr l_j1 S0 V h_23 dX0_mostWithoutLoss_23 ?_
        refine lv_topi (fun x2 e_x2 => ?_)
        replace hf := qf_ld_e e_x2 hf
        refine lv_iload hx hb dX0_mostWithoutLoss_24 (lv_at hl 5 rfl) ?_
        refine lv_iload hx hb dX0_mostWithoutLoss_26 (lv_at hl 3 rfl) ?_
        refine lv_imul hx hb dX0_mostWithoutLoss_28 ?_
        refine lv_iadd hx hb dX0_mostWithoutLoss_29 ?_
        refine lv_aload_n hx hb dX0_mostWithoutLoss_30 rfl (lv_at hl 0 rfl) ?_
        refine gfO_8_0 S0 V kl_X0_11 dX0_mostWithoutLoss_31 ?_
        refine lv_iload_n hx hb dX0_mostWithoutLoss_34 rfl (lv_at hl 1 rfl) ?_
        have h_35 := qf_st_in hf
        replace hf := qf_st_e hf
        refine al_best S0 V h_35 dX0_mostWithoutLoss_35 (fun j3 e_j3 l_j3 => ?_)
        rw [← e_j3] at hf
        refine lv_iload hx hb dX0_mostWithoutLoss_36 (lv_at hl 4 rfl) ?_
        have h_38 := qf_ld_in hf
        refine al_bestr l_j3 S0 V h_38 dX0_mostWithoutLoss_38 ?_
        refine lv_topi (fun x4 e_x4 => ?_)
        replace hf := qf_ld_e e_x4 hf
        refine lv_icmp_ne (tgt := 45) hx hb dX0_mostWithoutLoss_39 (by decide) (fun c_39 => ?_) (fun c_39 => ?_)
        · replace hf := qf_f c_39 hf
          obtain ⟨x5, e_x5⟩ : ∃ y : Int32, y = y6 + (-1 : Int32) := ⟨_, rfl⟩
          refine lv_iinc (v := x5) (lv' := [(6, .int x5), (0, .ref (ad 8)), (1, .int y1), (3, .int y3), (4, .int y4), (5, .int y5)]) hx hb dX0_mostWithoutLoss_45 hl (k := 5) rfl (by rw [e_x5]; rfl) (by decide) rfl (fun ls hl => ?_)
          replace hf := qf_let_e e_x5 hf
          refine lv_goto (tgt := 3) hx hb dX0_mostWithoutLoss_48 (by decide) ?_
          exact ih hf (lv_sub hl [1, 2, 3, 4, 5, 0] rfl)
        · replace hf := qf_t c_39 hf
          refine lv_iload hx hb dX0_mostWithoutLoss_42 (lv_at hl 5 rfl) ?_
          have hE := Option.some.inj hf
          exact qw_iretR S0 hr hlocks hQ hE dX0_mostWithoutLoss_44
  unfold f_X0_mostWithoutLoss at hf
  refine lv_iload_n hx hb dX0_mostWithoutLoss_0 rfl (lv_at hl 2 rfl) ?_
  refine lv_istore (lv' := [(6, .int p2), (0, .ref (ad 8)), (1, .int p1), (2, .int p2), (3, .int p3), (4, .int p4), (5, .int p5)]) hx hb dX0_mostWithoutLoss_1 hl (by decide) rfl (fun ls hl => ?_)
  exact L_3 hf (lv_sub hl [1, 2, 4, 5, 6, 0] rfl)
theorem kd_X0_fill : yX0_fill.cls = RX0 ∧ yX0_fill.cls ≠ "java/lang/invoke/MethodHandle" ∧ yX0_fill.cls ≠ "java/lang/invoke/VarHandle" ∧ (parseMethodDescriptor yX0_fill.desc).map (fun d => d.parameters.length) = some 4 := by decide +kernel
def f_X0_fill_r19_r43_j112 (I : Nat → Int32) (K12 : (Nat → Nat → Int32) → Int32 → Int32 → Option ((Nat → Nat → Int32))) (A : Nat → Nat → Int32) (y3 : Int32) (y4 : Int32) (y5 : Int32) (y6 : Int32) : Option ((Nat → Nat → Int32)) :=
  qf_let (y6 + (1 : Int32)) fun x16 =>
  K12 A y5 x16
def f_X0_fill_r19_r43_l12 (I : Nat → Int32)  (y3 : Int32) (y4 : Int32) : Nat → (Nat → Nat → Int32) → Int32 → Int32 → Option ((Nat → Nat → Int32))
  | 0, _, _, _ => none
  | n + 1, A, y5, y6 =>
  if (I 13) ≤ y6 then (some (A)) else (qf_ld 6 (A 19) y6 fun x2 =>
    if x2 = y4 then (qf_bd (f_X5_shelf y3 y6) fun r3 =>
      qf_ld 24 (A 39) r3 fun x4 =>
      qf_ld 6 (A 20) y6 fun x5 =>
      qf_bd (f_X7_quotient y5 x5) fun r6 =>
      qf_let ((if r6 < x4 then r6 else x4)) fun x7 =>
      qf_ld 6 (A 20) y6 fun x8 =>
      qf_ld 6 (A 21) y6 fun x9 =>
      qf_bd (f_X0_mostWithoutLoss A y6 x7 x8 x9 y5) fun r10 =>
      qf_st 6 y6 fun i12 =>
      qf_let (qf_up A 9 (upd (A 9) i12 r10)) fun A11 =>
      qf_ld 6 (A11 9) y6 fun x13 =>
      qf_ld 6 (A11 20) y6 fun x14 =>
      qf_let ((y5 - (x13 * x14))) fun x15 =>
      f_X0_fill_r19_r43_j112 I (fun z0 z1 z2 => f_X0_fill_r19_r43_l12 I y3 y4 n z0 z1 z2) A11 y3 y4 x15 y6) else (f_X0_fill_r19_r43_j112 I (fun z0 z1 z2 => f_X0_fill_r19_r43_l12 I y3 y4 n z0 z1 z2) A y3 y4 y5 y6))
def f_X0_fill_r19_r43 (I : Nat → Int32) (A : Nat → Nat → Int32) (p1 : Int32) (p2 : Int32) : Option ((Nat → Nat → Int32)) :=
  qf_ld 4 (A 10) p2 fun x1 =>
  f_X0_fill_r19_r43_l12 I p1 p2 100000 A x1 (0 : Int32)
abbrev wz_X0_fill : List Cond := Cond.code yX0_fill cX0_fill 8 none :: qw_big
def rm_X0_fill_r19_r43 : Room := { frames := 1, cells := 0, slots := 0, locals := 60 }
set_option maxHeartbeats 4000000 in
set_option maxRecDepth 100000 in
theorem c_X0_fill_r19_r43 (l : Launch) {D : va_G} {cy : Nat → ClassId} {ad : Nat → Nat} {I : Nat → Int32} {A : Nat → Nat → Int32} {G : Nat → Int32 × (Nat → Nat → Int32)} {T : Nat} {p1 : Int32} {p2 : Int32} {A9 : Nat → Nat → Int32} {sz : Nat} (hf : f_X0_fill_r19_r43 I A p1 p2 = some (A9)) : Met l yX0_fill wz_X0_fill rm_X0_fill_r19_r43 (va_Pc [.ref (ad 8), .ref (ad 19), .ref (ad 43), .int p1, .int p2] (qw_Pre D cy (Wo cy ad I A G T) sz)) (qw_Q none D (Wo cy ad I A9 G T) (va_A (Wo cy ad I A G T) sz)) 0 0 (va_A (Wo cy ad I A G T) sz) := by
  refine qw_of (cc := cX0_fill) (maxL := 8) (ret := none) (by decide) (Nat.le_of_ble_eq_true rfl) ?_
  intro p e s m args below meth c ls S0 hr hlocks hsz V hl
  have S0 : CallFix p m c cX0_fill 8 s args qw_big RX0 := S0
  have hx := S0.1; have hb := S0.2.1; have hown := S0.2.2.2.1; have hts := S0.2.2.2.2
  have hl : lv_has ls 8 [(0, .ref (ad 8)), (1, .ref (ad 19)), (2, .ref (ad 43)), (3, .int p1), (4, .int p2)] := hl
  generalize va_A (Wo cy ad I A G T) sz = Z9 at V ⊢
  obtain ⟨Q9, hQ⟩ : ∃ q, q = MQ below (qw_Q none D (Wo cy ad I A9 G T) Z9) args s 0 0 Z9 := ⟨_, rfl⟩
  rw [← hQ]
  clear hsz
  have J_112 : ∀ {K12 : (Nat → Nat → Int32) → Int32 → Int32 → Option ((Nat → Nat → Int32))} {y3 : Int32} {y4 : Int32}  (hK12 : ∀ {A : Nat → Nat → Int32} {y5 : Int32} {y6 : Int32} {H : Heap} {locs : List Loc} {ls : Array Slot}, K12 A y5 y6 = some (A9) → qw_V D cy Z9 s (Wo cy ad I A G T) H locs → lv_has ls 8 [(0, .ref (ad 8)), (1, .ref (ad 19)), (2, .ref (ad 43)), (3, .int y3), (4, .int y4), (5, .int y5), (6, .int y6)] → W p l e rm_X0_fill_r19_r43 s m args below meth c H locs 0 0 Q9 (F0 m 12 ls [])) {A : Nat → Nat → Int32} {y5 : Int32} {y6 : Int32} {H : Heap} {locs : List Loc} {ls : Array Slot}, f_X0_fill_r19_r43_j112 I K12 A y3 y4 y5 y6 = some (A9) → qw_V D cy Z9 s (Wo cy ad I A G T) H locs → lv_has ls 8 [(0, .ref (ad 8)), (1, .ref (ad 19)), (2, .ref (ad 43)), (3, .int y3), (4, .int y4), (5, .int y5), (6, .int y6)] → W p l e rm_X0_fill_r19_r43 s m args below meth c H locs 0 0 Q9 (F0 m 112 ls []) := by
    intro K12 y3 y4 hK12 A y5 y6 H locs ls hf V hl
    unfold f_X0_fill_r19_r43_j112 at hf
    obtain ⟨x16, e_x16⟩ : ∃ y : Int32, y = y6 + (1 : Int32) := ⟨_, rfl⟩
    refine lv_iinc (v := x16) (lv' := [(6, .int x16), (0, .ref (ad 8)), (1, .ref (ad 19)), (2, .ref (ad 43)), (3, .int y3), (4, .int y4), (5, .int y5)]) hx hb dX0_fill_112 hl (k := 6) rfl (by rw [e_x16]; rfl) (by decide) rfl (fun ls hl => ?_)
    replace hf := qf_let_e e_x16 hf
    refine lv_goto (tgt := 12) hx hb dX0_fill_115 (by decide) ?_
    exact hK12 hf V (lv_sub hl [1, 2, 3, 4, 5, 6, 0] rfl)
  have L_12 : ∀  {y3 : Int32} {y4 : Int32} {n : Nat} {A : Nat → Nat → Int32} {y5 : Int32} {y6 : Int32} {H : Heap} {locs : List Loc} {ls : Array Slot}, f_X0_fill_r19_r43_l12 I y3 y4 n A y5 y6 = some (A9) → qw_V D cy Z9 s (Wo cy ad I A G T) H locs → lv_has ls 8 [(0, .ref (ad 8)), (1, .ref (ad 19)), (2, .ref (ad 43)), (3, .int y3), (4, .int y4), (5, .int y5), (6, .int y6)] → W p l e rm_X0_fill_r19_r43 s m args below meth c H locs 0 0 Q9 (F0 m 12 ls []) := by
    intro y3 y4 n
    induction n with
    | zero => intro A y5 y6 H locs ls hf V hl; exact qf_no hf
    | succ n ih =>
      intro A y5 y6 H locs ls hf V hl
      rw [f_X0_fill_r19_r43_l12] at hf
      refine lv_iload hx hb dX0_fill_12 (lv_at hl 6 rfl) ?_
      refine lv_aload_n hx hb dX0_fill_14 rfl (lv_at hl 1 rfl) ?_
      refine gfO_19_1 S0 V kl_X0_27 dX0_fill_15 ?_
      refine lv_icmp_ge (tgt := 118) hx hb dX0_fill_18 (by decide) (fun c_18 => ?_) (fun c_18 => ?_)
      · replace hf := qf_t c_18 hf
        have hE := Option.some.inj hf
        exact qw_vreti S0 hr hlocks hQ (by rw [hE]) V dX0_fill_118
      · replace hf := qf_f c_18 hf
        refine lv_aload_n hx hb dX0_fill_21 rfl (lv_at hl 1 rfl) ?_
        refine gfO_19_12 S0 V kl_X0_78 dX0_fill_22 ?_
        refine lv_iload hx hb dX0_fill_25 (lv_at hl 6 rfl) ?_
        have h_27 := qf_ld_in hf
        refine alO_28 S0 V h_27 dX0_fill_27 ?_
        refine lv_topi (fun x2 e_x2 => ?_)
        replace hf := qf_ld_e e_x2 hf
        refine lv_iload hx hb dX0_fill_28 (lv_at hl 4 rfl) ?_
        refine lv_icmp_ne (tgt := 112) hx hb dX0_fill_30 (by decide) (fun c_30 => ?_) (fun c_30 => ?_)
        · replace hf := qf_f c_30 hf
          exact J_112 (fun hf V hl => ih hf V hl) hf V (lv_sub hl [0, 1, 2, 3, 4, 5, 6] rfl)
        · replace hf := qf_t c_30 hf
          refine lv_aload_n hx hb dX0_fill_33 rfl (lv_at hl 2 rfl) ?_
          refine gfO_43_7 S0 V kl_X0_81 dX0_fill_34 ?_
          refine lv_iload_n hx hb dX0_fill_37 rfl (lv_at hl 3 rfl) ?_
          refine lv_iload hx hb dX0_fill_38 (lv_at hl 6 rfl) ?_
          obtain ⟨r3, hc_40, hf⟩ := qf_bd_e hf
          refine qw_cSR (rest := [.ref (ad 50)]) (st1 := [.int r3, .ref (ad 50)]) S0 V hl (c_X5_shelf l hc_40) kg_X0_84 rfl ⟨rfl, rfl⟩ kd_X5_shelf ⟨Nat.le_of_ble_eq_true rfl, Nat.le_of_ble_eq_true rfl⟩ rfl rfl (Nat.le_of_ble_eq_true rfl) ⟨Nat.zero_le _, Nat.zero_le _⟩ rfl dX0_fill_40 ?_
          have h_43 := qf_ld_in hf
          refine alO_50 S0 V h_43 dX0_fill_43 ?_
          refine lv_topi (fun x4 e_x4 => ?_)
          replace hf := qf_ld_e e_x4 hf
          refine lv_iload hx hb dX0_fill_44 (lv_at hl 5 rfl) ?_
          refine lv_aload_n hx hb dX0_fill_46 rfl (lv_at hl 1 rfl) ?_
          refine gfO_19_13 S0 V kl_X0_87 dX0_fill_47 ?_
          refine lv_iload hx hb dX0_fill_50 (lv_at hl 6 rfl) ?_
          have h_52 := qf_ld_in hf
          refine alO_29 S0 V h_52 dX0_fill_52 ?_
          refine lv_topi (fun x5 e_x5 => ?_)
          replace hf := qf_ld_e e_x5 hf
          obtain ⟨r6, hc_53, hf⟩ := qf_bd_e hf
          refine qw_cSRN (host := "RationOffice") (rest := [.int x4]) (st1 := [.int r6, .int x4]) S0 V hl (c_X7_quotient l hc_53) kw_X7_quotient (V.2.2.2.2.2.1 _ (List.mem_of_getElem? (i := 5) rfl)) kini_X7 kst_X7_quotient rfl ⟨rfl, rfl⟩ kd_X7_quotient ⟨Nat.le_of_ble_eq_true rfl, Nat.le_of_ble_eq_true rfl⟩ rfl rfl (Nat.le_of_ble_eq_true rfl) ⟨Nat.zero_le _, Nat.zero_le _⟩ rfl dX0_fill_53 ?_
          refine qw_min S0 hl.1 kml_X0_56 (Nat.le_of_ble_eq_true rfl) (Nat.le_of_ble_eq_true rfl) (Nat.zero_le _) (Nat.zero_le _) dX0_fill_56 ?_
          refine lv_topi (fun x7 e_x7 => ?_)
          replace hf := qf_let_e e_x7 hf
          refine lv_istore (lv' := [(7, .int x7), (0, .ref (ad 8)), (1, .ref (ad 19)), (2, .ref (ad 43)), (3, .int y3), (4, .int y4), (5, .int y5), (6, .int y6)]) hx hb dX0_fill_59 hl (by decide) rfl (fun ls hl => ?_)
          refine lv_aload_n hx hb dX0_fill_61 rfl (lv_at hl 1 rfl) ?_
          refine gfO_8_1 S0 V kl_X0_16 dX0_fill_62 ?_
          refine lv_iload hx hb dX0_fill_65 (lv_at hl 7 rfl) ?_
          refine lv_aload_n hx hb dX0_fill_67 rfl (lv_at hl 1 rfl) ?_
          refine lv_iload hx hb dX0_fill_68 (lv_at hl 7 rfl) ?_
          refine lv_iload hx hb dX0_fill_70 (lv_at hl 0 rfl) ?_
          refine lv_aload_n hx hb dX0_fill_72 rfl (lv_at hl 2 rfl) ?_
          refine gfO_19_13 S0 V kl_X0_87 dX0_fill_73 ?_
          refine lv_iload hx hb dX0_fill_76 (lv_at hl 7 rfl) ?_
          have h_78 := qf_ld_in hf
          refine alO_29 S0 V h_78 dX0_fill_78 ?_
          refine lv_topi (fun x8 e_x8 => ?_)
          replace hf := qf_ld_e e_x8 hf
          refine lv_aload_n hx hb dX0_fill_79 rfl (lv_at hl 2 rfl) ?_
          refine gfO_19_14 S0 V kl_X0_93 dX0_fill_80 ?_
          refine lv_iload hx hb dX0_fill_83 (lv_at hl 7 rfl) ?_
          have h_85 := qf_ld_in hf
          refine alO_30 S0 V h_85 dX0_fill_85 ?_
          refine lv_topi (fun x9 e_x9 => ?_)
          replace hf := qf_ld_e e_x9 hf
          refine lv_iload hx hb dX0_fill_86 (lv_at hl 6 rfl) ?_
          obtain ⟨r10, hc_88, hf⟩ := qf_bd_e hf
          refine qw_cVR (rest := [.int y6, .ref (ad 17)]) (st1 := [.int r10, .int y6, .ref (ad 17)]) S0 V hl 8 gO_8 rfl (c_X0_mostWithoutLoss l hc_88) kg_X0_106 rfl ⟨rfl, rfl⟩ kd_X0_mostWithoutLoss ⟨Nat.le_of_ble_eq_true rfl, Nat.le_of_ble_eq_true rfl⟩ rfl rfl (Nat.le_of_ble_eq_true rfl) ⟨Nat.zero_le _, Nat.zero_le _⟩ rfl dX0_fill_88 ?_
          have h_91 := qf_st_in hf
          replace hf := qf_st_e hf
          refine asO_17 S0 V h_91 dX0_fill_91 (fun H locs A11 e_A11 V => ?_)
          replace hf := qf_let_e e_A11 hf
          refine lv_iload hx hb dX0_fill_92 (lv_at hl 6 rfl) ?_
          refine lv_aload_n hx hb dX0_fill_94 rfl (lv_at hl 1 rfl) ?_
          refine gfO_8_1 S0 V kl_X0_16 dX0_fill_95 ?_
          refine lv_iload hx hb dX0_fill_98 (lv_at hl 7 rfl) ?_
          have h_100 := qf_ld_in hf
          refine alO_17 S0 V h_100 dX0_fill_100 ?_
          refine lv_topi (fun x13 e_x13 => ?_)
          replace hf := qf_ld_e e_x13 hf
          refine lv_aload_n hx hb dX0_fill_101 rfl (lv_at hl 2 rfl) ?_
          refine gfO_19_13 S0 V kl_X0_87 dX0_fill_102 ?_
          refine lv_iload hx hb dX0_fill_105 (lv_at hl 7 rfl) ?_
          have h_107 := qf_ld_in hf
          refine alO_29 S0 V h_107 dX0_fill_107 ?_
          refine lv_topi (fun x14 e_x14 => ?_)
          replace hf := qf_ld_e e_x14 hf
          refine lv_imul hx hb dX0_fill_108 ?_
          refine lv_isub hx hb dX0_fill_109 ?_
          refine lv_topi (fun x15 e_x15 => ?_)
          replace hf := qf_let_e e_x15 hf
          refine lv_istore (lv' := [(5, .int x15), (7, .int x7), (0, .ref (ad 8)), (1, .ref (ad 19)), (2, .ref (ad 43)), (3, .int y3), (4, .int y4), (6, .int y6)]) hx hb dX0_fill_110 hl (by decide) rfl (fun ls hl => ?_)
          exact J_112 (fun hf V hl => ih hf V hl) hf V (lv_sub hl [2, 3, 4, 5, 6, 0, 7] rfl)
  unfold f_X0_fill_r19_r43 at hf
  refine lv_aload_n hx hb dX0_fill_0 rfl (lv_at hl 0 rfl) ?_
  refine gfO_8_2 S0 V kl_X0_20 dX0_fill_1 ?_
  refine lv_iload hx hb dX0_fill_4 (lv_at hl 4 rfl) ?_
  have h_6 := qf_ld_in hf
  refine alO_18 S0 V h_6 dX0_fill_6 ?_
  refine lv_topi (fun x1 e_x1 => ?_)
  replace hf := qf_ld_e e_x1 hf
  refine lv_istore (lv' := [(5, .int x1), (0, .ref (ad 8)), (1, .ref (ad 19)), (2, .ref (ad 43)), (3, .int p1), (4, .int p2)]) hx hb dX0_fill_7 hl (by decide) rfl (fun ls hl => ?_)
  refine lv_iconst (v := 0) hx hb dX0_fill_9 (by decide) ?_
  refine lv_istore (lv' := [(6, .int (0 : Int32)), (5, .int x1), (0, .ref (ad 8)), (1, .ref (ad 19)), (2, .ref (ad 43)), (3, .int p1), (4, .int p2)]) hx hb dX0_fill_10 hl (by decide) rfl (fun ls hl => ?_)
  exact L_12 hf V (lv_sub hl [2, 3, 4, 5, 6, 1, 0] rfl)
theorem kd_X0_choose : yX0_choose.cls = RX0 ∧ yX0_choose.cls ≠ "java/lang/invoke/MethodHandle" ∧ yX0_choose.cls ≠ "java/lang/invoke/VarHandle" ∧ (parseMethodDescriptor yX0_choose.desc).map (fun d => d.parameters.length) = some 4 := by decide +kernel
def f_X0_choose_r19_r43_l21   (y3 : Int32) (y4 : Int32) : Nat → (Nat → Int32) → (Nat → Nat → Int32) → Int32 → Option ((Nat → Int32) × (Nat → Nat → Int32))
  | 0, _, _, _ => none
  | n + 1, I, A, y5 =>
  if (I 12) ≤ y5 then (some (I, A)) else (qf_bd (f_X5_purse y3 y5) fun r5 =>
    qf_bd (f_X4_total 120 (A 36) r5) fun r6 =>
    qf_let ((if (400 : Int32) < r6 then (400 : Int32) else r6)) fun x7 =>
    qf_bd (f_X0_weigh_r19_r43 I A y4 y5 x7) fun A8 =>
    qf_st 7 (0 : Int32) fun j9 =>
    qf_ld 401 (A8 (2 + j9)) x7 fun x10 =>
    qf_let (upd I 11 ((I 11) + x10)) fun I11 =>
    qf_bd (f_X0_cheapest A8 x7) fun r12 =>
    qf_st 4 y5 fun i14 =>
    qf_let (qf_up A8 10 (upd (A8 10) i14 r12)) fun A13 =>
    qf_bd (f_X0_fill_r19_r43 I11 A13 y4 y5) fun A15 =>
    qf_let (y5 + (1 : Int32)) fun x16 =>
    f_X0_choose_r19_r43_l21 y3 y4 n I11 A15 x16)
def f_X0_choose_r19_r43 (I : Nat → Int32) (A : Nat → Nat → Int32) (p1 : Int32) (p2 : Int32) : Option ((Nat → Int32) × (Nat → Nat → Int32)) :=
  qf_let (upd I 11 (0 : Int32)) fun I1 =>
  qf_st 7 (I1 13) fun j2 =>
  qf_bd (f_J7_fill_53178 401 (A (2 + j2)) (0 : Int32)) fun f3 =>
  qf_let (qf_up A (2 + j2) f3) fun A4 =>
  f_X0_choose_r19_r43_l21 p1 p2 100000 I1 A4 (0 : Int32)
abbrev wz_X0_choose : List Cond := Cond.code yX0_choose cX0_choose 7 none :: qw_big
def rm_X0_choose_r19_r43 : Room := { frames := 4, cells := 0, slots := 0, locals := 139 }
set_option maxHeartbeats 4000000 in
set_option maxRecDepth 100000 in
theorem c_X0_choose_r19_r43 (l : Launch) {D : va_G} {cy : Nat → ClassId} {ad : Nat → Nat} {I : Nat → Int32} {A : Nat → Nat → Int32} {G : Nat → Int32 × (Nat → Nat → Int32)} {T : Nat} {p1 : Int32} {p2 : Int32} {I9 : Nat → Int32} {A9 : Nat → Nat → Int32} {sz : Nat} (hf : f_X0_choose_r19_r43 I A p1 p2 = some (I9, A9)) : Met l yX0_choose wz_X0_choose rm_X0_choose_r19_r43 (va_Pc [.ref (ad 8), .ref (ad 19), .ref (ad 43), .int p1, .int p2] (qw_Pre D cy (Wo cy ad I A G T) sz)) (qw_Q none D (Wo cy ad I9 A9 G T) (va_A (Wo cy ad I A G T) sz)) 0 0 (va_A (Wo cy ad I A G T) sz) := by
  refine qw_of (cc := cX0_choose) (maxL := 7) (ret := none) (by decide) (Nat.le_of_ble_eq_true rfl) ?_
  intro p e s m args below meth c ls S0 hr hlocks hsz V hl
  have S0 : CallFix p m c cX0_choose 7 s args qw_big RX0 := S0
  have hx := S0.1; have hb := S0.2.1; have hown := S0.2.2.2.1; have hts := S0.2.2.2.2
  have hl : lv_has ls 7 [(0, .ref (ad 8)), (1, .ref (ad 19)), (2, .ref (ad 43)), (3, .int p1), (4, .int p2)] := hl
  generalize va_A (Wo cy ad I A G T) sz = Z9 at V ⊢
  obtain ⟨Q9, hQ⟩ : ∃ q, q = MQ below (qw_Q none D (Wo cy ad I9 A9 G T) Z9) args s 0 0 Z9 := ⟨_, rfl⟩
  rw [← hQ]
  clear hsz
  have L_21 : ∀  {y3 : Int32} {y4 : Int32} {n : Nat} {I : Nat → Int32} {A : Nat → Nat → Int32} {y5 : Int32} {H : Heap} {locs : List Loc} {ls : Array Slot}, f_X0_choose_r19_r43_l21 y3 y4 n I A y5 = some (I9, A9) → qw_V D cy Z9 s (Wo cy ad I A G T) H locs → lv_has ls 7 [(0, .ref (ad 8)), (1, .ref (ad 19)), (2, .ref (ad 43)), (3, .int y3), (4, .int y4), (5, .int y5)] → W p l e rm_X0_choose_r19_r43 s m args below meth c H locs 0 0 Q9 (F0 m 21 ls []) := by
    intro y3 y4 n
    induction n with
    | zero => intro I A y5 H locs ls hf V hl; exact qf_no hf
    | succ n ih =>
      intro I A y5 H locs ls hf V hl
      rw [f_X0_choose_r19_r43_l21] at hf
      refine lv_iload hx hb dX0_choose_21 (lv_at hl 5 rfl) ?_
      refine lv_aload_n hx hb dX0_choose_23 rfl (lv_at hl 1 rfl) ?_
      refine gfO_19_0 S0 V kl_X0_38 dX0_choose_24 ?_
      refine lv_icmp_ge (tgt := 110) hx hb dX0_choose_27 (by decide) (fun c_27 => ?_) (fun c_27 => ?_)
      · replace hf := qf_t c_27 hf
        have hE := Option.some.inj hf
        obtain ⟨e0, hE⟩ := qf_pr hE
        exact qw_vreti S0 hr hlocks hQ (by rw [e0, hE]) V dX0_choose_110
      · replace hf := qf_f c_27 hf
        refine lv_aload_n hx hb dX0_choose_30 rfl (lv_at hl 2 rfl) ?_
        refine gfO_43_4 S0 V kl_X0_41 dX0_choose_31 ?_
        refine lv_iload_n hx hb dX0_choose_34 rfl (lv_at hl 3 rfl) ?_
        refine lv_iload hx hb dX0_choose_35 (lv_at hl 5 rfl) ?_
        obtain ⟨r5, hc_37, hf⟩ := qf_bd_e hf
        refine qw_cSR (rest := [.ref (ad 47)]) (st1 := [.int r5, .ref (ad 47)]) S0 V hl (c_X5_purse l hc_37) kg_X0_46 rfl ⟨rfl, rfl⟩ kd_X5_purse ⟨Nat.le_of_ble_eq_true rfl, Nat.le_of_ble_eq_true rfl⟩ rfl rfl (Nat.le_of_ble_eq_true rfl) ⟨Nat.zero_le _, Nat.zero_le _⟩ rfl dX0_choose_37 ?_
        obtain ⟨r6, hc_40, hf⟩ := qf_bd_e hf
        refine qw_cSR (rest := []) (st1 := [.int r6]) S0 V hl (c_X4_total l (q0 := 47) gO_47 hc_40) kg_X0_50 rfl ⟨rfl, rfl⟩ kd_X4_total ⟨Nat.le_of_ble_eq_true rfl, Nat.le_of_ble_eq_true rfl⟩ rfl rfl (Nat.le_of_ble_eq_true rfl) ⟨Nat.zero_le _, Nat.zero_le _⟩ rfl dX0_choose_40 ?_
        refine lv_sipush (v := 400) hx hb dX0_choose_43 (by decide) ?_
        refine qw_min S0 hl.1 kml_X0_56 (Nat.le_of_ble_eq_true rfl) (Nat.le_of_ble_eq_true rfl) (Nat.zero_le _) (Nat.zero_le _) dX0_choose_46 ?_
        refine lv_topi (fun x7 e_x7 => ?_)
        replace hf := qf_let_e e_x7 hf
        refine lv_istore (lv' := [(6, .int x7), (0, .ref (ad 8)), (1, .ref (ad 19)), (2, .ref (ad 43)), (3, .int y3), (4, .int y4), (5, .int y5)]) hx hb dX0_choose_49 hl (by decide) rfl (fun ls hl => ?_)
        refine lv_aload_n hx hb dX0_choose_51 rfl (lv_at hl 1 rfl) ?_
        refine lv_aload_n hx hb dX0_choose_52 rfl (lv_at hl 2 rfl) ?_
        refine lv_aload_n hx hb dX0_choose_53 rfl (lv_at hl 3 rfl) ?_
        refine lv_iload hx hb dX0_choose_54 (lv_at hl 5 rfl) ?_
        refine lv_iload hx hb dX0_choose_56 (lv_at hl 6 rfl) ?_
        refine lv_iload hx hb dX0_choose_58 (lv_at hl 0 rfl) ?_
        obtain ⟨A8, hc_60, hf⟩ := qf_bd_e hf
        refine qw_cV (rest := []) (st1 := []) S0 V hl 8 gO_8 rfl (c_X0_weigh_r19_r43 l hc_60) kg_X0_61 rfl ⟨rfl, rfl⟩ kd_X0_weigh ⟨Nat.le_of_ble_eq_true rfl, Nat.le_of_ble_eq_true rfl⟩ rfl rfl (Nat.le_of_ble_eq_true rfl) ⟨Nat.zero_le _, Nat.zero_le _⟩ rfl dX0_choose_60 (fun H locs V => ?_)
        refine lv_aload_n hx hb dX0_choose_63 rfl (lv_at hl 1 rfl) ?_
        refine lv_dup hx hb dX0_choose_64 rfl ?_
        refine gfO_8_3 S0 V kl_X0_23 dX0_choose_65 ?_
        refine lv_aload_n hx hb dX0_choose_68 rfl (lv_at hl 1 rfl) ?_
        refine gfO_8_0 S0 V kl_X0_11 dX0_choose_69 ?_
        refine lv_iconst (v := 0) hx hb dX0_choose_72 (by decide) ?_
        have h_73 := qf_st_in hf
        replace hf := qf_st_e hf
        refine al_best S0 V h_73 dX0_choose_73 (fun j9 e_j9 l_j9 => ?_)
        rw [← e_j9] at hf
        refine lv_iload hx hb dX0_choose_74 (lv_at hl 0 rfl) ?_
        have h_76 := qf_ld_in hf
        refine al_bestr l_j9 S0 V h_76 dX0_choose_76 ?_
        refine lv_topi (fun x10 e_x10 => ?_)
        replace hf := qf_ld_e e_x10 hf
        refine lv_iadd hx hb dX0_choose_77 ?_
        refine pfO_8_3 S0 V kl_X0_23 dX0_choose_78 (fun H locs I11 e_I11 V => ?_)
        replace hf := qf_let_e e_I11 hf
        refine lv_aload_n hx hb dX0_choose_81 rfl (lv_at hl 1 rfl) ?_
        refine gfO_8_2 S0 V kl_X0_20 dX0_choose_82 ?_
        refine lv_iload hx hb dX0_choose_85 (lv_at hl 6 rfl) ?_
        refine lv_aload_n hx hb dX0_choose_87 rfl (lv_at hl 1 rfl) ?_
        refine lv_iload hx hb dX0_choose_88 (lv_at hl 0 rfl) ?_
        obtain ⟨r12, hc_90, hf⟩ := qf_bd_e hf
        refine qw_cVR (rest := [.int y5, .ref (ad 18)]) (st1 := [.int r12, .int y5, .ref (ad 18)]) S0 V hl 8 gO_8 rfl (c_X0_cheapest l hc_90) kg_X0_65 rfl ⟨rfl, rfl⟩ kd_X0_cheapest ⟨Nat.le_of_ble_eq_true rfl, Nat.le_of_ble_eq_true rfl⟩ rfl rfl (Nat.le_of_ble_eq_true rfl) ⟨Nat.zero_le _, Nat.zero_le _⟩ rfl dX0_choose_90 ?_
        have h_93 := qf_st_in hf
        replace hf := qf_st_e hf
        refine asO_18 S0 V h_93 dX0_choose_93 (fun H locs A13 e_A13 V => ?_)
        replace hf := qf_let_e e_A13 hf
        refine lv_aload_n hx hb dX0_choose_94 rfl (lv_at hl 1 rfl) ?_
        refine lv_aload_n hx hb dX0_choose_95 rfl (lv_at hl 2 rfl) ?_
        refine lv_aload_n hx hb dX0_choose_96 rfl (lv_at hl 3 rfl) ?_
        refine lv_iload hx hb dX0_choose_97 (lv_at hl 5 rfl) ?_
        refine lv_iload hx hb dX0_choose_99 (lv_at hl 6 rfl) ?_
        obtain ⟨A15, hc_101, hf⟩ := qf_bd_e hf
        refine qw_cV (rest := []) (st1 := []) S0 V hl 8 gO_8 rfl (c_X0_fill_r19_r43 l hc_101) kg_X0_69 rfl ⟨rfl, rfl⟩ kd_X0_fill ⟨Nat.le_of_ble_eq_true rfl, Nat.le_of_ble_eq_true rfl⟩ rfl rfl (Nat.le_of_ble_eq_true rfl) ⟨Nat.zero_le _, Nat.zero_le _⟩ rfl dX0_choose_101 (fun H locs V => ?_)
        obtain ⟨x16, e_x16⟩ : ∃ y : Int32, y = y5 + (1 : Int32) := ⟨_, rfl⟩
        refine lv_iinc (v := x16) (lv' := [(5, .int x16), (6, .int x7), (0, .ref (ad 8)), (1, .ref (ad 19)), (2, .ref (ad 43)), (3, .int y3), (4, .int y4)]) hx hb dX0_choose_104 hl (k := 6) rfl (by rw [e_x16]; rfl) (by decide) rfl (fun ls hl => ?_)
        replace hf := qf_let_e e_x16 hf
        refine lv_goto (tgt := 21) hx hb dX0_choose_107 (by decide) ?_
        exact ih hf V (lv_sub hl [2, 3, 4, 5, 6, 0] rfl)
  unfold f_X0_choose_r19_r43 at hf
  refine lv_aload_n hx hb dX0_choose_0 rfl (lv_at hl 0 rfl) ?_
  refine lv_iconst (v := 0) hx hb dX0_choose_1 (by decide) ?_
  refine pfO_8_3 S0 V kl_X0_23 dX0_choose_2 (fun H locs I1 e_I1 V => ?_)
  replace hf := qf_let_e e_I1 hf
  refine lv_aload_n hx hb dX0_choose_5 rfl (lv_at hl 0 rfl) ?_
  refine gfO_8_0 S0 V kl_X0_11 dX0_choose_6 ?_
  refine lv_aload_n hx hb dX0_choose_9 rfl (lv_at hl 1 rfl) ?_
  refine gfO_19_1 S0 V kl_X0_27 dX0_choose_10 ?_
  have h_13 := qf_st_in hf
  replace hf := qf_st_e hf
  refine al_best S0 V h_13 dX0_choose_13 (fun j2 e_j2 l_j2 => ?_)
  rw [← e_j2] at hf
  refine lv_iconst (v := 0) hx hb dX0_choose_14 (by decide) ?_
  obtain ⟨f3, hc_15, hf⟩ := qf_bd_e hf
  obtain ⟨A4, e_A4⟩ : ∃ y : Nat → Nat → Int32, y = qf_up A (2 + j2) f3 := ⟨_, rfl⟩
  replace hf := qf_let_e e_A4 hf
  refine qw_cS (rest := []) (st1 := []) S0 V hl (c_J7_fill_53178 l (hs := (s_best l_j2 e_A4)) (q0 := (10 + j2)) (g_best l_j2) hc_15) kg_X0_32 rfl ⟨rfl, rfl⟩ kd_J7_fill_53178 ⟨Nat.le_of_ble_eq_true rfl, Nat.le_of_ble_eq_true rfl⟩ rfl rfl (Nat.le_of_ble_eq_true rfl) ⟨Nat.zero_le _, Nat.zero_le _⟩ rfl dX0_choose_15 (fun H locs V => ?_)
  refine lv_iconst (v := 0) hx hb dX0_choose_18 (by decide) ?_
  refine lv_istore (lv' := [(5, .int (0 : Int32)), (0, .ref (ad 8)), (1, .ref (ad 19)), (2, .ref (ad 43)), (3, .int p1), (4, .int p2)]) hx hb dX0_choose_19 hl (by decide) rfl (fun ls hl => ?_)
  exact L_21 hf V (lv_sub hl [1, 2, 3, 4, 5, 0] rfl)
theorem kd_X7_fillBasket : yX7_fillBasket.cls = RX7 ∧ yX7_fillBasket.cls ≠ "java/lang/invoke/MethodHandle" ∧ yX7_fillBasket.cls ≠ "java/lang/invoke/VarHandle" ∧ (parseMethodDescriptor yX7_fillBasket.desc).map (fun d => d.parameters.length) = some 2 := by decide +kernel
def f_X7_fillBasket_l13 (I : Nat → Int32) (A : Nat → Nat → Int32)  (y1 : Int32) (y2 : Int32) : Nat → Int32 → Option (Int32 × (Nat → Int32) × (Nat → Nat → Int32))
  | 0, _ => none
  | n + 1, y3 =>
  if (I 12) ≤ y3 then (qf_bd2 (f_X0_choose_r19_r43 I A y1 y2) fun I2 A3 =>
    some ((0 : Int32), I2, A3)) else (qf_bd (f_X7_holding A y1 y3) fun r4 =>
    if r4 ≤ (400 : Int32) then (qf_let (y3 + (1 : Int32)) fun x5 =>
      f_X7_fillBasket_l13 I A y1 y2 n x5) else (some ((-4 : Int32), I, A)))
def f_X7_fillBasket (I : Nat → Int32) (A : Nat → Nat → Int32) (p1 : Int32) (p2 : Int32) : Option (Int32 × (Nat → Int32) × (Nat → Nat → Int32)) :=
  qf_bd (f_X7_isClosed A p2) fun r1 =>
  if r1 = 0 then (f_X7_fillBasket_l13 I A p1 p2 100000 (0 : Int32)) else (some ((-6 : Int32), I, A))
abbrev wz_X7_fillBasket : List Cond := Cond.code yX7_fillBasket cX7_fillBasket 4 (some .int) :: qw_big
def rm_X7_fillBasket : Room := { frames := 5, cells := 0, slots := 0, locals := 165 }
set_option maxHeartbeats 4000000 in
set_option maxRecDepth 100000 in
theorem c_X7_fillBasket (l : Launch) {D : va_G} {cy : Nat → ClassId} {ad : Nat → Nat} {I : Nat → Int32} {A : Nat → Nat → Int32} {G : Nat → Int32 × (Nat → Nat → Int32)} {T : Nat} {p1 : Int32} {p2 : Int32} {rv : Int32} {I9 : Nat → Int32} {A9 : Nat → Nat → Int32} {sz : Nat} (hf : f_X7_fillBasket I A p1 p2 = some (rv, I9, A9)) : Met l yX7_fillBasket wz_X7_fillBasket rm_X7_fillBasket (va_Pc [.ref (ad 0), .int p1, .int p2] (qw_Pre D cy (Wo cy ad I A G T) sz)) (qw_Q (some (.int rv)) D (Wo cy ad I9 A9 G T) (va_A (Wo cy ad I A G T) sz)) 0 0 (va_A (Wo cy ad I A G T) sz) := by
  refine qw_of (cc := cX7_fillBasket) (maxL := 4) (ret := (some .int)) (by decide) (Nat.le_of_ble_eq_true rfl) ?_
  intro p e s m args below meth c ls S0 hr hlocks hsz V hl
  have S0 : CallFix p m c cX7_fillBasket 4 s args qw_big RX7 := S0
  have hx := S0.1; have hb := S0.2.1; have hown := S0.2.2.2.1; have hts := S0.2.2.2.2
  have hl : lv_has ls 4 [(0, .ref (ad 0)), (1, .int p1), (2, .int p2)] := hl
  generalize va_A (Wo cy ad I A G T) sz = Z9 at V ⊢
  obtain ⟨Q9, hQ⟩ : ∃ q, q = MQ below (qw_Q (some (.int rv)) D (Wo cy ad I9 A9 G T) Z9) args s 0 0 Z9 := ⟨_, rfl⟩
  rw [← hQ]
  clear hsz
  have L_13 : ∀  {y1 : Int32} {y2 : Int32} {n : Nat}  {y3 : Int32} {H : Heap} {locs : List Loc} {ls : Array Slot}, f_X7_fillBasket_l13 I A y1 y2 n y3 = some (rv, I9, A9) → qw_V D cy Z9 s (Wo cy ad I A G T) H locs → lv_has ls 4 [(0, .ref (ad 0)), (1, .int y1), (2, .int y2), (3, .int y3)] → W p l e rm_X7_fillBasket s m args below meth c H locs 0 0 Q9 (F0 m 13 ls []) := by
    intro y1 y2 n
    induction n with
    | zero => intro y3 H locs ls hf V hl; exact qf_no hf
    | succ n ih =>
      intro y3 H locs ls hf V hl
      rw [f_X7_fillBasket_l13] at hf
      refine lv_iload_n hx hb dX7_fillBasket_13 rfl (lv_at hl 3 rfl) ?_
      refine lv_aload_n hx hb dX7_fillBasket_14 rfl (lv_at hl 0 rfl) ?_
      refine gfO_0_5 S0 V kl_X7_40 dX7_fillBasket_15 ?_
      refine gfO_19_0 S0 V kl_X7_81 dX7_fillBasket_18 ?_
      refine lv_icmp_ge (tgt := 45) hx hb dX7_fillBasket_21 (by decide) (fun c_21 => ?_) (fun c_21 => ?_)
      · replace hf := qf_t c_21 hf
        refine lv_aload_n hx hb dX7_fillBasket_45 rfl (lv_at hl 0 rfl) ?_
        refine gfO_0_3 S0 V kl_X7_30 dX7_fillBasket_46 ?_
        refine lv_aload_n hx hb dX7_fillBasket_49 rfl (lv_at hl 0 rfl) ?_
        refine gfO_0_5 S0 V kl_X7_40 dX7_fillBasket_50 ?_
        refine lv_aload_n hx hb dX7_fillBasket_53 rfl (lv_at hl 0 rfl) ?_
        refine gfO_0_6 S0 V kl_X7_47 dX7_fillBasket_54 ?_
        refine lv_iload_n hx hb dX7_fillBasket_57 rfl (lv_at hl 1 rfl) ?_
        refine lv_iload_n hx hb dX7_fillBasket_58 rfl (lv_at hl 2 rfl) ?_
        obtain ⟨I2, A3, hc_59, hf⟩ := qf_bd2_e hf
        refine qw_cV (rest := []) (st1 := []) S0 V hl 8 gO_8 rfl (c_X0_choose_r19_r43 l hc_59) kg_X7_279 rfl ⟨rfl, rfl⟩ kd_X0_choose ⟨Nat.le_of_ble_eq_true rfl, Nat.le_of_ble_eq_true rfl⟩ rfl rfl (Nat.le_of_ble_eq_true rfl) ⟨Nat.zero_le _, Nat.zero_le _⟩ rfl dX7_fillBasket_59 (fun H locs V => ?_)
        refine lv_iconst (v := 0) hx hb dX7_fillBasket_62 (by decide) ?_
        have hE := Option.some.inj hf
        obtain ⟨e0, hE⟩ := qf_pr hE
        obtain ⟨e1, hE⟩ := qf_pr hE
        exact qw_ireti S0 hr hlocks hQ e0 (by rw [e1, hE]) V dX7_fillBasket_63
      · replace hf := qf_f c_21 hf
        refine lv_aload_n hx hb dX7_fillBasket_24 rfl (lv_at hl 0 rfl) ?_
        refine lv_iload_n hx hb dX7_fillBasket_25 rfl (lv_at hl 1 rfl) ?_
        refine lv_iload_n hx hb dX7_fillBasket_26 rfl (lv_at hl 3 rfl) ?_
        obtain ⟨r4, hc_27, hf⟩ := qf_bd_e hf
        refine qw_cVR (rest := []) (st1 := [.int r4]) S0 V hl 0 gO_0 rfl (c_X7_holding l hc_27) kg_X7_162 rfl ⟨rfl, rfl⟩ kd_X7_holding ⟨Nat.le_of_ble_eq_true rfl, Nat.le_of_ble_eq_true rfl⟩ rfl rfl (Nat.le_of_ble_eq_true rfl) ⟨Nat.zero_le _, Nat.zero_le _⟩ rfl dX7_fillBasket_27 ?_
        refine lv_sipush (v := 400) hx hb dX7_fillBasket_30 (by decide) ?_
        refine lv_icmp_le (tgt := 39) hx hb dX7_fillBasket_33 (by decide) (fun c_33 => ?_) (fun c_33 => ?_)
        · replace hf := qf_t c_33 hf
          obtain ⟨x5, e_x5⟩ : ∃ y : Int32, y = y3 + (1 : Int32) := ⟨_, rfl⟩
          refine lv_iinc (v := x5) (lv' := [(3, .int x5), (0, .ref (ad 0)), (1, .int y1), (2, .int y2)]) hx hb dX7_fillBasket_39 hl (k := 3) rfl (by rw [e_x5]; rfl) (by decide) rfl (fun ls hl => ?_)
          replace hf := qf_let_e e_x5 hf
          refine lv_goto (tgt := 13) hx hb dX7_fillBasket_42 (by decide) ?_
          exact ih hf V (lv_sub hl [1, 2, 3, 0] rfl)
        · replace hf := qf_f c_33 hf
          refine lv_bipush (v := -4) hx hb dX7_fillBasket_36 (by decide) ?_
          have hE := Option.some.inj hf
          obtain ⟨e0, hE⟩ := qf_pr hE
          obtain ⟨e1, hE⟩ := qf_pr hE
          exact qw_ireti S0 hr hlocks hQ e0 (by rw [e1, hE]) V dX7_fillBasket_38
  unfold f_X7_fillBasket at hf
  refine lv_aload_n hx hb dX7_fillBasket_0 rfl (lv_at hl 0 rfl) ?_
  refine lv_iload_n hx hb dX7_fillBasket_1 rfl (lv_at hl 2 rfl) ?_
  obtain ⟨r1, hc_2, hf⟩ := qf_bd_e hf
  refine qw_cVR (rest := []) (st1 := [.int r1]) S0 V hl 0 gO_0 rfl (c_X7_isClosed l hc_2) kg_X7_231 rfl ⟨rfl, rfl⟩ kd_X7_isClosed ⟨Nat.le_of_ble_eq_true rfl, Nat.le_of_ble_eq_true rfl⟩ rfl rfl (Nat.le_of_ble_eq_true rfl) ⟨Nat.zero_le _, Nat.zero_le _⟩ rfl dX7_fillBasket_2 ?_
  refine lv_if_eq (tgt := 11) hx hb dX7_fillBasket_5 (by decide) (fun c_5 => ?_) (fun c_5 => ?_)
  · replace hf := qf_t c_5 hf
    refine lv_iconst (v := 0) hx hb dX7_fillBasket_11 (by decide) ?_
    refine lv_istore_n (lv' := [(3, .int (0 : Int32)), (0, .ref (ad 0)), (1, .int p1), (2, .int p2)]) hx hb dX7_fillBasket_12 rfl hl (by decide) rfl (fun ls hl => ?_)
    exact L_13 hf V (lv_sub hl [1, 2, 3, 0] rfl)
  · replace hf := qf_f c_5 hf
    refine lv_bipush (v := -6) hx hb dX7_fillBasket_8 (by decide) ?_
    have hE := Option.some.inj hf
    obtain ⟨e0, hE⟩ := qf_pr hE
    obtain ⟨e1, hE⟩ := qf_pr hE
    exact qw_ireti S0 hr hlocks hQ e0 (by rw [e1, hE]) V dX7_fillBasket_10
theorem kd_X7_basketValue : yX7_basketValue.cls = RX7 ∧ yX7_basketValue.cls ≠ "java/lang/invoke/MethodHandle" ∧ yX7_basketValue.cls ≠ "java/lang/invoke/VarHandle" ∧ (parseMethodDescriptor yX7_basketValue.desc).map (fun d => d.parameters.length) = some 2 := by decide +kernel
def f_X7_basketValue_j21 (I : Nat → Int32) (A : Nat → Nat → Int32)  (y1 : Int32) (y2 : Int32) (s0 : Int32) : Option (Option (Int32 × (Nat → Int32) × (Nat → Nat → Int32))) :=
  if s0 = 0 then some none else
  qf_bd3 (f_X7_fillBasket I A y1 y2) fun r3 I4 A5 =>
  if r3 = 0 then (some (some ((I4 11), I4, A5))) else (some (some (r3, I4, A5)))
def f_X7_basketValue_j20 (I : Nat → Int32) (A : Nat → Nat → Int32)  (y1 : Int32) (y2 : Int32) : Option (Option (Int32 × (Nat → Int32) × (Nat → Nat → Int32))) :=
  f_X7_basketValue_j21 I A y1 y2 (0 : Int32)
def f_X7_basketValue (I : Nat → Int32) (A : Nat → Nat → Int32) (p1 : Int32) (p2 : Int32) : Option (Option (Int32 × (Nat → Int32) × (Nat → Nat → Int32))) :=
  qf_bd (f_X7_isHouse I p1) fun r1 =>
  if r1 = 0 then (f_X7_basketValue_j20 I A p1 p2) else (qf_bd (f_X7_isShop I p2) fun r2 =>
    if r2 = 0 then (f_X7_basketValue_j20 I A p1 p2) else (f_X7_basketValue_j21 I A p1 p2 (1 : Int32)))
abbrev wz_X7_basketValue : List Cond := Cond.code yX7_basketValue cX7_basketValue 4 (some .int) :: qw_big
def rm_X7_basketValue : Room := { frames := 7, cells := 1, slots := 6, locals := 188 }
set_option maxHeartbeats 4000000 in
set_option maxRecDepth 100000 in
theorem c_X7_basketValue (l : Launch) (hst : l.stackTraces = false) {D : va_G} {cy : Nat → ClassId} {ad : Nat → Nat} {I : Nat → Int32} {A : Nat → Nat → Int32} {G : Nat → Int32 × (Nat → Nat → Int32)} {T : Nat} {p1 : Int32} {p2 : Int32} {ro : (Option (Int32 × (Nat → Int32) × (Nat → Nat → Int32)))} {sz : Nat} (hf : f_X7_basketValue I A p1 p2 = some ro) : vx_Met l yX7_basketValue wz_X7_basketValue rm_X7_basketValue (va_Pc [.ref (ad 0), .int p1, .int p2] (qw_Pre D cy (Wo cy ad I A G T) sz)) (qx_Q ro (fun v9 => some (.int v9.1)) (fun v9 => (Wo cy ad v9.2.1 v9.2.2 G T)) D (va_A (Wo cy ad I A G T) sz)) (qx_X ro D (Wo cy ad I A G T) (va_A (Wo cy ad I A G T) sz)) 1 6 (va_A (Wo cy ad I A G T) sz) := by
  refine qx_of (cc := cX7_basketValue) (maxL := 4) (ret := (some .int)) (by decide) (Nat.le_of_ble_eq_true rfl) ?_
  intro p e s m args below meth c ls S0 hr hlocks htab hsz V hl
  have S0 : CallFix p m c cX7_basketValue 4 s args qw_big RX7 := S0
  have hx := S0.1; have hb := S0.2.1; have hown := S0.2.2.2.1; have hts := S0.2.2.2.2
  have hl : lv_has ls 4 [(0, .ref (ad 0)), (1, .int p1), (2, .int p2)] := hl
  generalize va_A (Wo cy ad I A G T) sz = Z9 at V ⊢
  obtain ⟨Q9, hQ⟩ : ∃ q, q = vx_MQ below (qx_Q ro (fun v9 => some (.int v9.1)) (fun v9 => (Wo cy ad v9.2.1 v9.2.2 G T)) D Z9) (qx_X ro D (Wo cy ad I A G T) Z9) args s 1 6 Z9 := ⟨_, rfl⟩
  rw [← hQ]
  clear hsz
  have J_21 : ∀   {y1 : Int32} {y2 : Int32} {s0 : Int32} {H : Heap} {locs : List Loc} {ls : Array Slot}, f_X7_basketValue_j21 I A y1 y2 s0 = some ro → qw_V D cy Z9 s (Wo cy ad I A G T) H locs → lv_has ls 4 [(0, .ref (ad 0)), (1, .int y1), (2, .int y2)] → W p l e rm_X7_basketValue s m args below meth c H locs 0 0 Q9 (F0 m 21 ls [.int s0]) := by
    intro y1 y2 s0 H locs ls hf V hl
    unfold f_X7_basketValue_j21 at hf
    by_cases c_21 : s0 = 0
    · exact qx_thr (rest := []) hst hQ S0 V hl c_21 kg_X7_119 ⟨by decide, by decide⟩ (Nat.le_of_ble_eq_true rfl) ⟨by decide, by decide⟩ dX7_basketValue_21 (by decide) (by decide) hlocks htab (fun t9 h9 h8 => ⟨rfl, (Option.some.inj (qf_t c_21 hf)).symm, h9, h8⟩)
    replace hf := qf_f c_21 hf
    refine qw_cSR (rest := []) (st1 := []) S0 V hl (c_X7_need l c_21) kg_X7_119 rfl ⟨rfl, rfl⟩ kd_X7_need ⟨by decide, by decide⟩ rfl rfl (Nat.le_of_ble_eq_true rfl) ⟨Nat.zero_le _, Nat.zero_le _⟩ rfl dX7_basketValue_21 ?_
    refine lv_aload_n hx hb dX7_basketValue_24 rfl (lv_at hl 0 rfl) ?_
    refine lv_iload_n hx hb dX7_basketValue_25 rfl (lv_at hl 1 rfl) ?_
    refine lv_iload_n hx hb dX7_basketValue_26 rfl (lv_at hl 2 rfl) ?_
    obtain ⟨r3, I4, A5, hc_27, hf⟩ := qf_bd3_e hf
    refine qw_cV (rest := []) (st1 := [.int r3]) S0 V hl 0 gO_0 rfl (c_X7_fillBasket l hc_27) kg_X7_271 rfl ⟨rfl, rfl⟩ kd_X7_fillBasket ⟨Nat.le_of_ble_eq_true rfl, Nat.le_of_ble_eq_true rfl⟩ rfl rfl (Nat.le_of_ble_eq_true rfl) ⟨Nat.zero_le _, Nat.zero_le _⟩ rfl dX7_basketValue_27 (fun H locs V => ?_)
    refine lv_istore_n (lv' := [(3, .int r3), (0, .ref (ad 0)), (1, .int y1), (2, .int y2)]) hx hb dX7_basketValue_30 rfl hl (by decide) rfl (fun ls hl => ?_)
    refine lv_iload_n hx hb dX7_basketValue_31 rfl (lv_at hl 0 rfl) ?_
    refine lv_if_eq (tgt := 39) hx hb dX7_basketValue_32 (by decide) (fun c_32 => ?_) (fun c_32 => ?_)
    · replace hf := qf_t c_32 hf
      refine lv_aload_n hx hb dX7_basketValue_39 rfl (lv_at hl 1 rfl) ?_
      refine gfO_0_3 S0 V kl_X7_30 dX7_basketValue_40 ?_
      refine gfO_8_3 S0 V kl_X7_274 dX7_basketValue_43 ?_
      have hE := Option.some.inj hf
      exact qx_ireti hQ S0 hr hlocks hE rfl rfl V dX7_basketValue_46
    · replace hf := qf_f c_32 hf
      refine lv_iload_n hx hb dX7_basketValue_35 rfl (lv_at hl 0 rfl) ?_
      refine lv_goto (tgt := 46) hx hb dX7_basketValue_36 (by decide) ?_
      have hE := Option.some.inj hf
      exact qx_ireti hQ S0 hr hlocks hE rfl rfl V dX7_basketValue_46
  have J_20 : ∀   {y1 : Int32} {y2 : Int32} {H : Heap} {locs : List Loc} {ls : Array Slot}, f_X7_basketValue_j20 I A y1 y2 = some ro → qw_V D cy Z9 s (Wo cy ad I A G T) H locs → lv_has ls 4 [(0, .ref (ad 0)), (1, .int y1), (2, .int y2)] → W p l e rm_X7_basketValue s m args below meth c H locs 0 0 Q9 (F0 m 20 ls []) := by
    intro y1 y2 H locs ls hf V hl
    unfold f_X7_basketValue_j20 at hf
    refine lv_iconst (v := 0) hx hb dX7_basketValue_20 (by decide) ?_
    exact J_21 hf V (lv_sub hl [0, 1, 2] rfl)
  unfold f_X7_basketValue at hf
  refine lv_aload_n hx hb dX7_basketValue_0 rfl (lv_at hl 0 rfl) ?_
  refine lv_iload_n hx hb dX7_basketValue_1 rfl (lv_at hl 1 rfl) ?_
  obtain ⟨r1, hc_2, hf⟩ := qf_bd_e hf
  refine qw_cVR (rest := []) (st1 := [.int r1]) S0 V hl 0 gO_0 rfl (c_X7_isHouse l hc_2) kg_X7_150 rfl ⟨rfl, rfl⟩ kd_X7_isHouse ⟨Nat.le_of_ble_eq_true rfl, Nat.le_of_ble_eq_true rfl⟩ rfl rfl (Nat.le_of_ble_eq_true rfl) ⟨Nat.zero_le _, Nat.zero_le _⟩ rfl dX7_basketValue_2 ?_
  refine lv_if_eq (tgt := 20) hx hb dX7_basketValue_5 (by decide) (fun c_5 => ?_) (fun c_5 => ?_)
  · replace hf := qf_t c_5 hf
    exact J_20 hf V (lv_sub hl [0, 1, 2] rfl)
  · replace hf := qf_f c_5 hf
    refine lv_aload_n hx hb dX7_basketValue_8 rfl (lv_at hl 0 rfl) ?_
    refine lv_iload_n hx hb dX7_basketValue_9 rfl (lv_at hl 2 rfl) ?_
    obtain ⟨r2, hc_10, hf⟩ := qf_bd_e hf
    refine qw_cVR (rest := []) (st1 := [.int r2]) S0 V hl 0 gO_0 rfl (c_X7_isShop l hc_10) kg_X7_213 rfl ⟨rfl, rfl⟩ kd_X7_isShop ⟨Nat.le_of_ble_eq_true rfl, Nat.le_of_ble_eq_true rfl⟩ rfl rfl (Nat.le_of_ble_eq_true rfl) ⟨Nat.zero_le _, Nat.zero_le _⟩ rfl dX7_basketValue_10 ?_
    refine lv_if_eq (tgt := 20) hx hb dX7_basketValue_13 (by decide) (fun c_13 => ?_) (fun c_13 => ?_)
    · replace hf := qf_t c_13 hf
      exact J_20 hf V (lv_sub hl [0, 1, 2] rfl)
    · replace hf := qf_f c_13 hf
      refine lv_iconst (v := 1) hx hb dX7_basketValue_16 (by decide) ?_
      refine lv_goto (tgt := 21) hx hb dX7_basketValue_17 (by decide) ?_
      exact J_21 hf V (lv_sub hl [0, 1, 2] rfl)
theorem kd_X7_basketUnits : yX7_basketUnits.cls = RX7 ∧ yX7_basketUnits.cls ≠ "java/lang/invoke/MethodHandle" ∧ yX7_basketUnits.cls ≠ "java/lang/invoke/VarHandle" ∧ (parseMethodDescriptor yX7_basketUnits.desc).map (fun d => d.parameters.length) = some 3 := by decide +kernel
def f_X7_basketUnits_j29 (I : Nat → Int32) (A : Nat → Nat → Int32)  (y1 : Int32) (y2 : Int32) (y3 : Int32) (s0 : Int32) : Option (Option (Int32 × (Nat → Int32) × (Nat → Nat → Int32))) :=
  if s0 = 0 then some none else
  qf_bd3 (f_X7_fillBasket I A y1 y2) fun r4 I5 A6 =>
  if r4 = 0 then (qf_ld 6 (A6 9) y3 fun x7 =>
    some (some (x7, I5, A6))) else (some (some (r4, I5, A6)))
def f_X7_basketUnits_j28 (I : Nat → Int32) (A : Nat → Nat → Int32)  (y1 : Int32) (y2 : Int32) (y3 : Int32) : Option (Option (Int32 × (Nat → Int32) × (Nat → Nat → Int32))) :=
  f_X7_basketUnits_j29 I A y1 y2 y3 (0 : Int32)
def f_X7_basketUnits (I : Nat → Int32) (A : Nat → Nat → Int32) (p1 : Int32) (p2 : Int32) (p3 : Int32) : Option (Option (Int32 × (Nat → Int32) × (Nat → Nat → Int32))) :=
  qf_bd (f_X7_isHouse I p1) fun r1 =>
  if r1 = 0 then (f_X7_basketUnits_j28 I A p1 p2 p3) else (qf_bd (f_X7_isShop I p2) fun r2 =>
    if r2 = 0 then (f_X7_basketUnits_j28 I A p1 p2 p3) else (qf_bd (f_X7_isGood I p3) fun r3 =>
      if r3 = 0 then (f_X7_basketUnits_j28 I A p1 p2 p3) else (f_X7_basketUnits_j29 I A p1 p2 p3 (1 : Int32))))
abbrev wz_X7_basketUnits : List Cond := Cond.code yX7_basketUnits cX7_basketUnits 5 (some .int) :: qw_big
def rm_X7_basketUnits : Room := { frames := 7, cells := 1, slots := 6, locals := 188 }
set_option maxHeartbeats 4000000 in
set_option maxRecDepth 100000 in
theorem c_X7_basketUnits (l : Launch) (hst : l.stackTraces = false) {D : va_G} {cy : Nat → ClassId} {ad : Nat → Nat} {I : Nat → Int32} {A : Nat → Nat → Int32} {G : Nat → Int32 × (Nat → Nat → Int32)} {T : Nat} {p1 : Int32} {p2 : Int32} {p3 : Int32} {ro : (Option (Int32 × (Nat → Int32) × (Nat → Nat → Int32)))} {sz : Nat} (hf : f_X7_basketUnits I A p1 p2 p3 = some ro) : vx_Met l yX7_basketUnits wz_X7_basketUnits rm_X7_basketUnits (va_Pc [.ref (ad 0), .int p1, .int p2, .int p3] (qw_Pre D cy (Wo cy ad I A G T) sz)) (qx_Q ro (fun v9 => some (.int v9.1)) (fun v9 => (Wo cy ad v9.2.1 v9.2.2 G T)) D (va_A (Wo cy ad I A G T) sz)) (qx_X ro D (Wo cy ad I A G T) (va_A (Wo cy ad I A G T) sz)) 1 6 (va_A (Wo cy ad I A G T) sz) := by
  refine qx_of (cc := cX7_basketUnits) (maxL := 5) (ret := (some .int)) (by decide) (Nat.le_of_ble_eq_true rfl) ?_
  intro p e s m args below meth c ls S0 hr hlocks htab hsz V hl
  have S0 : CallFix p m c cX7_basketUnits 5 s args qw_big RX7 := S0
  have hx := S0.1; have hb := S0.2.1; have hown := S0.2.2.2.1; have hts := S0.2.2.2.2
  have hl : lv_has ls 5 [(0, .ref (ad 0)), (1, .int p1), (2, .int p2), (3, .int p3)] := hl
  generalize va_A (Wo cy ad I A G T) sz = Z9 at V ⊢
  obtain ⟨Q9, hQ⟩ : ∃ q, q = vx_MQ below (qx_Q ro (fun v9 => some (.int v9.1)) (fun v9 => (Wo cy ad v9.2.1 v9.2.2 G T)) D Z9) (qx_X ro D (Wo cy ad I A G T) Z9) args s 1 6 Z9 := ⟨_, rfl⟩
  rw [← hQ]
  clear hsz
  have J_29 : ∀   {y1 : Int32} {y2 : Int32} {y3 : Int32} {s0 : Int32} {H : Heap} {locs : List Loc} {ls : Array Slot}, f_X7_basketUnits_j29 I A y1 y2 y3 s0 = some ro → qw_V D cy Z9 s (Wo cy ad I A G T) H locs → lv_has ls 5 [(0, .ref (ad 0)), (1, .int y1), (2, .int y2), (3, .int y3)] → W p l e rm_X7_basketUnits s m args below meth c H locs 0 0 Q9 (F0 m 29 ls [.int s0]) := by
    intro y1 y2 y3 s0 H locs ls hf V hl
    unfold f_X7_basketUnits_j29 at hf
    by_cases c_29 : s0 = 0
    · exact qx_thr (rest := []) hst hQ S0 V hl c_29 kg_X7_119 ⟨by decide, by decide⟩ (Nat.le_of_ble_eq_true rfl) ⟨by decide, by decide⟩ dX7_basketUnits_29 (by decide) (by decide) hlocks htab (fun t9 h9 h8 => ⟨rfl, (Option.some.inj (qf_t c_29 hf)).symm, h9, h8⟩)
    replace hf := qf_f c_29 hf
    refine qw_cSR (rest := []) (st1 := []) S0 V hl (c_X7_need l c_29) kg_X7_119 rfl ⟨rfl, rfl⟩ kd_X7_need ⟨by decide, by decide⟩ rfl rfl (Nat.le_of_ble_eq_true rfl) ⟨Nat.zero_le _, Nat.zero_le _⟩ rfl dX7_basketUnits_29 ?_
    refine lv_aload_n hx hb dX7_basketUnits_32 rfl (lv_at hl 0 rfl) ?_
    refine lv_iload_n hx hb dX7_basketUnits_33 rfl (lv_at hl 1 rfl) ?_
    refine lv_iload_n hx hb dX7_basketUnits_34 rfl (lv_at hl 2 rfl) ?_
    obtain ⟨r4, I5, A6, hc_35, hf⟩ := qf_bd3_e hf
    refine qw_cV (rest := []) (st1 := [.int r4]) S0 V hl 0 gO_0 rfl (c_X7_fillBasket l hc_35) kg_X7_271 rfl ⟨rfl, rfl⟩ kd_X7_fillBasket ⟨Nat.le_of_ble_eq_true rfl, Nat.le_of_ble_eq_true rfl⟩ rfl rfl (Nat.le_of_ble_eq_true rfl) ⟨Nat.zero_le _, Nat.zero_le _⟩ rfl dX7_basketUnits_35 (fun H locs V => ?_)
    refine lv_istore (lv' := [(4, .int r4), (0, .ref (ad 0)), (1, .int y1), (2, .int y2), (3, .int y3)]) hx hb dX7_basketUnits_38 hl (by decide) rfl (fun ls hl => ?_)
    refine lv_iload hx hb dX7_basketUnits_40 (lv_at hl 0 rfl) ?_
    refine lv_if_eq (tgt := 50) hx hb dX7_basketUnits_42 (by decide) (fun c_42 => ?_) (fun c_42 => ?_)
    · replace hf := qf_t c_42 hf
      refine lv_aload_n hx hb dX7_basketUnits_50 rfl (lv_at hl 1 rfl) ?_
      refine gfO_0_3 S0 V kl_X7_30 dX7_basketUnits_51 ?_
      refine gfO_8_1 S0 V kl_X7_276 dX7_basketUnits_54 ?_
      refine lv_iload_n hx hb dX7_basketUnits_57 rfl (lv_at hl 4 rfl) ?_
      have h_58 := qf_ld_in hf
      refine alO_17 S0 V h_58 dX7_basketUnits_58 ?_
      refine lv_topi (fun x7 e_x7 => ?_)
      replace hf := qf_ld_e e_x7 hf
      have hE := Option.some.inj hf
      exact qx_ireti hQ S0 hr hlocks hE rfl rfl V dX7_basketUnits_59
    · replace hf := qf_f c_42 hf
      refine lv_iload hx hb dX7_basketUnits_45 (lv_at hl 0 rfl) ?_
      refine lv_goto (tgt := 59) hx hb dX7_basketUnits_47 (by decide) ?_
      have hE := Option.some.inj hf
      exact qx_ireti hQ S0 hr hlocks hE rfl rfl V dX7_basketUnits_59
  have J_28 : ∀   {y1 : Int32} {y2 : Int32} {y3 : Int32} {H : Heap} {locs : List Loc} {ls : Array Slot}, f_X7_basketUnits_j28 I A y1 y2 y3 = some ro → qw_V D cy Z9 s (Wo cy ad I A G T) H locs → lv_has ls 5 [(0, .ref (ad 0)), (1, .int y1), (2, .int y2), (3, .int y3)] → W p l e rm_X7_basketUnits s m args below meth c H locs 0 0 Q9 (F0 m 28 ls []) := by
    intro y1 y2 y3 H locs ls hf V hl
    unfold f_X7_basketUnits_j28 at hf
    refine lv_iconst (v := 0) hx hb dX7_basketUnits_28 (by decide) ?_
    exact J_29 hf V (lv_sub hl [0, 1, 2, 3] rfl)
  unfold f_X7_basketUnits at hf
  refine lv_aload_n hx hb dX7_basketUnits_0 rfl (lv_at hl 0 rfl) ?_
  refine lv_iload_n hx hb dX7_basketUnits_1 rfl (lv_at hl 1 rfl) ?_
  obtain ⟨r1, hc_2, hf⟩ := qf_bd_e hf
  refine qw_cVR (rest := []) (st1 := [.int r1]) S0 V hl 0 gO_0 rfl (c_X7_isHouse l hc_2) kg_X7_150 rfl ⟨rfl, rfl⟩ kd_X7_isHouse ⟨Nat.le_of_ble_eq_true rfl, Nat.le_of_ble_eq_true rfl⟩ rfl rfl (Nat.le_of_ble_eq_true rfl) ⟨Nat.zero_le _, Nat.zero_le _⟩ rfl dX7_basketUnits_2 ?_
  refine lv_if_eq (tgt := 28) hx hb dX7_basketUnits_5 (by decide) (fun c_5 => ?_) (fun c_5 => ?_)
  · replace hf := qf_t c_5 hf
    exact J_28 hf V (lv_sub hl [0, 1, 2, 3] rfl)
  · replace hf := qf_f c_5 hf
    refine lv_aload_n hx hb dX7_basketUnits_8 rfl (lv_at hl 0 rfl) ?_
    refine lv_iload_n hx hb dX7_basketUnits_9 rfl (lv_at hl 2 rfl) ?_
    obtain ⟨r2, hc_10, hf⟩ := qf_bd_e hf
    refine qw_cVR (rest := []) (st1 := [.int r2]) S0 V hl 0 gO_0 rfl (c_X7_isShop l hc_10) kg_X7_213 rfl ⟨rfl, rfl⟩ kd_X7_isShop ⟨Nat.le_of_ble_eq_true rfl, Nat.le_of_ble_eq_true rfl⟩ rfl rfl (Nat.le_of_ble_eq_true rfl) ⟨Nat.zero_le _, Nat.zero_le _⟩ rfl dX7_basketUnits_10 ?_
    refine lv_if_eq (tgt := 28) hx hb dX7_basketUnits_13 (by decide) (fun c_13 => ?_) (fun c_13 => ?_)
    · replace hf := qf_t c_13 hf
      exact J_28 hf V (lv_sub hl [0, 1, 2, 3] rfl)
    · replace hf := qf_f c_13 hf
      refine lv_aload_n hx hb dX7_basketUnits_16 rfl (lv_at hl 0 rfl) ?_
      refine lv_iload_n hx hb dX7_basketUnits_17 rfl (lv_at hl 3 rfl) ?_
      obtain ⟨r3, hc_18, hf⟩ := qf_bd_e hf
      refine qw_cVR (rest := []) (st1 := [.int r3]) S0 V hl 0 gO_0 rfl (c_X7_isGood l hc_18) kg_X7_138 rfl ⟨rfl, rfl⟩ kd_X7_isGood ⟨Nat.le_of_ble_eq_true rfl, Nat.le_of_ble_eq_true rfl⟩ rfl rfl (Nat.le_of_ble_eq_true rfl) ⟨Nat.zero_le _, Nat.zero_le _⟩ rfl dX7_basketUnits_18 ?_
      refine lv_if_eq (tgt := 28) hx hb dX7_basketUnits_21 (by decide) (fun c_21 => ?_) (fun c_21 => ?_)
      · replace hf := qf_t c_21 hf
        exact J_28 hf V (lv_sub hl [0, 1, 2, 3] rfl)
      · replace hf := qf_f c_21 hf
        refine lv_iconst (v := 1) hx hb dX7_basketUnits_24 (by decide) ?_
        refine lv_goto (tgt := 29) hx hb dX7_basketUnits_25 (by decide) ?_
        exact J_29 hf V (lv_sub hl [0, 1, 2, 3] rfl)
theorem kd_X7_waitFor : yX7_waitFor.cls = RX7 ∧ yX7_waitFor.cls ≠ "java/lang/invoke/MethodHandle" ∧ yX7_waitFor.cls ≠ "java/lang/invoke/VarHandle" ∧ (parseMethodDescriptor yX7_waitFor.desc).map (fun d => d.parameters.length) = some 3 := by decide +kernel
def f_X7_waitFor_l68 (I : Nat → Int32)  (y1 : Int32) (y4 : Int32) (y5 : Int32) : Nat → (Nat → Nat → Int32) → Int32 → Option (Option (Int32 × (Nat → Nat → Int32)))
  | 0, _, _ => none
  | n + 1, A, y6 =>
  if (50 : Int32) < y6 then (some (some ((-1 : Int32), A))) else (qf_bd (f_X4_total 5 (A 1) (0 : Int32)) fun r8 =>
    if r8 < y5 then (qf_bd2 (f_X7_stepAhead A y1 y4) fun r9 A10 =>
      qf_let (y6 + (1 : Int32)) fun x11 =>
      f_X7_waitFor_l68 I y1 y4 y5 n A10 x11) else (some (some (y6, A))))
def f_X7_waitFor_j21 (I : Nat → Int32) (A : Nat → Nat → Int32)  (y1 : Int32) (y2 : Int32) (y3 : Int32) (s0 : Int32) : Option (Option (Int32 × (Nat → Nat → Int32))) :=
  if s0 = 0 then some none else
  qf_bd (f_X7_areUnits y3) fun r3 =>
  if r3 = 0 then (some (some ((-2 : Int32), A))) else (qf_ld 6 (A 19) y2 fun x4 =>
    qf_ld 6 (A 20) y2 fun x5 =>
    qf_let ((y3 * x5)) fun x6 =>
    qf_bd (f_X7_startAhead A y1 x4) fun A7 =>
    f_X7_waitFor_l68 I y1 x4 x6 100000 A7 (0 : Int32))
def f_X7_waitFor_j20 (I : Nat → Int32) (A : Nat → Nat → Int32)  (y1 : Int32) (y2 : Int32) (y3 : Int32) : Option (Option (Int32 × (Nat → Nat → Int32))) :=
  f_X7_waitFor_j21 I A y1 y2 y3 (0 : Int32)
def f_X7_waitFor (I : Nat → Int32) (A : Nat → Nat → Int32) (p1 : Int32) (p2 : Int32) (p3 : Int32) : Option (Option (Int32 × (Nat → Nat → Int32))) :=
  qf_bd (f_X7_isHouse I p1) fun r1 =>
  if r1 = 0 then (f_X7_waitFor_j20 I A p1 p2 p3) else (qf_bd (f_X7_isGood I p2) fun r2 =>
    if r2 = 0 then (f_X7_waitFor_j20 I A p1 p2 p3) else (f_X7_waitFor_j21 I A p1 p2 p3 (1 : Int32)))
abbrev wz_X7_waitFor : List Cond := Cond.code yX7_waitFor cX7_waitFor 7 (some .int) :: qw_big
def rm_X7_waitFor : Room := { frames := 7, cells := 1, slots := 6, locals := 102 }
set_option maxHeartbeats 4000000 in
set_option maxRecDepth 100000 in
theorem c_X7_waitFor (l : Launch) (hst : l.stackTraces = false) {D : va_G} {cy : Nat → ClassId} {ad : Nat → Nat} {I : Nat → Int32} {A : Nat → Nat → Int32} {G : Nat → Int32 × (Nat → Nat → Int32)} {T : Nat} {p1 : Int32} {p2 : Int32} {p3 : Int32} {ro : (Option (Int32 × (Nat → Nat → Int32)))} {sz : Nat} (hf : f_X7_waitFor I A p1 p2 p3 = some ro) : vx_Met l yX7_waitFor wz_X7_waitFor rm_X7_waitFor (va_Pc [.ref (ad 0), .int p1, .int p2, .int p3] (qw_Pre D cy (Wo cy ad I A G T) sz)) (qx_Q ro (fun v9 => some (.int v9.1)) (fun v9 => (Wo cy ad I v9.2 G T)) D (va_A (Wo cy ad I A G T) sz)) (qx_X ro D (Wo cy ad I A G T) (va_A (Wo cy ad I A G T) sz)) 1 6 (va_A (Wo cy ad I A G T) sz) := by
  refine qx_of (cc := cX7_waitFor) (maxL := 7) (ret := (some .int)) (by decide) (Nat.le_of_ble_eq_true rfl) ?_
  intro p e s m args below meth c ls S0 hr hlocks htab hsz V hl
  have S0 : CallFix p m c cX7_waitFor 7 s args qw_big RX7 := S0
  have hx := S0.1; have hb := S0.2.1; have hown := S0.2.2.2.1; have hts := S0.2.2.2.2
  have hl : lv_has ls 7 [(0, .ref (ad 0)), (1, .int p1), (2, .int p2), (3, .int p3)] := hl
  generalize va_A (Wo cy ad I A G T) sz = Z9 at V ⊢
  obtain ⟨Q9, hQ⟩ : ∃ q, q = vx_MQ below (qx_Q ro (fun v9 => some (.int v9.1)) (fun v9 => (Wo cy ad I v9.2 G T)) D Z9) (qx_X ro D (Wo cy ad I A G T) Z9) args s 1 6 Z9 := ⟨_, rfl⟩
  rw [← hQ]
  clear hsz
  have L_68 : ∀  {y1 : Int32} {y4 : Int32} {y5 : Int32} {n : Nat} {A : Nat → Nat → Int32} {y6 : Int32} {H : Heap} {locs : List Loc} {ls : Array Slot}, f_X7_waitFor_l68 I y1 y4 y5 n A y6 = some ro → qw_V D cy Z9 s (Wo cy ad I A G T) H locs → lv_has ls 7 [(0, .ref (ad 0)), (1, .int y1), (4, .int y4), (5, .int y5), (6, .int y6)] → W p l e rm_X7_waitFor s m args below meth c H locs 0 0 Q9 (F0 m 68 ls []) := by
    intro y1 y4 y5 n
    induction n with
    | zero => intro A y6 H locs ls hf V hl; exact qf_no hf
    | succ n ih =>
      intro A y6 H locs ls hf V hl
      rw [f_X7_waitFor_l68] at hf
      refine lv_iload hx hb dX7_waitFor_68 (lv_at hl 4 rfl) ?_
      refine lv_bipush (v := 50) hx hb dX7_waitFor_70 (by decide) ?_
      refine lv_icmp_gt (tgt := 105) hx hb dX7_waitFor_72 (by decide) (fun c_72 => ?_) (fun c_72 => ?_)
      · replace hf := qf_t c_72 hf
        refine lv_iconst (v := -1) hx hb dX7_waitFor_105 (by decide) ?_
        have hE := Option.some.inj hf
        exact qx_ireti hQ S0 hr hlocks hE rfl rfl V dX7_waitFor_106
      · replace hf := qf_f c_72 hf
        refine lv_aload_n hx hb dX7_waitFor_75 rfl (lv_at hl 0 rfl) ?_
        refine gfO_0_4 S0 V kl_X7_34 dX7_waitFor_76 ?_
        refine lv_iconst (v := 0) hx hb dX7_waitFor_79 (by decide) ?_
        obtain ⟨r8, hc_80, hf⟩ := qf_bd_e hf
        refine qw_cSR (rest := []) (st1 := [.int r8]) S0 V hl (c_X4_total l (q0 := 2) gO_2 hc_80) kg_X7_179 rfl ⟨rfl, rfl⟩ kd_X4_total ⟨Nat.le_of_ble_eq_true rfl, Nat.le_of_ble_eq_true rfl⟩ rfl rfl (Nat.le_of_ble_eq_true rfl) ⟨Nat.zero_le _, Nat.zero_le _⟩ rfl dX7_waitFor_80 ?_
        refine lv_iload hx hb dX7_waitFor_83 (lv_at hl 3 rfl) ?_
        refine lv_icmp_lt (tgt := 91) hx hb dX7_waitFor_85 (by decide) (fun c_85 => ?_) (fun c_85 => ?_)
        · replace hf := qf_t c_85 hf
          refine lv_aload_n hx hb dX7_waitFor_91 rfl (lv_at hl 0 rfl) ?_
          refine lv_iload_n hx hb dX7_waitFor_92 rfl (lv_at hl 1 rfl) ?_
          refine lv_iload hx hb dX7_waitFor_93 (lv_at hl 2 rfl) ?_
          obtain ⟨r9, A10, hc_95, hf⟩ := qf_bd2_e hf
          refine qw_cV (rest := []) (st1 := [.int r9]) S0 V hl 0 gO_0 rfl (c_X7_stepAhead l hc_95) kg_X7_176 rfl ⟨rfl, rfl⟩ kd_X7_stepAhead ⟨Nat.le_of_ble_eq_true rfl, Nat.le_of_ble_eq_true rfl⟩ rfl rfl (Nat.le_of_ble_eq_true rfl) ⟨Nat.zero_le _, Nat.zero_le _⟩ rfl dX7_waitFor_95 (fun H locs V => ?_)
          refine lv_pop hx hb dX7_waitFor_98 rfl ?_
          obtain ⟨x11, e_x11⟩ : ∃ y : Int32, y = y6 + (1 : Int32) := ⟨_, rfl⟩
          refine lv_iinc (v := x11) (lv' := [(6, .int x11), (0, .ref (ad 0)), (1, .int y1), (4, .int y4), (5, .int y5)]) hx hb dX7_waitFor_99 hl (k := 4) rfl (by rw [e_x11]; rfl) (by decide) rfl (fun ls hl => ?_)
          replace hf := qf_let_e e_x11 hf
          refine lv_goto (tgt := 68) hx hb dX7_waitFor_102 (by decide) ?_
          exact ih hf V (lv_sub hl [1, 2, 3, 4, 0] rfl)
        · replace hf := qf_f c_85 hf
          refine lv_iload hx hb dX7_waitFor_88 (lv_at hl 4 rfl) ?_
          have hE := Option.some.inj hf
          exact qx_ireti hQ S0 hr hlocks hE rfl rfl V dX7_waitFor_90
  have J_21 : ∀   {y1 : Int32} {y2 : Int32} {y3 : Int32} {s0 : Int32} {H : Heap} {locs : List Loc} {ls : Array Slot}, f_X7_waitFor_j21 I A y1 y2 y3 s0 = some ro → qw_V D cy Z9 s (Wo cy ad I A G T) H locs → lv_has ls 7 [(0, .ref (ad 0)), (1, .int y1), (2, .int y2), (3, .int y3)] → W p l e rm_X7_waitFor s m args below meth c H locs 0 0 Q9 (F0 m 21 ls [.int s0]) := by
    intro y1 y2 y3 s0 H locs ls hf V hl
    unfold f_X7_waitFor_j21 at hf
    by_cases c_21 : s0 = 0
    · exact qx_thr (rest := []) hst hQ S0 V hl c_21 kg_X7_119 ⟨by decide, by decide⟩ (Nat.le_of_ble_eq_true rfl) ⟨by decide, by decide⟩ dX7_waitFor_21 (by decide) (by decide) hlocks htab (fun t9 h9 h8 => ⟨rfl, (Option.some.inj (qf_t c_21 hf)).symm, h9, h8⟩)
    replace hf := qf_f c_21 hf
    refine qw_cSR (rest := []) (st1 := []) S0 V hl (c_X7_need l c_21) kg_X7_119 rfl ⟨rfl, rfl⟩ kd_X7_need ⟨by decide, by decide⟩ rfl rfl (Nat.le_of_ble_eq_true rfl) ⟨Nat.zero_le _, Nat.zero_le _⟩ rfl dX7_waitFor_21 ?_
    refine lv_iload_n hx hb dX7_waitFor_24 rfl (lv_at hl 3 rfl) ?_
    obtain ⟨r3, hc_25, hf⟩ := qf_bd_e hf
    refine qw_cSR (rest := []) (st1 := [.int r3]) S0 V hl (c_X7_areUnits l hc_25) kg_X7_252 rfl ⟨rfl, rfl⟩ kd_X7_areUnits ⟨Nat.le_of_ble_eq_true rfl, Nat.le_of_ble_eq_true rfl⟩ rfl rfl (Nat.le_of_ble_eq_true rfl) ⟨Nat.zero_le _, Nat.zero_le _⟩ rfl dX7_waitFor_25 ?_
    refine lv_if_ne (tgt := 34) hx hb dX7_waitFor_28 (by decide) (fun c_28 => ?_) (fun c_28 => ?_)
    · replace hf := qf_f c_28 hf
      refine lv_aload_n hx hb dX7_waitFor_34 rfl (lv_at hl 0 rfl) ?_
      refine gfO_0_5 S0 V kl_X7_40 dX7_waitFor_35 ?_
      refine gfO_19_12 S0 V kl_X7_141 dX7_waitFor_38 ?_
      refine lv_iload_n hx hb dX7_waitFor_41 rfl (lv_at hl 2 rfl) ?_
      have h_42 := qf_ld_in hf
      refine alO_28 S0 V h_42 dX7_waitFor_42 ?_
      refine lv_topi (fun x4 e_x4 => ?_)
      replace hf := qf_ld_e e_x4 hf
      refine lv_istore (lv' := [(4, .int x4), (0, .ref (ad 0)), (1, .int y1), (2, .int y2), (3, .int y3)]) hx hb dX7_waitFor_43 hl (by decide) rfl (fun ls hl => ?_)
      refine lv_iload_n hx hb dX7_waitFor_45 rfl (lv_at hl 4 rfl) ?_
      refine lv_aload_n hx hb dX7_waitFor_46 rfl (lv_at hl 1 rfl) ?_
      refine gfO_0_5 S0 V kl_X7_40 dX7_waitFor_47 ?_
      refine gfO_19_13 S0 V kl_X7_144 dX7_waitFor_50 ?_
      refine lv_iload_n hx hb dX7_waitFor_53 rfl (lv_at hl 3 rfl) ?_
      have h_54 := qf_ld_in hf
      refine alO_29 S0 V h_54 dX7_waitFor_54 ?_
      refine lv_topi (fun x5 e_x5 => ?_)
      replace hf := qf_ld_e e_x5 hf
      refine lv_imul hx hb dX7_waitFor_55 ?_
      refine lv_topi (fun x6 e_x6 => ?_)
      replace hf := qf_let_e e_x6 hf
      refine lv_istore (lv' := [(5, .int x6), (4, .int x4), (0, .ref (ad 0)), (1, .int y1), (2, .int y2), (3, .int y3)]) hx hb dX7_waitFor_56 hl (by decide) rfl (fun ls hl => ?_)
      refine lv_aload_n hx hb dX7_waitFor_58 rfl (lv_at hl 2 rfl) ?_
      refine lv_iload_n hx hb dX7_waitFor_59 rfl (lv_at hl 3 rfl) ?_
      refine lv_iload hx hb dX7_waitFor_60 (lv_at hl 1 rfl) ?_
      obtain ⟨A7, hc_62, hf⟩ := qf_bd_e hf
      refine qw_cV (rest := []) (st1 := []) S0 V hl 0 gO_0 rfl (c_X7_startAhead l hc_62) kg_X7_172 rfl ⟨rfl, rfl⟩ kd_X7_startAhead ⟨Nat.le_of_ble_eq_true rfl, Nat.le_of_ble_eq_true rfl⟩ rfl rfl (Nat.le_of_ble_eq_true rfl) ⟨Nat.zero_le _, Nat.zero_le _⟩ rfl dX7_waitFor_62 (fun H locs V => ?_)
      refine lv_iconst (v := 0) hx hb dX7_waitFor_65 (by decide) ?_
      refine lv_istore (lv' := [(6, .int (0 : Int32)), (5, .int x6), (4, .int x4), (0, .ref (ad 0)), (1, .int y1), (2, .int y2), (3, .int y3)]) hx hb dX7_waitFor_66 hl (by decide) rfl (fun ls hl => ?_)
      exact L_68 hf V (lv_sub hl [3, 4, 2, 1, 0] rfl)
    · replace hf := qf_t c_28 hf
      refine lv_bipush (v := -2) hx hb dX7_waitFor_31 (by decide) ?_
      have hE := Option.some.inj hf
      exact qx_ireti hQ S0 hr hlocks hE rfl rfl V dX7_waitFor_33
  have J_20 : ∀   {y1 : Int32} {y2 : Int32} {y3 : Int32} {H : Heap} {locs : List Loc} {ls : Array Slot}, f_X7_waitFor_j20 I A y1 y2 y3 = some ro → qw_V D cy Z9 s (Wo cy ad I A G T) H locs → lv_has ls 7 [(0, .ref (ad 0)), (1, .int y1), (2, .int y2), (3, .int y3)] → W p l e rm_X7_waitFor s m args below meth c H locs 0 0 Q9 (F0 m 20 ls []) := by
    intro y1 y2 y3 H locs ls hf V hl
    unfold f_X7_waitFor_j20 at hf
    refine lv_iconst (v := 0) hx hb dX7_waitFor_20 (by decide) ?_
    exact J_21 hf V (lv_sub hl [0, 1, 2, 3] rfl)
  unfold f_X7_waitFor at hf
  refine lv_aload_n hx hb dX7_waitFor_0 rfl (lv_at hl 0 rfl) ?_
  refine lv_iload_n hx hb dX7_waitFor_1 rfl (lv_at hl 1 rfl) ?_
  obtain ⟨r1, hc_2, hf⟩ := qf_bd_e hf
  refine qw_cVR (rest := []) (st1 := [.int r1]) S0 V hl 0 gO_0 rfl (c_X7_isHouse l hc_2) kg_X7_150 rfl ⟨rfl, rfl⟩ kd_X7_isHouse ⟨Nat.le_of_ble_eq_true rfl, Nat.le_of_ble_eq_true rfl⟩ rfl rfl (Nat.le_of_ble_eq_true rfl) ⟨Nat.zero_le _, Nat.zero_le _⟩ rfl dX7_waitFor_2 ?_
  refine lv_if_eq (tgt := 20) hx hb dX7_waitFor_5 (by decide) (fun c_5 => ?_) (fun c_5 => ?_)
  · replace hf := qf_t c_5 hf
    exact J_20 hf V (lv_sub hl [0, 1, 2, 3] rfl)
  · replace hf := qf_f c_5 hf
    refine lv_aload_n hx hb dX7_waitFor_8 rfl (lv_at hl 0 rfl) ?_
    refine lv_iload_n hx hb dX7_waitFor_9 rfl (lv_at hl 2 rfl) ?_
    obtain ⟨r2, hc_10, hf⟩ := qf_bd_e hf
    refine qw_cVR (rest := []) (st1 := [.int r2]) S0 V hl 0 gO_0 rfl (c_X7_isGood l hc_10) kg_X7_138 rfl ⟨rfl, rfl⟩ kd_X7_isGood ⟨Nat.le_of_ble_eq_true rfl, Nat.le_of_ble_eq_true rfl⟩ rfl rfl (Nat.le_of_ble_eq_true rfl) ⟨Nat.zero_le _, Nat.zero_le _⟩ rfl dX7_waitFor_10 ?_
    refine lv_if_eq (tgt := 20) hx hb dX7_waitFor_13 (by decide) (fun c_13 => ?_) (fun c_13 => ?_)
    · replace hf := qf_t c_13 hf
      exact J_20 hf V (lv_sub hl [0, 1, 2, 3] rfl)
    · replace hf := qf_f c_13 hf
      refine lv_iconst (v := 1) hx hb dX7_waitFor_16 (by decide) ?_
      refine lv_goto (tgt := 21) hx hb dX7_waitFor_17 (by decide) ?_
      exact J_21 hf V (lv_sub hl [0, 1, 2, 3] rfl)
theorem kd_X7_bestShop : yX7_bestShop.cls = RX7 ∧ yX7_bestShop.cls ≠ "java/lang/invoke/MethodHandle" ∧ yX7_bestShop.cls ≠ "java/lang/invoke/VarHandle" ∧ (parseMethodDescriptor yX7_bestShop.desc).map (fun d => d.parameters.length) = some 1 := by decide +kernel
def f_X7_bestShop_j64 (I : Nat → Int32) (A : Nat → Nat → Int32) (K15 : Int32 → Int32 → Int32 → Option (Option (Int32))) (y1 : Int32) (y2 : Int32) (y3 : Int32) (y4 : Int32) : Option (Option (Int32)) :=
  qf_let (y4 + (1 : Int32)) fun x5 =>
  K15 y2 y3 x5
def f_X7_bestShop_l15 (I : Nat → Int32) (A : Nat → Nat → Int32)  (y1 : Int32) : Nat → Int32 → Int32 → Int32 → Option (Option (Int32))
  | 0, _, _, _ => none
  | n + 1, y2, y3, y4 =>
  if (I 15) ≤ y4 then (some (some (y2))) else (qf_bd (f_X5_shelf y4 y1) fun r2 =>
    qf_ld 24 (A 39) r2 fun x3 =>
    if x3 ≤ y3 then (f_X7_bestShop_j64 I A (fun z0 z1 z2 => f_X7_bestShop_l15 I A y1 n z0 z1 z2) y1 y2 y3 y4) else (qf_bd (f_X7_isClosed A y4) fun r4 =>
      if r4 = 0 then (f_X7_bestShop_j64 I A (fun z0 z1 z2 => f_X7_bestShop_l15 I A y1 n z0 z1 z2) y1 y4 x3 y4) else (f_X7_bestShop_j64 I A (fun z0 z1 z2 => f_X7_bestShop_l15 I A y1 n z0 z1 z2) y1 y2 y3 y4)))
def f_X7_bestShop (I : Nat → Int32) (A : Nat → Nat → Int32) (p1 : Int32) : Option (Option (Int32)) :=
  qf_bd (f_X7_isGood I p1) fun r1 =>
  if r1 = 0 then some none else
  f_X7_bestShop_l15 I A p1 100000 (-1 : Int32) (0 : Int32) (0 : Int32)
abbrev wz_X7_bestShop : List Cond := Cond.code yX7_bestShop cX7_bestShop 6 (some .int) :: qw_big
def rm_X7_bestShop : Room := { frames := 7, cells := 1, slots := 6, locals := 102 }
set_option maxHeartbeats 4000000 in
set_option maxRecDepth 100000 in
theorem c_X7_bestShop (l : Launch) (hst : l.stackTraces = false) {D : va_G} {cy : Nat → ClassId} {ad : Nat → Nat} {I : Nat → Int32} {A : Nat → Nat → Int32} {G : Nat → Int32 × (Nat → Nat → Int32)} {T : Nat} {p1 : Int32} {ro : (Option (Int32))} {sz : Nat} (hf : f_X7_bestShop I A p1 = some ro) : vx_Met l yX7_bestShop wz_X7_bestShop rm_X7_bestShop (va_Pc [.ref (ad 0), .int p1] (qw_Pre D cy (Wo cy ad I A G T) sz)) (qx_Q ro (fun v9 => some (.int v9)) (fun _ => (Wo cy ad I A G T)) D (va_A (Wo cy ad I A G T) sz)) (qx_X ro D (Wo cy ad I A G T) (va_A (Wo cy ad I A G T) sz)) 1 6 (va_A (Wo cy ad I A G T) sz) := by
  refine qx_of (cc := cX7_bestShop) (maxL := 6) (ret := (some .int)) (by decide) (Nat.le_of_ble_eq_true rfl) ?_
  intro p e s m args below meth c ls S0 hr hlocks htab hsz V hl
  have S0 : CallFix p m c cX7_bestShop 6 s args qw_big RX7 := S0
  have hx := S0.1; have hb := S0.2.1; have hown := S0.2.2.2.1; have hts := S0.2.2.2.2
  have hl : lv_has ls 6 [(0, .ref (ad 0)), (1, .int p1)] := hl
  generalize va_A (Wo cy ad I A G T) sz = Z9 at V ⊢
  obtain ⟨Q9, hQ⟩ : ∃ q, q = vx_MQ below (qx_Q ro (fun v9 => some (.int v9)) (fun _ => (Wo cy ad I A G T)) D Z9) (qx_X ro D (Wo cy ad I A G T) Z9) args s 1 6 Z9 := ⟨_, rfl⟩
  rw [← hQ]
  clear hsz
  have J_64 : ∀ {K15 : Int32 → Int32 → Int32 → Option (Option (Int32))} {y1 : Int32}  (hK15 : ∀  {y2 : Int32} {y3 : Int32} {y4 : Int32} {H : Heap} {locs : List Loc} {ls : Array Slot}, K15 y2 y3 y4 = some ro → qw_V D cy Z9 s (Wo cy ad I A G T) H locs → lv_has ls 6 [(0, .ref (ad 0)), (1, .int y1), (2, .int y2), (3, .int y3), (4, .int y4)] → W p l e rm_X7_bestShop s m args below meth c H locs 0 0 Q9 (F0 m 15 ls []))  {y2 : Int32} {y3 : Int32} {y4 : Int32} {H : Heap} {locs : List Loc} {ls : Array Slot}, f_X7_bestShop_j64 I A K15 y1 y2 y3 y4 = some ro → qw_V D cy Z9 s (Wo cy ad I A G T) H locs → lv_has ls 6 [(0, .ref (ad 0)), (1, .int y1), (2, .int y2), (3, .int y3), (4, .int y4)] → W p l e rm_X7_bestShop s m args below meth c H locs 0 0 Q9 (F0 m 64 ls []) := by
    intro K15 y1 hK15 y2 y3 y4 H locs ls hf V hl
    unfold f_X7_bestShop_j64 at hf
    obtain ⟨x5, e_x5⟩ : ∃ y : Int32, y = y4 + (1 : Int32) := ⟨_, rfl⟩
    refine lv_iinc (v := x5) (lv' := [(4, .int x5), (0, .ref (ad 0)), (1, .int y1), (2, .int y2), (3, .int y3)]) hx hb dX7_bestShop_64 hl (k := 4) rfl (by rw [e_x5]; rfl) (by decide) rfl (fun ls hl => ?_)
    replace hf := qf_let_e e_x5 hf
    refine lv_goto (tgt := 15) hx hb dX7_bestShop_67 (by decide) ?_
    exact hK15 hf V (lv_sub hl [1, 2, 3, 4, 0] rfl)
  have L_15 : ∀  {y1 : Int32} {n : Nat}  {y2 : Int32} {y3 : Int32} {y4 : Int32} {H : Heap} {locs : List Loc} {ls : Array Slot}, f_X7_bestShop_l15 I A y1 n y2 y3 y4 = some ro → qw_V D cy Z9 s (Wo cy ad I A G T) H locs → lv_has ls 6 [(0, .ref (ad 0)), (1, .int y1), (2, .int y2), (3, .int y3), (4, .int y4)] → W p l e rm_X7_bestShop s m args below meth c H locs 0 0 Q9 (F0 m 15 ls []) := by
    intro y1 n
    induction n with
    | zero => intro y2 y3 y4 H locs ls hf V hl; exact qf_no hf
    | succ n ih =>
      intro y2 y3 y4 H locs ls hf V hl
      rw [f_X7_bestShop_l15] at hf
      refine lv_iload hx hb dX7_bestShop_15 (lv_at hl 4 rfl) ?_
      refine lv_aload_n hx hb dX7_bestShop_17 rfl (lv_at hl 0 rfl) ?_
      refine gfO_0_5 S0 V kl_X7_40 dX7_bestShop_18 ?_
      refine gfO_19_3 S0 V kl_X7_90 dX7_bestShop_21 ?_
      refine lv_icmp_ge (tgt := 70) hx hb dX7_bestShop_24 (by decide) (fun c_24 => ?_) (fun c_24 => ?_)
      · replace hf := qf_t c_24 hf
        refine lv_iload_n hx hb dX7_bestShop_70 rfl (lv_at hl 2 rfl) ?_
        have hE := Option.some.inj hf
        exact qx_ireti hQ S0 hr hlocks hE rfl rfl V dX7_bestShop_71
      · replace hf := qf_f c_24 hf
        refine lv_aload_n hx hb dX7_bestShop_27 rfl (lv_at hl 0 rfl) ?_
        refine gfO_0_6 S0 V kl_X7_47 dX7_bestShop_28 ?_
        refine gfO_43_7 S0 V kl_X7_216 dX7_bestShop_31 ?_
        refine lv_iload hx hb dX7_bestShop_34 (lv_at hl 4 rfl) ?_
        refine lv_iload_n hx hb dX7_bestShop_36 rfl (lv_at hl 1 rfl) ?_
        obtain ⟨r2, hc_37, hf⟩ := qf_bd_e hf
        refine qw_cSR (rest := [.ref (ad 50)]) (st1 := [.int r2, .ref (ad 50)]) S0 V hl (c_X5_shelf l hc_37) kg_X7_219 rfl ⟨rfl, rfl⟩ kd_X5_shelf ⟨Nat.le_of_ble_eq_true rfl, Nat.le_of_ble_eq_true rfl⟩ rfl rfl (Nat.le_of_ble_eq_true rfl) ⟨Nat.zero_le _, Nat.zero_le _⟩ rfl dX7_bestShop_37 ?_
        have h_40 := qf_ld_in hf
        refine alO_50 S0 V h_40 dX7_bestShop_40 ?_
        refine lv_topi (fun x3 e_x3 => ?_)
        replace hf := qf_ld_e e_x3 hf
        refine lv_istore (lv' := [(5, .int x3), (0, .ref (ad 0)), (1, .int y1), (2, .int y2), (3, .int y3), (4, .int y4)]) hx hb dX7_bestShop_41 hl (by decide) rfl (fun ls hl => ?_)
        refine lv_iload hx hb dX7_bestShop_43 (lv_at hl 0 rfl) ?_
        refine lv_iload_n hx hb dX7_bestShop_45 rfl (lv_at hl 4 rfl) ?_
        refine lv_icmp_le (tgt := 64) hx hb dX7_bestShop_46 (by decide) (fun c_46 => ?_) (fun c_46 => ?_)
        · replace hf := qf_t c_46 hf
          exact J_64 (fun hf V hl => ih hf V hl) hf V (lv_sub hl [1, 2, 3, 4, 5] rfl)
        · replace hf := qf_f c_46 hf
          refine lv_aload_n hx hb dX7_bestShop_49 rfl (lv_at hl 1 rfl) ?_
          refine lv_iload hx hb dX7_bestShop_50 (lv_at hl 5 rfl) ?_
          obtain ⟨r4, hc_52, hf⟩ := qf_bd_e hf
          refine qw_cVR (rest := []) (st1 := [.int r4]) S0 V hl 0 gO_0 rfl (c_X7_isClosed l hc_52) kg_X7_231 rfl ⟨rfl, rfl⟩ kd_X7_isClosed ⟨Nat.le_of_ble_eq_true rfl, Nat.le_of_ble_eq_true rfl⟩ rfl rfl (Nat.le_of_ble_eq_true rfl) ⟨Nat.zero_le _, Nat.zero_le _⟩ rfl dX7_bestShop_52 ?_
          refine lv_if_ne (tgt := 64) hx hb dX7_bestShop_55 (by decide) (fun c_55 => ?_) (fun c_55 => ?_)
          · replace hf := qf_f c_55 hf
            exact J_64 (fun hf V hl => ih hf V hl) hf V (lv_sub hl [1, 2, 3, 4, 5] rfl)
          · replace hf := qf_t c_55 hf
            refine lv_iload hx hb dX7_bestShop_58 (lv_at hl 5 rfl) ?_
            refine lv_istore_n (lv' := [(2, .int y4), (5, .int x3), (0, .ref (ad 0)), (1, .int y1), (3, .int y3), (4, .int y4)]) hx hb dX7_bestShop_60 rfl hl (by decide) rfl (fun ls hl => ?_)
            refine lv_iload hx hb dX7_bestShop_61 (lv_at hl 1 rfl) ?_
            refine lv_istore_n (lv' := [(3, .int x3), (2, .int y4), (5, .int x3), (0, .ref (ad 0)), (1, .int y1), (4, .int y4)]) hx hb dX7_bestShop_63 rfl hl (by decide) rfl (fun ls hl => ?_)
            exact J_64 (fun hf V hl => ih hf V hl) hf V (lv_sub hl [3, 4, 1, 0, 5] rfl)
  unfold f_X7_bestShop at hf
  refine lv_aload_n hx hb dX7_bestShop_0 rfl (lv_at hl 0 rfl) ?_
  refine lv_iload_n hx hb dX7_bestShop_1 rfl (lv_at hl 1 rfl) ?_
  obtain ⟨r1, hc_2, hf⟩ := qf_bd_e hf
  refine qw_cVR (rest := []) (st1 := [.int r1]) S0 V hl 0 gO_0 rfl (c_X7_isGood l hc_2) kg_X7_138 rfl ⟨rfl, rfl⟩ kd_X7_isGood ⟨Nat.le_of_ble_eq_true rfl, Nat.le_of_ble_eq_true rfl⟩ rfl rfl (Nat.le_of_ble_eq_true rfl) ⟨Nat.zero_le _, Nat.zero_le _⟩ rfl dX7_bestShop_2 ?_
  by_cases c_5 : r1 = 0
  · exact qx_thr (rest := []) hst hQ S0 V hl c_5 kg_X7_119 ⟨by decide, by decide⟩ (Nat.le_of_ble_eq_true rfl) ⟨by decide, by decide⟩ dX7_bestShop_5 (by decide) (by decide) hlocks htab (fun t9 h9 h8 => ⟨rfl, (Option.some.inj (qf_t c_5 hf)).symm, h9, h8⟩)
  replace hf := qf_f c_5 hf
  refine qw_cSR (rest := []) (st1 := []) S0 V hl (c_X7_need l c_5) kg_X7_119 rfl ⟨rfl, rfl⟩ kd_X7_need ⟨by decide, by decide⟩ rfl rfl (Nat.le_of_ble_eq_true rfl) ⟨Nat.zero_le _, Nat.zero_le _⟩ rfl dX7_bestShop_5 ?_
  refine lv_iconst (v := -1) hx hb dX7_bestShop_8 (by decide) ?_
  refine lv_istore_n (lv' := [(2, .int (-1 : Int32)), (0, .ref (ad 0)), (1, .int p1)]) hx hb dX7_bestShop_9 rfl hl (by decide) rfl (fun ls hl => ?_)
  refine lv_iconst (v := 0) hx hb dX7_bestShop_10 (by decide) ?_
  refine lv_istore_n (lv' := [(3, .int (0 : Int32)), (2, .int (-1 : Int32)), (0, .ref (ad 0)), (1, .int p1)]) hx hb dX7_bestShop_11 rfl hl (by decide) rfl (fun ls hl => ?_)
  refine lv_iconst (v := 0) hx hb dX7_bestShop_12 (by decide) ?_
  refine lv_istore (lv' := [(4, .int (0 : Int32)), (3, .int (0 : Int32)), (2, .int (-1 : Int32)), (0, .ref (ad 0)), (1, .int p1)]) hx hb dX7_bestShop_13 hl (by decide) rfl (fun ls hl => ?_)
  exact L_15 hf V (lv_sub hl [3, 4, 2, 1, 0] rfl)
theorem kd_X7_bestHouse : yX7_bestHouse.cls = RX7 ∧ yX7_bestHouse.cls ≠ "java/lang/invoke/MethodHandle" ∧ yX7_bestHouse.cls ≠ "java/lang/invoke/VarHandle" ∧ (parseMethodDescriptor yX7_bestHouse.desc).map (fun d => d.parameters.length) = some 2 := by decide +kernel
def f_X7_bestHouse_j68 (I : Nat → Int32) (A : Nat → Nat → Int32) (K32 : Int32 → Int32 → Int32 → Option (Option (Int32))) (y1 : Int32) (y2 : Int32) (y3 : Int32) (y4 : Int32) (y5 : Int32) : Option (Option (Int32)) :=
  qf_let (y5 + (1 : Int32)) fun x4 =>
  K32 y3 y4 x4
def f_X7_bestHouse_l32 (I : Nat → Int32) (A : Nat → Nat → Int32)  (y1 : Int32) (y2 : Int32) : Nat → Int32 → Int32 → Int32 → Option (Option (Int32))
  | 0, _, _, _ => none
  | n + 1, y3, y4, y5 =>
  if (I 14) ≤ y5 then (some (some (y3))) else (qf_bd (f_X7_mostToBuy A y5 y1 y2) fun r3 =>
    if r3 ≤ y4 then (f_X7_bestHouse_j68 I A (fun z0 z1 z2 => f_X7_bestHouse_l32 I A y1 y2 n z0 z1 z2) y1 y2 y3 y4 y5) else (f_X7_bestHouse_j68 I A (fun z0 z1 z2 => f_X7_bestHouse_l32 I A y1 y2 n z0 z1 z2) y1 y2 y5 r3 y5))
def f_X7_bestHouse_j21 (I : Nat → Int32) (A : Nat → Nat → Int32)  (y1 : Int32) (y2 : Int32) (s0 : Int32) : Option (Option (Int32)) :=
  if s0 = 0 then some none else
  f_X7_bestHouse_l32 I A y1 y2 100000 (-1 : Int32) (0 : Int32) (0 : Int32)
def f_X7_bestHouse_j20 (I : Nat → Int32) (A : Nat → Nat → Int32)  (y1 : Int32) (y2 : Int32) : Option (Option (Int32)) :=
  f_X7_bestHouse_j21 I A y1 y2 (0 : Int32)
def f_X7_bestHouse (I : Nat → Int32) (A : Nat → Nat → Int32) (p1 : Int32) (p2 : Int32) : Option (Option (Int32)) :=
  qf_bd (f_X7_isShop I p1) fun r1 =>
  if r1 = 0 then (f_X7_bestHouse_j20 I A p1 p2) else (qf_bd (f_X7_isGood I p2) fun r2 =>
    if r2 = 0 then (f_X7_bestHouse_j20 I A p1 p2) else (f_X7_bestHouse_j21 I A p1 p2 (1 : Int32)))
abbrev wz_X7_bestHouse : List Cond := Cond.code yX7_bestHouse cX7_bestHouse 7 (some .int) :: qw_big
def rm_X7_bestHouse : Room := { frames := 7, cells := 1, slots := 6, locals := 102 }
set_option maxHeartbeats 4000000 in
set_option maxRecDepth 100000 in
theorem c_X7_bestHouse (l : Launch) (hst : l.stackTraces = false) {D : va_G} {cy : Nat → ClassId} {ad : Nat → Nat} {I : Nat → Int32} {A : Nat → Nat → Int32} {G : Nat → Int32 × (Nat → Nat → Int32)} {T : Nat} {p1 : Int32} {p2 : Int32} {ro : (Option (Int32))} {sz : Nat} (hf : f_X7_bestHouse I A p1 p2 = some ro) : vx_Met l yX7_bestHouse wz_X7_bestHouse rm_X7_bestHouse (va_Pc [.ref (ad 0), .int p1, .int p2] (qw_Pre D cy (Wo cy ad I A G T) sz)) (qx_Q ro (fun v9 => some (.int v9)) (fun _ => (Wo cy ad I A G T)) D (va_A (Wo cy ad I A G T) sz)) (qx_X ro D (Wo cy ad I A G T) (va_A (Wo cy ad I A G T) sz)) 1 6 (va_A (Wo cy ad I A G T) sz) := by
  refine qx_of (cc := cX7_bestHouse) (maxL := 7) (ret := (some .int)) (by decide) (Nat.le_of_ble_eq_true rfl) ?_
  intro p e s m args below meth c ls S0 hr hlocks htab hsz V hl
  have S0 : CallFix p m c cX7_bestHouse 7 s args qw_big RX7 := S0
  have hx := S0.1; have hb := S0.2.1; have hown := S0.2.2.2.1; have hts := S0.2.2.2.2
  have hl : lv_has ls 7 [(0, .ref (ad 0)), (1, .int p1), (2, .int p2)] := hl
  generalize va_A (Wo cy ad I A G T) sz = Z9 at V ⊢
  obtain ⟨Q9, hQ⟩ : ∃ q, q = vx_MQ below (qx_Q ro (fun v9 => some (.int v9)) (fun _ => (Wo cy ad I A G T)) D Z9) (qx_X ro D (Wo cy ad I A G T) Z9) args s 1 6 Z9 := ⟨_, rfl⟩
  rw [← hQ]
  clear hsz
  have J_68 : ∀ {K32 : Int32 → Int32 → Int32 → Option (Option (Int32))} {y1 : Int32} {y2 : Int32}  (hK32 : ∀  {y3 : Int32} {y4 : Int32} {y5 : Int32} {H : Heap} {locs : List Loc} {ls : Array Slot}, K32 y3 y4 y5 = some ro → qw_V D cy Z9 s (Wo cy ad I A G T) H locs → lv_has ls 7 [(0, .ref (ad 0)), (1, .int y1), (2, .int y2), (3, .int y3), (4, .int y4), (5, .int y5)] → W p l e rm_X7_bestHouse s m args below meth c H locs 0 0 Q9 (F0 m 32 ls []))  {y3 : Int32} {y4 : Int32} {y5 : Int32} {H : Heap} {locs : List Loc} {ls : Array Slot}, f_X7_bestHouse_j68 I A K32 y1 y2 y3 y4 y5 = some ro → qw_V D cy Z9 s (Wo cy ad I A G T) H locs → lv_has ls 7 [(0, .ref (ad 0)), (1, .int y1), (2, .int y2), (3, .int y3), (4, .int y4), (5, .int y5)] → W p l e rm_X7_bestHouse s m args below meth c H locs 0 0 Q9 (F0 m 68 ls []) := by
    intro K32 y1 y2 hK32 y3 y4 y5 H locs ls hf V hl
    unfold f_X7_bestHouse_j68 at hf
    obtain ⟨x4, e_x4⟩ : ∃ y : Int32, y = y5 + (1 : Int32) := ⟨_, rfl⟩
    refine lv_iinc (v := x4) (lv' := [(5, .int x4), (0, .ref (ad 0)), (1, .int y1), (2, .int y2), (3, .int y3), (4, .int y4)]) hx hb dX7_bestHouse_68 hl (k := 5) rfl (by rw [e_x4]; rfl) (by decide) rfl (fun ls hl => ?_)
    replace hf := qf_let_e e_x4 hf
    refine lv_goto (tgt := 32) hx hb dX7_bestHouse_71 (by decide) ?_
    exact hK32 hf V (lv_sub hl [1, 2, 3, 4, 5, 0] rfl)
  have L_32 : ∀  {y1 : Int32} {y2 : Int32} {n : Nat}  {y3 : Int32} {y4 : Int32} {y5 : Int32} {H : Heap} {locs : List Loc} {ls : Array Slot}, f_X7_bestHouse_l32 I A y1 y2 n y3 y4 y5 = some ro → qw_V D cy Z9 s (Wo cy ad I A G T) H locs → lv_has ls 7 [(0, .ref (ad 0)), (1, .int y1), (2, .int y2), (3, .int y3), (4, .int y4), (5, .int y5)] → W p l e rm_X7_bestHouse s m args below meth c H locs 0 0 Q9 (F0 m 32 ls []) := by
    intro y1 y2 n
    induction n with
    | zero => intro y3 y4 y5 H locs ls hf V hl; exact qf_no hf
    | succ n ih =>
      intro y3 y4 y5 H locs ls hf V hl
      rw [f_X7_bestHouse_l32] at hf
      refine lv_iload hx hb dX7_bestHouse_32 (lv_at hl 5 rfl) ?_
      refine lv_aload_n hx hb dX7_bestHouse_34 rfl (lv_at hl 0 rfl) ?_
      refine gfO_0_5 S0 V kl_X7_40 dX7_bestHouse_35 ?_
      refine gfO_19_2 S0 V kl_X7_87 dX7_bestHouse_38 ?_
      refine lv_icmp_ge (tgt := 74) hx hb dX7_bestHouse_41 (by decide) (fun c_41 => ?_) (fun c_41 => ?_)
      · replace hf := qf_t c_41 hf
        refine lv_iload_n hx hb dX7_bestHouse_74 rfl (lv_at hl 3 rfl) ?_
        have hE := Option.some.inj hf
        exact qx_ireti hQ S0 hr hlocks hE rfl rfl V dX7_bestHouse_75
      · replace hf := qf_f c_41 hf
        refine lv_aload_n hx hb dX7_bestHouse_44 rfl (lv_at hl 0 rfl) ?_
        refine lv_iload hx hb dX7_bestHouse_45 (lv_at hl 5 rfl) ?_
        refine lv_iload_n hx hb dX7_bestHouse_47 rfl (lv_at hl 1 rfl) ?_
        refine lv_iload_n hx hb dX7_bestHouse_48 rfl (lv_at hl 2 rfl) ?_
        obtain ⟨r3, hc_49, hf⟩ := qf_bd_e hf
        refine qw_cVR (rest := []) (st1 := [.int r3]) S0 V hl 0 gO_0 rfl (c_X7_mostToBuy l hc_49) kg_X7_262 rfl ⟨rfl, rfl⟩ kd_X7_mostToBuy ⟨Nat.le_of_ble_eq_true rfl, Nat.le_of_ble_eq_true rfl⟩ rfl rfl (Nat.le_of_ble_eq_true rfl) ⟨Nat.zero_le _, Nat.zero_le _⟩ rfl dX7_bestHouse_49 ?_
        refine lv_istore (lv' := [(6, .int r3), (0, .ref (ad 0)), (1, .int y1), (2, .int y2), (3, .int y3), (4, .int y4), (5, .int y5)]) hx hb dX7_bestHouse_52 hl (by decide) rfl (fun ls hl => ?_)
        refine lv_iload hx hb dX7_bestHouse_54 (lv_at hl 0 rfl) ?_
        refine lv_iload hx hb dX7_bestHouse_56 (lv_at hl 5 rfl) ?_
        refine lv_icmp_le (tgt := 68) hx hb dX7_bestHouse_58 (by decide) (fun c_58 => ?_) (fun c_58 => ?_)
        · replace hf := qf_t c_58 hf
          exact J_68 (fun hf V hl => ih hf V hl) hf V (lv_sub hl [1, 2, 3, 4, 5, 6] rfl)
        · replace hf := qf_f c_58 hf
          refine lv_iload hx hb dX7_bestHouse_61 (lv_at hl 6 rfl) ?_
          refine lv_istore_n (lv' := [(3, .int y5), (6, .int r3), (0, .ref (ad 0)), (1, .int y1), (2, .int y2), (4, .int y4), (5, .int y5)]) hx hb dX7_bestHouse_63 rfl hl (by decide) rfl (fun ls hl => ?_)
          refine lv_iload hx hb dX7_bestHouse_64 (lv_at hl 1 rfl) ?_
          refine lv_istore (lv' := [(4, .int r3), (3, .int y5), (6, .int r3), (0, .ref (ad 0)), (1, .int y1), (2, .int y2), (5, .int y5)]) hx hb dX7_bestHouse_66 hl (by decide) rfl (fun ls hl => ?_)
          exact J_68 (fun hf V hl => ih hf V hl) hf V (lv_sub hl [3, 4, 5, 1, 0, 6] rfl)
  have J_21 : ∀   {y1 : Int32} {y2 : Int32} {s0 : Int32} {H : Heap} {locs : List Loc} {ls : Array Slot}, f_X7_bestHouse_j21 I A y1 y2 s0 = some ro → qw_V D cy Z9 s (Wo cy ad I A G T) H locs → lv_has ls 7 [(0, .ref (ad 0)), (1, .int y1), (2, .int y2)] → W p l e rm_X7_bestHouse s m args below meth c H locs 0 0 Q9 (F0 m 21 ls [.int s0]) := by
    intro y1 y2 s0 H locs ls hf V hl
    unfold f_X7_bestHouse_j21 at hf
    by_cases c_21 : s0 = 0
    · exact qx_thr (rest := []) hst hQ S0 V hl c_21 kg_X7_119 ⟨by decide, by decide⟩ (Nat.le_of_ble_eq_true rfl) ⟨by decide, by decide⟩ dX7_bestHouse_21 (by decide) (by decide) hlocks htab (fun t9 h9 h8 => ⟨rfl, (Option.some.inj (qf_t c_21 hf)).symm, h9, h8⟩)
    replace hf := qf_f c_21 hf
    refine qw_cSR (rest := []) (st1 := []) S0 V hl (c_X7_need l c_21) kg_X7_119 rfl ⟨rfl, rfl⟩ kd_X7_need ⟨by decide, by decide⟩ rfl rfl (Nat.le_of_ble_eq_true rfl) ⟨Nat.zero_le _, Nat.zero_le _⟩ rfl dX7_bestHouse_21 ?_
    refine lv_iconst (v := -1) hx hb dX7_bestHouse_24 (by decide) ?_
    refine lv_istore_n (lv' := [(3, .int (-1 : Int32)), (0, .ref (ad 0)), (1, .int y1), (2, .int y2)]) hx hb dX7_bestHouse_25 rfl hl (by decide) rfl (fun ls hl => ?_)
    refine lv_iconst (v := 0) hx hb dX7_bestHouse_26 (by decide) ?_
    refine lv_istore (lv' := [(4, .int (0 : Int32)), (3, .int (-1 : Int32)), (0, .ref (ad 0)), (1, .int y1), (2, .int y2)]) hx hb dX7_bestHouse_27 hl (by decide) rfl (fun ls hl => ?_)
    refine lv_iconst (v := 0) hx hb dX7_bestHouse_29 (by decide) ?_
    refine lv_istore (lv' := [(5, .int (0 : Int32)), (4, .int (0 : Int32)), (3, .int (-1 : Int32)), (0, .ref (ad 0)), (1, .int y1), (2, .int y2)]) hx hb dX7_bestHouse_30 hl (by decide) rfl (fun ls hl => ?_)
    exact L_32 hf V (lv_sub hl [3, 4, 5, 2, 1, 0] rfl)
  have J_20 : ∀   {y1 : Int32} {y2 : Int32} {H : Heap} {locs : List Loc} {ls : Array Slot}, f_X7_bestHouse_j20 I A y1 y2 = some ro → qw_V D cy Z9 s (Wo cy ad I A G T) H locs → lv_has ls 7 [(0, .ref (ad 0)), (1, .int y1), (2, .int y2)] → W p l e rm_X7_bestHouse s m args below meth c H locs 0 0 Q9 (F0 m 20 ls []) := by
    intro y1 y2 H locs ls hf V hl
    unfold f_X7_bestHouse_j20 at hf
    refine lv_iconst (v := 0) hx hb dX7_bestHouse_20 (by decide) ?_
    exact J_21 hf V (lv_sub hl [0, 1, 2] rfl)
  unfold f_X7_bestHouse at hf
  refine lv_aload_n hx hb dX7_bestHouse_0 rfl (lv_at hl 0 rfl) ?_
  refine lv_iload_n hx hb dX7_bestHouse_1 rfl (lv_at hl 1 rfl) ?_
  obtain ⟨r1, hc_2, hf⟩ := qf_bd_e hf
  refine qw_cVR (rest := []) (st1 := [.int r1]) S0 V hl 0 gO_0 rfl (c_X7_isShop l hc_2) kg_X7_213 rfl ⟨rfl, rfl⟩ kd_X7_isShop ⟨Nat.le_of_ble_eq_true rfl, Nat.le_of_ble_eq_true rfl⟩ rfl rfl (Nat.le_of_ble_eq_true rfl) ⟨Nat.zero_le _, Nat.zero_le _⟩ rfl dX7_bestHouse_2 ?_
  refine lv_if_eq (tgt := 20) hx hb dX7_bestHouse_5 (by decide) (fun c_5 => ?_) (fun c_5 => ?_)
  · replace hf := qf_t c_5 hf
    exact J_20 hf V (lv_sub hl [0, 1, 2] rfl)
  · replace hf := qf_f c_5 hf
    refine lv_aload_n hx hb dX7_bestHouse_8 rfl (lv_at hl 0 rfl) ?_
    refine lv_iload_n hx hb dX7_bestHouse_9 rfl (lv_at hl 2 rfl) ?_
    obtain ⟨r2, hc_10, hf⟩ := qf_bd_e hf
    refine qw_cVR (rest := []) (st1 := [.int r2]) S0 V hl 0 gO_0 rfl (c_X7_isGood l hc_10) kg_X7_138 rfl ⟨rfl, rfl⟩ kd_X7_isGood ⟨Nat.le_of_ble_eq_true rfl, Nat.le_of_ble_eq_true rfl⟩ rfl rfl (Nat.le_of_ble_eq_true rfl) ⟨Nat.zero_le _, Nat.zero_le _⟩ rfl dX7_bestHouse_10 ?_
    refine lv_if_eq (tgt := 20) hx hb dX7_bestHouse_13 (by decide) (fun c_13 => ?_) (fun c_13 => ?_)
    · replace hf := qf_t c_13 hf
      exact J_20 hf V (lv_sub hl [0, 1, 2] rfl)
    · replace hf := qf_f c_13 hf
      refine lv_iconst (v := 1) hx hb dX7_bestHouse_16 (by decide) ?_
      refine lv_goto (tgt := 21) hx hb dX7_bestHouse_17 (by decide) ?_
      exact J_21 hf V (lv_sub hl [0, 1, 2] rfl)
theorem kd_X7_basketCost : yX7_basketCost.cls = RX7 ∧ yX7_basketCost.cls ≠ "java/lang/invoke/MethodHandle" ∧ yX7_basketCost.cls ≠ "java/lang/invoke/VarHandle" ∧ (parseMethodDescriptor yX7_basketCost.desc).map (fun d => d.parameters.length) = some 2 := by decide +kernel
def f_X7_basketCost_l43    : Nat → (Nat → Int32) → (Nat → Nat → Int32) → Int32 → Int32 → Option (Option (Int32 × (Nat → Int32) × (Nat → Nat → Int32)))
  | 0, _, _, _, _ => none
  | n + 1, I, A, y4, y5 =>
  if (I 12) ≤ y5 then (some (some (y4, I, A))) else (qf_ld 4 (A 10) y5 fun x6 =>
    qf_let ((y4 + x6)) fun x7 =>
    qf_let (y5 + (1 : Int32)) fun x8 =>
    f_X7_basketCost_l43  n I A x7 x8)
def f_X7_basketCost_j21 (I : Nat → Int32) (A : Nat → Nat → Int32)  (y1 : Int32) (y2 : Int32) (s0 : Int32) : Option (Option (Int32 × (Nat → Int32) × (Nat → Nat → Int32))) :=
  if s0 = 0 then some none else
  qf_bd3 (f_X7_fillBasket I A y1 y2) fun r3 I4 A5 =>
  if r3 = 0 then (f_X7_basketCost_l43  100000 I4 A5 (0 : Int32) (0 : Int32)) else (some (some (r3, I4, A5)))
def f_X7_basketCost_j20 (I : Nat → Int32) (A : Nat → Nat → Int32)  (y1 : Int32) (y2 : Int32) : Option (Option (Int32 × (Nat → Int32) × (Nat → Nat → Int32))) :=
  f_X7_basketCost_j21 I A y1 y2 (0 : Int32)
def f_X7_basketCost (I : Nat → Int32) (A : Nat → Nat → Int32) (p1 : Int32) (p2 : Int32) : Option (Option (Int32 × (Nat → Int32) × (Nat → Nat → Int32))) :=
  qf_bd (f_X7_isHouse I p1) fun r1 =>
  if r1 = 0 then (f_X7_basketCost_j20 I A p1 p2) else (qf_bd (f_X7_isShop I p2) fun r2 =>
    if r2 = 0 then (f_X7_basketCost_j20 I A p1 p2) else (f_X7_basketCost_j21 I A p1 p2 (1 : Int32)))
abbrev wz_X7_basketCost : List Cond := Cond.code yX7_basketCost cX7_basketCost 6 (some .int) :: qw_big
def rm_X7_basketCost : Room := { frames := 7, cells := 1, slots := 6, locals := 188 }
set_option maxHeartbeats 4000000 in
set_option maxRecDepth 100000 in
theorem c_X7_basketCost (l : Launch) (hst : l.stackTraces = false) {D : va_G} {cy : Nat → ClassId} {ad : Nat → Nat} {I : Nat → Int32} {A : Nat → Nat → Int32} {G : Nat → Int32 × (Nat → Nat → Int32)} {T : Nat} {p1 : Int32} {p2 : Int32} {ro : (Option (Int32 × (Nat → Int32) × (Nat → Nat → Int32)))} {sz : Nat} (hf : f_X7_basketCost I A p1 p2 = some ro) : vx_Met l yX7_basketCost wz_X7_basketCost rm_X7_basketCost (va_Pc [.ref (ad 0), .int p1, .int p2] (qw_Pre D cy (Wo cy ad I A G T) sz)) (qx_Q ro (fun v9 => some (.int v9.1)) (fun v9 => (Wo cy ad v9.2.1 v9.2.2 G T)) D (va_A (Wo cy ad I A G T) sz)) (qx_X ro D (Wo cy ad I A G T) (va_A (Wo cy ad I A G T) sz)) 1 6 (va_A (Wo cy ad I A G T) sz) := by
  refine qx_of (cc := cX7_basketCost) (maxL := 6) (ret := (some .int)) (by decide) (Nat.le_of_ble_eq_true rfl) ?_
  intro p e s m args below meth c ls S0 hr hlocks htab hsz V hl
  have S0 : CallFix p m c cX7_basketCost 6 s args qw_big RX7 := S0
  have hx := S0.1; have hb := S0.2.1; have hown := S0.2.2.2.1; have hts := S0.2.2.2.2
  have hl : lv_has ls 6 [(0, .ref (ad 0)), (1, .int p1), (2, .int p2)] := hl
  generalize va_A (Wo cy ad I A G T) sz = Z9 at V ⊢
  obtain ⟨Q9, hQ⟩ : ∃ q, q = vx_MQ below (qx_Q ro (fun v9 => some (.int v9.1)) (fun v9 => (Wo cy ad v9.2.1 v9.2.2 G T)) D Z9) (qx_X ro D (Wo cy ad I A G T) Z9) args s 1 6 Z9 := ⟨_, rfl⟩
  rw [← hQ]
  clear hsz
  have L_43 : ∀   {n : Nat} {I : Nat → Int32} {A : Nat → Nat → Int32} {y4 : Int32} {y5 : Int32} {H : Heap} {locs : List Loc} {ls : Array Slot}, f_X7_basketCost_l43 n I A y4 y5 = some ro → qw_V D cy Z9 s (Wo cy ad I A G T) H locs → lv_has ls 6 [(0, .ref (ad 0)), (4, .int y4), (5, .int y5)] → W p l e rm_X7_basketCost s m args below meth c H locs 0 0 Q9 (F0 m 43 ls []) := by
    intro n
    induction n with
    | zero => intro I A y4 y5 H locs ls hf V hl; exact qf_no hf
    | succ n ih =>
      intro I A y4 y5 H locs ls hf V hl
      rw [f_X7_basketCost_l43] at hf
      refine lv_iload hx hb dX7_basketCost_43 (lv_at hl 2 rfl) ?_
      refine lv_aload_n hx hb dX7_basketCost_45 rfl (lv_at hl 0 rfl) ?_
      refine gfO_0_5 S0 V kl_X7_40 dX7_basketCost_46 ?_
      refine gfO_19_0 S0 V kl_X7_81 dX7_basketCost_49 ?_
      refine lv_icmp_ge (tgt := 76) hx hb dX7_basketCost_52 (by decide) (fun c_52 => ?_) (fun c_52 => ?_)
      · replace hf := qf_t c_52 hf
        refine lv_iload hx hb dX7_basketCost_76 (lv_at hl 1 rfl) ?_
        have hE := Option.some.inj hf
        exact qx_ireti hQ S0 hr hlocks hE rfl rfl V dX7_basketCost_78
      · replace hf := qf_f c_52 hf
        refine lv_iload hx hb dX7_basketCost_55 (lv_at hl 1 rfl) ?_
        refine lv_aload_n hx hb dX7_basketCost_57 rfl (lv_at hl 0 rfl) ?_
        refine gfO_0_3 S0 V kl_X7_30 dX7_basketCost_58 ?_
        refine gfO_8_2 S0 V kl_X7_283 dX7_basketCost_61 ?_
        refine lv_iload hx hb dX7_basketCost_64 (lv_at hl 2 rfl) ?_
        have h_66 := qf_ld_in hf
        refine alO_18 S0 V h_66 dX7_basketCost_66 ?_
        refine lv_topi (fun x6 e_x6 => ?_)
        replace hf := qf_ld_e e_x6 hf
        refine lv_iadd hx hb dX7_basketCost_67 ?_
        refine lv_topi (fun x7 e_x7 => ?_)
        replace hf := qf_let_e e_x7 hf
        refine lv_istore (lv' := [(4, .int x7), (0, .ref (ad 0)), (5, .int y5)]) hx hb dX7_basketCost_68 hl (by decide) rfl (fun ls hl => ?_)
        obtain ⟨x8, e_x8⟩ : ∃ y : Int32, y = y5 + (1 : Int32) := ⟨_, rfl⟩
        refine lv_iinc (v := x8) (lv' := [(5, .int x8), (4, .int x7), (0, .ref (ad 0))]) hx hb dX7_basketCost_70 hl (k := 2) rfl (by rw [e_x8]; rfl) (by decide) rfl (fun ls hl => ?_)
        replace hf := qf_let_e e_x8 hf
        refine lv_goto (tgt := 43) hx hb dX7_basketCost_73 (by decide) ?_
        exact ih hf V (lv_sub hl [2, 1, 0] rfl)
  have J_21 : ∀   {y1 : Int32} {y2 : Int32} {s0 : Int32} {H : Heap} {locs : List Loc} {ls : Array Slot}, f_X7_basketCost_j21 I A y1 y2 s0 = some ro → qw_V D cy Z9 s (Wo cy ad I A G T) H locs → lv_has ls 6 [(0, .ref (ad 0)), (1, .int y1), (2, .int y2)] → W p l e rm_X7_basketCost s m args below meth c H locs 0 0 Q9 (F0 m 21 ls [.int s0]) := by
    intro y1 y2 s0 H locs ls hf V hl
    unfold f_X7_basketCost_j21 at hf
    by_cases c_21 : s0 = 0
    · exact qx_thr (rest := []) hst hQ S0 V hl c_21 kg_X7_119 ⟨by decide, by decide⟩ (Nat.le_of_ble_eq_true rfl) ⟨by decide, by decide⟩ dX7_basketCost_21 (by decide) (by decide) hlocks htab (fun t9 h9 h8 => ⟨rfl, (Option.some.inj (qf_t c_21 hf)).symm, h9, h8⟩)
    replace hf := qf_f c_21 hf
    refine qw_cSR (rest := []) (st1 := []) S0 V hl (c_X7_need l c_21) kg_X7_119 rfl ⟨rfl, rfl⟩ kd_X7_need ⟨by decide, by decide⟩ rfl rfl (Nat.le_of_ble_eq_true rfl) ⟨Nat.zero_le _, Nat.zero_le _⟩ rfl dX7_basketCost_21 ?_
    refine lv_aload_n hx hb dX7_basketCost_24 rfl (lv_at hl 0 rfl) ?_
    refine lv_iload_n hx hb dX7_basketCost_25 rfl (lv_at hl 1 rfl) ?_
    refine lv_iload_n hx hb dX7_basketCost_26 rfl (lv_at hl 2 rfl) ?_
    obtain ⟨r3, I4, A5, hc_27, hf⟩ := qf_bd3_e hf
    refine qw_cV (rest := []) (st1 := [.int r3]) S0 V hl 0 gO_0 rfl (c_X7_fillBasket l hc_27) kg_X7_271 rfl ⟨rfl, rfl⟩ kd_X7_fillBasket ⟨Nat.le_of_ble_eq_true rfl, Nat.le_of_ble_eq_true rfl⟩ rfl rfl (Nat.le_of_ble_eq_true rfl) ⟨Nat.zero_le _, Nat.zero_le _⟩ rfl dX7_basketCost_27 (fun H locs V => ?_)
    refine lv_istore_n (lv' := [(3, .int r3), (0, .ref (ad 0)), (1, .int y1), (2, .int y2)]) hx hb dX7_basketCost_30 rfl hl (by decide) rfl (fun ls hl => ?_)
    refine lv_iload_n hx hb dX7_basketCost_31 rfl (lv_at hl 0 rfl) ?_
    refine lv_if_eq (tgt := 37) hx hb dX7_basketCost_32 (by decide) (fun c_32 => ?_) (fun c_32 => ?_)
    · replace hf := qf_t c_32 hf
      refine lv_iconst (v := 0) hx hb dX7_basketCost_37 (by decide) ?_
      refine lv_istore (lv' := [(4, .int (0 : Int32)), (3, .int r3), (0, .ref (ad 0)), (1, .int y1), (2, .int y2)]) hx hb dX7_basketCost_38 hl (by decide) rfl (fun ls hl => ?_)
      refine lv_iconst (v := 0) hx hb dX7_basketCost_40 (by decide) ?_
      refine lv_istore (lv' := [(5, .int (0 : Int32)), (4, .int (0 : Int32)), (3, .int r3), (0, .ref (ad 0)), (1, .int y1), (2, .int y2)]) hx hb dX7_basketCost_41 hl (by decide) rfl (fun ls hl => ?_)
      exact L_43 hf V (lv_sub hl [3, 1, 0] rfl)
    · replace hf := qf_f c_32 hf
      refine lv_iload_n hx hb dX7_basketCost_35 rfl (lv_at hl 0 rfl) ?_
      have hE := Option.some.inj hf
      exact qx_ireti hQ S0 hr hlocks hE rfl rfl V dX7_basketCost_36
  have J_20 : ∀   {y1 : Int32} {y2 : Int32} {H : Heap} {locs : List Loc} {ls : Array Slot}, f_X7_basketCost_j20 I A y1 y2 = some ro → qw_V D cy Z9 s (Wo cy ad I A G T) H locs → lv_has ls 6 [(0, .ref (ad 0)), (1, .int y1), (2, .int y2)] → W p l e rm_X7_basketCost s m args below meth c H locs 0 0 Q9 (F0 m 20 ls []) := by
    intro y1 y2 H locs ls hf V hl
    unfold f_X7_basketCost_j20 at hf
    refine lv_iconst (v := 0) hx hb dX7_basketCost_20 (by decide) ?_
    exact J_21 hf V (lv_sub hl [0, 1, 2] rfl)
  unfold f_X7_basketCost at hf
  refine lv_aload_n hx hb dX7_basketCost_0 rfl (lv_at hl 0 rfl) ?_
  refine lv_iload_n hx hb dX7_basketCost_1 rfl (lv_at hl 1 rfl) ?_
  obtain ⟨r1, hc_2, hf⟩ := qf_bd_e hf
  refine qw_cVR (rest := []) (st1 := [.int r1]) S0 V hl 0 gO_0 rfl (c_X7_isHouse l hc_2) kg_X7_150 rfl ⟨rfl, rfl⟩ kd_X7_isHouse ⟨Nat.le_of_ble_eq_true rfl, Nat.le_of_ble_eq_true rfl⟩ rfl rfl (Nat.le_of_ble_eq_true rfl) ⟨Nat.zero_le _, Nat.zero_le _⟩ rfl dX7_basketCost_2 ?_
  refine lv_if_eq (tgt := 20) hx hb dX7_basketCost_5 (by decide) (fun c_5 => ?_) (fun c_5 => ?_)
  · replace hf := qf_t c_5 hf
    exact J_20 hf V (lv_sub hl [0, 1, 2] rfl)
  · replace hf := qf_f c_5 hf
    refine lv_aload_n hx hb dX7_basketCost_8 rfl (lv_at hl 0 rfl) ?_
    refine lv_iload_n hx hb dX7_basketCost_9 rfl (lv_at hl 2 rfl) ?_
    obtain ⟨r2, hc_10, hf⟩ := qf_bd_e hf
    refine qw_cVR (rest := []) (st1 := [.int r2]) S0 V hl 0 gO_0 rfl (c_X7_isShop l hc_10) kg_X7_213 rfl ⟨rfl, rfl⟩ kd_X7_isShop ⟨Nat.le_of_ble_eq_true rfl, Nat.le_of_ble_eq_true rfl⟩ rfl rfl (Nat.le_of_ble_eq_true rfl) ⟨Nat.zero_le _, Nat.zero_le _⟩ rfl dX7_basketCost_10 ?_
    refine lv_if_eq (tgt := 20) hx hb dX7_basketCost_13 (by decide) (fun c_13 => ?_) (fun c_13 => ?_)
    · replace hf := qf_t c_13 hf
      exact J_20 hf V (lv_sub hl [0, 1, 2] rfl)
    · replace hf := qf_f c_13 hf
      refine lv_iconst (v := 1) hx hb dX7_basketCost_16 (by decide) ?_
      refine lv_goto (tgt := 21) hx hb dX7_basketCost_17 (by decide) ?_
      exact J_21 hf V (lv_sub hl [0, 1, 2] rfl)
theorem kd_X7_basketLeft : yX7_basketLeft.cls = RX7 ∧ yX7_basketLeft.cls ≠ "java/lang/invoke/MethodHandle" ∧ yX7_basketLeft.cls ≠ "java/lang/invoke/VarHandle" ∧ (parseMethodDescriptor yX7_basketLeft.desc).map (fun d => d.parameters.length) = some 3 := by decide +kernel
def f_X7_basketLeft_j29 (I : Nat → Int32) (A : Nat → Nat → Int32)  (y1 : Int32) (y2 : Int32) (y3 : Int32) (s0 : Int32) : Option (Option (Int32 × (Nat → Int32) × (Nat → Nat → Int32))) :=
  if s0 = 0 then some none else
  qf_bd3 (f_X7_fillBasket I A y1 y2) fun r4 I5 A6 =>
  if r4 = 0 then (qf_bd (f_X7_holding A6 y1 y3) fun r7 =>
    qf_ld 4 (A6 10) y3 fun x8 =>
    some (some ((r7 - x8), I5, A6))) else (some (some (r4, I5, A6)))
def f_X7_basketLeft_j28 (I : Nat → Int32) (A : Nat → Nat → Int32)  (y1 : Int32) (y2 : Int32) (y3 : Int32) : Option (Option (Int32 × (Nat → Int32) × (Nat → Nat → Int32))) :=
  f_X7_basketLeft_j29 I A y1 y2 y3 (0 : Int32)
def f_X7_basketLeft (I : Nat → Int32) (A : Nat → Nat → Int32) (p1 : Int32) (p2 : Int32) (p3 : Int32) : Option (Option (Int32 × (Nat → Int32) × (Nat → Nat → Int32))) :=
  qf_bd (f_X7_isHouse I p1) fun r1 =>
  if r1 = 0 then (f_X7_basketLeft_j28 I A p1 p2 p3) else (qf_bd (f_X7_isShop I p2) fun r2 =>
    if r2 = 0 then (f_X7_basketLeft_j28 I A p1 p2 p3) else (qf_bd (f_X7_isGroup I p3) fun r3 =>
      if r3 = 0 then (f_X7_basketLeft_j28 I A p1 p2 p3) else (f_X7_basketLeft_j29 I A p1 p2 p3 (1 : Int32))))
abbrev wz_X7_basketLeft : List Cond := Cond.code yX7_basketLeft cX7_basketLeft 5 (some .int) :: qw_big
def rm_X7_basketLeft : Room := { frames := 7, cells := 1, slots := 6, locals := 188 }
set_option maxHeartbeats 4000000 in
set_option maxRecDepth 100000 in
theorem c_X7_basketLeft (l : Launch) (hst : l.stackTraces = false) {D : va_G} {cy : Nat → ClassId} {ad : Nat → Nat} {I : Nat → Int32} {A : Nat → Nat → Int32} {G : Nat → Int32 × (Nat → Nat → Int32)} {T : Nat} {p1 : Int32} {p2 : Int32} {p3 : Int32} {ro : (Option (Int32 × (Nat → Int32) × (Nat → Nat → Int32)))} {sz : Nat} (hf : f_X7_basketLeft I A p1 p2 p3 = some ro) : vx_Met l yX7_basketLeft wz_X7_basketLeft rm_X7_basketLeft (va_Pc [.ref (ad 0), .int p1, .int p2, .int p3] (qw_Pre D cy (Wo cy ad I A G T) sz)) (qx_Q ro (fun v9 => some (.int v9.1)) (fun v9 => (Wo cy ad v9.2.1 v9.2.2 G T)) D (va_A (Wo cy ad I A G T) sz)) (qx_X ro D (Wo cy ad I A G T) (va_A (Wo cy ad I A G T) sz)) 1 6 (va_A (Wo cy ad I A G T) sz) := by
  refine qx_of (cc := cX7_basketLeft) (maxL := 5) (ret := (some .int)) (by decide) (Nat.le_of_ble_eq_true rfl) ?_
  intro p e s m args below meth c ls S0 hr hlocks htab hsz V hl
  have S0 : CallFix p m c cX7_basketLeft 5 s args qw_big RX7 := S0
  have hx := S0.1; have hb := S0.2.1; have hown := S0.2.2.2.1; have hts := S0.2.2.2.2
  have hl : lv_has ls 5 [(0, .ref (ad 0)), (1, .int p1), (2, .int p2), (3, .int p3)] := hl
  generalize va_A (Wo cy ad I A G T) sz = Z9 at V ⊢
  obtain ⟨Q9, hQ⟩ : ∃ q, q = vx_MQ below (qx_Q ro (fun v9 => some (.int v9.1)) (fun v9 => (Wo cy ad v9.2.1 v9.2.2 G T)) D Z9) (qx_X ro D (Wo cy ad I A G T) Z9) args s 1 6 Z9 := ⟨_, rfl⟩
  rw [← hQ]
  clear hsz
  have J_29 : ∀   {y1 : Int32} {y2 : Int32} {y3 : Int32} {s0 : Int32} {H : Heap} {locs : List Loc} {ls : Array Slot}, f_X7_basketLeft_j29 I A y1 y2 y3 s0 = some ro → qw_V D cy Z9 s (Wo cy ad I A G T) H locs → lv_has ls 5 [(0, .ref (ad 0)), (1, .int y1), (2, .int y2), (3, .int y3)] → W p l e rm_X7_basketLeft s m args below meth c H locs 0 0 Q9 (F0 m 29 ls [.int s0]) := by
    intro y1 y2 y3 s0 H locs ls hf V hl
    unfold f_X7_basketLeft_j29 at hf
    by_cases c_29 : s0 = 0
    · exact qx_thr (rest := []) hst hQ S0 V hl c_29 kg_X7_119 ⟨by decide, by decide⟩ (Nat.le_of_ble_eq_true rfl) ⟨by decide, by decide⟩ dX7_basketLeft_29 (by decide) (by decide) hlocks htab (fun t9 h9 h8 => ⟨rfl, (Option.some.inj (qf_t c_29 hf)).symm, h9, h8⟩)
    replace hf := qf_f c_29 hf
    refine qw_cSR (rest := []) (st1 := []) S0 V hl (c_X7_need l c_29) kg_X7_119 rfl ⟨rfl, rfl⟩ kd_X7_need ⟨by decide, by decide⟩ rfl rfl (Nat.le_of_ble_eq_true rfl) ⟨Nat.zero_le _, Nat.zero_le _⟩ rfl dX7_basketLeft_29 ?_
    refine lv_aload_n hx hb dX7_basketLeft_32 rfl (lv_at hl 0 rfl) ?_
    refine lv_iload_n hx hb dX7_basketLeft_33 rfl (lv_at hl 1 rfl) ?_
    refine lv_iload_n hx hb dX7_basketLeft_34 rfl (lv_at hl 2 rfl) ?_
    obtain ⟨r4, I5, A6, hc_35, hf⟩ := qf_bd3_e hf
    refine qw_cV (rest := []) (st1 := [.int r4]) S0 V hl 0 gO_0 rfl (c_X7_fillBasket l hc_35) kg_X7_271 rfl ⟨rfl, rfl⟩ kd_X7_fillBasket ⟨Nat.le_of_ble_eq_true rfl, Nat.le_of_ble_eq_true rfl⟩ rfl rfl (Nat.le_of_ble_eq_true rfl) ⟨Nat.zero_le _, Nat.zero_le _⟩ rfl dX7_basketLeft_35 (fun H locs V => ?_)
    refine lv_istore (lv' := [(4, .int r4), (0, .ref (ad 0)), (1, .int y1), (2, .int y2), (3, .int y3)]) hx hb dX7_basketLeft_38 hl (by decide) rfl (fun ls hl => ?_)
    refine lv_iload hx hb dX7_basketLeft_40 (lv_at hl 0 rfl) ?_
    refine lv_if_eq (tgt := 50) hx hb dX7_basketLeft_42 (by decide) (fun c_42 => ?_) (fun c_42 => ?_)
    · replace hf := qf_t c_42 hf
      refine lv_aload_n hx hb dX7_basketLeft_50 rfl (lv_at hl 1 rfl) ?_
      refine lv_iload_n hx hb dX7_basketLeft_51 rfl (lv_at hl 2 rfl) ?_
      refine lv_iload_n hx hb dX7_basketLeft_52 rfl (lv_at hl 4 rfl) ?_
      obtain ⟨r7, hc_53, hf⟩ := qf_bd_e hf
      refine qw_cVR (rest := []) (st1 := [.int r7]) S0 V hl 0 gO_0 rfl (c_X7_holding l hc_53) kg_X7_162 rfl ⟨rfl, rfl⟩ kd_X7_holding ⟨Nat.le_of_ble_eq_true rfl, Nat.le_of_ble_eq_true rfl⟩ rfl rfl (Nat.le_of_ble_eq_true rfl) ⟨Nat.zero_le _, Nat.zero_le _⟩ rfl dX7_basketLeft_53 ?_
      refine lv_aload_n hx hb dX7_basketLeft_56 rfl (lv_at hl 1 rfl) ?_
      refine gfO_0_3 S0 V kl_X7_30 dX7_basketLeft_57 ?_
      refine gfO_8_2 S0 V kl_X7_283 dX7_basketLeft_60 ?_
      refine lv_iload_n hx hb dX7_basketLeft_63 rfl (lv_at hl 4 rfl) ?_
      have h_64 := qf_ld_in hf
      refine alO_18 S0 V h_64 dX7_basketLeft_64 ?_
      refine lv_topi (fun x8 e_x8 => ?_)
      replace hf := qf_ld_e e_x8 hf
      refine lv_isub hx hb dX7_basketLeft_65 ?_
      have hE := Option.some.inj hf
      exact qx_ireti hQ S0 hr hlocks hE rfl rfl V dX7_basketLeft_66
    · replace hf := qf_f c_42 hf
      refine lv_iload hx hb dX7_basketLeft_45 (lv_at hl 0 rfl) ?_
      refine lv_goto (tgt := 66) hx hb dX7_basketLeft_47 (by decide) ?_
      have hE := Option.some.inj hf
      exact qx_ireti hQ S0 hr hlocks hE rfl rfl V dX7_basketLeft_66
  have J_28 : ∀   {y1 : Int32} {y2 : Int32} {y3 : Int32} {H : Heap} {locs : List Loc} {ls : Array Slot}, f_X7_basketLeft_j28 I A y1 y2 y3 = some ro → qw_V D cy Z9 s (Wo cy ad I A G T) H locs → lv_has ls 5 [(0, .ref (ad 0)), (1, .int y1), (2, .int y2), (3, .int y3)] → W p l e rm_X7_basketLeft s m args below meth c H locs 0 0 Q9 (F0 m 28 ls []) := by
    intro y1 y2 y3 H locs ls hf V hl
    unfold f_X7_basketLeft_j28 at hf
    refine lv_iconst (v := 0) hx hb dX7_basketLeft_28 (by decide) ?_
    exact J_29 hf V (lv_sub hl [0, 1, 2, 3] rfl)
  unfold f_X7_basketLeft at hf
  refine lv_aload_n hx hb dX7_basketLeft_0 rfl (lv_at hl 0 rfl) ?_
  refine lv_iload_n hx hb dX7_basketLeft_1 rfl (lv_at hl 1 rfl) ?_
  obtain ⟨r1, hc_2, hf⟩ := qf_bd_e hf
  refine qw_cVR (rest := []) (st1 := [.int r1]) S0 V hl 0 gO_0 rfl (c_X7_isHouse l hc_2) kg_X7_150 rfl ⟨rfl, rfl⟩ kd_X7_isHouse ⟨Nat.le_of_ble_eq_true rfl, Nat.le_of_ble_eq_true rfl⟩ rfl rfl (Nat.le_of_ble_eq_true rfl) ⟨Nat.zero_le _, Nat.zero_le _⟩ rfl dX7_basketLeft_2 ?_
  refine lv_if_eq (tgt := 28) hx hb dX7_basketLeft_5 (by decide) (fun c_5 => ?_) (fun c_5 => ?_)
  · replace hf := qf_t c_5 hf
    exact J_28 hf V (lv_sub hl [0, 1, 2, 3] rfl)
  · replace hf := qf_f c_5 hf
    refine lv_aload_n hx hb dX7_basketLeft_8 rfl (lv_at hl 0 rfl) ?_
    refine lv_iload_n hx hb dX7_basketLeft_9 rfl (lv_at hl 2 rfl) ?_
    obtain ⟨r2, hc_10, hf⟩ := qf_bd_e hf
    refine qw_cVR (rest := []) (st1 := [.int r2]) S0 V hl 0 gO_0 rfl (c_X7_isShop l hc_10) kg_X7_213 rfl ⟨rfl, rfl⟩ kd_X7_isShop ⟨Nat.le_of_ble_eq_true rfl, Nat.le_of_ble_eq_true rfl⟩ rfl rfl (Nat.le_of_ble_eq_true rfl) ⟨Nat.zero_le _, Nat.zero_le _⟩ rfl dX7_basketLeft_10 ?_
    refine lv_if_eq (tgt := 28) hx hb dX7_basketLeft_13 (by decide) (fun c_13 => ?_) (fun c_13 => ?_)
    · replace hf := qf_t c_13 hf
      exact J_28 hf V (lv_sub hl [0, 1, 2, 3] rfl)
    · replace hf := qf_f c_13 hf
      refine lv_aload_n hx hb dX7_basketLeft_16 rfl (lv_at hl 0 rfl) ?_
      refine lv_iload_n hx hb dX7_basketLeft_17 rfl (lv_at hl 3 rfl) ?_
      obtain ⟨r3, hc_18, hf⟩ := qf_bd_e hf
      refine qw_cVR (rest := []) (st1 := [.int r3]) S0 V hl 0 gO_0 rfl (c_X7_isGroup l hc_18) kg_X7_115 rfl ⟨rfl, rfl⟩ kd_X7_isGroup ⟨Nat.le_of_ble_eq_true rfl, Nat.le_of_ble_eq_true rfl⟩ rfl rfl (Nat.le_of_ble_eq_true rfl) ⟨Nat.zero_le _, Nat.zero_le _⟩ rfl dX7_basketLeft_18 ?_
      refine lv_if_eq (tgt := 28) hx hb dX7_basketLeft_21 (by decide) (fun c_21 => ?_) (fun c_21 => ?_)
      · replace hf := qf_t c_21 hf
        exact J_28 hf V (lv_sub hl [0, 1, 2, 3] rfl)
      · replace hf := qf_f c_21 hf
        refine lv_iconst (v := 1) hx hb dX7_basketLeft_24 (by decide) ?_
        refine lv_goto (tgt := 29) hx hb dX7_basketLeft_25 (by decide) ?_
        exact J_29 hf V (lv_sub hl [0, 1, 2, 3] rfl)
theorem kd_X7_swapChain : yX7_swapChain.cls = RX7 ∧ yX7_swapChain.cls ≠ "java/lang/invoke/MethodHandle" ∧ yX7_swapChain.cls ≠ "java/lang/invoke/VarHandle" ∧ (parseMethodDescriptor yX7_swapChain.desc).map (fun d => d.parameters.length) = some 1 := by decide +kernel
def f_X7_swapChain_l25 (I : Nat → Int32) (A : Nat → Nat → Int32)   : Nat → Int32 → Int32 → Int32 → Option (Option (Int32))
  | 0, _, _, _ => none
  | n + 1, y2, y3, y4 =>
  if (4 : Int32) ≤ y4 then (some (some ((3 : Int32)))) else (if y3 < 0 then (some (some (y4))) else (if (y2 &&& ((1 : Int32) <<< (y3 &&& 31))) = 0 then (qf_let ((y2 ||| ((1 : Int32) <<< (y3 &&& 31)))) fun x4 =>
        qf_ld 4 (A 17) y3 fun x5 =>
        qf_let (y4 + (1 : Int32)) fun x6 =>
        f_X7_swapChain_l25 I A n x4 x5 x6) else (some (some (y4)))))
def f_X7_swapChain (I : Nat → Int32) (A : Nat → Nat → Int32) (p1 : Int32) : Option (Option (Int32)) :=
  qf_bd (f_X7_isGroup I p1) fun r1 =>
  if r1 = 0 then some none else
  qf_let (((1 : Int32) <<< (p1 &&& 31))) fun x2 =>
  qf_ld 4 (A 17) p1 fun x3 =>
  f_X7_swapChain_l25 I A 100000 x2 x3 (0 : Int32)
abbrev wz_X7_swapChain : List Cond := Cond.code yX7_swapChain cX7_swapChain 5 (some .int) :: qw_big
def rm_X7_swapChain : Room := { frames := 7, cells := 1, slots := 6, locals := 102 }
set_option maxHeartbeats 4000000 in
set_option maxRecDepth 100000 in
theorem c_X7_swapChain (l : Launch) (hst : l.stackTraces = false) {D : va_G} {cy : Nat → ClassId} {ad : Nat → Nat} {I : Nat → Int32} {A : Nat → Nat → Int32} {G : Nat → Int32 × (Nat → Nat → Int32)} {T : Nat} {p1 : Int32} {ro : (Option (Int32))} {sz : Nat} (hf : f_X7_swapChain I A p1 = some ro) : vx_Met l yX7_swapChain wz_X7_swapChain rm_X7_swapChain (va_Pc [.ref (ad 0), .int p1] (qw_Pre D cy (Wo cy ad I A G T) sz)) (qx_Q ro (fun v9 => some (.int v9)) (fun _ => (Wo cy ad I A G T)) D (va_A (Wo cy ad I A G T) sz)) (qx_X ro D (Wo cy ad I A G T) (va_A (Wo cy ad I A G T) sz)) 1 6 (va_A (Wo cy ad I A G T) sz) := by
  refine qx_of (cc := cX7_swapChain) (maxL := 5) (ret := (some .int)) (by decide) (Nat.le_of_ble_eq_true rfl) ?_
  intro p e s m args below meth c ls S0 hr hlocks htab hsz V hl
  have S0 : CallFix p m c cX7_swapChain 5 s args qw_big RX7 := S0
  have hx := S0.1; have hb := S0.2.1; have hown := S0.2.2.2.1; have hts := S0.2.2.2.2
  have hl : lv_has ls 5 [(0, .ref (ad 0)), (1, .int p1)] := hl
  generalize va_A (Wo cy ad I A G T) sz = Z9 at V ⊢
  obtain ⟨Q9, hQ⟩ : ∃ q, q = vx_MQ below (qx_Q ro (fun v9 => some (.int v9)) (fun _ => (Wo cy ad I A G T)) D Z9) (qx_X ro D (Wo cy ad I A G T) Z9) args s 1 6 Z9 := ⟨_, rfl⟩
  rw [← hQ]
  clear hsz
  have L_25 : ∀   {n : Nat}  {y2 : Int32} {y3 : Int32} {y4 : Int32} {H : Heap} {locs : List Loc} {ls : Array Slot}, f_X7_swapChain_l25 I A n y2 y3 y4 = some ro → qw_V D cy Z9 s (Wo cy ad I A G T) H locs → lv_has ls 5 [(0, .ref (ad 0)), (2, .int y2), (3, .int y3), (4, .int y4)] → W p l e rm_X7_swapChain s m args below meth c H locs 0 0 Q9 (F0 m 25 ls []) := by
    intro n
    induction n with
    | zero => intro y2 y3 y4 H locs ls hf V hl; exact qf_no hf
    | succ n ih =>
      intro y2 y3 y4 H locs ls hf V hl
      rw [f_X7_swapChain_l25] at hf
      refine lv_iload hx hb dX7_swapChain_25 (lv_at hl 3 rfl) ?_
      refine lv_iconst (v := 4) hx hb dX7_swapChain_27 (by decide) ?_
      refine lv_icmp_ge (tgt := 68) hx hb dX7_swapChain_28 (by decide) (fun c_28 => ?_) (fun c_28 => ?_)
      · replace hf := qf_t c_28 hf
        refine lv_iconst (v := 3) hx hb dX7_swapChain_68 (by decide) ?_
        have hE := Option.some.inj hf
        exact qx_ireti hQ S0 hr hlocks hE rfl rfl V dX7_swapChain_69
      · replace hf := qf_f c_28 hf
        refine lv_iload_n hx hb dX7_swapChain_31 rfl (lv_at hl 2 rfl) ?_
        refine lv_if_lt (tgt := 43) hx hb dX7_swapChain_32 (by decide) (fun c_32 => ?_) (fun c_32 => ?_)
        · replace hf := qf_t c_32 hf
          refine lv_iload hx hb dX7_swapChain_43 (lv_at hl 3 rfl) ?_
          have hE := Option.some.inj hf
          exact qx_ireti hQ S0 hr hlocks hE rfl rfl V dX7_swapChain_45
        · replace hf := qf_f c_32 hf
          refine lv_iload_n hx hb dX7_swapChain_35 rfl (lv_at hl 1 rfl) ?_
          refine lv_iconst (v := 1) hx hb dX7_swapChain_36 (by decide) ?_
          refine lv_iload_n hx hb dX7_swapChain_37 rfl (lv_at hl 2 rfl) ?_
          refine lv_ishl hx hb dX7_swapChain_38 ?_
          refine lv_iand hx hb dX7_swapChain_39 ?_
          refine lv_if_eq (tgt := 46) hx hb dX7_swapChain_40 (by decide) (fun c_40 => ?_) (fun c_40 => ?_)
          · replace hf := qf_t c_40 hf
            refine lv_iload_n hx hb dX7_swapChain_46 rfl (lv_at hl 1 rfl) ?_
            refine lv_iconst (v := 1) hx hb dX7_swapChain_47 (by decide) ?_
            refine lv_iload_n hx hb dX7_swapChain_48 rfl (lv_at hl 2 rfl) ?_
            refine lv_ishl hx hb dX7_swapChain_49 ?_
            refine lv_ior hx hb dX7_swapChain_50 ?_
            refine lv_topi (fun x4 e_x4 => ?_)
            replace hf := qf_let_e e_x4 hf
            refine lv_istore_n (lv' := [(2, .int x4), (0, .ref (ad 0)), (3, .int y3), (4, .int y4)]) hx hb dX7_swapChain_51 rfl hl (by decide) rfl (fun ls hl => ?_)
            refine lv_aload_n hx hb dX7_swapChain_52 rfl (lv_at hl 1 rfl) ?_
            refine gfO_0_5 S0 V kl_X7_40 dX7_swapChain_53 ?_
            refine gfO_19_10 S0 V kl_X7_132 dX7_swapChain_56 ?_
            refine lv_iload_n hx hb dX7_swapChain_59 rfl (lv_at hl 2 rfl) ?_
            have h_60 := qf_ld_in hf
            refine alO_26 S0 V h_60 dX7_swapChain_60 ?_
            refine lv_topi (fun x5 e_x5 => ?_)
            replace hf := qf_ld_e e_x5 hf
            refine lv_istore_n (lv' := [(3, .int x5), (2, .int x4), (0, .ref (ad 0)), (4, .int y4)]) hx hb dX7_swapChain_61 rfl hl (by decide) rfl (fun ls hl => ?_)
            obtain ⟨x6, e_x6⟩ : ∃ y : Int32, y = y4 + (1 : Int32) := ⟨_, rfl⟩
            refine lv_iinc (v := x6) (lv' := [(4, .int x6), (3, .int x5), (2, .int x4), (0, .ref (ad 0))]) hx hb dX7_swapChain_62 hl (k := 3) rfl (by rw [e_x6]; rfl) (by decide) rfl (fun ls hl => ?_)
            replace hf := qf_let_e e_x6 hf
            refine lv_goto (tgt := 25) hx hb dX7_swapChain_65 (by decide) ?_
            exact ih hf V (lv_sub hl [3, 2, 1, 0] rfl)
          · replace hf := qf_f c_40 hf
            refine lv_iload hx hb dX7_swapChain_43 (lv_at hl 3 rfl) ?_
            have hE := Option.some.inj hf
            exact qx_ireti hQ S0 hr hlocks hE rfl rfl V dX7_swapChain_45
  unfold f_X7_swapChain at hf
  refine lv_aload_n hx hb dX7_swapChain_0 rfl (lv_at hl 0 rfl) ?_
  refine lv_iload_n hx hb dX7_swapChain_1 rfl (lv_at hl 1 rfl) ?_
  obtain ⟨r1, hc_2, hf⟩ := qf_bd_e hf
  refine qw_cVR (rest := []) (st1 := [.int r1]) S0 V hl 0 gO_0 rfl (c_X7_isGroup l hc_2) kg_X7_115 rfl ⟨rfl, rfl⟩ kd_X7_isGroup ⟨Nat.le_of_ble_eq_true rfl, Nat.le_of_ble_eq_true rfl⟩ rfl rfl (Nat.le_of_ble_eq_true rfl) ⟨Nat.zero_le _, Nat.zero_le _⟩ rfl dX7_swapChain_2 ?_
  by_cases c_5 : r1 = 0
  · exact qx_thr (rest := []) hst hQ S0 V hl c_5 kg_X7_119 ⟨by decide, by decide⟩ (Nat.le_of_ble_eq_true rfl) ⟨by decide, by decide⟩ dX7_swapChain_5 (by decide) (by decide) hlocks htab (fun t9 h9 h8 => ⟨rfl, (Option.some.inj (qf_t c_5 hf)).symm, h9, h8⟩)
  replace hf := qf_f c_5 hf
  refine qw_cSR (rest := []) (st1 := []) S0 V hl (c_X7_need l c_5) kg_X7_119 rfl ⟨rfl, rfl⟩ kd_X7_need ⟨by decide, by decide⟩ rfl rfl (Nat.le_of_ble_eq_true rfl) ⟨Nat.zero_le _, Nat.zero_le _⟩ rfl dX7_swapChain_5 ?_
  refine lv_iconst (v := 1) hx hb dX7_swapChain_8 (by decide) ?_
  refine lv_iload_n hx hb dX7_swapChain_9 rfl (lv_at hl 1 rfl) ?_
  refine lv_ishl hx hb dX7_swapChain_10 ?_
  refine lv_topi (fun x2 e_x2 => ?_)
  replace hf := qf_let_e e_x2 hf
  refine lv_istore_n (lv' := [(2, .int x2), (0, .ref (ad 0)), (1, .int p1)]) hx hb dX7_swapChain_11 rfl hl (by decide) rfl (fun ls hl => ?_)
  refine lv_aload_n hx hb dX7_swapChain_12 rfl (lv_at hl 1 rfl) ?_
  refine gfO_0_5 S0 V kl_X7_40 dX7_swapChain_13 ?_
  refine gfO_19_10 S0 V kl_X7_132 dX7_swapChain_16 ?_
  refine lv_iload_n hx hb dX7_swapChain_19 rfl (lv_at hl 2 rfl) ?_
  have h_20 := qf_ld_in hf
  refine alO_26 S0 V h_20 dX7_swapChain_20 ?_
  refine lv_topi (fun x3 e_x3 => ?_)
  replace hf := qf_ld_e e_x3 hf
  refine lv_istore_n (lv' := [(3, .int x3), (2, .int x2), (0, .ref (ad 0)), (1, .int p1)]) hx hb dX7_swapChain_21 rfl hl (by decide) rfl (fun ls hl => ?_)
  refine lv_iconst (v := 0) hx hb dX7_swapChain_22 (by decide) ?_
  refine lv_istore (lv' := [(4, .int (0 : Int32)), (3, .int x3), (2, .int x2), (0, .ref (ad 0)), (1, .int p1)]) hx hb dX7_swapChain_23 hl (by decide) rfl (fun ls hl => ?_)
  exact L_25 hf V (lv_sub hl [3, 2, 1, 0] rfl)
theorem kd_X7_mostDeliverable : yX7_mostDeliverable.cls = RX7 ∧ yX7_mostDeliverable.cls ≠ "java/lang/invoke/MethodHandle" ∧ yX7_mostDeliverable.cls ≠ "java/lang/invoke/VarHandle" ∧ (parseMethodDescriptor yX7_mostDeliverable.desc).map (fun d => d.parameters.length) = some 2 := by decide +kernel
def f_X7_mostDeliverable_j21 (I : Nat → Int32) (A : Nat → Nat → Int32)  (y1 : Int32) (y2 : Int32) (s0 : Int32) : Option (Option (Int32)) :=
  if s0 = 0 then some none else
  qf_ld 6 (A 19) y2 fun x3 =>
  qf_bd (f_X5_entry y1 x3) fun r4 =>
  qf_ld 16 (A 40) r4 fun x5 =>
  qf_bd (f_X5_shelf y1 y2) fun r6 =>
  qf_ld 24 (A 39) r6 fun x7 =>
  qf_let (((99999 : Int32) - x7)) fun x8 =>
  qf_ld 6 (A 20) y2 fun x9 =>
  qf_bd (f_X7_quotient x5 x9) fun r10 =>
  qf_let ((if x8 < r10 then x8 else r10)) fun x11 =>
  qf_let ((if (9999 : Int32) < x11 then (9999 : Int32) else x11)) fun x12 =>
  some (some (x12))
def f_X7_mostDeliverable_j20 (I : Nat → Int32) (A : Nat → Nat → Int32)  (y1 : Int32) (y2 : Int32) : Option (Option (Int32)) :=
  f_X7_mostDeliverable_j21 I A y1 y2 (0 : Int32)
def f_X7_mostDeliverable (I : Nat → Int32) (A : Nat → Nat → Int32) (p1 : Int32) (p2 : Int32) : Option (Option (Int32)) :=
  qf_bd (f_X7_isShop I p1) fun r1 =>
  if r1 = 0 then (f_X7_mostDeliverable_j20 I A p1 p2) else (qf_bd (f_X7_isGood I p2) fun r2 =>
    if r2 = 0 then (f_X7_mostDeliverable_j20 I A p1 p2) else (f_X7_mostDeliverable_j21 I A p1 p2 (1 : Int32)))
abbrev wz_X7_mostDeliverable : List Cond := Cond.code yX7_mostDeliverable cX7_mostDeliverable 5 (some .int) :: qw_big
def rm_X7_mostDeliverable : Room := { frames := 7, cells := 1, slots := 6, locals := 102 }
set_option maxHeartbeats 4000000 in
set_option maxRecDepth 100000 in
theorem c_X7_mostDeliverable (l : Launch) (hst : l.stackTraces = false) {D : va_G} {cy : Nat → ClassId} {ad : Nat → Nat} {I : Nat → Int32} {A : Nat → Nat → Int32} {G : Nat → Int32 × (Nat → Nat → Int32)} {T : Nat} {p1 : Int32} {p2 : Int32} {ro : (Option (Int32))} {sz : Nat} (hf : f_X7_mostDeliverable I A p1 p2 = some ro) : vx_Met l yX7_mostDeliverable wz_X7_mostDeliverable rm_X7_mostDeliverable (va_Pc [.ref (ad 0), .int p1, .int p2] (qw_Pre D cy (Wo cy ad I A G T) sz)) (qx_Q ro (fun v9 => some (.int v9)) (fun _ => (Wo cy ad I A G T)) D (va_A (Wo cy ad I A G T) sz)) (qx_X ro D (Wo cy ad I A G T) (va_A (Wo cy ad I A G T) sz)) 1 6 (va_A (Wo cy ad I A G T) sz) := by
  refine qx_of (cc := cX7_mostDeliverable) (maxL := 5) (ret := (some .int)) (by decide) (Nat.le_of_ble_eq_true rfl) ?_
  intro p e s m args below meth c ls S0 hr hlocks htab hsz V hl
  have S0 : CallFix p m c cX7_mostDeliverable 5 s args qw_big RX7 := S0
  have hx := S0.1; have hb := S0.2.1; have hown := S0.2.2.2.1; have hts := S0.2.2.2.2
  have hl : lv_has ls 5 [(0, .ref (ad 0)), (1, .int p1), (2, .int p2)] := hl
  generalize va_A (Wo cy ad I A G T) sz = Z9 at V ⊢
  obtain ⟨Q9, hQ⟩ : ∃ q, q = vx_MQ below (qx_Q ro (fun v9 => some (.int v9)) (fun _ => (Wo cy ad I A G T)) D Z9) (qx_X ro D (Wo cy ad I A G T) Z9) args s 1 6 Z9 := ⟨_, rfl⟩
  rw [← hQ]
  clear hsz
  have J_21 : ∀   {y1 : Int32} {y2 : Int32} {s0 : Int32} {H : Heap} {locs : List Loc} {ls : Array Slot}, f_X7_mostDeliverable_j21 I A y1 y2 s0 = some ro → qw_V D cy Z9 s (Wo cy ad I A G T) H locs → lv_has ls 5 [(0, .ref (ad 0)), (1, .int y1), (2, .int y2)] → W p l e rm_X7_mostDeliverable s m args below meth c H locs 0 0 Q9 (F0 m 21 ls [.int s0]) := by
    intro y1 y2 s0 H locs ls hf V hl
    unfold f_X7_mostDeliverable_j21 at hf
    by_cases c_21 : s0 = 0
    · exact qx_thr (rest := []) hst hQ S0 V hl c_21 kg_X7_119 ⟨by decide, by decide⟩ (Nat.le_of_ble_eq_true rfl) ⟨by decide, by decide⟩ dX7_mostDeliverable_21 (by decide) (by decide) hlocks htab (fun t9 h9 h8 => ⟨rfl, (Option.some.inj (qf_t c_21 hf)).symm, h9, h8⟩)
    replace hf := qf_f c_21 hf
    refine qw_cSR (rest := []) (st1 := []) S0 V hl (c_X7_need l c_21) kg_X7_119 rfl ⟨rfl, rfl⟩ kd_X7_need ⟨by decide, by decide⟩ rfl rfl (Nat.le_of_ble_eq_true rfl) ⟨Nat.zero_le _, Nat.zero_le _⟩ rfl dX7_mostDeliverable_21 ?_
    refine lv_aload_n hx hb dX7_mostDeliverable_24 rfl (lv_at hl 0 rfl) ?_
    refine gfO_0_6 S0 V kl_X7_47 dX7_mostDeliverable_25 ?_
    refine gfO_43_8 S0 V kl_X7_222 dX7_mostDeliverable_28 ?_
    refine lv_iload_n hx hb dX7_mostDeliverable_31 rfl (lv_at hl 1 rfl) ?_
    refine lv_aload_n hx hb dX7_mostDeliverable_32 rfl (lv_at hl 0 rfl) ?_
    refine gfO_0_5 S0 V kl_X7_40 dX7_mostDeliverable_33 ?_
    refine gfO_19_12 S0 V kl_X7_141 dX7_mostDeliverable_36 ?_
    refine lv_iload_n hx hb dX7_mostDeliverable_39 rfl (lv_at hl 2 rfl) ?_
    have h_40 := qf_ld_in hf
    refine alO_28 S0 V h_40 dX7_mostDeliverable_40 ?_
    refine lv_topi (fun x3 e_x3 => ?_)
    replace hf := qf_ld_e e_x3 hf
    obtain ⟨r4, hc_41, hf⟩ := qf_bd_e hf
    refine qw_cSR (rest := [.ref (ad 51)]) (st1 := [.int r4, .ref (ad 51)]) S0 V hl (c_X5_entry l hc_41) kg_X7_225 rfl ⟨rfl, rfl⟩ kd_X5_entry ⟨Nat.le_of_ble_eq_true rfl, Nat.le_of_ble_eq_true rfl⟩ rfl rfl (Nat.le_of_ble_eq_true rfl) ⟨Nat.zero_le _, Nat.zero_le _⟩ rfl dX7_mostDeliverable_41 ?_
    have h_44 := qf_ld_in hf
    refine alO_51 S0 V h_44 dX7_mostDeliverable_44 ?_
    refine lv_topi (fun x5 e_x5 => ?_)
    replace hf := qf_ld_e e_x5 hf
    refine lv_istore_n (lv' := [(3, .int x5), (0, .ref (ad 0)), (1, .int y1), (2, .int y2)]) hx hb dX7_mostDeliverable_45 rfl hl (by decide) rfl (fun ls hl => ?_)
    refine lv_ldcw (v := 99999) hx hb hown (hts _ kct_X7_286) dX7_mostDeliverable_46 ?_
    refine lv_aload_n hx hb dX7_mostDeliverable_49 rfl (lv_at hl 1 rfl) ?_
    refine gfO_0_6 S0 V kl_X7_47 dX7_mostDeliverable_50 ?_
    refine gfO_43_7 S0 V kl_X7_216 dX7_mostDeliverable_53 ?_
    refine lv_iload_n hx hb dX7_mostDeliverable_56 rfl (lv_at hl 2 rfl) ?_
    refine lv_iload_n hx hb dX7_mostDeliverable_57 rfl (lv_at hl 3 rfl) ?_
    obtain ⟨r6, hc_58, hf⟩ := qf_bd_e hf
    refine qw_cSR (rest := [.ref (ad 50), .int (99999 : Int32)]) (st1 := [.int r6, .ref (ad 50), .int (99999 : Int32)]) S0 V hl (c_X5_shelf l hc_58) kg_X7_219 rfl ⟨rfl, rfl⟩ kd_X5_shelf ⟨Nat.le_of_ble_eq_true rfl, Nat.le_of_ble_eq_true rfl⟩ rfl rfl (Nat.le_of_ble_eq_true rfl) ⟨Nat.zero_le _, Nat.zero_le _⟩ rfl dX7_mostDeliverable_58 ?_
    have h_61 := qf_ld_in hf
    refine alO_50 S0 V h_61 dX7_mostDeliverable_61 ?_
    refine lv_topi (fun x7 e_x7 => ?_)
    replace hf := qf_ld_e e_x7 hf
    refine lv_isub hx hb dX7_mostDeliverable_62 ?_
    refine lv_topi (fun x8 e_x8 => ?_)
    replace hf := qf_let_e e_x8 hf
    refine lv_istore (lv' := [(4, .int x8), (3, .int x5), (0, .ref (ad 0)), (1, .int y1), (2, .int y2)]) hx hb dX7_mostDeliverable_63 hl (by decide) rfl (fun ls hl => ?_)
    refine lv_iload_n hx hb dX7_mostDeliverable_65 rfl (lv_at hl 1 rfl) ?_
    refine lv_aload_n hx hb dX7_mostDeliverable_66 rfl (lv_at hl 2 rfl) ?_
    refine gfO_0_5 S0 V kl_X7_40 dX7_mostDeliverable_67 ?_
    refine gfO_19_13 S0 V kl_X7_144 dX7_mostDeliverable_70 ?_
    refine lv_iload_n hx hb dX7_mostDeliverable_73 rfl (lv_at hl 4 rfl) ?_
    have h_74 := qf_ld_in hf
    refine alO_29 S0 V h_74 dX7_mostDeliverable_74 ?_
    refine lv_topi (fun x9 e_x9 => ?_)
    replace hf := qf_ld_e e_x9 hf
    obtain ⟨r10, hc_75, hf⟩ := qf_bd_e hf
    refine qw_cSR (rest := []) (st1 := [.int r10]) S0 V hl (c_X7_quotient l hc_75) kg_X7_265 rfl ⟨rfl, rfl⟩ kd_X7_quotient ⟨Nat.le_of_ble_eq_true rfl, Nat.le_of_ble_eq_true rfl⟩ rfl rfl (Nat.le_of_ble_eq_true rfl) ⟨Nat.zero_le _, Nat.zero_le _⟩ rfl dX7_mostDeliverable_75 ?_
    refine lv_iload hx hb dX7_mostDeliverable_78 (lv_at hl 0 rfl) ?_
    refine qw_min S0 hl.1 kml_X7_201 (Nat.le_of_ble_eq_true rfl) (Nat.le_of_ble_eq_true rfl) (Nat.zero_le _) (Nat.zero_le _) dX7_mostDeliverable_80 ?_
    refine lv_topi (fun x11 e_x11 => ?_)
    replace hf := qf_let_e e_x11 hf
    refine lv_sipush (v := 9999) hx hb dX7_mostDeliverable_83 (by decide) ?_
    refine qw_min S0 hl.1 kml_X7_201 (Nat.le_of_ble_eq_true rfl) (Nat.le_of_ble_eq_true rfl) (Nat.zero_le _) (Nat.zero_le _) dX7_mostDeliverable_86 ?_
    refine lv_topi (fun x12 e_x12 => ?_)
    replace hf := qf_let_e e_x12 hf
    have hE := Option.some.inj hf
    exact qx_ireti hQ S0 hr hlocks hE rfl rfl V dX7_mostDeliverable_89
  have J_20 : ∀   {y1 : Int32} {y2 : Int32} {H : Heap} {locs : List Loc} {ls : Array Slot}, f_X7_mostDeliverable_j20 I A y1 y2 = some ro → qw_V D cy Z9 s (Wo cy ad I A G T) H locs → lv_has ls 5 [(0, .ref (ad 0)), (1, .int y1), (2, .int y2)] → W p l e rm_X7_mostDeliverable s m args below meth c H locs 0 0 Q9 (F0 m 20 ls []) := by
    intro y1 y2 H locs ls hf V hl
    unfold f_X7_mostDeliverable_j20 at hf
    refine lv_iconst (v := 0) hx hb dX7_mostDeliverable_20 (by decide) ?_
    exact J_21 hf V (lv_sub hl [0, 1, 2] rfl)
  unfold f_X7_mostDeliverable at hf
  refine lv_aload_n hx hb dX7_mostDeliverable_0 rfl (lv_at hl 0 rfl) ?_
  refine lv_iload_n hx hb dX7_mostDeliverable_1 rfl (lv_at hl 1 rfl) ?_
  obtain ⟨r1, hc_2, hf⟩ := qf_bd_e hf
  refine qw_cVR (rest := []) (st1 := [.int r1]) S0 V hl 0 gO_0 rfl (c_X7_isShop l hc_2) kg_X7_213 rfl ⟨rfl, rfl⟩ kd_X7_isShop ⟨Nat.le_of_ble_eq_true rfl, Nat.le_of_ble_eq_true rfl⟩ rfl rfl (Nat.le_of_ble_eq_true rfl) ⟨Nat.zero_le _, Nat.zero_le _⟩ rfl dX7_mostDeliverable_2 ?_
  refine lv_if_eq (tgt := 20) hx hb dX7_mostDeliverable_5 (by decide) (fun c_5 => ?_) (fun c_5 => ?_)
  · replace hf := qf_t c_5 hf
    exact J_20 hf V (lv_sub hl [0, 1, 2] rfl)
  · replace hf := qf_f c_5 hf
    refine lv_aload_n hx hb dX7_mostDeliverable_8 rfl (lv_at hl 0 rfl) ?_
    refine lv_iload_n hx hb dX7_mostDeliverable_9 rfl (lv_at hl 2 rfl) ?_
    obtain ⟨r2, hc_10, hf⟩ := qf_bd_e hf
    refine qw_cVR (rest := []) (st1 := [.int r2]) S0 V hl 0 gO_0 rfl (c_X7_isGood l hc_10) kg_X7_138 rfl ⟨rfl, rfl⟩ kd_X7_isGood ⟨Nat.le_of_ble_eq_true rfl, Nat.le_of_ble_eq_true rfl⟩ rfl rfl (Nat.le_of_ble_eq_true rfl) ⟨Nat.zero_le _, Nat.zero_le _⟩ rfl dX7_mostDeliverable_10 ?_
    refine lv_if_eq (tgt := 20) hx hb dX7_mostDeliverable_13 (by decide) (fun c_13 => ?_) (fun c_13 => ?_)
    · replace hf := qf_t c_13 hf
      exact J_20 hf V (lv_sub hl [0, 1, 2] rfl)
    · replace hf := qf_f c_13 hf
      refine lv_iconst (v := 1) hx hb dX7_mostDeliverable_16 (by decide) ?_
      refine lv_goto (tgt := 21) hx hb dX7_mostDeliverable_17 (by decide) ?_
      exact J_21 hf V (lv_sub hl [0, 1, 2] rfl)
theorem kd_X7_percentEach : yX7_percentEach.cls = RX7 ∧ yX7_percentEach.cls ≠ "java/lang/invoke/MethodHandle" ∧ yX7_percentEach.cls ≠ "java/lang/invoke/VarHandle" ∧ (parseMethodDescriptor yX7_percentEach.desc).map (fun d => d.parameters.length) = some 2 := by decide +kernel
def f_X7_percentEach (A : Nat → Nat → Int32) (p1 : Int32) (p2 : Int32) : Option (Int32) :=
  qf_bd (f_X7_holding A p1 p2) fun r1 =>
  qf_ld 6 (A 34) p1 fun x2 =>
  qf_bd (f_X7_quotient ((100 : Int32) * r1) x2) fun r3 =>
  some (r3)
abbrev wz_X7_percentEach : List Cond := Cond.code yX7_percentEach cX7_percentEach 3 (some .int) :: qw_big
def rm_X7_percentEach : Room := { frames := 2, cells := 0, slots := 0, locals := 45 }
set_option maxHeartbeats 4000000 in
set_option maxRecDepth 100000 in
theorem c_X7_percentEach (l : Launch) {D : va_G} {cy : Nat → ClassId} {ad : Nat → Nat} {I : Nat → Int32} {A : Nat → Nat → Int32} {G : Nat → Int32 × (Nat → Nat → Int32)} {T : Nat} {p1 : Int32} {p2 : Int32} {rv : Int32} {sz : Nat} (hf : f_X7_percentEach A p1 p2 = some (rv)) : Met l yX7_percentEach wz_X7_percentEach rm_X7_percentEach (va_Pc [.ref (ad 0), .int p1, .int p2] (qw_Pre D cy (Wo cy ad I A G T) sz)) (qw_R (some (.int rv))) 0 0 (fun _ => False) := by
  refine qw_of (cc := cX7_percentEach) (maxL := 3) (ret := (some .int)) (by decide) (Nat.le_of_ble_eq_true rfl) ?_
  intro p e s m args below meth c ls S0 hr hlocks hsz V hl
  have S0 : CallFix p m c cX7_percentEach 3 s args qw_big RX7 := S0
  have hx := S0.1; have hb := S0.2.1; have hown := S0.2.2.2.1; have hts := S0.2.2.2.2
  have hl : lv_has ls 3 [(0, .ref (ad 0)), (1, .int p1), (2, .int p2)] := hl
  obtain ⟨Q9, hQ⟩ : ∃ q, q = MQ below (qw_R (some (.int rv))) args s 0 0 (fun _ => False) := ⟨_, rfl⟩
  rw [← hQ]
  generalize va_A (Wo cy ad I A G T) sz = Z9 at V
  unfold f_X7_percentEach at hf
  refine lv_bipush (v := 100) hx hb dX7_percentEach_0 (by decide) ?_
  refine lv_aload_n hx hb dX7_percentEach_2 rfl (lv_at hl 0 rfl) ?_
  refine lv_iload_n hx hb dX7_percentEach_3 rfl (lv_at hl 1 rfl) ?_
  refine lv_iload_n hx hb dX7_percentEach_4 rfl (lv_at hl 2 rfl) ?_
  obtain ⟨r1, hc_5, hf⟩ := qf_bd_e hf
  refine qw_cVR (rest := [.int (100 : Int32)]) (st1 := [.int r1, .int (100 : Int32)]) S0 V hl 0 gO_0 rfl (c_X7_holding l hc_5) kg_X7_162 rfl ⟨rfl, rfl⟩ kd_X7_holding ⟨Nat.le_of_ble_eq_true rfl, Nat.le_of_ble_eq_true rfl⟩ rfl rfl (Nat.le_of_ble_eq_true rfl) ⟨Nat.zero_le _, Nat.zero_le _⟩ rfl dX7_percentEach_5 ?_
  refine lv_imul hx hb dX7_percentEach_8 ?_
  refine lv_aload_n hx hb dX7_percentEach_9 rfl (lv_at hl 0 rfl) ?_
  refine gfO_0_6 S0 V kl_X7_47 dX7_percentEach_10 ?_
  refine gfO_43_2 S0 V kl_X7_153 dX7_percentEach_13 ?_
  refine lv_iload_n hx hb dX7_percentEach_16 rfl (lv_at hl 1 rfl) ?_
  have h_17 := qf_ld_in hf
  refine alO_45 S0 V h_17 dX7_percentEach_17 ?_
  refine lv_topi (fun x2 e_x2 => ?_)
  replace hf := qf_ld_e e_x2 hf
  obtain ⟨r3, hc_18, hf⟩ := qf_bd_e hf
  refine qw_cSR (rest := []) (st1 := [.int r3]) S0 V hl (c_X7_quotient l hc_18) kg_X7_265 rfl ⟨rfl, rfl⟩ kd_X7_quotient ⟨Nat.le_of_ble_eq_true rfl, Nat.le_of_ble_eq_true rfl⟩ rfl rfl (Nat.le_of_ble_eq_true rfl) ⟨Nat.zero_le _, Nat.zero_le _⟩ rfl dX7_percentEach_18 ?_
  have hE := Option.some.inj hf
  exact qw_iretR S0 hr hlocks hQ hE dX7_percentEach_21
theorem kd_X7_spreadOf : yX7_spreadOf.cls = RX7 ∧ yX7_spreadOf.cls ≠ "java/lang/invoke/MethodHandle" ∧ yX7_spreadOf.cls ≠ "java/lang/invoke/VarHandle" ∧ (parseMethodDescriptor yX7_spreadOf.desc).map (fun d => d.parameters.length) = some 1 := by decide +kernel
def f_X7_spreadOf_l32 (I : Nat → Int32) (A : Nat → Nat → Int32)  (y1 : Int32) : Nat → Int32 → Int32 → Int32 → Option (Option (Int32))
  | 0, _, _, _ => none
  | n + 1, y2, y3, y4 =>
  if (I 14) ≤ y4 then (some (some ((y3 - y2)))) else (qf_bd (f_X7_percentEach A y4 y1) fun r3 =>
    qf_let ((if r3 < y2 then r3 else y2)) fun x4 =>
    qf_let ((if y3 < r3 then r3 else y3)) fun x5 =>
    qf_let (y4 + (1 : Int32)) fun x6 =>
    f_X7_spreadOf_l32 I A y1 n x4 x5 x6)
def f_X7_spreadOf (I : Nat → Int32) (A : Nat → Nat → Int32) (p1 : Int32) : Option (Option (Int32)) :=
  qf_bd (f_X7_isGroup I p1) fun r1 =>
  if r1 = 0 then some none else
  if (I 14) = 0 then (some (some ((0 : Int32)))) else (qf_bd (f_X7_percentEach A (0 : Int32) p1) fun r2 =>
    f_X7_spreadOf_l32 I A p1 100000 r2 r2 (1 : Int32))
abbrev wz_X7_spreadOf : List Cond := Cond.code yX7_spreadOf cX7_spreadOf 6 (some .int) :: qw_big
def rm_X7_spreadOf : Room := { frames := 7, cells := 1, slots := 6, locals := 102 }
set_option maxHeartbeats 4000000 in
set_option maxRecDepth 100000 in
theorem c_X7_spreadOf (l : Launch) (hst : l.stackTraces = false) {D : va_G} {cy : Nat → ClassId} {ad : Nat → Nat} {I : Nat → Int32} {A : Nat → Nat → Int32} {G : Nat → Int32 × (Nat → Nat → Int32)} {T : Nat} {p1 : Int32} {ro : (Option (Int32))} {sz : Nat} (hf : f_X7_spreadOf I A p1 = some ro) : vx_Met l yX7_spreadOf wz_X7_spreadOf rm_X7_spreadOf (va_Pc [.ref (ad 0), .int p1] (qw_Pre D cy (Wo cy ad I A G T) sz)) (qx_Q ro (fun v9 => some (.int v9)) (fun _ => (Wo cy ad I A G T)) D (va_A (Wo cy ad I A G T) sz)) (qx_X ro D (Wo cy ad I A G T) (va_A (Wo cy ad I A G T) sz)) 1 6 (va_A (Wo cy ad I A G T) sz) := by
  refine qx_of (cc := cX7_spreadOf) (maxL := 6) (ret := (some .int)) (by decide) (Nat.le_of_ble_eq_true rfl) ?_
  intro p e s m args below meth c ls S0 hr hlocks htab hsz V hl
  have S0 : CallFix p m c cX7_spreadOf 6 s args qw_big RX7 := S0
  have hx := S0.1; have hb := S0.2.1; have hown := S0.2.2.2.1; have hts := S0.2.2.2.2
  have hl : lv_has ls 6 [(0, .ref (ad 0)), (1, .int p1)] := hl
  generalize va_A (Wo cy ad I A G T) sz = Z9 at V ⊢
  obtain ⟨Q9, hQ⟩ : ∃ q, q = vx_MQ below (qx_Q ro (fun v9 => some (.int v9)) (fun _ => (Wo cy ad I A G T)) D Z9) (qx_X ro D (Wo cy ad I A G T) Z9) args s 1 6 Z9 := ⟨_, rfl⟩
  rw [← hQ]
  clear hsz
  have L_32 : ∀  {y1 : Int32} {n : Nat}  {y2 : Int32} {y3 : Int32} {y4 : Int32} {H : Heap} {locs : List Loc} {ls : Array Slot}, f_X7_spreadOf_l32 I A y1 n y2 y3 y4 = some ro → qw_V D cy Z9 s (Wo cy ad I A G T) H locs → lv_has ls 6 [(0, .ref (ad 0)), (1, .int y1), (2, .int y2), (3, .int y3), (4, .int y4)] → W p l e rm_X7_spreadOf s m args below meth c H locs 0 0 Q9 (F0 m 32 ls []) := by
    intro y1 n
    induction n with
    | zero => intro y2 y3 y4 H locs ls hf V hl; exact qf_no hf
    | succ n ih =>
      intro y2 y3 y4 H locs ls hf V hl
      rw [f_X7_spreadOf_l32] at hf
      refine lv_iload hx hb dX7_spreadOf_32 (lv_at hl 4 rfl) ?_
      refine lv_aload_n hx hb dX7_spreadOf_34 rfl (lv_at hl 0 rfl) ?_
      refine gfO_0_5 S0 V kl_X7_40 dX7_spreadOf_35 ?_
      refine gfO_19_2 S0 V kl_X7_87 dX7_spreadOf_38 ?_
      refine lv_icmp_ge (tgt := 73) hx hb dX7_spreadOf_41 (by decide) (fun c_41 => ?_) (fun c_41 => ?_)
      · replace hf := qf_t c_41 hf
        refine lv_iload_n hx hb dX7_spreadOf_73 rfl (lv_at hl 3 rfl) ?_
        refine lv_iload_n hx hb dX7_spreadOf_74 rfl (lv_at hl 2 rfl) ?_
        refine lv_isub hx hb dX7_spreadOf_75 ?_
        have hE := Option.some.inj hf
        exact qx_ireti hQ S0 hr hlocks hE rfl rfl V dX7_spreadOf_76
      · replace hf := qf_f c_41 hf
        refine lv_aload_n hx hb dX7_spreadOf_44 rfl (lv_at hl 0 rfl) ?_
        refine lv_iload hx hb dX7_spreadOf_45 (lv_at hl 4 rfl) ?_
        refine lv_iload_n hx hb dX7_spreadOf_47 rfl (lv_at hl 1 rfl) ?_
        obtain ⟨r3, hc_48, hf⟩ := qf_bd_e hf
        refine qw_cVR (rest := []) (st1 := [.int r3]) S0 V hl 0 gO_0 rfl (c_X7_percentEach l hc_48) kg_X7_287 rfl ⟨rfl, rfl⟩ kd_X7_percentEach ⟨Nat.le_of_ble_eq_true rfl, Nat.le_of_ble_eq_true rfl⟩ rfl rfl (Nat.le_of_ble_eq_true rfl) ⟨Nat.zero_le _, Nat.zero_le _⟩ rfl dX7_spreadOf_48 ?_
        refine lv_istore (lv' := [(5, .int r3), (0, .ref (ad 0)), (1, .int y1), (2, .int y2), (3, .int y3), (4, .int y4)]) hx hb dX7_spreadOf_51 hl (by decide) rfl (fun ls hl => ?_)
        refine lv_iload_n hx hb dX7_spreadOf_53 rfl (lv_at hl 3 rfl) ?_
        refine lv_iload hx hb dX7_spreadOf_54 (lv_at hl 0 rfl) ?_
        refine qw_min S0 hl.1 kml_X7_201 (Nat.le_of_ble_eq_true rfl) (Nat.le_of_ble_eq_true rfl) (Nat.zero_le _) (Nat.zero_le _) dX7_spreadOf_56 ?_
        refine lv_topi (fun x4 e_x4 => ?_)
        replace hf := qf_let_e e_x4 hf
        refine lv_istore_n (lv' := [(2, .int x4), (5, .int r3), (0, .ref (ad 0)), (1, .int y1), (3, .int y3), (4, .int y4)]) hx hb dX7_spreadOf_59 rfl hl (by decide) rfl (fun ls hl => ?_)
        refine lv_iload_n hx hb dX7_spreadOf_60 rfl (lv_at hl 4 rfl) ?_
        refine lv_iload hx hb dX7_spreadOf_61 (lv_at hl 1 rfl) ?_
        refine qw_max S0 hl.1 kml_X7_290 (Nat.le_of_ble_eq_true rfl) (Nat.le_of_ble_eq_true rfl) (Nat.zero_le _) (Nat.zero_le _) dX7_spreadOf_63 ?_
        refine lv_topi (fun x5 e_x5 => ?_)
        replace hf := qf_let_e e_x5 hf
        refine lv_istore_n (lv' := [(3, .int x5), (2, .int x4), (5, .int r3), (0, .ref (ad 0)), (1, .int y1), (4, .int y4)]) hx hb dX7_spreadOf_66 rfl hl (by decide) rfl (fun ls hl => ?_)
        obtain ⟨x6, e_x6⟩ : ∃ y : Int32, y = y4 + (1 : Int32) := ⟨_, rfl⟩
        refine lv_iinc (v := x6) (lv' := [(4, .int x6), (3, .int x5), (2, .int x4), (5, .int r3), (0, .ref (ad 0)), (1, .int y1)]) hx hb dX7_spreadOf_67 hl (k := 5) rfl (by rw [e_x6]; rfl) (by decide) rfl (fun ls hl => ?_)
        replace hf := qf_let_e e_x6 hf
        refine lv_goto (tgt := 32) hx hb dX7_spreadOf_70 (by decide) ?_
        exact ih hf V (lv_sub hl [4, 5, 2, 1, 0] rfl)
  unfold f_X7_spreadOf at hf
  refine lv_aload_n hx hb dX7_spreadOf_0 rfl (lv_at hl 0 rfl) ?_
  refine lv_iload_n hx hb dX7_spreadOf_1 rfl (lv_at hl 1 rfl) ?_
  obtain ⟨r1, hc_2, hf⟩ := qf_bd_e hf
  refine qw_cVR (rest := []) (st1 := [.int r1]) S0 V hl 0 gO_0 rfl (c_X7_isGroup l hc_2) kg_X7_115 rfl ⟨rfl, rfl⟩ kd_X7_isGroup ⟨Nat.le_of_ble_eq_true rfl, Nat.le_of_ble_eq_true rfl⟩ rfl rfl (Nat.le_of_ble_eq_true rfl) ⟨Nat.zero_le _, Nat.zero_le _⟩ rfl dX7_spreadOf_2 ?_
  by_cases c_5 : r1 = 0
  · exact qx_thr (rest := []) hst hQ S0 V hl c_5 kg_X7_119 ⟨by decide, by decide⟩ (Nat.le_of_ble_eq_true rfl) ⟨by decide, by decide⟩ dX7_spreadOf_5 (by decide) (by decide) hlocks htab (fun t9 h9 h8 => ⟨rfl, (Option.some.inj (qf_t c_5 hf)).symm, h9, h8⟩)
  replace hf := qf_f c_5 hf
  refine qw_cSR (rest := []) (st1 := []) S0 V hl (c_X7_need l c_5) kg_X7_119 rfl ⟨rfl, rfl⟩ kd_X7_need ⟨by decide, by decide⟩ rfl rfl (Nat.le_of_ble_eq_true rfl) ⟨Nat.zero_le _, Nat.zero_le _⟩ rfl dX7_spreadOf_5 ?_
  refine lv_aload_n hx hb dX7_spreadOf_8 rfl (lv_at hl 0 rfl) ?_
  refine gfO_0_5 S0 V kl_X7_40 dX7_spreadOf_9 ?_
  refine gfO_19_2 S0 V kl_X7_87 dX7_spreadOf_12 ?_
  refine lv_if_ne (tgt := 20) hx hb dX7_spreadOf_15 (by decide) (fun c_15 => ?_) (fun c_15 => ?_)
  · replace hf := qf_f c_15 hf
    refine lv_aload_n hx hb dX7_spreadOf_20 rfl (lv_at hl 0 rfl) ?_
    refine lv_iconst (v := 0) hx hb dX7_spreadOf_21 (by decide) ?_
    refine lv_iload_n hx hb dX7_spreadOf_22 rfl (lv_at hl 1 rfl) ?_
    obtain ⟨r2, hc_23, hf⟩ := qf_bd_e hf
    refine qw_cVR (rest := []) (st1 := [.int r2]) S0 V hl 0 gO_0 rfl (c_X7_percentEach l hc_23) kg_X7_287 rfl ⟨rfl, rfl⟩ kd_X7_percentEach ⟨Nat.le_of_ble_eq_true rfl, Nat.le_of_ble_eq_true rfl⟩ rfl rfl (Nat.le_of_ble_eq_true rfl) ⟨Nat.zero_le _, Nat.zero_le _⟩ rfl dX7_spreadOf_23 ?_
    refine lv_istore_n (lv' := [(2, .int r2), (0, .ref (ad 0)), (1, .int p1)]) hx hb dX7_spreadOf_26 rfl hl (by decide) rfl (fun ls hl => ?_)
    refine lv_iload_n hx hb dX7_spreadOf_27 rfl (lv_at hl 0 rfl) ?_
    refine lv_istore_n (lv' := [(3, .int r2), (2, .int r2), (0, .ref (ad 0)), (1, .int p1)]) hx hb dX7_spreadOf_28 rfl hl (by decide) rfl (fun ls hl => ?_)
    refine lv_iconst (v := 1) hx hb dX7_spreadOf_29 (by decide) ?_
    refine lv_istore (lv' := [(4, .int (1 : Int32)), (3, .int r2), (2, .int r2), (0, .ref (ad 0)), (1, .int p1)]) hx hb dX7_spreadOf_30 hl (by decide) rfl (fun ls hl => ?_)
    exact L_32 hf V (lv_sub hl [3, 4, 2, 1, 0] rfl)
  · replace hf := qf_t c_15 hf
    refine lv_iconst (v := 0) hx hb dX7_spreadOf_18 (by decide) ?_
    have hE := Option.some.inj hf
    exact qx_ireti hQ S0 hr hlocks hE rfl rfl V dX7_spreadOf_19
theorem kd_X7_levelMoves : yX7_levelMoves.cls = RX7 ∧ yX7_levelMoves.cls ≠ "java/lang/invoke/MethodHandle" ∧ yX7_levelMoves.cls ≠ "java/lang/invoke/VarHandle" ∧ (parseMethodDescriptor yX7_levelMoves.desc).map (fun d => d.parameters.length) = some 2 := by decide +kernel
def f_X7_levelMoves_l30 (I : Nat → Int32) (A : Nat → Nat → Int32)  (y1 : Int32) (y2 : Int32) : Nat → Int32 → Int32 → Int32 → Option (Option (Int32))
  | 0, _, _, _ => none
  | n + 1, y3, y4, y5 =>
  if (I 14) ≤ y5 then (qf_bd (f_X7_heldByAll I A y1) fun r2 =>
    if r2 < y3 then (some (some ((-1 : Int32)))) else (some (some (y4)))) else (qf_ld 6 (A 34) y5 fun x3 =>
    qf_let ((y2 * x3)) fun x4 =>
    qf_let ((y3 + x4)) fun x5 =>
    qf_bd (f_X7_holding A y5 y1) fun r6 =>
    qf_let ((if (0 : Int32) < (x4 - r6) then (x4 - r6) else (0 : Int32))) fun x7 =>
    qf_let ((y4 + x7)) fun x8 =>
    qf_let (y5 + (1 : Int32)) fun x9 =>
    f_X7_levelMoves_l30 I A y1 y2 n x5 x8 x9)
def f_X7_levelMoves (I : Nat → Int32) (A : Nat → Nat → Int32) (p1 : Int32) (p2 : Int32) : Option (Option (Int32)) :=
  qf_bd (f_X7_isGroup I p1) fun r1 =>
  if r1 = 0 then some none else
  if p2 < 0 then (some (some ((-2 : Int32)))) else (if p2 ≤ (999 : Int32) then (f_X7_levelMoves_l30 I A p1 p2 100000 (0 : Int32) (0 : Int32) (0 : Int32)) else (some (some ((-2 : Int32)))))
abbrev wz_X7_levelMoves : List Cond := Cond.code yX7_levelMoves cX7_levelMoves 7 (some .int) :: qw_big
def rm_X7_levelMoves : Room := { frames := 7, cells := 1, slots := 6, locals := 102 }
set_option maxHeartbeats 4000000 in
set_option maxRecDepth 100000 in
theorem c_X7_levelMoves (l : Launch) (hst : l.stackTraces = false) {D : va_G} {cy : Nat → ClassId} {ad : Nat → Nat} {I : Nat → Int32} {A : Nat → Nat → Int32} {G : Nat → Int32 × (Nat → Nat → Int32)} {T : Nat} {p1 : Int32} {p2 : Int32} {ro : (Option (Int32))} {sz : Nat} (hf : f_X7_levelMoves I A p1 p2 = some ro) : vx_Met l yX7_levelMoves wz_X7_levelMoves rm_X7_levelMoves (va_Pc [.ref (ad 0), .int p1, .int p2] (qw_Pre D cy (Wo cy ad I A G T) sz)) (qx_Q ro (fun v9 => some (.int v9)) (fun _ => (Wo cy ad I A G T)) D (va_A (Wo cy ad I A G T) sz)) (qx_X ro D (Wo cy ad I A G T) (va_A (Wo cy ad I A G T) sz)) 1 6 (va_A (Wo cy ad I A G T) sz) := by
  refine qx_of (cc := cX7_levelMoves) (maxL := 7) (ret := (some .int)) (by decide) (Nat.le_of_ble_eq_true rfl) ?_
  intro p e s m args below meth c ls S0 hr hlocks htab hsz V hl
  have S0 : CallFix p m c cX7_levelMoves 7 s args qw_big RX7 := S0
  have hx := S0.1; have hb := S0.2.1; have hown := S0.2.2.2.1; have hts := S0.2.2.2.2
  have hl : lv_has ls 7 [(0, .ref (ad 0)), (1, .int p1), (2, .int p2)] := hl
  generalize va_A (Wo cy ad I A G T) sz = Z9 at V ⊢
  obtain ⟨Q9, hQ⟩ : ∃ q, q = vx_MQ below (qx_Q ro (fun v9 => some (.int v9)) (fun _ => (Wo cy ad I A G T)) D Z9) (qx_X ro D (Wo cy ad I A G T) Z9) args s 1 6 Z9 := ⟨_, rfl⟩
  rw [← hQ]
  clear hsz
  have L_30 : ∀  {y1 : Int32} {y2 : Int32} {n : Nat}  {y3 : Int32} {y4 : Int32} {y5 : Int32} {H : Heap} {locs : List Loc} {ls : Array Slot}, f_X7_levelMoves_l30 I A y1 y2 n y3 y4 y5 = some ro → qw_V D cy Z9 s (Wo cy ad I A G T) H locs → lv_has ls 7 [(0, .ref (ad 0)), (1, .int y1), (2, .int y2), (3, .int y3), (4, .int y4), (5, .int y5)] → W p l e rm_X7_levelMoves s m args below meth c H locs 0 0 Q9 (F0 m 30 ls []) := by
    intro y1 y2 n
    induction n with
    | zero => intro y3 y4 y5 H locs ls hf V hl; exact qf_no hf
    | succ n ih =>
      intro y3 y4 y5 H locs ls hf V hl
      rw [f_X7_levelMoves_l30] at hf
      refine lv_iload hx hb dX7_levelMoves_30 (lv_at hl 5 rfl) ?_
      refine lv_aload_n hx hb dX7_levelMoves_32 rfl (lv_at hl 0 rfl) ?_
      refine gfO_0_5 S0 V kl_X7_40 dX7_levelMoves_33 ?_
      refine gfO_19_2 S0 V kl_X7_87 dX7_levelMoves_36 ?_
      refine lv_icmp_ge (tgt := 86) hx hb dX7_levelMoves_39 (by decide) (fun c_39 => ?_) (fun c_39 => ?_)
      · replace hf := qf_t c_39 hf
        refine lv_iload_n hx hb dX7_levelMoves_86 rfl (lv_at hl 3 rfl) ?_
        refine lv_aload_n hx hb dX7_levelMoves_87 rfl (lv_at hl 0 rfl) ?_
        refine lv_iload_n hx hb dX7_levelMoves_88 rfl (lv_at hl 1 rfl) ?_
        obtain ⟨r2, hc_89, hf⟩ := qf_bd_e hf
        refine qw_cVR (rest := [.int y3]) (st1 := [.int r2, .int y3]) S0 V hl 0 gO_0 rfl (c_X7_heldByAll l hc_89) kg_X7_249 rfl ⟨rfl, rfl⟩ kd_X7_heldByAll ⟨Nat.le_of_ble_eq_true rfl, Nat.le_of_ble_eq_true rfl⟩ rfl rfl (Nat.le_of_ble_eq_true rfl) ⟨Nat.zero_le _, Nat.zero_le _⟩ rfl dX7_levelMoves_89 ?_
        refine lv_icmp_gt (tgt := 100) hx hb dX7_levelMoves_92 (by decide) (fun c_92 => ?_) (fun c_92 => ?_)
        · replace hf := qf_t c_92 hf
          refine lv_iconst (v := -1) hx hb dX7_levelMoves_100 (by decide) ?_
          have hE := Option.some.inj hf
          exact qx_ireti hQ S0 hr hlocks hE rfl rfl V dX7_levelMoves_101
        · replace hf := qf_f c_92 hf
          refine lv_iload hx hb dX7_levelMoves_95 (lv_at hl 4 rfl) ?_
          refine lv_goto (tgt := 101) hx hb dX7_levelMoves_97 (by decide) ?_
          have hE := Option.some.inj hf
          exact qx_ireti hQ S0 hr hlocks hE rfl rfl V dX7_levelMoves_101
      · replace hf := qf_f c_39 hf
        refine lv_iload_n hx hb dX7_levelMoves_42 rfl (lv_at hl 2 rfl) ?_
        refine lv_aload_n hx hb dX7_levelMoves_43 rfl (lv_at hl 0 rfl) ?_
        refine gfO_0_6 S0 V kl_X7_47 dX7_levelMoves_44 ?_
        refine gfO_43_2 S0 V kl_X7_153 dX7_levelMoves_47 ?_
        refine lv_iload hx hb dX7_levelMoves_50 (lv_at hl 5 rfl) ?_
        have h_52 := qf_ld_in hf
        refine alO_45 S0 V h_52 dX7_levelMoves_52 ?_
        refine lv_topi (fun x3 e_x3 => ?_)
        replace hf := qf_ld_e e_x3 hf
        refine lv_imul hx hb dX7_levelMoves_53 ?_
        refine lv_topi (fun x4 e_x4 => ?_)
        replace hf := qf_let_e e_x4 hf
        refine lv_istore (lv' := [(6, .int x4), (0, .ref (ad 0)), (1, .int y1), (2, .int y2), (3, .int y3), (4, .int y4), (5, .int y5)]) hx hb dX7_levelMoves_54 hl (by decide) rfl (fun ls hl => ?_)
        refine lv_iload_n hx hb dX7_levelMoves_56 rfl (lv_at hl 4 rfl) ?_
        refine lv_iload hx hb dX7_levelMoves_57 (lv_at hl 0 rfl) ?_
        refine lv_iadd hx hb dX7_levelMoves_59 ?_
        refine lv_topi (fun x5 e_x5 => ?_)
        replace hf := qf_let_e e_x5 hf
        refine lv_istore_n (lv' := [(3, .int x5), (6, .int x4), (0, .ref (ad 0)), (1, .int y1), (2, .int y2), (4, .int y4), (5, .int y5)]) hx hb dX7_levelMoves_60 rfl hl (by decide) rfl (fun ls hl => ?_)
        refine lv_iload hx hb dX7_levelMoves_61 (lv_at hl 5 rfl) ?_
        refine lv_iconst (v := 0) hx hb dX7_levelMoves_63 (by decide) ?_
        refine lv_iload hx hb dX7_levelMoves_64 (lv_at hl 1 rfl) ?_
        refine lv_aload_n hx hb dX7_levelMoves_66 rfl (lv_at hl 2 rfl) ?_
        refine lv_iload hx hb dX7_levelMoves_67 (lv_at hl 6 rfl) ?_
        refine lv_iload_n hx hb dX7_levelMoves_69 rfl (lv_at hl 3 rfl) ?_
        obtain ⟨r6, hc_70, hf⟩ := qf_bd_e hf
        refine qw_cVR (rest := [.int x4, .int (0 : Int32), .int y4]) (st1 := [.int r6, .int x4, .int (0 : Int32), .int y4]) S0 V hl 0 gO_0 rfl (c_X7_holding l hc_70) kg_X7_162 rfl ⟨rfl, rfl⟩ kd_X7_holding ⟨Nat.le_of_ble_eq_true rfl, Nat.le_of_ble_eq_true rfl⟩ rfl rfl (Nat.le_of_ble_eq_true rfl) ⟨Nat.zero_le _, Nat.zero_le _⟩ rfl dX7_levelMoves_70 ?_
        refine lv_isub hx hb dX7_levelMoves_73 ?_
        refine qw_max S0 hl.1 kml_X7_290 (Nat.le_of_ble_eq_true rfl) (Nat.le_of_ble_eq_true rfl) (Nat.zero_le _) (Nat.zero_le _) dX7_levelMoves_74 ?_
        refine lv_topi (fun x7 e_x7 => ?_)
        replace hf := qf_let_e e_x7 hf
        refine lv_iadd hx hb dX7_levelMoves_77 ?_
        refine lv_topi (fun x8 e_x8 => ?_)
        replace hf := qf_let_e e_x8 hf
        refine lv_istore (lv' := [(4, .int x8), (3, .int x5), (6, .int x4), (0, .ref (ad 0)), (1, .int y1), (2, .int y2), (5, .int y5)]) hx hb dX7_levelMoves_78 hl (by decide) rfl (fun ls hl => ?_)
        obtain ⟨x9, e_x9⟩ : ∃ y : Int32, y = y5 + (1 : Int32) := ⟨_, rfl⟩
        refine lv_iinc (v := x9) (lv' := [(5, .int x9), (4, .int x8), (3, .int x5), (6, .int x4), (0, .ref (ad 0)), (1, .int y1), (2, .int y2)]) hx hb dX7_levelMoves_80 hl (k := 6) rfl (by rw [e_x9]; rfl) (by decide) rfl (fun ls hl => ?_)
        replace hf := qf_let_e e_x9 hf
        refine lv_goto (tgt := 30) hx hb dX7_levelMoves_83 (by decide) ?_
        exact ih hf V (lv_sub hl [4, 5, 6, 2, 1, 0] rfl)
  unfold f_X7_levelMoves at hf
  refine lv_aload_n hx hb dX7_levelMoves_0 rfl (lv_at hl 0 rfl) ?_
  refine lv_iload_n hx hb dX7_levelMoves_1 rfl (lv_at hl 1 rfl) ?_
  obtain ⟨r1, hc_2, hf⟩ := qf_bd_e hf
  refine qw_cVR (rest := []) (st1 := [.int r1]) S0 V hl 0 gO_0 rfl (c_X7_isGroup l hc_2) kg_X7_115 rfl ⟨rfl, rfl⟩ kd_X7_isGroup ⟨Nat.le_of_ble_eq_true rfl, Nat.le_of_ble_eq_true rfl⟩ rfl rfl (Nat.le_of_ble_eq_true rfl) ⟨Nat.zero_le _, Nat.zero_le _⟩ rfl dX7_levelMoves_2 ?_
  by_cases c_5 : r1 = 0
  · exact qx_thr (rest := []) hst hQ S0 V hl c_5 kg_X7_119 ⟨by decide, by decide⟩ (Nat.le_of_ble_eq_true rfl) ⟨by decide, by decide⟩ dX7_levelMoves_5 (by decide) (by decide) hlocks htab (fun t9 h9 h8 => ⟨rfl, (Option.some.inj (qf_t c_5 hf)).symm, h9, h8⟩)
  replace hf := qf_f c_5 hf
  refine qw_cSR (rest := []) (st1 := []) S0 V hl (c_X7_need l c_5) kg_X7_119 rfl ⟨rfl, rfl⟩ kd_X7_need ⟨by decide, by decide⟩ rfl rfl (Nat.le_of_ble_eq_true rfl) ⟨Nat.zero_le _, Nat.zero_le _⟩ rfl dX7_levelMoves_5 ?_
  refine lv_iload_n hx hb dX7_levelMoves_8 rfl (lv_at hl 2 rfl) ?_
  refine lv_if_lt (tgt := 19) hx hb dX7_levelMoves_9 (by decide) (fun c_9 => ?_) (fun c_9 => ?_)
  · replace hf := qf_t c_9 hf
    refine lv_bipush (v := -2) hx hb dX7_levelMoves_19 (by decide) ?_
    have hE := Option.some.inj hf
    exact qx_ireti hQ S0 hr hlocks hE rfl rfl V dX7_levelMoves_21
  · replace hf := qf_f c_9 hf
    refine lv_iload_n hx hb dX7_levelMoves_12 rfl (lv_at hl 2 rfl) ?_
    refine lv_sipush (v := 999) hx hb dX7_levelMoves_13 (by decide) ?_
    refine lv_icmp_le (tgt := 22) hx hb dX7_levelMoves_16 (by decide) (fun c_16 => ?_) (fun c_16 => ?_)
    · replace hf := qf_t c_16 hf
      refine lv_iconst (v := 0) hx hb dX7_levelMoves_22 (by decide) ?_
      refine lv_istore_n (lv' := [(3, .int (0 : Int32)), (0, .ref (ad 0)), (1, .int p1), (2, .int p2)]) hx hb dX7_levelMoves_23 rfl hl (by decide) rfl (fun ls hl => ?_)
      refine lv_iconst (v := 0) hx hb dX7_levelMoves_24 (by decide) ?_
      refine lv_istore (lv' := [(4, .int (0 : Int32)), (3, .int (0 : Int32)), (0, .ref (ad 0)), (1, .int p1), (2, .int p2)]) hx hb dX7_levelMoves_25 hl (by decide) rfl (fun ls hl => ?_)
      refine lv_iconst (v := 0) hx hb dX7_levelMoves_27 (by decide) ?_
      refine lv_istore (lv' := [(5, .int (0 : Int32)), (4, .int (0 : Int32)), (3, .int (0 : Int32)), (0, .ref (ad 0)), (1, .int p1), (2, .int p2)]) hx hb dX7_levelMoves_28 hl (by decide) rfl (fun ls hl => ?_)
      exact L_30 hf V (lv_sub hl [3, 4, 5, 2, 1, 0] rfl)
    · replace hf := qf_f c_16 hf
      refine lv_bipush (v := -2) hx hb dX7_levelMoves_19 (by decide) ?_
      have hE := Option.some.inj hf
      exact qx_ireti hQ S0 hr hlocks hE rfl rfl V dX7_levelMoves_21
theorem kd_X7_lapseAfter : yX7_lapseAfter.cls = RX7 ∧ yX7_lapseAfter.cls ≠ "java/lang/invoke/MethodHandle" ∧ yX7_lapseAfter.cls ≠ "java/lang/invoke/VarHandle" ∧ (parseMethodDescriptor yX7_lapseAfter.desc).map (fun d => d.parameters.length) = some 3 := by decide +kernel
def f_X7_lapseAfter_l49 (I : Nat → Int32)  (y1 : Int32) (y2 : Int32) (y3 : Int32) : Nat → (Nat → Nat → Int32) → Int32 → Int32 → Option (Option (Int32 × (Nat → Nat → Int32)))
  | 0, _, _, _ => none
  | n + 1, A, y4, y5 =>
  if y3 ≤ y5 then (some (some (y4, A))) else (qf_bd2 (f_X7_stepAhead A y1 y2) fun r4 A5 =>
    qf_let ((y4 + r4)) fun x6 =>
    qf_let (y5 + (1 : Int32)) fun x7 =>
    f_X7_lapseAfter_l49 I y1 y2 y3 n A5 x6 x7)
def f_X7_lapseAfter_j21 (I : Nat → Int32) (A : Nat → Nat → Int32)  (y1 : Int32) (y2 : Int32) (y3 : Int32) (s0 : Int32) : Option (Option (Int32 × (Nat → Nat → Int32))) :=
  if s0 = 0 then some none else
  if y3 < 0 then (some (some ((-2 : Int32), A))) else (if y3 ≤ (50 : Int32) then (qf_bd (f_X7_startAhead A y1 y2) fun A3 =>
      f_X7_lapseAfter_l49 I y1 y2 y3 100000 A3 (0 : Int32) (0 : Int32)) else (some (some ((-2 : Int32), A))))
def f_X7_lapseAfter_j20 (I : Nat → Int32) (A : Nat → Nat → Int32)  (y1 : Int32) (y2 : Int32) (y3 : Int32) : Option (Option (Int32 × (Nat → Nat → Int32))) :=
  f_X7_lapseAfter_j21 I A y1 y2 y3 (0 : Int32)
def f_X7_lapseAfter (I : Nat → Int32) (A : Nat → Nat → Int32) (p1 : Int32) (p2 : Int32) (p3 : Int32) : Option (Option (Int32 × (Nat → Nat → Int32))) :=
  qf_bd (f_X7_isHouse I p1) fun r1 =>
  if r1 = 0 then (f_X7_lapseAfter_j20 I A p1 p2 p3) else (qf_bd (f_X7_isGroup I p2) fun r2 =>
    if r2 = 0 then (f_X7_lapseAfter_j20 I A p1 p2 p3) else (f_X7_lapseAfter_j21 I A p1 p2 p3 (1 : Int32)))
abbrev wz_X7_lapseAfter : List Cond := Cond.code yX7_lapseAfter cX7_lapseAfter 6 (some .int) :: qw_big
def rm_X7_lapseAfter : Room := { frames := 7, cells := 1, slots := 6, locals := 102 }
set_option maxHeartbeats 4000000 in
set_option maxRecDepth 100000 in
theorem c_X7_lapseAfter (l : Launch) (hst : l.stackTraces = false) {D : va_G} {cy : Nat → ClassId} {ad : Nat → Nat} {I : Nat → Int32} {A : Nat → Nat → Int32} {G : Nat → Int32 × (Nat → Nat → Int32)} {T : Nat} {p1 : Int32} {p2 : Int32} {p3 : Int32} {ro : (Option (Int32 × (Nat → Nat → Int32)))} {sz : Nat} (hf : f_X7_lapseAfter I A p1 p2 p3 = some ro) : vx_Met l yX7_lapseAfter wz_X7_lapseAfter rm_X7_lapseAfter (va_Pc [.ref (ad 0), .int p1, .int p2, .int p3] (qw_Pre D cy (Wo cy ad I A G T) sz)) (qx_Q ro (fun v9 => some (.int v9.1)) (fun v9 => (Wo cy ad I v9.2 G T)) D (va_A (Wo cy ad I A G T) sz)) (qx_X ro D (Wo cy ad I A G T) (va_A (Wo cy ad I A G T) sz)) 1 6 (va_A (Wo cy ad I A G T) sz) := by
  refine qx_of (cc := cX7_lapseAfter) (maxL := 6) (ret := (some .int)) (by decide) (Nat.le_of_ble_eq_true rfl) ?_
  intro p e s m args below meth c ls S0 hr hlocks htab hsz V hl
  have S0 : CallFix p m c cX7_lapseAfter 6 s args qw_big RX7 := S0
  have hx := S0.1; have hb := S0.2.1; have hown := S0.2.2.2.1; have hts := S0.2.2.2.2
  have hl : lv_has ls 6 [(0, .ref (ad 0)), (1, .int p1), (2, .int p2), (3, .int p3)] := hl
  generalize va_A (Wo cy ad I A G T) sz = Z9 at V ⊢
  obtain ⟨Q9, hQ⟩ : ∃ q, q = vx_MQ below (qx_Q ro (fun v9 => some (.int v9.1)) (fun v9 => (Wo cy ad I v9.2 G T)) D Z9) (qx_X ro D (Wo cy ad I A G T) Z9) args s 1 6 Z9 := ⟨_, rfl⟩
  rw [← hQ]
  clear hsz
  have L_49 : ∀  {y1 : Int32} {y2 : Int32} {y3 : Int32} {n : Nat} {A : Nat → Nat → Int32} {y4 : Int32} {y5 : Int32} {H : Heap} {locs : List Loc} {ls : Array Slot}, f_X7_lapseAfter_l49 I y1 y2 y3 n A y4 y5 = some ro → qw_V D cy Z9 s (Wo cy ad I A G T) H locs → lv_has ls 6 [(0, .ref (ad 0)), (1, .int y1), (2, .int y2), (3, .int y3), (4, .int y4), (5, .int y5)] → W p l e rm_X7_lapseAfter s m args below meth c H locs 0 0 Q9 (F0 m 49 ls []) := by
    intro y1 y2 y3 n
    induction n with
    | zero => intro A y4 y5 H locs ls hf V hl; exact qf_no hf
    | succ n ih =>
      intro A y4 y5 H locs ls hf V hl
      rw [f_X7_lapseAfter_l49] at hf
      refine lv_iload hx hb dX7_lapseAfter_49 (lv_at hl 5 rfl) ?_
      refine lv_iload_n hx hb dX7_lapseAfter_51 rfl (lv_at hl 3 rfl) ?_
      refine lv_icmp_ge (tgt := 72) hx hb dX7_lapseAfter_52 (by decide) (fun c_52 => ?_) (fun c_52 => ?_)
      · replace hf := qf_t c_52 hf
        refine lv_iload hx hb dX7_lapseAfter_72 (lv_at hl 4 rfl) ?_
        have hE := Option.some.inj hf
        exact qx_ireti hQ S0 hr hlocks hE rfl rfl V dX7_lapseAfter_74
      · replace hf := qf_f c_52 hf
        refine lv_iload hx hb dX7_lapseAfter_55 (lv_at hl 4 rfl) ?_
        refine lv_aload_n hx hb dX7_lapseAfter_57 rfl (lv_at hl 0 rfl) ?_
        refine lv_iload_n hx hb dX7_lapseAfter_58 rfl (lv_at hl 1 rfl) ?_
        refine lv_iload_n hx hb dX7_lapseAfter_59 rfl (lv_at hl 2 rfl) ?_
        obtain ⟨r4, A5, hc_60, hf⟩ := qf_bd2_e hf
        refine qw_cV (rest := [.int y4]) (st1 := [.int r4, .int y4]) S0 V hl 0 gO_0 rfl (c_X7_stepAhead l hc_60) kg_X7_176 rfl ⟨rfl, rfl⟩ kd_X7_stepAhead ⟨Nat.le_of_ble_eq_true rfl, Nat.le_of_ble_eq_true rfl⟩ rfl rfl (Nat.le_of_ble_eq_true rfl) ⟨Nat.zero_le _, Nat.zero_le _⟩ rfl dX7_lapseAfter_60 (fun H locs V => ?_)
        refine lv_iadd hx hb dX7_lapseAfter_63 ?_
        refine lv_topi (fun x6 e_x6 => ?_)
        replace hf := qf_let_e e_x6 hf
        refine lv_istore (lv' := [(4, .int x6), (0, .ref (ad 0)), (1, .int y1), (2, .int y2), (3, .int y3), (5, .int y5)]) hx hb dX7_lapseAfter_64 hl (by decide) rfl (fun ls hl => ?_)
        obtain ⟨x7, e_x7⟩ : ∃ y : Int32, y = y5 + (1 : Int32) := ⟨_, rfl⟩
        refine lv_iinc (v := x7) (lv' := [(5, .int x7), (4, .int x6), (0, .ref (ad 0)), (1, .int y1), (2, .int y2), (3, .int y3)]) hx hb dX7_lapseAfter_66 hl (k := 5) rfl (by rw [e_x7]; rfl) (by decide) rfl (fun ls hl => ?_)
        replace hf := qf_let_e e_x7 hf
        refine lv_goto (tgt := 49) hx hb dX7_lapseAfter_69 (by decide) ?_
        exact ih hf V (lv_sub hl [2, 3, 4, 5, 1, 0] rfl)
  have J_21 : ∀   {y1 : Int32} {y2 : Int32} {y3 : Int32} {s0 : Int32} {H : Heap} {locs : List Loc} {ls : Array Slot}, f_X7_lapseAfter_j21 I A y1 y2 y3 s0 = some ro → qw_V D cy Z9 s (Wo cy ad I A G T) H locs → lv_has ls 6 [(0, .ref (ad 0)), (1, .int y1), (2, .int y2), (3, .int y3)] → W p l e rm_X7_lapseAfter s m args below meth c H locs 0 0 Q9 (F0 m 21 ls [.int s0]) := by
    intro y1 y2 y3 s0 H locs ls hf V hl
    unfold f_X7_lapseAfter_j21 at hf
    by_cases c_21 : s0 = 0
    · exact qx_thr (rest := []) hst hQ S0 V hl c_21 kg_X7_119 ⟨by decide, by decide⟩ (Nat.le_of_ble_eq_true rfl) ⟨by decide, by decide⟩ dX7_lapseAfter_21 (by decide) (by decide) hlocks htab (fun t9 h9 h8 => ⟨rfl, (Option.some.inj (qf_t c_21 hf)).symm, h9, h8⟩)
    replace hf := qf_f c_21 hf
    refine qw_cSR (rest := []) (st1 := []) S0 V hl (c_X7_need l c_21) kg_X7_119 rfl ⟨rfl, rfl⟩ kd_X7_need ⟨by decide, by decide⟩ rfl rfl (Nat.le_of_ble_eq_true rfl) ⟨Nat.zero_le _, Nat.zero_le _⟩ rfl dX7_lapseAfter_21 ?_
    refine lv_iload_n hx hb dX7_lapseAfter_24 rfl (lv_at hl 3 rfl) ?_
    refine lv_if_lt (tgt := 34) hx hb dX7_lapseAfter_25 (by decide) (fun c_25 => ?_) (fun c_25 => ?_)
    · replace hf := qf_t c_25 hf
      refine lv_bipush (v := -2) hx hb dX7_lapseAfter_34 (by decide) ?_
      have hE := Option.some.inj hf
      exact qx_ireti hQ S0 hr hlocks hE rfl rfl V dX7_lapseAfter_36
    · replace hf := qf_f c_25 hf
      refine lv_iload_n hx hb dX7_lapseAfter_28 rfl (lv_at hl 3 rfl) ?_
      refine lv_bipush (v := 50) hx hb dX7_lapseAfter_29 (by decide) ?_
      refine lv_icmp_le (tgt := 37) hx hb dX7_lapseAfter_31 (by decide) (fun c_31 => ?_) (fun c_31 => ?_)
      · replace hf := qf_t c_31 hf
        refine lv_aload_n hx hb dX7_lapseAfter_37 rfl (lv_at hl 0 rfl) ?_
        refine lv_iload_n hx hb dX7_lapseAfter_38 rfl (lv_at hl 1 rfl) ?_
        refine lv_iload_n hx hb dX7_lapseAfter_39 rfl (lv_at hl 2 rfl) ?_
        obtain ⟨A3, hc_40, hf⟩ := qf_bd_e hf
        refine qw_cV (rest := []) (st1 := []) S0 V hl 0 gO_0 rfl (c_X7_startAhead l hc_40) kg_X7_172 rfl ⟨rfl, rfl⟩ kd_X7_startAhead ⟨Nat.le_of_ble_eq_true rfl, Nat.le_of_ble_eq_true rfl⟩ rfl rfl (Nat.le_of_ble_eq_true rfl) ⟨Nat.zero_le _, Nat.zero_le _⟩ rfl dX7_lapseAfter_40 (fun H locs V => ?_)
        refine lv_iconst (v := 0) hx hb dX7_lapseAfter_43 (by decide) ?_
        refine lv_istore (lv' := [(4, .int (0 : Int32)), (0, .ref (ad 0)), (1, .int y1), (2, .int y2), (3, .int y3)]) hx hb dX7_lapseAfter_44 hl (by decide) rfl (fun ls hl => ?_)
        refine lv_iconst (v := 0) hx hb dX7_lapseAfter_46 (by decide) ?_
        refine lv_istore (lv' := [(5, .int (0 : Int32)), (4, .int (0 : Int32)), (0, .ref (ad 0)), (1, .int y1), (2, .int y2), (3, .int y3)]) hx hb dX7_lapseAfter_47 hl (by decide) rfl (fun ls hl => ?_)
        exact L_49 hf V (lv_sub hl [2, 3, 4, 5, 1, 0] rfl)
      · replace hf := qf_f c_31 hf
        refine lv_bipush (v := -2) hx hb dX7_lapseAfter_34 (by decide) ?_
        have hE := Option.some.inj hf
        exact qx_ireti hQ S0 hr hlocks hE rfl rfl V dX7_lapseAfter_36
  have J_20 : ∀   {y1 : Int32} {y2 : Int32} {y3 : Int32} {H : Heap} {locs : List Loc} {ls : Array Slot}, f_X7_lapseAfter_j20 I A y1 y2 y3 = some ro → qw_V D cy Z9 s (Wo cy ad I A G T) H locs → lv_has ls 6 [(0, .ref (ad 0)), (1, .int y1), (2, .int y2), (3, .int y3)] → W p l e rm_X7_lapseAfter s m args below meth c H locs 0 0 Q9 (F0 m 20 ls []) := by
    intro y1 y2 y3 H locs ls hf V hl
    unfold f_X7_lapseAfter_j20 at hf
    refine lv_iconst (v := 0) hx hb dX7_lapseAfter_20 (by decide) ?_
    exact J_21 hf V (lv_sub hl [0, 1, 2, 3] rfl)
  unfold f_X7_lapseAfter at hf
  refine lv_aload_n hx hb dX7_lapseAfter_0 rfl (lv_at hl 0 rfl) ?_
  refine lv_iload_n hx hb dX7_lapseAfter_1 rfl (lv_at hl 1 rfl) ?_
  obtain ⟨r1, hc_2, hf⟩ := qf_bd_e hf
  refine qw_cVR (rest := []) (st1 := [.int r1]) S0 V hl 0 gO_0 rfl (c_X7_isHouse l hc_2) kg_X7_150 rfl ⟨rfl, rfl⟩ kd_X7_isHouse ⟨Nat.le_of_ble_eq_true rfl, Nat.le_of_ble_eq_true rfl⟩ rfl rfl (Nat.le_of_ble_eq_true rfl) ⟨Nat.zero_le _, Nat.zero_le _⟩ rfl dX7_lapseAfter_2 ?_
  refine lv_if_eq (tgt := 20) hx hb dX7_lapseAfter_5 (by decide) (fun c_5 => ?_) (fun c_5 => ?_)
  · replace hf := qf_t c_5 hf
    exact J_20 hf V (lv_sub hl [0, 1, 2, 3] rfl)
  · replace hf := qf_f c_5 hf
    refine lv_aload_n hx hb dX7_lapseAfter_8 rfl (lv_at hl 0 rfl) ?_
    refine lv_iload_n hx hb dX7_lapseAfter_9 rfl (lv_at hl 2 rfl) ?_
    obtain ⟨r2, hc_10, hf⟩ := qf_bd_e hf
    refine qw_cVR (rest := []) (st1 := [.int r2]) S0 V hl 0 gO_0 rfl (c_X7_isGroup l hc_10) kg_X7_115 rfl ⟨rfl, rfl⟩ kd_X7_isGroup ⟨Nat.le_of_ble_eq_true rfl, Nat.le_of_ble_eq_true rfl⟩ rfl rfl (Nat.le_of_ble_eq_true rfl) ⟨Nat.zero_le _, Nat.zero_le _⟩ rfl dX7_lapseAfter_10 ?_
    refine lv_if_eq (tgt := 20) hx hb dX7_lapseAfter_13 (by decide) (fun c_13 => ?_) (fun c_13 => ?_)
    · replace hf := qf_t c_13 hf
      exact J_20 hf V (lv_sub hl [0, 1, 2, 3] rfl)
    · replace hf := qf_f c_13 hf
      refine lv_iconst (v := 1) hx hb dX7_lapseAfter_16 (by decide) ?_
      refine lv_goto (tgt := 21) hx hb dX7_lapseAfter_17 (by decide) ?_
      exact J_21 hf V (lv_sub hl [0, 1, 2, 3] rfl)
theorem kd_X4_spend : yX4_spend.cls ≠ "java/lang/invoke/MethodHandle" ∧ yX4_spend.cls ≠ "java/lang/invoke/VarHandle" ∧ (parseMethodDescriptor yX4_spend.desc).map (fun d => d.parameters.length) = some 3 := by decide +kernel
def f_X4_spend_l5 (n0 : Nat)  (y1 : Int32) : Nat → (Nat → Int32) → Int32 → Int32 → Option ((Nat → Int32))
  | 0, _, _, _ => none
  | n + 1, f0, y3, y4 =>
  if (5 : Int32) ≤ y4 then (some (f0)) else (qf_ld n0 f0 (y1 + y4) fun x1 =>
    qf_let ((if x1 < y3 then x1 else y3)) fun x2 =>
    qf_ld n0 f0 (y1 + y4) fun x3 =>
    qf_st n0 (y1 + y4) fun i5 =>
    qf_let (upd f0 i5 (x3 - x2)) fun A4 =>
    qf_let ((y3 - x2)) fun x6 =>
    qf_let (y4 + (1 : Int32)) fun x7 =>
    f_X4_spend_l5 n0 y1 n A4 x6 x7)
def f_X4_spend (n0 : Nat) (f0 : Nat → Int32) (p1 : Int32) (p2 : Int32) : Option ((Nat → Int32)) :=
  f_X4_spend_l5 n0 p1 100000 f0 p2 (0 : Int32)
abbrev wz_X4_spend : List Cond := Cond.code yX4_spend cX4_spend 6 none :: qw_big
def rm_X4_spend : Room := { frames := 1, cells := 0, slots := 0, locals := 60 }
set_option maxHeartbeats 4000000 in
set_option maxRecDepth 100000 in
theorem c_X4_spend (l : Launch) {D : va_G} {cy : Nat → ClassId} {ws : va_W} {q0 a0 n0 : Nat} {f0 : Nat → Int32} (ha0 : ws[q0]? = some (a0, .inl (cy 0, n0, .inl f0))) {p1 : Int32} {p2 : Int32} {f09 : Nat → Int32} {ws9 : va_W} (hs : ws.set q0 (a0, .inl (cy 0, n0, .inl f09)) = ws9) {sz : Nat} (hf : f_X4_spend n0 f0 p1 p2 = some (f09)) : Met l yX4_spend wz_X4_spend rm_X4_spend (va_Pc [.ref a0, .int p1, .int p2] (qw_Pre D cy ws sz)) (qw_Q none D ws9 (va_A ws sz)) 0 0 (va_A ws sz) := by
  refine qw_of (cc := cX4_spend) (maxL := 6) (ret := none) (by decide) (Nat.le_of_ble_eq_true rfl) ?_
  intro p e s m args below meth c ls S0 hr hlocks hsz V hl
  have S0 : CallFix p m c cX4_spend 6 s args qw_big RX4 := S0
  have hx := S0.1; have hb := S0.2.1; have hown := S0.2.2.2.1; have hts := S0.2.2.2.2
  have hl : lv_has ls 6 [(0, .ref a0), (1, .int p1), (2, .int p2)] := hl
  generalize va_A ws sz = Z9 at V ⊢
  obtain ⟨Q9, hQ⟩ : ∃ q, q = MQ below (qw_Q none D ws9 Z9) args s 0 0 Z9 := ⟨_, rfl⟩
  rw [← hQ]
  have V := qw_V.toq ha0 V
  subst hs
  clear hsz
  have L_5 : ∀  {y1 : Int32} {n : Nat} {f0 : Nat → Int32} {y3 : Int32} {y4 : Int32} {H : Heap} {locs : List Loc} {ls : Array Slot}, f_X4_spend_l5 n0 y1 n f0 y3 y4 = some (f09) → qw_V D cy Z9 s (ws.set q0 (a0, .inl (cy 0, n0, .inl f0))) H locs → lv_has ls 6 [(0, .ref a0), (1, .int y1), (3, .int y3), (4, .int y4)] → W p l e rm_X4_spend s m args below meth c H locs 0 0 Q9 (F0 m 5 ls []) := by
    intro y1 n
    induction n with
    | zero => intro f0 y3 y4 H locs ls hf V hl; exact qf_no hf
    | succ n ih =>
      intro f0 y3 y4 H locs ls hf V hl
      rw [f_X4_spend_l5] at hf
      refine lv_iload hx hb dX4_spend_5 (lv_at hl 3 rfl) ?_
      refine lv_iconst (v := 5) hx hb dX4_spend_7 (by decide) ?_
      refine lv_icmp_ge (tgt := 45) hx hb dX4_spend_8 (by decide) (fun c_8 => ?_) (fun c_8 => ?_)
      · replace hf := qf_t c_8 hf
        have hE := Option.some.inj hf
        exact qw_vreti S0 hr hlocks hQ (by rw [hE]) V dX4_spend_45
      · replace hf := qf_f c_8 hf
        refine lv_iload_n hx hb dX4_spend_11 rfl (lv_at hl 2 rfl) ?_
        refine lv_aload_n hx hb dX4_spend_12 rfl (lv_at hl 0 rfl) ?_
        refine lv_iload_n hx hb dX4_spend_13 rfl (lv_at hl 1 rfl) ?_
        refine lv_iload hx hb dX4_spend_14 (lv_at hl 3 rfl) ?_
        refine lv_iadd hx hb dX4_spend_16 ?_
        have h_17 := qf_ld_in hf
        refine qw_ild S0 V q0 (qw_gq ha0) h_17 dX4_spend_17 ?_
        refine lv_topi (fun x1 e_x1 => ?_)
        replace hf := qf_ld_e e_x1 hf
        refine qw_min S0 hl.1 kml_X4_9 (Nat.le_of_ble_eq_true rfl) (Nat.le_of_ble_eq_true rfl) (Nat.zero_le _) (Nat.zero_le _) dX4_spend_18 ?_
        refine lv_topi (fun x2 e_x2 => ?_)
        replace hf := qf_let_e e_x2 hf
        refine lv_istore (lv' := [(5, .int x2), (0, .ref a0), (1, .int y1), (3, .int y3), (4, .int y4)]) hx hb dX4_spend_21 hl (by decide) rfl (fun ls hl => ?_)
        refine lv_aload_n hx hb dX4_spend_23 rfl (lv_at hl 1 rfl) ?_
        refine lv_iload_n hx hb dX4_spend_24 rfl (lv_at hl 2 rfl) ?_
        refine lv_iload hx hb dX4_spend_25 (lv_at hl 4 rfl) ?_
        refine lv_iadd hx hb dX4_spend_27 ?_
        refine lv_dup2_11 hx hb dX4_spend_28 rfl rfl ?_
        have h_29 := qf_ld_in hf
        refine qw_ild S0 V q0 (qw_gq ha0) h_29 dX4_spend_29 ?_
        refine lv_topi (fun x3 e_x3 => ?_)
        replace hf := qf_ld_e e_x3 hf
        refine lv_iload hx hb dX4_spend_30 (lv_at hl 0 rfl) ?_
        refine lv_isub hx hb dX4_spend_32 ?_
        have h_33 := qf_st_in hf
        replace hf := qf_st_e hf
        refine qw_istq S0 V q0 ha0 h_33 dX4_spend_33 (fun H locs A4 e_A4 V => ?_)
        replace hf := qf_let_e e_A4 hf
        refine lv_iload_n hx hb dX4_spend_34 rfl (lv_at hl 3 rfl) ?_
        refine lv_iload hx hb dX4_spend_35 (lv_at hl 0 rfl) ?_
        refine lv_isub hx hb dX4_spend_37 ?_
        refine lv_topi (fun x6 e_x6 => ?_)
        replace hf := qf_let_e e_x6 hf
        refine lv_istore_n (lv' := [(3, .int x6), (5, .int x2), (0, .ref a0), (1, .int y1), (4, .int y4)]) hx hb dX4_spend_38 rfl hl (by decide) rfl (fun ls hl => ?_)
        obtain ⟨x7, e_x7⟩ : ∃ y : Int32, y = y4 + (1 : Int32) := ⟨_, rfl⟩
        refine lv_iinc (v := x7) (lv' := [(4, .int x7), (3, .int x6), (5, .int x2), (0, .ref a0), (1, .int y1)]) hx hb dX4_spend_39 hl (k := 4) rfl (by rw [e_x7]; rfl) (by decide) rfl (fun ls hl => ?_)
        replace hf := qf_let_e e_x7 hf
        refine lv_goto (tgt := 5) hx hb dX4_spend_42 (by decide) ?_
        exact ih hf V (lv_sub hl [3, 4, 1, 0] rfl)
  unfold f_X4_spend at hf
  refine lv_iload_n hx hb dX4_spend_0 rfl (lv_at hl 2 rfl) ?_
  refine lv_istore_n (lv' := [(3, .int p2), (0, .ref a0), (1, .int p1), (2, .int p2)]) hx hb dX4_spend_1 rfl hl (by decide) rfl (fun ls hl => ?_)
  refine lv_iconst (v := 0) hx hb dX4_spend_2 (by decide) ?_
  refine lv_istore (lv' := [(4, .int (0 : Int32)), (3, .int p2), (0, .ref a0), (1, .int p1), (2, .int p2)]) hx hb dX4_spend_3 hl (by decide) rfl (fun ls hl => ?_)
  exact L_5 hf V (lv_sub hl [2, 3, 1, 0] rfl)
theorem kd_X7_supplyPeriods : yX7_supplyPeriods.cls = RX7 ∧ yX7_supplyPeriods.cls ≠ "java/lang/invoke/MethodHandle" ∧ yX7_supplyPeriods.cls ≠ "java/lang/invoke/VarHandle" ∧ (parseMethodDescriptor yX7_supplyPeriods.desc).map (fun d => d.parameters.length) = some 3 := by decide +kernel
def f_X7_supplyPeriods_l68 (I : Nat → Int32)  (y1 : Int32) (y4 : Int32) (y5 : Int32) : Nat → (Nat → Nat → Int32) → Int32 → Option (Option (Int32 × (Nat → Nat → Int32)))
  | 0, _, _ => none
  | n + 1, A, y6 =>
  if (50 : Int32) ≤ y6 then (some (some ((50 : Int32), A))) else (qf_bd (f_X4_total 5 (A 1) (0 : Int32)) fun r8 =>
    if y5 ≤ r8 then (qf_bd (f_X4_spend 5 (A 1) (0 : Int32) y5) fun f9 =>
      qf_let (qf_up A 1 f9) fun A10 =>
      qf_bd2 (f_X7_stepAhead A10 y1 y4) fun r11 A12 =>
      qf_let (y6 + (1 : Int32)) fun x13 =>
      f_X7_supplyPeriods_l68 I y1 y4 y5 n A12 x13) else (some (some (y6, A))))
def f_X7_supplyPeriods_j21 (I : Nat → Int32) (A : Nat → Nat → Int32)  (y1 : Int32) (y2 : Int32) (y3 : Int32) (s0 : Int32) : Option (Option (Int32 × (Nat → Nat → Int32))) :=
  if s0 = 0 then some none else
  qf_bd (f_X7_areUnits y3) fun r3 =>
  if r3 = 0 then (some (some ((-2 : Int32), A))) else (qf_ld 6 (A 19) y2 fun x4 =>
    qf_ld 6 (A 20) y2 fun x5 =>
    qf_let ((y3 * x5)) fun x6 =>
    qf_bd (f_X7_startAhead A y1 x4) fun A7 =>
    f_X7_supplyPeriods_l68 I y1 x4 x6 100000 A7 (0 : Int32))
def f_X7_supplyPeriods_j20 (I : Nat → Int32) (A : Nat → Nat → Int32)  (y1 : Int32) (y2 : Int32) (y3 : Int32) : Option (Option (Int32 × (Nat → Nat → Int32))) :=
  f_X7_supplyPeriods_j21 I A y1 y2 y3 (0 : Int32)
def f_X7_supplyPeriods (I : Nat → Int32) (A : Nat → Nat → Int32) (p1 : Int32) (p2 : Int32) (p3 : Int32) : Option (Option (Int32 × (Nat → Nat → Int32))) :=
  qf_bd (f_X7_isHouse I p1) fun r1 =>
  if r1 = 0 then (f_X7_supplyPeriods_j20 I A p1 p2 p3) else (qf_bd (f_X7_isGood I p2) fun r2 =>
    if r2 = 0 then (f_X7_supplyPeriods_j20 I A p1 p2 p3) else (f_X7_supplyPeriods_j21 I A p1 p2 p3 (1 : Int32)))
abbrev wz_X7_supplyPeriods : List Cond := Cond.code yX7_supplyPeriods cX7_supplyPeriods 7 (some .int) :: qw_big
def rm_X7_supplyPeriods : Room := { frames := 7, cells := 1, slots := 6, locals := 102 }
set_option maxHeartbeats 4000000 in
set_option maxRecDepth 100000 in
theorem c_X7_supplyPeriods (l : Launch) (hst : l.stackTraces = false) {D : va_G} {cy : Nat → ClassId} {ad : Nat → Nat} {I : Nat → Int32} {A : Nat → Nat → Int32} {G : Nat → Int32 × (Nat → Nat → Int32)} {T : Nat} {p1 : Int32} {p2 : Int32} {p3 : Int32} {ro : (Option (Int32 × (Nat → Nat → Int32)))} {sz : Nat} (hf : f_X7_supplyPeriods I A p1 p2 p3 = some ro) : vx_Met l yX7_supplyPeriods wz_X7_supplyPeriods rm_X7_supplyPeriods (va_Pc [.ref (ad 0), .int p1, .int p2, .int p3] (qw_Pre D cy (Wo cy ad I A G T) sz)) (qx_Q ro (fun v9 => some (.int v9.1)) (fun v9 => (Wo cy ad I v9.2 G T)) D (va_A (Wo cy ad I A G T) sz)) (qx_X ro D (Wo cy ad I A G T) (va_A (Wo cy ad I A G T) sz)) 1 6 (va_A (Wo cy ad I A G T) sz) := by
  refine qx_of (cc := cX7_supplyPeriods) (maxL := 7) (ret := (some .int)) (by decide) (Nat.le_of_ble_eq_true rfl) ?_
  intro p e s m args below meth c ls S0 hr hlocks htab hsz V hl
  have S0 : CallFix p m c cX7_supplyPeriods 7 s args qw_big RX7 := S0
  have hx := S0.1; have hb := S0.2.1; have hown := S0.2.2.2.1; have hts := S0.2.2.2.2
  have hl : lv_has ls 7 [(0, .ref (ad 0)), (1, .int p1), (2, .int p2), (3, .int p3)] := hl
  generalize va_A (Wo cy ad I A G T) sz = Z9 at V ⊢
  obtain ⟨Q9, hQ⟩ : ∃ q, q = vx_MQ below (qx_Q ro (fun v9 => some (.int v9.1)) (fun v9 => (Wo cy ad I v9.2 G T)) D Z9) (qx_X ro D (Wo cy ad I A G T) Z9) args s 1 6 Z9 := ⟨_, rfl⟩
  rw [← hQ]
  clear hsz
  have L_68 : ∀  {y1 : Int32} {y4 : Int32} {y5 : Int32} {n : Nat} {A : Nat → Nat → Int32} {y6 : Int32} {H : Heap} {locs : List Loc} {ls : Array Slot}, f_X7_supplyPeriods_l68 I y1 y4 y5 n A y6 = some ro → qw_V D cy Z9 s (Wo cy ad I A G T) H locs → lv_has ls 7 [(0, .ref (ad 0)), (1, .int y1), (4, .int y4), (5, .int y5), (6, .int y6)] → W p l e rm_X7_supplyPeriods s m args below meth c H locs 0 0 Q9 (F0 m 68 ls []) := by
    intro y1 y4 y5 n
    induction n with
    | zero => intro A y6 H locs ls hf V hl; exact qf_no hf
    | succ n ih =>
      intro A y6 H locs ls hf V hl
      rw [f_X7_supplyPeriods_l68] at hf
      refine lv_iload hx hb dX7_supplyPeriods_68 (lv_at hl 4 rfl) ?_
      refine lv_bipush (v := 50) hx hb dX7_supplyPeriods_70 (by decide) ?_
      refine lv_icmp_ge (tgt := 115) hx hb dX7_supplyPeriods_72 (by decide) (fun c_72 => ?_) (fun c_72 => ?_)
      · replace hf := qf_t c_72 hf
        refine lv_bipush (v := 50) hx hb dX7_supplyPeriods_115 (by decide) ?_
        have hE := Option.some.inj hf
        exact qx_ireti hQ S0 hr hlocks hE rfl rfl V dX7_supplyPeriods_117
      · replace hf := qf_f c_72 hf
        refine lv_aload_n hx hb dX7_supplyPeriods_75 rfl (lv_at hl 0 rfl) ?_
        refine gfO_0_4 S0 V kl_X7_34 dX7_supplyPeriods_76 ?_
        refine lv_iconst (v := 0) hx hb dX7_supplyPeriods_79 (by decide) ?_
        obtain ⟨r8, hc_80, hf⟩ := qf_bd_e hf
        refine qw_cSR (rest := []) (st1 := [.int r8]) S0 V hl (c_X4_total l (q0 := 2) gO_2 hc_80) kg_X7_179 rfl ⟨rfl, rfl⟩ kd_X4_total ⟨Nat.le_of_ble_eq_true rfl, Nat.le_of_ble_eq_true rfl⟩ rfl rfl (Nat.le_of_ble_eq_true rfl) ⟨Nat.zero_le _, Nat.zero_le _⟩ rfl dX7_supplyPeriods_80 ?_
        refine lv_iload hx hb dX7_supplyPeriods_83 (lv_at hl 3 rfl) ?_
        refine lv_icmp_ge (tgt := 91) hx hb dX7_supplyPeriods_85 (by decide) (fun c_85 => ?_) (fun c_85 => ?_)
        · replace hf := qf_t c_85 hf
          refine lv_aload_n hx hb dX7_supplyPeriods_91 rfl (lv_at hl 0 rfl) ?_
          refine gfO_0_4 S0 V kl_X7_34 dX7_supplyPeriods_92 ?_
          refine lv_iconst (v := 0) hx hb dX7_supplyPeriods_95 (by decide) ?_
          refine lv_iload hx hb dX7_supplyPeriods_96 (lv_at hl 3 rfl) ?_
          obtain ⟨f9, hc_98, hf⟩ := qf_bd_e hf
          obtain ⟨A10, e_A10⟩ : ∃ y : Nat → Nat → Int32, y = qf_up A 1 f9 := ⟨_, rfl⟩
          replace hf := qf_let_e e_A10 hf
          refine qw_cS (rest := []) (st1 := []) S0 V hl (c_X4_spend l (hs := (sO_2 e_A10)) (q0 := 2) gO_2 hc_98) kg_X7_293 rfl ⟨rfl, rfl⟩ kd_X4_spend ⟨Nat.le_of_ble_eq_true rfl, Nat.le_of_ble_eq_true rfl⟩ rfl rfl (Nat.le_of_ble_eq_true rfl) ⟨Nat.zero_le _, Nat.zero_le _⟩ rfl dX7_supplyPeriods_98 (fun H locs V => ?_)
          refine lv_aload_n hx hb dX7_supplyPeriods_101 rfl (lv_at hl 0 rfl) ?_
          refine lv_iload_n hx hb dX7_supplyPeriods_102 rfl (lv_at hl 1 rfl) ?_
          refine lv_iload hx hb dX7_supplyPeriods_103 (lv_at hl 2 rfl) ?_
          obtain ⟨r11, A12, hc_105, hf⟩ := qf_bd2_e hf
          refine qw_cV (rest := []) (st1 := [.int r11]) S0 V hl 0 gO_0 rfl (c_X7_stepAhead l hc_105) kg_X7_176 rfl ⟨rfl, rfl⟩ kd_X7_stepAhead ⟨Nat.le_of_ble_eq_true rfl, Nat.le_of_ble_eq_true rfl⟩ rfl rfl (Nat.le_of_ble_eq_true rfl) ⟨Nat.zero_le _, Nat.zero_le _⟩ rfl dX7_supplyPeriods_105 (fun H locs V => ?_)
          refine lv_pop hx hb dX7_supplyPeriods_108 rfl ?_
          obtain ⟨x13, e_x13⟩ : ∃ y : Int32, y = y6 + (1 : Int32) := ⟨_, rfl⟩
          refine lv_iinc (v := x13) (lv' := [(6, .int x13), (0, .ref (ad 0)), (1, .int y1), (4, .int y4), (5, .int y5)]) hx hb dX7_supplyPeriods_109 hl (k := 4) rfl (by rw [e_x13]; rfl) (by decide) rfl (fun ls hl => ?_)
          replace hf := qf_let_e e_x13 hf
          refine lv_goto (tgt := 68) hx hb dX7_supplyPeriods_112 (by decide) ?_
          exact ih hf V (lv_sub hl [1, 2, 3, 4, 0] rfl)
        · replace hf := qf_f c_85 hf
          refine lv_iload hx hb dX7_supplyPeriods_88 (lv_at hl 4 rfl) ?_
          have hE := Option.some.inj hf
          exact qx_ireti hQ S0 hr hlocks hE rfl rfl V dX7_supplyPeriods_90
  have J_21 : ∀   {y1 : Int32} {y2 : Int32} {y3 : Int32} {s0 : Int32} {H : Heap} {locs : List Loc} {ls : Array Slot}, f_X7_supplyPeriods_j21 I A y1 y2 y3 s0 = some ro → qw_V D cy Z9 s (Wo cy ad I A G T) H locs → lv_has ls 7 [(0, .ref (ad 0)), (1, .int y1), (2, .int y2), (3, .int y3)] → W p l e rm_X7_supplyPeriods s m args below meth c H locs 0 0 Q9 (F0 m 21 ls [.int s0]) := by
    intro y1 y2 y3 s0 H locs ls hf V hl
    unfold f_X7_supplyPeriods_j21 at hf
    by_cases c_21 : s0 = 0
    · exact qx_thr (rest := []) hst hQ S0 V hl c_21 kg_X7_119 ⟨by decide, by decide⟩ (Nat.le_of_ble_eq_true rfl) ⟨by decide, by decide⟩ dX7_supplyPeriods_21 (by decide) (by decide) hlocks htab (fun t9 h9 h8 => ⟨rfl, (Option.some.inj (qf_t c_21 hf)).symm, h9, h8⟩)
    replace hf := qf_f c_21 hf
    refine qw_cSR (rest := []) (st1 := []) S0 V hl (c_X7_need l c_21) kg_X7_119 rfl ⟨rfl, rfl⟩ kd_X7_need ⟨by decide, by decide⟩ rfl rfl (Nat.le_of_ble_eq_true rfl) ⟨Nat.zero_le _, Nat.zero_le _⟩ rfl dX7_supplyPeriods_21 ?_
    refine lv_iload_n hx hb dX7_supplyPeriods_24 rfl (lv_at hl 3 rfl) ?_
    obtain ⟨r3, hc_25, hf⟩ := qf_bd_e hf
    refine qw_cSR (rest := []) (st1 := [.int r3]) S0 V hl (c_X7_areUnits l hc_25) kg_X7_252 rfl ⟨rfl, rfl⟩ kd_X7_areUnits ⟨Nat.le_of_ble_eq_true rfl, Nat.le_of_ble_eq_true rfl⟩ rfl rfl (Nat.le_of_ble_eq_true rfl) ⟨Nat.zero_le _, Nat.zero_le _⟩ rfl dX7_supplyPeriods_25 ?_
    refine lv_if_ne (tgt := 34) hx hb dX7_supplyPeriods_28 (by decide) (fun c_28 => ?_) (fun c_28 => ?_)
    · replace hf := qf_f c_28 hf
      refine lv_aload_n hx hb dX7_supplyPeriods_34 rfl (lv_at hl 0 rfl) ?_
      refine gfO_0_5 S0 V kl_X7_40 dX7_supplyPeriods_35 ?_
      refine gfO_19_12 S0 V kl_X7_141 dX7_supplyPeriods_38 ?_
      refine lv_iload_n hx hb dX7_supplyPeriods_41 rfl (lv_at hl 2 rfl) ?_
      have h_42 := qf_ld_in hf
      refine alO_28 S0 V h_42 dX7_supplyPeriods_42 ?_
      refine lv_topi (fun x4 e_x4 => ?_)
      replace hf := qf_ld_e e_x4 hf
      refine lv_istore (lv' := [(4, .int x4), (0, .ref (ad 0)), (1, .int y1), (2, .int y2), (3, .int y3)]) hx hb dX7_supplyPeriods_43 hl (by decide) rfl (fun ls hl => ?_)
      refine lv_iload_n hx hb dX7_supplyPeriods_45 rfl (lv_at hl 4 rfl) ?_
      refine lv_aload_n hx hb dX7_supplyPeriods_46 rfl (lv_at hl 1 rfl) ?_
      refine gfO_0_5 S0 V kl_X7_40 dX7_supplyPeriods_47 ?_
      refine gfO_19_13 S0 V kl_X7_144 dX7_supplyPeriods_50 ?_
      refine lv_iload_n hx hb dX7_supplyPeriods_53 rfl (lv_at hl 3 rfl) ?_
      have h_54 := qf_ld_in hf
      refine alO_29 S0 V h_54 dX7_supplyPeriods_54 ?_
      refine lv_topi (fun x5 e_x5 => ?_)
      replace hf := qf_ld_e e_x5 hf
      refine lv_imul hx hb dX7_supplyPeriods_55 ?_
      refine lv_topi (fun x6 e_x6 => ?_)
      replace hf := qf_let_e e_x6 hf
      refine lv_istore (lv' := [(5, .int x6), (4, .int x4), (0, .ref (ad 0)), (1, .int y1), (2, .int y2), (3, .int y3)]) hx hb dX7_supplyPeriods_56 hl (by decide) rfl (fun ls hl => ?_)
      refine lv_aload_n hx hb dX7_supplyPeriods_58 rfl (lv_at hl 2 rfl) ?_
      refine lv_iload_n hx hb dX7_supplyPeriods_59 rfl (lv_at hl 3 rfl) ?_
      refine lv_iload hx hb dX7_supplyPeriods_60 (lv_at hl 1 rfl) ?_
      obtain ⟨A7, hc_62, hf⟩ := qf_bd_e hf
      refine qw_cV (rest := []) (st1 := []) S0 V hl 0 gO_0 rfl (c_X7_startAhead l hc_62) kg_X7_172 rfl ⟨rfl, rfl⟩ kd_X7_startAhead ⟨Nat.le_of_ble_eq_true rfl, Nat.le_of_ble_eq_true rfl⟩ rfl rfl (Nat.le_of_ble_eq_true rfl) ⟨Nat.zero_le _, Nat.zero_le _⟩ rfl dX7_supplyPeriods_62 (fun H locs V => ?_)
      refine lv_iconst (v := 0) hx hb dX7_supplyPeriods_65 (by decide) ?_
      refine lv_istore (lv' := [(6, .int (0 : Int32)), (5, .int x6), (4, .int x4), (0, .ref (ad 0)), (1, .int y1), (2, .int y2), (3, .int y3)]) hx hb dX7_supplyPeriods_66 hl (by decide) rfl (fun ls hl => ?_)
      exact L_68 hf V (lv_sub hl [3, 4, 2, 1, 0] rfl)
    · replace hf := qf_t c_28 hf
      refine lv_bipush (v := -2) hx hb dX7_supplyPeriods_31 (by decide) ?_
      have hE := Option.some.inj hf
      exact qx_ireti hQ S0 hr hlocks hE rfl rfl V dX7_supplyPeriods_33
  have J_20 : ∀   {y1 : Int32} {y2 : Int32} {y3 : Int32} {H : Heap} {locs : List Loc} {ls : Array Slot}, f_X7_supplyPeriods_j20 I A y1 y2 y3 = some ro → qw_V D cy Z9 s (Wo cy ad I A G T) H locs → lv_has ls 7 [(0, .ref (ad 0)), (1, .int y1), (2, .int y2), (3, .int y3)] → W p l e rm_X7_supplyPeriods s m args below meth c H locs 0 0 Q9 (F0 m 20 ls []) := by
    intro y1 y2 y3 H locs ls hf V hl
    unfold f_X7_supplyPeriods_j20 at hf
    refine lv_iconst (v := 0) hx hb dX7_supplyPeriods_20 (by decide) ?_
    exact J_21 hf V (lv_sub hl [0, 1, 2, 3] rfl)
  unfold f_X7_supplyPeriods at hf
  refine lv_aload_n hx hb dX7_supplyPeriods_0 rfl (lv_at hl 0 rfl) ?_
  refine lv_iload_n hx hb dX7_supplyPeriods_1 rfl (lv_at hl 1 rfl) ?_
  obtain ⟨r1, hc_2, hf⟩ := qf_bd_e hf
  refine qw_cVR (rest := []) (st1 := [.int r1]) S0 V hl 0 gO_0 rfl (c_X7_isHouse l hc_2) kg_X7_150 rfl ⟨rfl, rfl⟩ kd_X7_isHouse ⟨Nat.le_of_ble_eq_true rfl, Nat.le_of_ble_eq_true rfl⟩ rfl rfl (Nat.le_of_ble_eq_true rfl) ⟨Nat.zero_le _, Nat.zero_le _⟩ rfl dX7_supplyPeriods_2 ?_
  refine lv_if_eq (tgt := 20) hx hb dX7_supplyPeriods_5 (by decide) (fun c_5 => ?_) (fun c_5 => ?_)
  · replace hf := qf_t c_5 hf
    exact J_20 hf V (lv_sub hl [0, 1, 2, 3] rfl)
  · replace hf := qf_f c_5 hf
    refine lv_aload_n hx hb dX7_supplyPeriods_8 rfl (lv_at hl 0 rfl) ?_
    refine lv_iload_n hx hb dX7_supplyPeriods_9 rfl (lv_at hl 2 rfl) ?_
    obtain ⟨r2, hc_10, hf⟩ := qf_bd_e hf
    refine qw_cVR (rest := []) (st1 := [.int r2]) S0 V hl 0 gO_0 rfl (c_X7_isGood l hc_10) kg_X7_138 rfl ⟨rfl, rfl⟩ kd_X7_isGood ⟨Nat.le_of_ble_eq_true rfl, Nat.le_of_ble_eq_true rfl⟩ rfl rfl (Nat.le_of_ble_eq_true rfl) ⟨Nat.zero_le _, Nat.zero_le _⟩ rfl dX7_supplyPeriods_10 ?_
    refine lv_if_eq (tgt := 20) hx hb dX7_supplyPeriods_13 (by decide) (fun c_13 => ?_) (fun c_13 => ?_)
    · replace hf := qf_t c_13 hf
      exact J_20 hf V (lv_sub hl [0, 1, 2, 3] rfl)
    · replace hf := qf_f c_13 hf
      refine lv_iconst (v := 1) hx hb dX7_supplyPeriods_16 (by decide) ?_
      refine lv_goto (tgt := 21) hx hb dX7_supplyPeriods_17 (by decide) ?_
      exact J_21 hf V (lv_sub hl [0, 1, 2, 3] rfl)
theorem kd_X5_become : yX5_become.cls = RX5 ∧ yX5_become.cls ≠ "java/lang/invoke/MethodHandle" ∧ yX5_become.cls ≠ "java/lang/invoke/VarHandle" ∧ (parseMethodDescriptor yX5_become.desc).map (fun d => d.parameters.length) = some 1 := by decide +kernel
def f_X5_become_tring_r43 (I : Nat → Int32) (A : Nat → Nat → Int32) (G : Nat → Int32 × (Nat → Nat → Int32)) (j : Nat) : Option ((Nat → Int32 × (Nat → Nat → Int32))) :=
  qf_let (qf_up G j ((I 20), (G j).2)) fun G1 =>
  qf_bd (f_X5_copy 4 4 (A 33) ((G1 j).2 0)) fun f2 =>
  qf_let (qf_up G1 j ((G1 j).1, qf_up (G1 j).2 0 f2)) fun G4 =>
  qf_bd (f_X5_copy 6 6 (A 34) ((G4 j).2 1)) fun f5 =>
  qf_let (qf_up G4 j ((G4 j).1, qf_up (G4 j).2 1 f5)) fun G7 =>
  qf_bd (f_X5_copy 3 3 (A 35) ((G7 j).2 2)) fun f8 =>
  qf_let (qf_up G7 j ((G7 j).1, qf_up (G7 j).2 2 f8)) fun G10 =>
  qf_bd (f_X5_copy 120 120 (A 36) ((G10 j).2 3)) fun f11 =>
  qf_let (qf_up G10 j ((G10 j).1, qf_up (G10 j).2 3 f11)) fun G13 =>
  qf_bd (f_X5_copy 6 6 (A 37) ((G13 j).2 4)) fun f14 =>
  qf_let (qf_up G13 j ((G13 j).1, qf_up (G13 j).2 4 f14)) fun G16 =>
  qf_bd (f_X5_copy 6 6 (A 38) ((G16 j).2 5)) fun f17 =>
  qf_let (qf_up G16 j ((G16 j).1, qf_up (G16 j).2 5 f17)) fun G19 =>
  qf_bd (f_X5_copy 24 24 (A 39) ((G19 j).2 6)) fun f20 =>
  qf_let (qf_up G19 j ((G19 j).1, qf_up (G19 j).2 6 f20)) fun G22 =>
  qf_bd (f_X5_copy 16 16 (A 40) ((G22 j).2 7)) fun f23 =>
  qf_let (qf_up G22 j ((G22 j).1, qf_up (G22 j).2 7 f23)) fun G25 =>
  qf_bd (f_X5_copy 4 4 (A 41) ((G25 j).2 8)) fun f26 =>
  qf_let (qf_up G25 j ((G25 j).1, qf_up (G25 j).2 8 f26)) fun G28 =>
  qf_bd (f_X5_copy 24 24 (A 42) ((G28 j).2 9)) fun f29 =>
  qf_let (qf_up G28 j ((G28 j).1, qf_up (G28 j).2 9 f29)) fun G31 =>
  qf_bd (f_X5_copy 24 24 (A 43) ((G31 j).2 10)) fun f32 =>
  qf_let (qf_up G31 j ((G31 j).1, qf_up (G31 j).2 10 f32)) fun G34 =>
  qf_bd (f_X5_copy 4 4 (A 44) ((G34 j).2 11)) fun f35 =>
  qf_let (qf_up G34 j ((G34 j).1, qf_up (G34 j).2 11 f35)) fun G37 =>
  qf_bd (f_X5_copy 4 4 (A 45) ((G37 j).2 12)) fun f38 =>
  qf_let (qf_up G37 j ((G37 j).1, qf_up (G37 j).2 12 f38)) fun G40 =>
  qf_bd (f_X5_copy 4 4 (A 46) ((G40 j).2 13)) fun f41 =>
  qf_let (qf_up G40 j ((G40 j).1, qf_up (G40 j).2 13 f41)) fun G43 =>
  some (G43)
abbrev wz_X5_become : List Cond := Cond.code yX5_become cX5_become 2 none :: qw_big
def rm_X5_become_tring_r43 : Room := { frames := 2, cells := 0, slots := 0, locals := 81 }
set_option maxHeartbeats 4000000 in
set_option maxRecDepth 100000 in
theorem c_X5_become_tring_r43 (l : Launch) {D : va_G} {cy : Nat → ClassId} {ad : Nat → Nat} {I : Nat → Int32} {A : Nat → Nat → Int32} {G : Nat → Int32 × (Nat → Nat → Int32)} {T : Nat} {j : Nat} (l_j : j < 10)  {G9 : Nat → Int32 × (Nat → Nat → Int32)} {sz : Nat} (hf : f_X5_become_tring_r43 I A G j = some (G9)) : Met l yX5_become wz_X5_become rm_X5_become_tring_r43 (va_Pc [.ref (ad (73 + 15 * j)), .ref (ad 43)] (qw_Pre D cy (Wo cy ad I A G T) sz)) (qw_Q none D (Wo cy ad I A G9 T) (va_A (Wo cy ad I A G T) sz)) 0 0 (va_A (Wo cy ad I A G T) sz) := by
  refine qw_of (cc := cX5_become) (maxL := 2) (ret := none) (by decide) (Nat.le_of_ble_eq_true rfl) ?_
  intro p e s m args below meth c ls S0 hr hlocks hsz V hl
  have S0 : CallFix p m c cX5_become 2 s args qw_big RX5 := S0
  have hx := S0.1; have hb := S0.2.1; have hown := S0.2.2.2.1; have hts := S0.2.2.2.2
  have hl : lv_has ls 2 [(0, .ref (ad (73 + 15 * j))), (1, .ref (ad 43))] := hl
  generalize va_A (Wo cy ad I A G T) sz = Z9 at V ⊢
  obtain ⟨Q9, hQ⟩ : ∃ q, q = MQ below (qw_Q none D (Wo cy ad I A G9 T) Z9) args s 0 0 Z9 := ⟨_, rfl⟩
  rw [← hQ]
  clear hsz
  unfold f_X5_become_tring_r43 at hf
  refine lv_aload_n hx hb dX5_become_0 rfl (lv_at hl 0 rfl) ?_
  refine lv_aload_n hx hb dX5_become_1 rfl (lv_at hl 1 rfl) ?_
  refine gfO_43_0 S0 V kl_X5_9 dX5_become_2 ?_
  refine pfR_0 l_j S0 V kl_X5_9 dX5_become_5 (fun H locs G1 e_G1 V => ?_)
  replace hf := qf_let_e e_G1 hf
  refine lv_aload_n hx hb dX5_become_8 rfl (lv_at hl 1 rfl) ?_
  refine gfO_43_1 S0 V kl_X5_15 dX5_become_9 ?_
  refine lv_aload_n hx hb dX5_become_12 rfl (lv_at hl 0 rfl) ?_
  refine gfR_1 l_j S0 V kl_X5_15 dX5_become_13 ?_
  obtain ⟨f2, hc_16, hf⟩ := qf_bd_e hf
  obtain ⟨G4, e_G4⟩ : ∃ y : Nat → Int32 × (Nat → Nat → Int32), y = qf_up G1 j ((G1 j).1, qf_up (G1 j).2 0 f2) := ⟨_, rfl⟩
  replace hf := qf_let_e e_G4 hf
  refine qw_cS (rest := []) (st1 := []) S0 V hl (c_X5_copy l (hs := (s_rarr_0 l_j e_G4)) (q0 := 44) gO_44 (q1 := (73 + 15 * j + 1)) (g_rarr_0 l_j) (by omega) hc_16) kg_X5_61 rfl ⟨rfl, rfl⟩ kd_X5_copy ⟨Nat.le_of_ble_eq_true rfl, Nat.le_of_ble_eq_true rfl⟩ rfl rfl (Nat.le_of_ble_eq_true rfl) ⟨Nat.zero_le _, Nat.zero_le _⟩ rfl dX5_become_16 (fun H locs V => ?_)
  refine lv_aload_n hx hb dX5_become_19 rfl (lv_at hl 1 rfl) ?_
  refine gfO_43_2 S0 V kl_X5_19 dX5_become_20 ?_
  refine lv_aload_n hx hb dX5_become_23 rfl (lv_at hl 0 rfl) ?_
  refine gfR_2 l_j S0 V kl_X5_19 dX5_become_24 ?_
  obtain ⟨f5, hc_27, hf⟩ := qf_bd_e hf
  obtain ⟨G7, e_G7⟩ : ∃ y : Nat → Int32 × (Nat → Nat → Int32), y = qf_up G4 j ((G4 j).1, qf_up (G4 j).2 1 f5) := ⟨_, rfl⟩
  replace hf := qf_let_e e_G7 hf
  refine qw_cS (rest := []) (st1 := []) S0 V hl (c_X5_copy l (hs := (s_rarr_1 l_j e_G7)) (q0 := 45) gO_45 (q1 := (73 + 15 * j + 2)) (g_rarr_1 l_j) (by omega) hc_27) kg_X5_61 rfl ⟨rfl, rfl⟩ kd_X5_copy ⟨Nat.le_of_ble_eq_true rfl, Nat.le_of_ble_eq_true rfl⟩ rfl rfl (Nat.le_of_ble_eq_true rfl) ⟨Nat.zero_le _, Nat.zero_le _⟩ rfl dX5_become_27 (fun H locs V => ?_)
  refine lv_aload_n hx hb dX5_become_30 rfl (lv_at hl 1 rfl) ?_
  refine gfO_43_3 S0 V kl_X5_22 dX5_become_31 ?_
  refine lv_aload_n hx hb dX5_become_34 rfl (lv_at hl 0 rfl) ?_
  refine gfR_3 l_j S0 V kl_X5_22 dX5_become_35 ?_
  obtain ⟨f8, hc_38, hf⟩ := qf_bd_e hf
  obtain ⟨G10, e_G10⟩ : ∃ y : Nat → Int32 × (Nat → Nat → Int32), y = qf_up G7 j ((G7 j).1, qf_up (G7 j).2 2 f8) := ⟨_, rfl⟩
  replace hf := qf_let_e e_G10 hf
  refine qw_cS (rest := []) (st1 := []) S0 V hl (c_X5_copy l (hs := (s_rarr_2 l_j e_G10)) (q0 := 46) gO_46 (q1 := (73 + 15 * j + 3)) (g_rarr_2 l_j) (by omega) hc_38) kg_X5_61 rfl ⟨rfl, rfl⟩ kd_X5_copy ⟨Nat.le_of_ble_eq_true rfl, Nat.le_of_ble_eq_true rfl⟩ rfl rfl (Nat.le_of_ble_eq_true rfl) ⟨Nat.zero_le _, Nat.zero_le _⟩ rfl dX5_become_38 (fun H locs V => ?_)
  refine lv_aload_n hx hb dX5_become_41 rfl (lv_at hl 1 rfl) ?_
  refine gfO_43_4 S0 V kl_X5_25 dX5_become_42 ?_
  refine lv_aload_n hx hb dX5_become_45 rfl (lv_at hl 0 rfl) ?_
  refine gfR_4 l_j S0 V kl_X5_25 dX5_become_46 ?_
  obtain ⟨f11, hc_49, hf⟩ := qf_bd_e hf
  obtain ⟨G13, e_G13⟩ : ∃ y : Nat → Int32 × (Nat → Nat → Int32), y = qf_up G10 j ((G10 j).1, qf_up (G10 j).2 3 f11) := ⟨_, rfl⟩
  replace hf := qf_let_e e_G13 hf
  refine qw_cS (rest := []) (st1 := []) S0 V hl (c_X5_copy l (hs := (s_rarr_3 l_j e_G13)) (q0 := 47) gO_47 (q1 := (73 + 15 * j + 4)) (g_rarr_3 l_j) (by omega) hc_49) kg_X5_61 rfl ⟨rfl, rfl⟩ kd_X5_copy ⟨Nat.le_of_ble_eq_true rfl, Nat.le_of_ble_eq_true rfl⟩ rfl rfl (Nat.le_of_ble_eq_true rfl) ⟨Nat.zero_le _, Nat.zero_le _⟩ rfl dX5_become_49 (fun H locs V => ?_)
  refine lv_aload_n hx hb dX5_become_52 rfl (lv_at hl 1 rfl) ?_
  refine gfO_43_5 S0 V kl_X5_28 dX5_become_53 ?_
  refine lv_aload_n hx hb dX5_become_56 rfl (lv_at hl 0 rfl) ?_
  refine gfR_5 l_j S0 V kl_X5_28 dX5_become_57 ?_
  obtain ⟨f14, hc_60, hf⟩ := qf_bd_e hf
  obtain ⟨G16, e_G16⟩ : ∃ y : Nat → Int32 × (Nat → Nat → Int32), y = qf_up G13 j ((G13 j).1, qf_up (G13 j).2 4 f14) := ⟨_, rfl⟩
  replace hf := qf_let_e e_G16 hf
  refine qw_cS (rest := []) (st1 := []) S0 V hl (c_X5_copy l (hs := (s_rarr_4 l_j e_G16)) (q0 := 48) gO_48 (q1 := (73 + 15 * j + 5)) (g_rarr_4 l_j) (by omega) hc_60) kg_X5_61 rfl ⟨rfl, rfl⟩ kd_X5_copy ⟨Nat.le_of_ble_eq_true rfl, Nat.le_of_ble_eq_true rfl⟩ rfl rfl (Nat.le_of_ble_eq_true rfl) ⟨Nat.zero_le _, Nat.zero_le _⟩ rfl dX5_become_60 (fun H locs V => ?_)
  refine lv_aload_n hx hb dX5_become_63 rfl (lv_at hl 1 rfl) ?_
  refine gfO_43_6 S0 V kl_X5_31 dX5_become_64 ?_
  refine lv_aload_n hx hb dX5_become_67 rfl (lv_at hl 0 rfl) ?_
  refine gfR_6 l_j S0 V kl_X5_31 dX5_become_68 ?_
  obtain ⟨f17, hc_71, hf⟩ := qf_bd_e hf
  obtain ⟨G19, e_G19⟩ : ∃ y : Nat → Int32 × (Nat → Nat → Int32), y = qf_up G16 j ((G16 j).1, qf_up (G16 j).2 5 f17) := ⟨_, rfl⟩
  replace hf := qf_let_e e_G19 hf
  refine qw_cS (rest := []) (st1 := []) S0 V hl (c_X5_copy l (hs := (s_rarr_5 l_j e_G19)) (q0 := 49) gO_49 (q1 := (73 + 15 * j + 6)) (g_rarr_5 l_j) (by omega) hc_71) kg_X5_61 rfl ⟨rfl, rfl⟩ kd_X5_copy ⟨Nat.le_of_ble_eq_true rfl, Nat.le_of_ble_eq_true rfl⟩ rfl rfl (Nat.le_of_ble_eq_true rfl) ⟨Nat.zero_le _, Nat.zero_le _⟩ rfl dX5_become_71 (fun H locs V => ?_)
  refine lv_aload_n hx hb dX5_become_74 rfl (lv_at hl 1 rfl) ?_
  refine gfO_43_7 S0 V kl_X5_34 dX5_become_75 ?_
  refine lv_aload_n hx hb dX5_become_78 rfl (lv_at hl 0 rfl) ?_
  refine gfR_7 l_j S0 V kl_X5_34 dX5_become_79 ?_
  obtain ⟨f20, hc_82, hf⟩ := qf_bd_e hf
  obtain ⟨G22, e_G22⟩ : ∃ y : Nat → Int32 × (Nat → Nat → Int32), y = qf_up G19 j ((G19 j).1, qf_up (G19 j).2 6 f20) := ⟨_, rfl⟩
  replace hf := qf_let_e e_G22 hf
  refine qw_cS (rest := []) (st1 := []) S0 V hl (c_X5_copy l (hs := (s_rarr_6 l_j e_G22)) (q0 := 50) gO_50 (q1 := (73 + 15 * j + 7)) (g_rarr_6 l_j) (by omega) hc_82) kg_X5_61 rfl ⟨rfl, rfl⟩ kd_X5_copy ⟨Nat.le_of_ble_eq_true rfl, Nat.le_of_ble_eq_true rfl⟩ rfl rfl (Nat.le_of_ble_eq_true rfl) ⟨Nat.zero_le _, Nat.zero_le _⟩ rfl dX5_become_82 (fun H locs V => ?_)
  refine lv_aload_n hx hb dX5_become_85 rfl (lv_at hl 1 rfl) ?_
  refine gfO_43_8 S0 V kl_X5_37 dX5_become_86 ?_
  refine lv_aload_n hx hb dX5_become_89 rfl (lv_at hl 0 rfl) ?_
  refine gfR_8 l_j S0 V kl_X5_37 dX5_become_90 ?_
  obtain ⟨f23, hc_93, hf⟩ := qf_bd_e hf
  obtain ⟨G25, e_G25⟩ : ∃ y : Nat → Int32 × (Nat → Nat → Int32), y = qf_up G22 j ((G22 j).1, qf_up (G22 j).2 7 f23) := ⟨_, rfl⟩
  replace hf := qf_let_e e_G25 hf
  refine qw_cS (rest := []) (st1 := []) S0 V hl (c_X5_copy l (hs := (s_rarr_7 l_j e_G25)) (q0 := 51) gO_51 (q1 := (73 + 15 * j + 8)) (g_rarr_7 l_j) (by omega) hc_93) kg_X5_61 rfl ⟨rfl, rfl⟩ kd_X5_copy ⟨Nat.le_of_ble_eq_true rfl, Nat.le_of_ble_eq_true rfl⟩ rfl rfl (Nat.le_of_ble_eq_true rfl) ⟨Nat.zero_le _, Nat.zero_le _⟩ rfl dX5_become_93 (fun H locs V => ?_)
  refine lv_aload_n hx hb dX5_become_96 rfl (lv_at hl 1 rfl) ?_
  refine gfO_43_9 S0 V kl_X5_40 dX5_become_97 ?_
  refine lv_aload_n hx hb dX5_become_100 rfl (lv_at hl 0 rfl) ?_
  refine gfR_9 l_j S0 V kl_X5_40 dX5_become_101 ?_
  obtain ⟨f26, hc_104, hf⟩ := qf_bd_e hf
  obtain ⟨G28, e_G28⟩ : ∃ y : Nat → Int32 × (Nat → Nat → Int32), y = qf_up G25 j ((G25 j).1, qf_up (G25 j).2 8 f26) := ⟨_, rfl⟩
  replace hf := qf_let_e e_G28 hf
  refine qw_cS (rest := []) (st1 := []) S0 V hl (c_X5_copy l (hs := (s_rarr_8 l_j e_G28)) (q0 := 52) gO_52 (q1 := (73 + 15 * j + 9)) (g_rarr_8 l_j) (by omega) hc_104) kg_X5_61 rfl ⟨rfl, rfl⟩ kd_X5_copy ⟨Nat.le_of_ble_eq_true rfl, Nat.le_of_ble_eq_true rfl⟩ rfl rfl (Nat.le_of_ble_eq_true rfl) ⟨Nat.zero_le _, Nat.zero_le _⟩ rfl dX5_become_104 (fun H locs V => ?_)
  refine lv_aload_n hx hb dX5_become_107 rfl (lv_at hl 1 rfl) ?_
  refine gfO_43_10 S0 V kl_X5_43 dX5_become_108 ?_
  refine lv_aload_n hx hb dX5_become_111 rfl (lv_at hl 0 rfl) ?_
  refine gfR_10 l_j S0 V kl_X5_43 dX5_become_112 ?_
  obtain ⟨f29, hc_115, hf⟩ := qf_bd_e hf
  obtain ⟨G31, e_G31⟩ : ∃ y : Nat → Int32 × (Nat → Nat → Int32), y = qf_up G28 j ((G28 j).1, qf_up (G28 j).2 9 f29) := ⟨_, rfl⟩
  replace hf := qf_let_e e_G31 hf
  refine qw_cS (rest := []) (st1 := []) S0 V hl (c_X5_copy l (hs := (s_rarr_9 l_j e_G31)) (q0 := 53) gO_53 (q1 := (73 + 15 * j + 10)) (g_rarr_9 l_j) (by omega) hc_115) kg_X5_61 rfl ⟨rfl, rfl⟩ kd_X5_copy ⟨Nat.le_of_ble_eq_true rfl, Nat.le_of_ble_eq_true rfl⟩ rfl rfl (Nat.le_of_ble_eq_true rfl) ⟨Nat.zero_le _, Nat.zero_le _⟩ rfl dX5_become_115 (fun H locs V => ?_)
  refine lv_aload_n hx hb dX5_become_118 rfl (lv_at hl 1 rfl) ?_
  refine gfO_43_11 S0 V kl_X5_46 dX5_become_119 ?_
  refine lv_aload_n hx hb dX5_become_122 rfl (lv_at hl 0 rfl) ?_
  refine gfR_11 l_j S0 V kl_X5_46 dX5_become_123 ?_
  obtain ⟨f32, hc_126, hf⟩ := qf_bd_e hf
  obtain ⟨G34, e_G34⟩ : ∃ y : Nat → Int32 × (Nat → Nat → Int32), y = qf_up G31 j ((G31 j).1, qf_up (G31 j).2 10 f32) := ⟨_, rfl⟩
  replace hf := qf_let_e e_G34 hf
  refine qw_cS (rest := []) (st1 := []) S0 V hl (c_X5_copy l (hs := (s_rarr_10 l_j e_G34)) (q0 := 54) gO_54 (q1 := (73 + 15 * j + 11)) (g_rarr_10 l_j) (by omega) hc_126) kg_X5_61 rfl ⟨rfl, rfl⟩ kd_X5_copy ⟨Nat.le_of_ble_eq_true rfl, Nat.le_of_ble_eq_true rfl⟩ rfl rfl (Nat.le_of_ble_eq_true rfl) ⟨Nat.zero_le _, Nat.zero_le _⟩ rfl dX5_become_126 (fun H locs V => ?_)
  refine lv_aload_n hx hb dX5_become_129 rfl (lv_at hl 1 rfl) ?_
  refine gfO_43_12 S0 V kl_X5_49 dX5_become_130 ?_
  refine lv_aload_n hx hb dX5_become_133 rfl (lv_at hl 0 rfl) ?_
  refine gfR_12 l_j S0 V kl_X5_49 dX5_become_134 ?_
  obtain ⟨f35, hc_137, hf⟩ := qf_bd_e hf
  obtain ⟨G37, e_G37⟩ : ∃ y : Nat → Int32 × (Nat → Nat → Int32), y = qf_up G34 j ((G34 j).1, qf_up (G34 j).2 11 f35) := ⟨_, rfl⟩
  replace hf := qf_let_e e_G37 hf
  refine qw_cS (rest := []) (st1 := []) S0 V hl (c_X5_copy l (hs := (s_rarr_11 l_j e_G37)) (q0 := 55) gO_55 (q1 := (73 + 15 * j + 12)) (g_rarr_11 l_j) (by omega) hc_137) kg_X5_61 rfl ⟨rfl, rfl⟩ kd_X5_copy ⟨Nat.le_of_ble_eq_true rfl, Nat.le_of_ble_eq_true rfl⟩ rfl rfl (Nat.le_of_ble_eq_true rfl) ⟨Nat.zero_le _, Nat.zero_le _⟩ rfl dX5_become_137 (fun H locs V => ?_)
  refine lv_aload_n hx hb dX5_become_140 rfl (lv_at hl 1 rfl) ?_
  refine gfO_43_13 S0 V kl_X5_52 dX5_become_141 ?_
  refine lv_aload_n hx hb dX5_become_144 rfl (lv_at hl 0 rfl) ?_
  refine gfR_13 l_j S0 V kl_X5_52 dX5_become_145 ?_
  obtain ⟨f38, hc_148, hf⟩ := qf_bd_e hf
  obtain ⟨G40, e_G40⟩ : ∃ y : Nat → Int32 × (Nat → Nat → Int32), y = qf_up G37 j ((G37 j).1, qf_up (G37 j).2 12 f38) := ⟨_, rfl⟩
  replace hf := qf_let_e e_G40 hf
  refine qw_cS (rest := []) (st1 := []) S0 V hl (c_X5_copy l (hs := (s_rarr_12 l_j e_G40)) (q0 := 56) gO_56 (q1 := (73 + 15 * j + 13)) (g_rarr_12 l_j) (by omega) hc_148) kg_X5_61 rfl ⟨rfl, rfl⟩ kd_X5_copy ⟨Nat.le_of_ble_eq_true rfl, Nat.le_of_ble_eq_true rfl⟩ rfl rfl (Nat.le_of_ble_eq_true rfl) ⟨Nat.zero_le _, Nat.zero_le _⟩ rfl dX5_become_148 (fun H locs V => ?_)
  refine lv_aload_n hx hb dX5_become_151 rfl (lv_at hl 1 rfl) ?_
  refine gfO_43_14 S0 V kl_X5_55 dX5_become_152 ?_
  refine lv_aload_n hx hb dX5_become_155 rfl (lv_at hl 0 rfl) ?_
  refine gfR_14 l_j S0 V kl_X5_55 dX5_become_156 ?_
  obtain ⟨f41, hc_159, hf⟩ := qf_bd_e hf
  obtain ⟨G43, e_G43⟩ : ∃ y : Nat → Int32 × (Nat → Nat → Int32), y = qf_up G40 j ((G40 j).1, qf_up (G40 j).2 13 f41) := ⟨_, rfl⟩
  replace hf := qf_let_e e_G43 hf
  refine qw_cS (rest := []) (st1 := []) S0 V hl (c_X5_copy l (hs := (s_rarr_13 l_j e_G43)) (q0 := 57) gO_57 (q1 := (73 + 15 * j + 14)) (g_rarr_13 l_j) (by omega) hc_159) kg_X5_61 rfl ⟨rfl, rfl⟩ kd_X5_copy ⟨Nat.le_of_ble_eq_true rfl, Nat.le_of_ble_eq_true rfl⟩ rfl rfl (Nat.le_of_ble_eq_true rfl) ⟨Nat.zero_le _, Nat.zero_le _⟩ rfl dX5_become_159 (fun H locs V => ?_)
  have hE := Option.some.inj hf
  exact qw_vreti S0 hr hlocks hQ (by rw [hE]) V dX5_become_162
theorem kd_X1_keep : yX1_keep.cls = RX1 ∧ yX1_keep.cls ≠ "java/lang/invoke/MethodHandle" ∧ yX1_keep.cls ≠ "java/lang/invoke/VarHandle" ∧ (parseMethodDescriptor yX1_keep.desc).map (fun d => d.parameters.length) = some 1 := by decide +kernel
def f_X1_keep_r43 (A : Nat → Nat → Int32) (I : Nat → Int32) (G : Nat → Int32 × (Nat → Nat → Int32)) : Option ((Nat → Int32) × (Nat → Int32 × (Nat → Nat → Int32))) :=
  qf_st 10 (I 9) fun j1 =>
  qf_bd (f_X5_become_tring_r43 I A G j1) fun G2 =>
  qf_let (upd I 9 (((I 9) + (1 : Int32)) - ((I 9) + (1 : Int32)) / (10 : Int32) * (10 : Int32))) fun I3 =>
  qf_let ((if (10 : Int32) < ((I3 10) + (1 : Int32)) then (10 : Int32) else ((I3 10) + (1 : Int32)))) fun x4 =>
  qf_let (upd I3 10 x4) fun I5 =>
  some (I5, G2)
abbrev wz_X1_keep : List Cond := Cond.code yX1_keep cX1_keep 2 none :: qw_big
def rm_X1_keep_r43 : Room := { frames := 3, cells := 0, slots := 0, locals := 102 }
set_option maxHeartbeats 4000000 in
set_option maxRecDepth 100000 in
theorem c_X1_keep_r43 (l : Launch) {D : va_G} {cy : Nat → ClassId} {ad : Nat → Nat} {I : Nat → Int32} {A : Nat → Nat → Int32} {G : Nat → Int32 × (Nat → Nat → Int32)} {T : Nat}  {I9 : Nat → Int32} {G9 : Nat → Int32 × (Nat → Nat → Int32)} {sz : Nat} (hf : f_X1_keep_r43 A I G = some (I9, G9)) : Met l yX1_keep wz_X1_keep rm_X1_keep_r43 (va_Pc [.ref (ad 6), .ref (ad 43)] (qw_Pre D cy (Wo cy ad I A G T) sz)) (qw_Q none D (Wo cy ad I9 A G9 T) (va_A (Wo cy ad I A G T) sz)) 0 0 (va_A (Wo cy ad I A G T) sz) := by
  refine qw_of (cc := cX1_keep) (maxL := 2) (ret := none) (by decide) (Nat.le_of_ble_eq_true rfl) ?_
  intro p e s m args below meth c ls S0 hr hlocks hsz V hl
  have S0 : CallFix p m c cX1_keep 2 s args qw_big RX1 := S0
  have hx := S0.1; have hb := S0.2.1; have hown := S0.2.2.2.1; have hts := S0.2.2.2.2
  have hl : lv_has ls 2 [(0, .ref (ad 6)), (1, .ref (ad 43))] := hl
  generalize va_A (Wo cy ad I A G T) sz = Z9 at V ⊢
  obtain ⟨Q9, hQ⟩ : ∃ q, q = MQ below (qw_Q none D (Wo cy ad I9 A G9 T) Z9) args s 0 0 Z9 := ⟨_, rfl⟩
  rw [← hQ]
  clear hsz
  unfold f_X1_keep_r43 at hf
  refine lv_aload_n hx hb dX1_keep_0 rfl (lv_at hl 0 rfl) ?_
  refine gfO_6_0 S0 V kl_X1_11 dX1_keep_1 ?_
  refine lv_aload_n hx hb dX1_keep_4 rfl (lv_at hl 0 rfl) ?_
  refine gfO_6_1 S0 V kl_X1_17 dX1_keep_5 ?_
  have h_8 := qf_st_in hf
  replace hf := qf_st_e hf
  refine al_ring S0 V h_8 dX1_keep_8 (fun j1 e_j1 l_j1 => ?_)
  rw [← e_j1] at hf
  refine lv_aload_n hx hb dX1_keep_9 rfl (lv_at hl 1 rfl) ?_
  obtain ⟨G2, hc_10, hf⟩ := qf_bd_e hf
  refine qw_cV (rest := []) (st1 := []) S0 V hl (73 + 15 * j1) (g_ring l_j1) rfl (c_X5_become_tring_r43 l l_j1 hc_10) kg_X1_25 rfl ⟨rfl, rfl⟩ kd_X5_become ⟨Nat.le_of_ble_eq_true rfl, Nat.le_of_ble_eq_true rfl⟩ rfl rfl (Nat.le_of_ble_eq_true rfl) ⟨Nat.zero_le _, Nat.zero_le _⟩ rfl dX1_keep_10 (fun H locs V => ?_)
  refine lv_aload_n hx hb dX1_keep_13 rfl (lv_at hl 0 rfl) ?_
  refine lv_aload_n hx hb dX1_keep_14 rfl (lv_at hl 0 rfl) ?_
  refine gfO_6_1 S0 V kl_X1_17 dX1_keep_15 ?_
  refine lv_iconst (v := 1) hx hb dX1_keep_18 (by decide) ?_
  refine lv_iadd hx hb dX1_keep_19 ?_
  refine lv_bipush (v := 10) hx hb dX1_keep_20 (by decide) ?_
  refine lv_irem hx hb dX1_keep_22 (by decide) ?_
  refine pfO_6_1 S0 V kl_X1_17 dX1_keep_23 (fun H locs I3 e_I3 V => ?_)
  replace hf := qf_let_e e_I3 hf
  refine lv_aload_n hx hb dX1_keep_26 rfl (lv_at hl 0 rfl) ?_
  refine lv_aload_n hx hb dX1_keep_27 rfl (lv_at hl 0 rfl) ?_
  refine gfO_6_2 S0 V kl_X1_21 dX1_keep_28 ?_
  refine lv_iconst (v := 1) hx hb dX1_keep_31 (by decide) ?_
  refine lv_iadd hx hb dX1_keep_32 ?_
  refine lv_bipush (v := 10) hx hb dX1_keep_33 (by decide) ?_
  refine qw_min S0 hl.1 kml_X1_29 (Nat.le_of_ble_eq_true rfl) (Nat.le_of_ble_eq_true rfl) (Nat.zero_le _) (Nat.zero_le _) dX1_keep_35 ?_
  refine lv_topi (fun x4 e_x4 => ?_)
  replace hf := qf_let_e e_x4 hf
  refine pfO_6_2 S0 V kl_X1_21 dX1_keep_38 (fun H locs I5 e_I5 V => ?_)
  replace hf := qf_let_e e_I5 hf
  have hE := Option.some.inj hf
  obtain ⟨e0, hE⟩ := qf_pr hE
  exact qw_vreti S0 hr hlocks hQ (by rw [e0, hE]) V dX1_keep_41
theorem kd_X7_spend : yX7_spend.cls = RX7 ∧ yX7_spend.cls ≠ "java/lang/invoke/MethodHandle" ∧ yX7_spend.cls ≠ "java/lang/invoke/VarHandle" ∧ (parseMethodDescriptor yX7_spend.desc).map (fun d => d.parameters.length) = some 3 := by decide +kernel
def f_X7_spend (A : Nat → Nat → Int32) (p1 : Int32) (p2 : Int32) (p3 : Int32) : Option ((Nat → Nat → Int32)) :=
  qf_bd (f_X5_purse p1 p2) fun r1 =>
  qf_bd (f_X4_spend 120 (A 36) r1 p3) fun f2 =>
  qf_let (qf_up A 36 f2) fun A3 =>
  qf_ld 4 (A3 45) p2 fun x4 =>
  qf_st 4 p2 fun i6 =>
  qf_let (qf_up A3 45 (upd (A3 45) i6 (x4 + p3))) fun A5 =>
  some (A5)
abbrev wz_X7_spend : List Cond := Cond.code yX7_spend cX7_spend 4 none :: qw_big
def rm_X7_spend : Room := { frames := 2, cells := 0, slots := 0, locals := 85 }
set_option maxHeartbeats 4000000 in
set_option maxRecDepth 100000 in
theorem c_X7_spend (l : Launch) {D : va_G} {cy : Nat → ClassId} {ad : Nat → Nat} {I : Nat → Int32} {A : Nat → Nat → Int32} {G : Nat → Int32 × (Nat → Nat → Int32)} {T : Nat} {p1 : Int32} {p2 : Int32} {p3 : Int32} {A9 : Nat → Nat → Int32} {sz : Nat} (hf : f_X7_spend A p1 p2 p3 = some (A9)) : Met l yX7_spend wz_X7_spend rm_X7_spend (va_Pc [.ref (ad 0), .int p1, .int p2, .int p3] (qw_Pre D cy (Wo cy ad I A G T) sz)) (qw_Q none D (Wo cy ad I A9 G T) (va_A (Wo cy ad I A G T) sz)) 0 0 (va_A (Wo cy ad I A G T) sz) := by
  refine qw_of (cc := cX7_spend) (maxL := 4) (ret := none) (by decide) (Nat.le_of_ble_eq_true rfl) ?_
  intro p e s m args below meth c ls S0 hr hlocks hsz V hl
  have S0 : CallFix p m c cX7_spend 4 s args qw_big RX7 := S0
  have hx := S0.1; have hb := S0.2.1; have hown := S0.2.2.2.1; have hts := S0.2.2.2.2
  have hl : lv_has ls 4 [(0, .ref (ad 0)), (1, .int p1), (2, .int p2), (3, .int p3)] := hl
  generalize va_A (Wo cy ad I A G T) sz = Z9 at V ⊢
  obtain ⟨Q9, hQ⟩ : ∃ q, q = MQ below (qw_Q none D (Wo cy ad I A9 G T) Z9) args s 0 0 Z9 := ⟨_, rfl⟩
  rw [← hQ]
  clear hsz
  unfold f_X7_spend at hf
  refine lv_aload_n hx hb dX7_spend_0 rfl (lv_at hl 0 rfl) ?_
  refine gfO_0_6 S0 V kl_X7_47 dX7_spend_1 ?_
  refine gfO_43_4 S0 V kl_X7_166 dX7_spend_4 ?_
  refine lv_iload_n hx hb dX7_spend_7 rfl (lv_at hl 1 rfl) ?_
  refine lv_iload_n hx hb dX7_spend_8 rfl (lv_at hl 2 rfl) ?_
  obtain ⟨r1, hc_9, hf⟩ := qf_bd_e hf
  refine qw_cSR (rest := [.ref (ad 47)]) (st1 := [.int r1, .ref (ad 47)]) S0 V hl (c_X5_purse l hc_9) kg_X7_169 rfl ⟨rfl, rfl⟩ kd_X5_purse ⟨Nat.le_of_ble_eq_true rfl, Nat.le_of_ble_eq_true rfl⟩ rfl rfl (Nat.le_of_ble_eq_true rfl) ⟨Nat.zero_le _, Nat.zero_le _⟩ rfl dX7_spend_9 ?_
  refine lv_iload_n hx hb dX7_spend_12 rfl (lv_at hl 3 rfl) ?_
  obtain ⟨f2, hc_13, hf⟩ := qf_bd_e hf
  obtain ⟨A3, e_A3⟩ : ∃ y : Nat → Nat → Int32, y = qf_up A 36 f2 := ⟨_, rfl⟩
  replace hf := qf_let_e e_A3 hf
  refine qw_cS (rest := []) (st1 := []) S0 V hl (c_X4_spend l (hs := (sO_47 e_A3)) (q0 := 47) gO_47 hc_13) kg_X7_293 rfl ⟨rfl, rfl⟩ kd_X4_spend ⟨Nat.le_of_ble_eq_true rfl, Nat.le_of_ble_eq_true rfl⟩ rfl rfl (Nat.le_of_ble_eq_true rfl) ⟨Nat.zero_le _, Nat.zero_le _⟩ rfl dX7_spend_13 (fun H locs V => ?_)
  refine lv_aload_n hx hb dX7_spend_16 rfl (lv_at hl 0 rfl) ?_
  refine gfO_0_6 S0 V kl_X7_47 dX7_spend_17 ?_
  refine gfO_43_13 S0 V kl_X7_243 dX7_spend_20 ?_
  refine lv_iload_n hx hb dX7_spend_23 rfl (lv_at hl 2 rfl) ?_
  refine lv_dup2_11 hx hb dX7_spend_24 rfl rfl ?_
  have h_25 := qf_ld_in hf
  refine alO_56 S0 V h_25 dX7_spend_25 ?_
  refine lv_topi (fun x4 e_x4 => ?_)
  replace hf := qf_ld_e e_x4 hf
  refine lv_iload_n hx hb dX7_spend_26 rfl (lv_at hl 3 rfl) ?_
  refine lv_iadd hx hb dX7_spend_27 ?_
  have h_28 := qf_st_in hf
  replace hf := qf_st_e hf
  refine asO_56 S0 V h_28 dX7_spend_28 (fun H locs A5 e_A5 V => ?_)
  replace hf := qf_let_e e_A5 hf
  have hE := Option.some.inj hf
  exact qw_vreti S0 hr hlocks hQ (by rw [hE]) V dX7_spend_29
theorem kd_X7_pay : yX7_pay.cls = RX7 ∧ yX7_pay.cls ≠ "java/lang/invoke/MethodHandle" ∧ yX7_pay.cls ≠ "java/lang/invoke/VarHandle" ∧ (parseMethodDescriptor yX7_pay.desc).map (fun d => d.parameters.length) = some 3 := by decide +kernel
def f_X7_pay (A : Nat → Nat → Int32) (p1 : Int32) (p2 : Int32) (p3 : Int32) : Option ((Nat → Nat → Int32)) :=
  qf_ld 6 (A 19) p2 fun x1 =>
  qf_ld 4 (A 17) x1 fun x2 =>
  qf_bd (f_X7_fromSubstitute A p1 p2 p3) fun r3 =>
  qf_bd (f_X7_holding A p1 x1) fun r4 =>
  qf_ld 6 (A 20) p2 fun x5 =>
  qf_let ((if (p3 * x5) < r4 then (p3 * x5) else r4)) fun x6 =>
  qf_bd (f_X7_spend A p1 x1 x6) fun A7 =>
  if x2 < 0 then (some (A7)) else (qf_bd (f_X7_spend A7 p1 x2 r3) fun A8 =>
    some (A8))
abbrev wz_X7_pay : List Cond := Cond.code yX7_pay cX7_pay 7 none :: qw_big
def rm_X7_pay : Room := { frames := 3, cells := 0, slots := 0, locals := 108 }
set_option maxHeartbeats 4000000 in
set_option maxRecDepth 100000 in
theorem c_X7_pay (l : Launch) {D : va_G} {cy : Nat → ClassId} {ad : Nat → Nat} {I : Nat → Int32} {A : Nat → Nat → Int32} {G : Nat → Int32 × (Nat → Nat → Int32)} {T : Nat} {p1 : Int32} {p2 : Int32} {p3 : Int32} {A9 : Nat → Nat → Int32} {sz : Nat} (hf : f_X7_pay A p1 p2 p3 = some (A9)) : Met l yX7_pay wz_X7_pay rm_X7_pay (va_Pc [.ref (ad 0), .int p1, .int p2, .int p3] (qw_Pre D cy (Wo cy ad I A G T) sz)) (qw_Q none D (Wo cy ad I A9 G T) (va_A (Wo cy ad I A G T) sz)) 0 0 (va_A (Wo cy ad I A G T) sz) := by
  refine qw_of (cc := cX7_pay) (maxL := 7) (ret := none) (by decide) (Nat.le_of_ble_eq_true rfl) ?_
  intro p e s m args below meth c ls S0 hr hlocks hsz V hl
  have S0 : CallFix p m c cX7_pay 7 s args qw_big RX7 := S0
  have hx := S0.1; have hb := S0.2.1; have hown := S0.2.2.2.1; have hts := S0.2.2.2.2
  have hl : lv_has ls 7 [(0, .ref (ad 0)), (1, .int p1), (2, .int p2), (3, .int p3)] := hl
  generalize va_A (Wo cy ad I A G T) sz = Z9 at V ⊢
  obtain ⟨Q9, hQ⟩ : ∃ q, q = MQ below (qw_Q none D (Wo cy ad I A9 G T) Z9) args s 0 0 Z9 := ⟨_, rfl⟩
  rw [← hQ]
  clear hsz
  unfold f_X7_pay at hf
  refine lv_aload_n hx hb dX7_pay_0 rfl (lv_at hl 0 rfl) ?_
  refine gfO_0_5 S0 V kl_X7_40 dX7_pay_1 ?_
  refine gfO_19_12 S0 V kl_X7_141 dX7_pay_4 ?_
  refine lv_iload_n hx hb dX7_pay_7 rfl (lv_at hl 2 rfl) ?_
  have h_8 := qf_ld_in hf
  refine alO_28 S0 V h_8 dX7_pay_8 ?_
  refine lv_topi (fun x1 e_x1 => ?_)
  replace hf := qf_ld_e e_x1 hf
  refine lv_istore (lv' := [(4, .int x1), (0, .ref (ad 0)), (1, .int p1), (2, .int p2), (3, .int p3)]) hx hb dX7_pay_9 hl (by decide) rfl (fun ls hl => ?_)
  refine lv_aload_n hx hb dX7_pay_11 rfl (lv_at hl 1 rfl) ?_
  refine gfO_0_5 S0 V kl_X7_40 dX7_pay_12 ?_
  refine gfO_19_10 S0 V kl_X7_132 dX7_pay_15 ?_
  refine lv_iload hx hb dX7_pay_18 (lv_at hl 0 rfl) ?_
  have h_20 := qf_ld_in hf
  refine alO_26 S0 V h_20 dX7_pay_20 ?_
  refine lv_topi (fun x2 e_x2 => ?_)
  replace hf := qf_ld_e e_x2 hf
  refine lv_istore (lv' := [(5, .int x2), (4, .int x1), (0, .ref (ad 0)), (1, .int p1), (2, .int p2), (3, .int p3)]) hx hb dX7_pay_21 hl (by decide) rfl (fun ls hl => ?_)
  refine lv_aload_n hx hb dX7_pay_23 rfl (lv_at hl 2 rfl) ?_
  refine lv_iload_n hx hb dX7_pay_24 rfl (lv_at hl 3 rfl) ?_
  refine lv_iload_n hx hb dX7_pay_25 rfl (lv_at hl 4 rfl) ?_
  refine lv_iload_n hx hb dX7_pay_26 rfl (lv_at hl 5 rfl) ?_
  obtain ⟨r3, hc_27, hf⟩ := qf_bd_e hf
  refine qw_cVR (rest := []) (st1 := [.int r3]) S0 V hl 0 gO_0 rfl (c_X7_fromSubstitute l hc_27) kg_X7_268 rfl ⟨rfl, rfl⟩ kd_X7_fromSubstitute ⟨Nat.le_of_ble_eq_true rfl, Nat.le_of_ble_eq_true rfl⟩ rfl rfl (Nat.le_of_ble_eq_true rfl) ⟨Nat.zero_le _, Nat.zero_le _⟩ rfl dX7_pay_27 ?_
  refine lv_istore (lv' := [(6, .int r3), (5, .int x2), (4, .int x1), (0, .ref (ad 0)), (1, .int p1), (2, .int p2), (3, .int p3)]) hx hb dX7_pay_30 hl (by decide) rfl (fun ls hl => ?_)
  refine lv_aload_n hx hb dX7_pay_32 rfl (lv_at hl 3 rfl) ?_
  refine lv_iload_n hx hb dX7_pay_33 rfl (lv_at hl 4 rfl) ?_
  refine lv_iload hx hb dX7_pay_34 (lv_at hl 2 rfl) ?_
  refine lv_aload_n hx hb dX7_pay_36 rfl (lv_at hl 3 rfl) ?_
  refine lv_iload_n hx hb dX7_pay_37 rfl (lv_at hl 4 rfl) ?_
  refine lv_iload hx hb dX7_pay_38 (lv_at hl 2 rfl) ?_
  obtain ⟨r4, hc_40, hf⟩ := qf_bd_e hf
  refine qw_cVR (rest := [.int x1, .int p1, .ref (ad 0)]) (st1 := [.int r4, .int x1, .int p1, .ref (ad 0)]) S0 V hl 0 gO_0 rfl (c_X7_holding l hc_40) kg_X7_162 rfl ⟨rfl, rfl⟩ kd_X7_holding ⟨Nat.le_of_ble_eq_true rfl, Nat.le_of_ble_eq_true rfl⟩ rfl rfl (Nat.le_of_ble_eq_true rfl) ⟨Nat.zero_le _, Nat.zero_le _⟩ rfl dX7_pay_40 ?_
  refine lv_iload_n hx hb dX7_pay_43 rfl (lv_at hl 6 rfl) ?_
  refine lv_aload_n hx hb dX7_pay_44 rfl (lv_at hl 3 rfl) ?_
  refine gfO_0_5 S0 V kl_X7_40 dX7_pay_45 ?_
  refine gfO_19_13 S0 V kl_X7_144 dX7_pay_48 ?_
  refine lv_iload_n hx hb dX7_pay_51 rfl (lv_at hl 5 rfl) ?_
  have h_52 := qf_ld_in hf
  refine alO_29 S0 V h_52 dX7_pay_52 ?_
  refine lv_topi (fun x5 e_x5 => ?_)
  replace hf := qf_ld_e e_x5 hf
  refine lv_imul hx hb dX7_pay_53 ?_
  refine qw_min S0 hl.1 kml_X7_201 (Nat.le_of_ble_eq_true rfl) (Nat.le_of_ble_eq_true rfl) (Nat.zero_le _) (Nat.zero_le _) dX7_pay_54 ?_
  refine lv_topi (fun x6 e_x6 => ?_)
  replace hf := qf_let_e e_x6 hf
  obtain ⟨A7, hc_57, hf⟩ := qf_bd_e hf
  refine qw_cV (rest := []) (st1 := []) S0 V hl 0 gO_0 rfl (c_X7_spend l hc_57) kg_X7_305 rfl ⟨rfl, rfl⟩ kd_X7_spend ⟨Nat.le_of_ble_eq_true rfl, Nat.le_of_ble_eq_true rfl⟩ rfl rfl (Nat.le_of_ble_eq_true rfl) ⟨Nat.zero_le _, Nat.zero_le _⟩ rfl dX7_pay_57 (fun H locs V => ?_)
  refine lv_iload hx hb dX7_pay_60 (lv_at hl 1 rfl) ?_
  refine lv_if_lt (tgt := 74) hx hb dX7_pay_62 (by decide) (fun c_62 => ?_) (fun c_62 => ?_)
  · replace hf := qf_t c_62 hf
    have hE := Option.some.inj hf
    exact qw_vreti S0 hr hlocks hQ (by rw [hE]) V dX7_pay_74
  · replace hf := qf_f c_62 hf
    refine lv_aload_n hx hb dX7_pay_65 rfl (lv_at hl 3 rfl) ?_
    refine lv_iload_n hx hb dX7_pay_66 rfl (lv_at hl 4 rfl) ?_
    refine lv_iload hx hb dX7_pay_67 (lv_at hl 1 rfl) ?_
    refine lv_iload hx hb dX7_pay_69 (lv_at hl 0 rfl) ?_
    obtain ⟨A8, hc_71, hf⟩ := qf_bd_e hf
    refine qw_cV (rest := []) (st1 := []) S0 V hl 0 gO_0 rfl (c_X7_spend l hc_71) kg_X7_305 rfl ⟨rfl, rfl⟩ kd_X7_spend ⟨Nat.le_of_ble_eq_true rfl, Nat.le_of_ble_eq_true rfl⟩ rfl rfl (Nat.le_of_ble_eq_true rfl) ⟨Nat.zero_le _, Nat.zero_le _⟩ rfl dX7_pay_71 (fun H locs V => ?_)
    have hE := Option.some.inj hf
    exact qw_vreti S0 hr hlocks hQ (by rw [hE]) V dX7_pay_74
theorem kd_X7_buy : yX7_buy.cls = RX7 ∧ yX7_buy.cls ≠ "java/lang/invoke/MethodHandle" ∧ yX7_buy.cls ≠ "java/lang/invoke/VarHandle" ∧ (parseMethodDescriptor yX7_buy.desc).map (fun d => d.parameters.length) = some 4 := by decide +kernel
def f_X7_buy (I : Nat → Int32) (A : Nat → Nat → Int32) (G : Nat → Int32 × (Nat → Nat → Int32)) (p1 : Int32) (p2 : Int32) (p3 : Int32) (p4 : Int32) : Option (Int32 × (Nat → Int32) × (Nat → Nat → Int32) × (Nat → Int32 × (Nat → Nat → Int32))) :=
  qf_bd (f_X7_isHouse I p1) fun r1 =>
  if r1 = 0 then (some ((-1 : Int32), I, A, G)) else (qf_bd (f_X7_isShop I p2) fun r2 =>
    if r2 = 0 then (some ((-1 : Int32), I, A, G)) else (qf_bd (f_X7_isGood I p3) fun r3 =>
      if r3 = 0 then (some ((-1 : Int32), I, A, G)) else (qf_bd (f_X7_areUnits p4) fun r4 =>
        if r4 = 0 then (some ((-2 : Int32), I, A, G)) else (qf_bd (f_X7_reasonAgainst A p1 p2 p3 p4) fun r5 =>
          if r5 = 0 then (qf_bd2 (f_X1_keep_r43 A I G) fun I6 G7 =>
            qf_bd (f_X5_shelf p2 p3) fun r8 =>
            qf_ld 24 (A 39) r8 fun x9 =>
            qf_st 24 r8 fun i11 =>
            qf_let (qf_up A 39 (upd (A 39) i11 (x9 - p4))) fun A10 =>
            qf_ld 24 (A10 42) r8 fun x12 =>
            qf_st 24 r8 fun i14 =>
            qf_let (qf_up A10 42 (upd (A10 42) i14 (x12 + p4))) fun A13 =>
            qf_ld 6 (A13 19) p3 fun x15 =>
            qf_bd (f_X5_entry p2 x15) fun r16 =>
            qf_ld 16 (A13 40) r16 fun x17 =>
            qf_ld 6 (A13 20) p3 fun x18 =>
            qf_st 16 r16 fun i20 =>
            qf_let (qf_up A13 40 (upd (A13 40) i20 (x17 + (p4 * x18)))) fun A19 =>
            qf_bd (f_X7_pay A19 p1 p3 p4) fun A21 =>
            qf_ld 6 (A21 19) p3 fun x22 =>
            qf_bd (f_X7_holding A21 p1 x22) fun r23 =>
            some (r23, I6, A21, G7)) else (if r5 = (3 : Int32) then (some ((-5 : Int32), I, A, G)) else (some ((-6 : Int32), I, A, G)))))))
abbrev wz_X7_buy : List Cond := Cond.code yX7_buy cX7_buy 7 (some .int) :: qw_big
def rm_X7_buy : Room := { frames := 5, cells := 0, slots := 0, locals := 134 }
set_option maxHeartbeats 4000000 in
set_option maxRecDepth 100000 in
theorem c_X7_buy (l : Launch) {D : va_G} {cy : Nat → ClassId} {ad : Nat → Nat} {I : Nat → Int32} {A : Nat → Nat → Int32} {G : Nat → Int32 × (Nat → Nat → Int32)} {T : Nat} {p1 : Int32} {p2 : Int32} {p3 : Int32} {p4 : Int32} {rv : Int32} {I9 : Nat → Int32} {A9 : Nat → Nat → Int32} {G9 : Nat → Int32 × (Nat → Nat → Int32)} {sz : Nat} (hf : f_X7_buy I A G p1 p2 p3 p4 = some (rv, I9, A9, G9)) : Met l yX7_buy wz_X7_buy rm_X7_buy (va_Pc [.ref (ad 0), .int p1, .int p2, .int p3, .int p4] (qw_Pre D cy (Wo cy ad I A G T) sz)) (qw_Q (some (.int rv)) D (Wo cy ad I9 A9 G9 T) (va_A (Wo cy ad I A G T) sz)) 0 0 (va_A (Wo cy ad I A G T) sz) := by
  refine qw_of (cc := cX7_buy) (maxL := 7) (ret := (some .int)) (by decide) (Nat.le_of_ble_eq_true rfl) ?_
  intro p e s m args below meth c ls S0 hr hlocks hsz V hl
  have S0 : CallFix p m c cX7_buy 7 s args qw_big RX7 := S0
  have hx := S0.1; have hb := S0.2.1; have hown := S0.2.2.2.1; have hts := S0.2.2.2.2
  have hl : lv_has ls 7 [(0, .ref (ad 0)), (1, .int p1), (2, .int p2), (3, .int p3), (4, .int p4)] := hl
  generalize va_A (Wo cy ad I A G T) sz = Z9 at V ⊢
  obtain ⟨Q9, hQ⟩ : ∃ q, q = MQ below (qw_Q (some (.int rv)) D (Wo cy ad I9 A9 G9 T) Z9) args s 0 0 Z9 := ⟨_, rfl⟩
  rw [← hQ]
  clear hsz
  unfold f_X7_buy at hf
  refine lv_aload_n hx hb dX7_buy_0 rfl (lv_at hl 0 rfl) ?_
  refine lv_iload_n hx hb dX7_buy_1 rfl (lv_at hl 1 rfl) ?_
  obtain ⟨r1, hc_2, hf⟩ := qf_bd_e hf
  refine qw_cVR (rest := []) (st1 := [.int r1]) S0 V hl 0 gO_0 rfl (c_X7_isHouse l hc_2) kg_X7_150 rfl ⟨rfl, rfl⟩ kd_X7_isHouse ⟨Nat.le_of_ble_eq_true rfl, Nat.le_of_ble_eq_true rfl⟩ rfl rfl (Nat.le_of_ble_eq_true rfl) ⟨Nat.zero_le _, Nat.zero_le _⟩ rfl dX7_buy_2 ?_
  refine lv_if_eq (tgt := 24) hx hb dX7_buy_5 (by decide) (fun c_5 => ?_) (fun c_5 => ?_)
  · replace hf := qf_t c_5 hf
    refine lv_iconst (v := -1) hx hb dX7_buy_24 (by decide) ?_
    have hE := Option.some.inj hf
    obtain ⟨e0, hE⟩ := qf_pr hE
    obtain ⟨e1, hE⟩ := qf_pr hE
    obtain ⟨e2, hE⟩ := qf_pr hE
    exact qw_ireti S0 hr hlocks hQ e0 (by rw [e1, e2, hE]) V dX7_buy_25
  · replace hf := qf_f c_5 hf
    refine lv_aload_n hx hb dX7_buy_8 rfl (lv_at hl 0 rfl) ?_
    refine lv_iload_n hx hb dX7_buy_9 rfl (lv_at hl 2 rfl) ?_
    obtain ⟨r2, hc_10, hf⟩ := qf_bd_e hf
    refine qw_cVR (rest := []) (st1 := [.int r2]) S0 V hl 0 gO_0 rfl (c_X7_isShop l hc_10) kg_X7_213 rfl ⟨rfl, rfl⟩ kd_X7_isShop ⟨Nat.le_of_ble_eq_true rfl, Nat.le_of_ble_eq_true rfl⟩ rfl rfl (Nat.le_of_ble_eq_true rfl) ⟨Nat.zero_le _, Nat.zero_le _⟩ rfl dX7_buy_10 ?_
    refine lv_if_eq (tgt := 24) hx hb dX7_buy_13 (by decide) (fun c_13 => ?_) (fun c_13 => ?_)
    · replace hf := qf_t c_13 hf
      refine lv_iconst (v := -1) hx hb dX7_buy_24 (by decide) ?_
      have hE := Option.some.inj hf
      obtain ⟨e0, hE⟩ := qf_pr hE
      obtain ⟨e1, hE⟩ := qf_pr hE
      obtain ⟨e2, hE⟩ := qf_pr hE
      exact qw_ireti S0 hr hlocks hQ e0 (by rw [e1, e2, hE]) V dX7_buy_25
    · replace hf := qf_f c_13 hf
      refine lv_aload_n hx hb dX7_buy_16 rfl (lv_at hl 0 rfl) ?_
      refine lv_iload_n hx hb dX7_buy_17 rfl (lv_at hl 3 rfl) ?_
      obtain ⟨r3, hc_18, hf⟩ := qf_bd_e hf
      refine qw_cVR (rest := []) (st1 := [.int r3]) S0 V hl 0 gO_0 rfl (c_X7_isGood l hc_18) kg_X7_138 rfl ⟨rfl, rfl⟩ kd_X7_isGood ⟨Nat.le_of_ble_eq_true rfl, Nat.le_of_ble_eq_true rfl⟩ rfl rfl (Nat.le_of_ble_eq_true rfl) ⟨Nat.zero_le _, Nat.zero_le _⟩ rfl dX7_buy_18 ?_
      refine lv_if_ne (tgt := 26) hx hb dX7_buy_21 (by decide) (fun c_21 => ?_) (fun c_21 => ?_)
      · replace hf := qf_f c_21 hf
        refine lv_iload hx hb dX7_buy_26 (lv_at hl 4 rfl) ?_
        obtain ⟨r4, hc_28, hf⟩ := qf_bd_e hf
        refine qw_cSR (rest := []) (st1 := [.int r4]) S0 V hl (c_X7_areUnits l hc_28) kg_X7_252 rfl ⟨rfl, rfl⟩ kd_X7_areUnits ⟨Nat.le_of_ble_eq_true rfl, Nat.le_of_ble_eq_true rfl⟩ rfl rfl (Nat.le_of_ble_eq_true rfl) ⟨Nat.zero_le _, Nat.zero_le _⟩ rfl dX7_buy_28 ?_
        refine lv_if_ne (tgt := 37) hx hb dX7_buy_31 (by decide) (fun c_31 => ?_) (fun c_31 => ?_)
        · replace hf := qf_f c_31 hf
          refine lv_aload_n hx hb dX7_buy_37 rfl (lv_at hl 0 rfl) ?_
          refine lv_iload_n hx hb dX7_buy_38 rfl (lv_at hl 1 rfl) ?_
          refine lv_iload_n hx hb dX7_buy_39 rfl (lv_at hl 2 rfl) ?_
          refine lv_iload_n hx hb dX7_buy_40 rfl (lv_at hl 3 rfl) ?_
          refine lv_iload hx hb dX7_buy_41 (lv_at hl 4 rfl) ?_
          obtain ⟨r5, hc_43, hf⟩ := qf_bd_e hf
          refine qw_cVR (rest := []) (st1 := [.int r5]) S0 V hl 0 gO_0 rfl (c_X7_reasonAgainst l hc_43) kg_X7_255 rfl ⟨rfl, rfl⟩ kd_X7_reasonAgainst ⟨Nat.le_of_ble_eq_true rfl, Nat.le_of_ble_eq_true rfl⟩ rfl rfl (Nat.le_of_ble_eq_true rfl) ⟨Nat.zero_le _, Nat.zero_le _⟩ rfl dX7_buy_43 ?_
          refine lv_istore (lv' := [(5, .int r5), (0, .ref (ad 0)), (1, .int p1), (2, .int p2), (3, .int p3), (4, .int p4)]) hx hb dX7_buy_46 hl (by decide) rfl (fun ls hl => ?_)
          refine lv_iload hx hb dX7_buy_48 (lv_at hl 0 rfl) ?_
          refine lv_if_eq (tgt := 67) hx hb dX7_buy_50 (by decide) (fun c_50 => ?_) (fun c_50 => ?_)
          · replace hf := qf_t c_50 hf
            refine lv_aload_n hx hb dX7_buy_67 rfl (lv_at hl 1 rfl) ?_
            refine gfO_0_2 S0 V kl_X7_23 dX7_buy_68 ?_
            refine lv_aload_n hx hb dX7_buy_71 rfl (lv_at hl 1 rfl) ?_
            refine gfO_0_6 S0 V kl_X7_47 dX7_buy_72 ?_
            obtain ⟨I6, G7, hc_75, hf⟩ := qf_bd2_e hf
            refine qw_cV (rest := []) (st1 := []) S0 V hl 6 gO_6 rfl (c_X1_keep_r43 l hc_75) kg_X7_297 rfl ⟨rfl, rfl⟩ kd_X1_keep ⟨Nat.le_of_ble_eq_true rfl, Nat.le_of_ble_eq_true rfl⟩ rfl rfl (Nat.le_of_ble_eq_true rfl) ⟨Nat.zero_le _, Nat.zero_le _⟩ rfl dX7_buy_75 (fun H locs V => ?_)
            refine lv_iload_n hx hb dX7_buy_78 rfl (lv_at hl 3 rfl) ?_
            refine lv_iload_n hx hb dX7_buy_79 rfl (lv_at hl 4 rfl) ?_
            obtain ⟨r8, hc_80, hf⟩ := qf_bd_e hf
            refine qw_cSR (rest := []) (st1 := [.int r8]) S0 V hl (c_X5_shelf l hc_80) kg_X7_219 rfl ⟨rfl, rfl⟩ kd_X5_shelf ⟨Nat.le_of_ble_eq_true rfl, Nat.le_of_ble_eq_true rfl⟩ rfl rfl (Nat.le_of_ble_eq_true rfl) ⟨Nat.zero_le _, Nat.zero_le _⟩ rfl dX7_buy_80 ?_
            refine lv_istore (lv' := [(6, .int r8), (5, .int r5), (0, .ref (ad 0)), (1, .int p1), (2, .int p2), (3, .int p3), (4, .int p4)]) hx hb dX7_buy_83 hl (by decide) rfl (fun ls hl => ?_)
            refine lv_aload_n hx hb dX7_buy_85 rfl (lv_at hl 2 rfl) ?_
            refine gfO_0_6 S0 V kl_X7_47 dX7_buy_86 ?_
            refine gfO_43_7 S0 V kl_X7_216 dX7_buy_89 ?_
            refine lv_iload hx hb dX7_buy_92 (lv_at hl 0 rfl) ?_
            refine lv_dup2_11 hx hb dX7_buy_94 rfl rfl ?_
            have h_95 := qf_ld_in hf
            refine alO_50 S0 V h_95 dX7_buy_95 ?_
            refine lv_topi (fun x9 e_x9 => ?_)
            replace hf := qf_ld_e e_x9 hf
            refine lv_iload hx hb dX7_buy_96 (lv_at hl 6 rfl) ?_
            refine lv_isub hx hb dX7_buy_98 ?_
            have h_99 := qf_st_in hf
            replace hf := qf_st_e hf
            refine asO_50 S0 V h_99 dX7_buy_99 (fun H locs A10 e_A10 V => ?_)
            replace hf := qf_let_e e_A10 hf
            refine lv_aload_n hx hb dX7_buy_100 rfl (lv_at hl 2 rfl) ?_
            refine gfO_0_6 S0 V kl_X7_47 dX7_buy_101 ?_
            refine gfO_43_10 S0 V kl_X7_234 dX7_buy_104 ?_
            refine lv_iload hx hb dX7_buy_107 (lv_at hl 0 rfl) ?_
            refine lv_dup2_11 hx hb dX7_buy_109 rfl rfl ?_
            have h_110 := qf_ld_in hf
            refine alO_53 S0 V h_110 dX7_buy_110 ?_
            refine lv_topi (fun x12 e_x12 => ?_)
            replace hf := qf_ld_e e_x12 hf
            refine lv_iload hx hb dX7_buy_111 (lv_at hl 6 rfl) ?_
            refine lv_iadd hx hb dX7_buy_113 ?_
            have h_114 := qf_st_in hf
            replace hf := qf_st_e hf
            refine asO_53 S0 V h_114 dX7_buy_114 (fun H locs A13 e_A13 V => ?_)
            replace hf := qf_let_e e_A13 hf
            refine lv_aload_n hx hb dX7_buy_115 rfl (lv_at hl 2 rfl) ?_
            refine gfO_0_6 S0 V kl_X7_47 dX7_buy_116 ?_
            refine gfO_43_8 S0 V kl_X7_222 dX7_buy_119 ?_
            refine lv_iload_n hx hb dX7_buy_122 rfl (lv_at hl 4 rfl) ?_
            refine lv_aload_n hx hb dX7_buy_123 rfl (lv_at hl 2 rfl) ?_
            refine gfO_0_5 S0 V kl_X7_40 dX7_buy_124 ?_
            refine gfO_19_12 S0 V kl_X7_141 dX7_buy_127 ?_
            refine lv_iload_n hx hb dX7_buy_130 rfl (lv_at hl 5 rfl) ?_
            have h_131 := qf_ld_in hf
            refine alO_28 S0 V h_131 dX7_buy_131 ?_
            refine lv_topi (fun x15 e_x15 => ?_)
            replace hf := qf_ld_e e_x15 hf
            obtain ⟨r16, hc_132, hf⟩ := qf_bd_e hf
            refine qw_cSR (rest := [.ref (ad 51)]) (st1 := [.int r16, .ref (ad 51)]) S0 V hl (c_X5_entry l hc_132) kg_X7_225 rfl ⟨rfl, rfl⟩ kd_X5_entry ⟨Nat.le_of_ble_eq_true rfl, Nat.le_of_ble_eq_true rfl⟩ rfl rfl (Nat.le_of_ble_eq_true rfl) ⟨Nat.zero_le _, Nat.zero_le _⟩ rfl dX7_buy_132 ?_
            refine lv_dup2_11 hx hb dX7_buy_135 rfl rfl ?_
            have h_136 := qf_ld_in hf
            refine alO_51 S0 V h_136 dX7_buy_136 ?_
            refine lv_topi (fun x17 e_x17 => ?_)
            replace hf := qf_ld_e e_x17 hf
            refine lv_iload hx hb dX7_buy_137 (lv_at hl 6 rfl) ?_
            refine lv_aload_n hx hb dX7_buy_139 rfl (lv_at hl 2 rfl) ?_
            refine gfO_0_5 S0 V kl_X7_40 dX7_buy_140 ?_
            refine gfO_19_13 S0 V kl_X7_144 dX7_buy_143 ?_
            refine lv_iload_n hx hb dX7_buy_146 rfl (lv_at hl 5 rfl) ?_
            have h_147 := qf_ld_in hf
            refine alO_29 S0 V h_147 dX7_buy_147 ?_
            refine lv_topi (fun x18 e_x18 => ?_)
            replace hf := qf_ld_e e_x18 hf
            refine lv_imul hx hb dX7_buy_148 ?_
            refine lv_iadd hx hb dX7_buy_149 ?_
            have h_150 := qf_st_in hf
            replace hf := qf_st_e hf
            refine asO_51 S0 V h_150 dX7_buy_150 (fun H locs A19 e_A19 V => ?_)
            replace hf := qf_let_e e_A19 hf
            refine lv_aload_n hx hb dX7_buy_151 rfl (lv_at hl 2 rfl) ?_
            refine lv_iload_n hx hb dX7_buy_152 rfl (lv_at hl 3 rfl) ?_
            refine lv_iload_n hx hb dX7_buy_153 rfl (lv_at hl 5 rfl) ?_
            refine lv_iload hx hb dX7_buy_154 (lv_at hl 6 rfl) ?_
            obtain ⟨A21, hc_156, hf⟩ := qf_bd_e hf
            refine qw_cV (rest := []) (st1 := []) S0 V hl 0 gO_0 rfl (c_X7_pay l hc_156) kg_X7_301 rfl ⟨rfl, rfl⟩ kd_X7_pay ⟨Nat.le_of_ble_eq_true rfl, Nat.le_of_ble_eq_true rfl⟩ rfl rfl (Nat.le_of_ble_eq_true rfl) ⟨Nat.zero_le _, Nat.zero_le _⟩ rfl dX7_buy_156 (fun H locs V => ?_)
            refine lv_aload_n hx hb dX7_buy_159 rfl (lv_at hl 2 rfl) ?_
            refine lv_iload_n hx hb dX7_buy_160 rfl (lv_at hl 3 rfl) ?_
            refine lv_aload_n hx hb dX7_buy_161 rfl (lv_at hl 2 rfl) ?_
            refine gfO_0_5 S0 V kl_X7_40 dX7_buy_162 ?_
            refine gfO_19_12 S0 V kl_X7_141 dX7_buy_165 ?_
            refine lv_iload_n hx hb dX7_buy_168 rfl (lv_at hl 5 rfl) ?_
            have h_169 := qf_ld_in hf
            refine alO_28 S0 V h_169 dX7_buy_169 ?_
            refine lv_topi (fun x22 e_x22 => ?_)
            replace hf := qf_ld_e e_x22 hf
            obtain ⟨r23, hc_170, hf⟩ := qf_bd_e hf
            refine qw_cVR (rest := []) (st1 := [.int r23]) S0 V hl 0 gO_0 rfl (c_X7_holding l hc_170) kg_X7_162 rfl ⟨rfl, rfl⟩ kd_X7_holding ⟨Nat.le_of_ble_eq_true rfl, Nat.le_of_ble_eq_true rfl⟩ rfl rfl (Nat.le_of_ble_eq_true rfl) ⟨Nat.zero_le _, Nat.zero_le _⟩ rfl dX7_buy_170 ?_
            have hE := Option.some.inj hf
            obtain ⟨e0, hE⟩ := qf_pr hE
            obtain ⟨e1, hE⟩ := qf_pr hE
            obtain ⟨e2, hE⟩ := qf_pr hE
            exact qw_ireti S0 hr hlocks hQ e0 (by rw [e1, e2, hE]) V dX7_buy_173
          · replace hf := qf_f c_50 hf
            refine lv_iload hx hb dX7_buy_53 (lv_at hl 0 rfl) ?_
            refine lv_iconst (v := 3) hx hb dX7_buy_55 (by decide) ?_
            refine lv_icmp_ne (tgt := 64) hx hb dX7_buy_56 (by decide) (fun c_56 => ?_) (fun c_56 => ?_)
            · replace hf := qf_f c_56 hf
              refine lv_bipush (v := -6) hx hb dX7_buy_64 (by decide) ?_
              have hE := Option.some.inj hf
              obtain ⟨e0, hE⟩ := qf_pr hE
              obtain ⟨e1, hE⟩ := qf_pr hE
              obtain ⟨e2, hE⟩ := qf_pr hE
              exact qw_ireti S0 hr hlocks hQ e0 (by rw [e1, e2, hE]) V dX7_buy_66
            · replace hf := qf_t c_56 hf
              refine lv_bipush (v := -5) hx hb dX7_buy_59 (by decide) ?_
              refine lv_goto (tgt := 66) hx hb dX7_buy_61 (by decide) ?_
              have hE := Option.some.inj hf
              obtain ⟨e0, hE⟩ := qf_pr hE
              obtain ⟨e1, hE⟩ := qf_pr hE
              obtain ⟨e2, hE⟩ := qf_pr hE
              exact qw_ireti S0 hr hlocks hQ e0 (by rw [e1, e2, hE]) V dX7_buy_66
        · replace hf := qf_t c_31 hf
          refine lv_bipush (v := -2) hx hb dX7_buy_34 (by decide) ?_
          have hE := Option.some.inj hf
          obtain ⟨e0, hE⟩ := qf_pr hE
          obtain ⟨e1, hE⟩ := qf_pr hE
          obtain ⟨e2, hE⟩ := qf_pr hE
          exact qw_ireti S0 hr hlocks hQ e0 (by rw [e1, e2, hE]) V dX7_buy_36
      · replace hf := qf_t c_21 hf
        refine lv_iconst (v := -1) hx hb dX7_buy_24 (by decide) ?_
        have hE := Option.some.inj hf
        obtain ⟨e0, hE⟩ := qf_pr hE
        obtain ⟨e1, hE⟩ := qf_pr hE
        obtain ⟨e2, hE⟩ := qf_pr hE
        exact qw_ireti S0 hr hlocks hQ e0 (by rw [e1, e2, hE]) V dX7_buy_25
theorem kd_X7_deliver : yX7_deliver.cls = RX7 ∧ yX7_deliver.cls ≠ "java/lang/invoke/MethodHandle" ∧ yX7_deliver.cls ≠ "java/lang/invoke/VarHandle" ∧ (parseMethodDescriptor yX7_deliver.desc).map (fun d => d.parameters.length) = some 3 := by decide +kernel
def f_X7_deliver (I : Nat → Int32) (A : Nat → Nat → Int32) (G : Nat → Int32 × (Nat → Nat → Int32)) (p1 : Int32) (p2 : Int32) (p3 : Int32) : Option (Int32 × (Nat → Int32) × (Nat → Nat → Int32) × (Nat → Int32 × (Nat → Nat → Int32))) :=
  qf_bd (f_X7_isShop I p1) fun r1 =>
  if r1 = 0 then (some ((-1 : Int32), I, A, G)) else (qf_bd (f_X7_isGood I p2) fun r2 =>
    if r2 = 0 then (some ((-1 : Int32), I, A, G)) else (qf_bd (f_X7_areUnits p3) fun r3 =>
      if r3 = 0 then (some ((-2 : Int32), I, A, G)) else (qf_ld 6 (A 19) p2 fun x4 =>
        qf_bd (f_X5_entry p1 x4) fun r5 =>
        qf_bd (f_X5_shelf p1 p2) fun r6 =>
        qf_ld 6 (A 20) p2 fun x7 =>
        qf_let ((p3 * x7)) fun x8 =>
        qf_ld 16 (A 40) r5 fun x9 =>
        if x8 ≤ x9 then (qf_ld 24 (A 39) r6 fun x10 =>
          if (x10 + p3) ≤ (99999 : Int32) then (qf_bd2 (f_X1_keep_r43 A I G) fun I11 G12 =>
            qf_ld 16 (A 40) r5 fun x13 =>
            qf_st 16 r5 fun i15 =>
            qf_let (qf_up A 40 (upd (A 40) i15 (x13 - x8))) fun A14 =>
            qf_ld 24 (A14 39) r6 fun x16 =>
            qf_st 24 r6 fun i18 =>
            qf_let (qf_up A14 39 (upd (A14 39) i18 (x16 + p3))) fun A17 =>
            qf_ld 24 (A17 43) r6 fun x19 =>
            qf_st 24 r6 fun i21 =>
            qf_let (qf_up A17 43 (upd (A17 43) i21 (x19 + p3))) fun A20 =>
            qf_ld 24 (A20 39) r6 fun x22 =>
            some (x22, I11, A20, G12)) else (some ((-3 : Int32), I, A, G))) else (some ((-5 : Int32), I, A, G)))))
abbrev wz_X7_deliver : List Cond := Cond.code yX7_deliver cX7_deliver 7 (some .int) :: qw_big
def rm_X7_deliver : Room := { frames := 4, cells := 0, slots := 0, locals := 123 }
set_option maxHeartbeats 4000000 in
set_option maxRecDepth 100000 in
theorem c_X7_deliver (l : Launch) {D : va_G} {cy : Nat → ClassId} {ad : Nat → Nat} {I : Nat → Int32} {A : Nat → Nat → Int32} {G : Nat → Int32 × (Nat → Nat → Int32)} {T : Nat} {p1 : Int32} {p2 : Int32} {p3 : Int32} {rv : Int32} {I9 : Nat → Int32} {A9 : Nat → Nat → Int32} {G9 : Nat → Int32 × (Nat → Nat → Int32)} {sz : Nat} (hf : f_X7_deliver I A G p1 p2 p3 = some (rv, I9, A9, G9)) : Met l yX7_deliver wz_X7_deliver rm_X7_deliver (va_Pc [.ref (ad 0), .int p1, .int p2, .int p3] (qw_Pre D cy (Wo cy ad I A G T) sz)) (qw_Q (some (.int rv)) D (Wo cy ad I9 A9 G9 T) (va_A (Wo cy ad I A G T) sz)) 0 0 (va_A (Wo cy ad I A G T) sz) := by
  refine qw_of (cc := cX7_deliver) (maxL := 7) (ret := (some .int)) (by decide) (Nat.le_of_ble_eq_true rfl) ?_
  intro p e s m args below meth c ls S0 hr hlocks hsz V hl
  have S0 : CallFix p m c cX7_deliver 7 s args qw_big RX7 := S0
  have hx := S0.1; have hb := S0.2.1; have hown := S0.2.2.2.1; have hts := S0.2.2.2.2
  have hl : lv_has ls 7 [(0, .ref (ad 0)), (1, .int p1), (2, .int p2), (3, .int p3)] := hl
  generalize va_A (Wo cy ad I A G T) sz = Z9 at V ⊢
  obtain ⟨Q9, hQ⟩ : ∃ q, q = MQ below (qw_Q (some (.int rv)) D (Wo cy ad I9 A9 G9 T) Z9) args s 0 0 Z9 := ⟨_, rfl⟩
  rw [← hQ]
  clear hsz
  unfold f_X7_deliver at hf
  refine lv_aload_n hx hb dX7_deliver_0 rfl (lv_at hl 0 rfl) ?_
  refine lv_iload_n hx hb dX7_deliver_1 rfl (lv_at hl 1 rfl) ?_
  obtain ⟨r1, hc_2, hf⟩ := qf_bd_e hf
  refine qw_cVR (rest := []) (st1 := [.int r1]) S0 V hl 0 gO_0 rfl (c_X7_isShop l hc_2) kg_X7_213 rfl ⟨rfl, rfl⟩ kd_X7_isShop ⟨Nat.le_of_ble_eq_true rfl, Nat.le_of_ble_eq_true rfl⟩ rfl rfl (Nat.le_of_ble_eq_true rfl) ⟨Nat.zero_le _, Nat.zero_le _⟩ rfl dX7_deliver_2 ?_
  refine lv_if_eq (tgt := 16) hx hb dX7_deliver_5 (by decide) (fun c_5 => ?_) (fun c_5 => ?_)
  · replace hf := qf_t c_5 hf
    refine lv_iconst (v := -1) hx hb dX7_deliver_16 (by decide) ?_
    have hE := Option.some.inj hf
    obtain ⟨e0, hE⟩ := qf_pr hE
    obtain ⟨e1, hE⟩ := qf_pr hE
    obtain ⟨e2, hE⟩ := qf_pr hE
    exact qw_ireti S0 hr hlocks hQ e0 (by rw [e1, e2, hE]) V dX7_deliver_17
  · replace hf := qf_f c_5 hf
    refine lv_aload_n hx hb dX7_deliver_8 rfl (lv_at hl 0 rfl) ?_
    refine lv_iload_n hx hb dX7_deliver_9 rfl (lv_at hl 2 rfl) ?_
    obtain ⟨r2, hc_10, hf⟩ := qf_bd_e hf
    refine qw_cVR (rest := []) (st1 := [.int r2]) S0 V hl 0 gO_0 rfl (c_X7_isGood l hc_10) kg_X7_138 rfl ⟨rfl, rfl⟩ kd_X7_isGood ⟨Nat.le_of_ble_eq_true rfl, Nat.le_of_ble_eq_true rfl⟩ rfl rfl (Nat.le_of_ble_eq_true rfl) ⟨Nat.zero_le _, Nat.zero_le _⟩ rfl dX7_deliver_10 ?_
    refine lv_if_ne (tgt := 18) hx hb dX7_deliver_13 (by decide) (fun c_13 => ?_) (fun c_13 => ?_)
    · replace hf := qf_f c_13 hf
      refine lv_iload_n hx hb dX7_deliver_18 rfl (lv_at hl 3 rfl) ?_
      obtain ⟨r3, hc_19, hf⟩ := qf_bd_e hf
      refine qw_cSR (rest := []) (st1 := [.int r3]) S0 V hl (c_X7_areUnits l hc_19) kg_X7_252 rfl ⟨rfl, rfl⟩ kd_X7_areUnits ⟨Nat.le_of_ble_eq_true rfl, Nat.le_of_ble_eq_true rfl⟩ rfl rfl (Nat.le_of_ble_eq_true rfl) ⟨Nat.zero_le _, Nat.zero_le _⟩ rfl dX7_deliver_19 ?_
      refine lv_if_ne (tgt := 28) hx hb dX7_deliver_22 (by decide) (fun c_22 => ?_) (fun c_22 => ?_)
      · replace hf := qf_f c_22 hf
        refine lv_iload_n hx hb dX7_deliver_28 rfl (lv_at hl 1 rfl) ?_
        refine lv_aload_n hx hb dX7_deliver_29 rfl (lv_at hl 0 rfl) ?_
        refine gfO_0_5 S0 V kl_X7_40 dX7_deliver_30 ?_
        refine gfO_19_12 S0 V kl_X7_141 dX7_deliver_33 ?_
        refine lv_iload_n hx hb dX7_deliver_36 rfl (lv_at hl 2 rfl) ?_
        have h_37 := qf_ld_in hf
        refine alO_28 S0 V h_37 dX7_deliver_37 ?_
        refine lv_topi (fun x4 e_x4 => ?_)
        replace hf := qf_ld_e e_x4 hf
        obtain ⟨r5, hc_38, hf⟩ := qf_bd_e hf
        refine qw_cSR (rest := []) (st1 := [.int r5]) S0 V hl (c_X5_entry l hc_38) kg_X7_225 rfl ⟨rfl, rfl⟩ kd_X5_entry ⟨Nat.le_of_ble_eq_true rfl, Nat.le_of_ble_eq_true rfl⟩ rfl rfl (Nat.le_of_ble_eq_true rfl) ⟨Nat.zero_le _, Nat.zero_le _⟩ rfl dX7_deliver_38 ?_
        refine lv_istore (lv' := [(4, .int r5), (0, .ref (ad 0)), (1, .int p1), (2, .int p2), (3, .int p3)]) hx hb dX7_deliver_41 hl (by decide) rfl (fun ls hl => ?_)
        refine lv_iload_n hx hb dX7_deliver_43 rfl (lv_at hl 2 rfl) ?_
        refine lv_iload_n hx hb dX7_deliver_44 rfl (lv_at hl 3 rfl) ?_
        obtain ⟨r6, hc_45, hf⟩ := qf_bd_e hf
        refine qw_cSR (rest := []) (st1 := [.int r6]) S0 V hl (c_X5_shelf l hc_45) kg_X7_219 rfl ⟨rfl, rfl⟩ kd_X5_shelf ⟨Nat.le_of_ble_eq_true rfl, Nat.le_of_ble_eq_true rfl⟩ rfl rfl (Nat.le_of_ble_eq_true rfl) ⟨Nat.zero_le _, Nat.zero_le _⟩ rfl dX7_deliver_45 ?_
        refine lv_istore (lv' := [(5, .int r6), (4, .int r5), (0, .ref (ad 0)), (1, .int p1), (2, .int p2), (3, .int p3)]) hx hb dX7_deliver_48 hl (by decide) rfl (fun ls hl => ?_)
        refine lv_iload_n hx hb dX7_deliver_50 rfl (lv_at hl 5 rfl) ?_
        refine lv_aload_n hx hb dX7_deliver_51 rfl (lv_at hl 2 rfl) ?_
        refine gfO_0_5 S0 V kl_X7_40 dX7_deliver_52 ?_
        refine gfO_19_13 S0 V kl_X7_144 dX7_deliver_55 ?_
        refine lv_iload_n hx hb dX7_deliver_58 rfl (lv_at hl 4 rfl) ?_
        have h_59 := qf_ld_in hf
        refine alO_29 S0 V h_59 dX7_deliver_59 ?_
        refine lv_topi (fun x7 e_x7 => ?_)
        replace hf := qf_ld_e e_x7 hf
        refine lv_imul hx hb dX7_deliver_60 ?_
        refine lv_topi (fun x8 e_x8 => ?_)
        replace hf := qf_let_e e_x8 hf
        refine lv_istore (lv' := [(6, .int x8), (5, .int r6), (4, .int r5), (0, .ref (ad 0)), (1, .int p1), (2, .int p2), (3, .int p3)]) hx hb dX7_deliver_61 hl (by decide) rfl (fun ls hl => ?_)
        refine lv_aload_n hx hb dX7_deliver_63 rfl (lv_at hl 3 rfl) ?_
        refine gfO_0_6 S0 V kl_X7_47 dX7_deliver_64 ?_
        refine gfO_43_8 S0 V kl_X7_222 dX7_deliver_67 ?_
        refine lv_iload hx hb dX7_deliver_70 (lv_at hl 2 rfl) ?_
        have h_72 := qf_ld_in hf
        refine alO_51 S0 V h_72 dX7_deliver_72 ?_
        refine lv_topi (fun x9 e_x9 => ?_)
        replace hf := qf_ld_e e_x9 hf
        refine lv_iload hx hb dX7_deliver_73 (lv_at hl 0 rfl) ?_
        refine lv_icmp_ge (tgt := 81) hx hb dX7_deliver_75 (by decide) (fun c_75 => ?_) (fun c_75 => ?_)
        · replace hf := qf_t c_75 hf
          refine lv_aload_n hx hb dX7_deliver_81 rfl (lv_at hl 3 rfl) ?_
          refine gfO_0_6 S0 V kl_X7_47 dX7_deliver_82 ?_
          refine gfO_43_7 S0 V kl_X7_216 dX7_deliver_85 ?_
          refine lv_iload hx hb dX7_deliver_88 (lv_at hl 1 rfl) ?_
          have h_90 := qf_ld_in hf
          refine alO_50 S0 V h_90 dX7_deliver_90 ?_
          refine lv_topi (fun x10 e_x10 => ?_)
          replace hf := qf_ld_e e_x10 hf
          refine lv_iload_n hx hb dX7_deliver_91 rfl (lv_at hl 6 rfl) ?_
          refine lv_iadd hx hb dX7_deliver_92 ?_
          refine lv_ldcw (v := 99999) hx hb hown (hts _ kct_X7_286) dX7_deliver_93 ?_
          refine lv_icmp_le (tgt := 102) hx hb dX7_deliver_96 (by decide) (fun c_96 => ?_) (fun c_96 => ?_)
          · replace hf := qf_t c_96 hf
            refine lv_aload_n hx hb dX7_deliver_102 rfl (lv_at hl 3 rfl) ?_
            refine gfO_0_2 S0 V kl_X7_23 dX7_deliver_103 ?_
            refine lv_aload_n hx hb dX7_deliver_106 rfl (lv_at hl 3 rfl) ?_
            refine gfO_0_6 S0 V kl_X7_47 dX7_deliver_107 ?_
            obtain ⟨I11, G12, hc_110, hf⟩ := qf_bd2_e hf
            refine qw_cV (rest := []) (st1 := []) S0 V hl 6 gO_6 rfl (c_X1_keep_r43 l hc_110) kg_X7_297 rfl ⟨rfl, rfl⟩ kd_X1_keep ⟨Nat.le_of_ble_eq_true rfl, Nat.le_of_ble_eq_true rfl⟩ rfl rfl (Nat.le_of_ble_eq_true rfl) ⟨Nat.zero_le _, Nat.zero_le _⟩ rfl dX7_deliver_110 (fun H locs V => ?_)
            refine lv_aload_n hx hb dX7_deliver_113 rfl (lv_at hl 3 rfl) ?_
            refine gfO_0_6 S0 V kl_X7_47 dX7_deliver_114 ?_
            refine gfO_43_8 S0 V kl_X7_222 dX7_deliver_117 ?_
            refine lv_iload hx hb dX7_deliver_120 (lv_at hl 2 rfl) ?_
            refine lv_dup2_11 hx hb dX7_deliver_122 rfl rfl ?_
            have h_123 := qf_ld_in hf
            refine alO_51 S0 V h_123 dX7_deliver_123 ?_
            refine lv_topi (fun x13 e_x13 => ?_)
            replace hf := qf_ld_e e_x13 hf
            refine lv_iload hx hb dX7_deliver_124 (lv_at hl 0 rfl) ?_
            refine lv_isub hx hb dX7_deliver_126 ?_
            have h_127 := qf_st_in hf
            replace hf := qf_st_e hf
            refine asO_51 S0 V h_127 dX7_deliver_127 (fun H locs A14 e_A14 V => ?_)
            replace hf := qf_let_e e_A14 hf
            refine lv_aload_n hx hb dX7_deliver_128 rfl (lv_at hl 3 rfl) ?_
            refine gfO_0_6 S0 V kl_X7_47 dX7_deliver_129 ?_
            refine gfO_43_7 S0 V kl_X7_216 dX7_deliver_132 ?_
            refine lv_iload hx hb dX7_deliver_135 (lv_at hl 1 rfl) ?_
            refine lv_dup2_11 hx hb dX7_deliver_137 rfl rfl ?_
            have h_138 := qf_ld_in hf
            refine alO_50 S0 V h_138 dX7_deliver_138 ?_
            refine lv_topi (fun x16 e_x16 => ?_)
            replace hf := qf_ld_e e_x16 hf
            refine lv_iload_n hx hb dX7_deliver_139 rfl (lv_at hl 6 rfl) ?_
            refine lv_iadd hx hb dX7_deliver_140 ?_
            have h_141 := qf_st_in hf
            replace hf := qf_st_e hf
            refine asO_50 S0 V h_141 dX7_deliver_141 (fun H locs A17 e_A17 V => ?_)
            replace hf := qf_let_e e_A17 hf
            refine lv_aload_n hx hb dX7_deliver_142 rfl (lv_at hl 3 rfl) ?_
            refine gfO_0_6 S0 V kl_X7_47 dX7_deliver_143 ?_
            refine gfO_43_11 S0 V kl_X7_237 dX7_deliver_146 ?_
            refine lv_iload hx hb dX7_deliver_149 (lv_at hl 1 rfl) ?_
            refine lv_dup2_11 hx hb dX7_deliver_151 rfl rfl ?_
            have h_152 := qf_ld_in hf
            refine alO_54 S0 V h_152 dX7_deliver_152 ?_
            refine lv_topi (fun x19 e_x19 => ?_)
            replace hf := qf_ld_e e_x19 hf
            refine lv_iload_n hx hb dX7_deliver_153 rfl (lv_at hl 6 rfl) ?_
            refine lv_iadd hx hb dX7_deliver_154 ?_
            have h_155 := qf_st_in hf
            replace hf := qf_st_e hf
            refine asO_54 S0 V h_155 dX7_deliver_155 (fun H locs A20 e_A20 V => ?_)
            replace hf := qf_let_e e_A20 hf
            refine lv_aload_n hx hb dX7_deliver_156 rfl (lv_at hl 3 rfl) ?_
            refine gfO_0_6 S0 V kl_X7_47 dX7_deliver_157 ?_
            refine gfO_43_7 S0 V kl_X7_216 dX7_deliver_160 ?_
            refine lv_iload hx hb dX7_deliver_163 (lv_at hl 1 rfl) ?_
            have h_165 := qf_ld_in hf
            refine alO_50 S0 V h_165 dX7_deliver_165 ?_
            refine lv_topi (fun x22 e_x22 => ?_)
            replace hf := qf_ld_e e_x22 hf
            have hE := Option.some.inj hf
            obtain ⟨e0, hE⟩ := qf_pr hE
            obtain ⟨e1, hE⟩ := qf_pr hE
            obtain ⟨e2, hE⟩ := qf_pr hE
            exact qw_ireti S0 hr hlocks hQ e0 (by rw [e1, e2, hE]) V dX7_deliver_166
          · replace hf := qf_f c_96 hf
            refine lv_bipush (v := -3) hx hb dX7_deliver_99 (by decide) ?_
            have hE := Option.some.inj hf
            obtain ⟨e0, hE⟩ := qf_pr hE
            obtain ⟨e1, hE⟩ := qf_pr hE
            obtain ⟨e2, hE⟩ := qf_pr hE
            exact qw_ireti S0 hr hlocks hQ e0 (by rw [e1, e2, hE]) V dX7_deliver_101
        · replace hf := qf_f c_75 hf
          refine lv_bipush (v := -5) hx hb dX7_deliver_78 (by decide) ?_
          have hE := Option.some.inj hf
          obtain ⟨e0, hE⟩ := qf_pr hE
          obtain ⟨e1, hE⟩ := qf_pr hE
          obtain ⟨e2, hE⟩ := qf_pr hE
          exact qw_ireti S0 hr hlocks hQ e0 (by rw [e1, e2, hE]) V dX7_deliver_80
      · replace hf := qf_t c_22 hf
        refine lv_bipush (v := -2) hx hb dX7_deliver_25 (by decide) ?_
        have hE := Option.some.inj hf
        obtain ⟨e0, hE⟩ := qf_pr hE
        obtain ⟨e1, hE⟩ := qf_pr hE
        obtain ⟨e2, hE⟩ := qf_pr hE
        exact qw_ireti S0 hr hlocks hQ e0 (by rw [e1, e2, hE]) V dX7_deliver_27
    · replace hf := qf_t c_13 hf
      refine lv_iconst (v := -1) hx hb dX7_deliver_16 (by decide) ?_
      have hE := Option.some.inj hf
      obtain ⟨e0, hE⟩ := qf_pr hE
      obtain ⟨e1, hE⟩ := qf_pr hE
      obtain ⟨e2, hE⟩ := qf_pr hE
      exact qw_ireti S0 hr hlocks hQ e0 (by rw [e1, e2, hE]) V dX7_deliver_17
theorem kd_X4_move : yX4_move.cls ≠ "java/lang/invoke/MethodHandle" ∧ yX4_move.cls ≠ "java/lang/invoke/VarHandle" ∧ (parseMethodDescriptor yX4_move.desc).map (fun d => d.parameters.length) = some 4 := by decide +kernel
def f_X4_move_l6 (n0 : Nat)  (y1 : Int32) (y2 : Int32) : Nat → (Nat → Int32) → Int32 → Int32 → Option ((Nat → Int32))
  | 0, _, _, _ => none
  | n + 1, f0, y4, y5 =>
  if (5 : Int32) ≤ y5 then (some (f0)) else (qf_ld n0 f0 (y1 + y5) fun x1 =>
    qf_let ((if x1 < y4 then x1 else y4)) fun x2 =>
    qf_ld n0 f0 (y1 + y5) fun x3 =>
    qf_st n0 (y1 + y5) fun i5 =>
    qf_let (upd f0 i5 (x3 - x2)) fun A4 =>
    qf_ld n0 A4 (y2 + y5) fun x6 =>
    qf_st n0 (y2 + y5) fun i8 =>
    qf_let (upd A4 i8 (x6 + x2)) fun A7 =>
    qf_let ((y4 - x2)) fun x9 =>
    qf_let (y5 + (1 : Int32)) fun x10 =>
    f_X4_move_l6 n0 y1 y2 n A7 x9 x10)
def f_X4_move (n0 : Nat) (f0 : Nat → Int32) (p1 : Int32) (p2 : Int32) (p3 : Int32) : Option ((Nat → Int32)) :=
  f_X4_move_l6 n0 p1 p2 100000 f0 p3 (0 : Int32)
abbrev wz_X4_move : List Cond := Cond.code yX4_move cX4_move 7 none :: qw_big
def rm_X4_move : Room := { frames := 1, cells := 0, slots := 0, locals := 60 }
set_option maxHeartbeats 4000000 in
set_option maxRecDepth 100000 in
theorem c_X4_move (l : Launch) {D : va_G} {cy : Nat → ClassId} {ws : va_W} {q0 a0 n0 : Nat} {f0 : Nat → Int32} (ha0 : ws[q0]? = some (a0, .inl (cy 0, n0, .inl f0))) {p1 : Int32} {p2 : Int32} {p3 : Int32} {f09 : Nat → Int32} {ws9 : va_W} (hs : ws.set q0 (a0, .inl (cy 0, n0, .inl f09)) = ws9) {sz : Nat} (hf : f_X4_move n0 f0 p1 p2 p3 = some (f09)) : Met l yX4_move wz_X4_move rm_X4_move (va_Pc [.ref a0, .int p1, .int p2, .int p3] (qw_Pre D cy ws sz)) (qw_Q none D ws9 (va_A ws sz)) 0 0 (va_A ws sz) := by
  refine qw_of (cc := cX4_move) (maxL := 7) (ret := none) (by decide) (Nat.le_of_ble_eq_true rfl) ?_
  intro p e s m args below meth c ls S0 hr hlocks hsz V hl
  have S0 : CallFix p m c cX4_move 7 s args qw_big RX4 := S0
  have hx := S0.1; have hb := S0.2.1; have hown := S0.2.2.2.1; have hts := S0.2.2.2.2
  have hl : lv_has ls 7 [(0, .ref a0), (1, .int p1), (2, .int p2), (3, .int p3)] := hl
  generalize va_A ws sz = Z9 at V ⊢
  obtain ⟨Q9, hQ⟩ : ∃ q, q = MQ below (qw_Q none D ws9 Z9) args s 0 0 Z9 := ⟨_, rfl⟩
  rw [← hQ]
  have V := qw_V.toq ha0 V
  subst hs
  clear hsz
  have L_6 : ∀  {y1 : Int32} {y2 : Int32} {n : Nat} {f0 : Nat → Int32} {y4 : Int32} {y5 : Int32} {H : Heap} {locs : List Loc} {ls : Array Slot}, f_X4_move_l6 n0 y1 y2 n f0 y4 y5 = some (f09) → qw_V D cy Z9 s (ws.set q0 (a0, .inl (cy 0, n0, .inl f0))) H locs → lv_has ls 7 [(0, .ref a0), (1, .int y1), (2, .int y2), (4, .int y4), (5, .int y5)] → W p l e rm_X4_move s m args below meth c H locs 0 0 Q9 (F0 m 6 ls []) := by
    intro y1 y2 n
    induction n with
    | zero => intro f0 y4 y5 H locs ls hf V hl; exact qf_no hf
    | succ n ih =>
      intro f0 y4 y5 H locs ls hf V hl
      rw [f_X4_move_l6] at hf
      refine lv_iload hx hb dX4_move_6 (lv_at hl 4 rfl) ?_
      refine lv_iconst (v := 5) hx hb dX4_move_8 (by decide) ?_
      refine lv_icmp_ge (tgt := 60) hx hb dX4_move_9 (by decide) (fun c_9 => ?_) (fun c_9 => ?_)
      · replace hf := qf_t c_9 hf
        have hE := Option.some.inj hf
        exact qw_vreti S0 hr hlocks hQ (by rw [hE]) V dX4_move_60
      · replace hf := qf_f c_9 hf
        refine lv_iload hx hb dX4_move_12 (lv_at hl 3 rfl) ?_
        refine lv_aload_n hx hb dX4_move_14 rfl (lv_at hl 0 rfl) ?_
        refine lv_iload_n hx hb dX4_move_15 rfl (lv_at hl 1 rfl) ?_
        refine lv_iload hx hb dX4_move_16 (lv_at hl 4 rfl) ?_
        refine lv_iadd hx hb dX4_move_18 ?_
        have h_19 := qf_ld_in hf
        refine qw_ild S0 V q0 (qw_gq ha0) h_19 dX4_move_19 ?_
        refine lv_topi (fun x1 e_x1 => ?_)
        replace hf := qf_ld_e e_x1 hf
        refine qw_min S0 hl.1 kml_X4_9 (Nat.le_of_ble_eq_true rfl) (Nat.le_of_ble_eq_true rfl) (Nat.zero_le _) (Nat.zero_le _) dX4_move_20 ?_
        refine lv_topi (fun x2 e_x2 => ?_)
        replace hf := qf_let_e e_x2 hf
        refine lv_istore (lv' := [(6, .int x2), (0, .ref a0), (1, .int y1), (2, .int y2), (4, .int y4), (5, .int y5)]) hx hb dX4_move_23 hl (by decide) rfl (fun ls hl => ?_)
        refine lv_aload_n hx hb dX4_move_25 rfl (lv_at hl 1 rfl) ?_
        refine lv_iload_n hx hb dX4_move_26 rfl (lv_at hl 2 rfl) ?_
        refine lv_iload hx hb dX4_move_27 (lv_at hl 5 rfl) ?_
        refine lv_iadd hx hb dX4_move_29 ?_
        refine lv_dup2_11 hx hb dX4_move_30 rfl rfl ?_
        have h_31 := qf_ld_in hf
        refine qw_ild S0 V q0 (qw_gq ha0) h_31 dX4_move_31 ?_
        refine lv_topi (fun x3 e_x3 => ?_)
        replace hf := qf_ld_e e_x3 hf
        refine lv_iload hx hb dX4_move_32 (lv_at hl 0 rfl) ?_
        refine lv_isub hx hb dX4_move_34 ?_
        have h_35 := qf_st_in hf
        replace hf := qf_st_e hf
        refine qw_istq S0 V q0 ha0 h_35 dX4_move_35 (fun H locs A4 e_A4 V => ?_)
        replace hf := qf_let_e e_A4 hf
        refine lv_aload_n hx hb dX4_move_36 rfl (lv_at hl 1 rfl) ?_
        refine lv_iload_n hx hb dX4_move_37 rfl (lv_at hl 3 rfl) ?_
        refine lv_iload hx hb dX4_move_38 (lv_at hl 5 rfl) ?_
        refine lv_iadd hx hb dX4_move_40 ?_
        refine lv_dup2_11 hx hb dX4_move_41 rfl rfl ?_
        have h_42 := qf_ld_in hf
        refine qw_ild S0 V q0 (qw_gq ha0) h_42 dX4_move_42 ?_
        refine lv_topi (fun x6 e_x6 => ?_)
        replace hf := qf_ld_e e_x6 hf
        refine lv_iload hx hb dX4_move_43 (lv_at hl 0 rfl) ?_
        refine lv_iadd hx hb dX4_move_45 ?_
        have h_46 := qf_st_in hf
        replace hf := qf_st_e hf
        refine qw_istq S0 V q0 ha0 h_46 dX4_move_46 (fun H locs A7 e_A7 V => ?_)
        replace hf := qf_let_e e_A7 hf
        refine lv_iload hx hb dX4_move_47 (lv_at hl 4 rfl) ?_
        refine lv_iload hx hb dX4_move_49 (lv_at hl 0 rfl) ?_
        refine lv_isub hx hb dX4_move_51 ?_
        refine lv_topi (fun x9 e_x9 => ?_)
        replace hf := qf_let_e e_x9 hf
        refine lv_istore (lv' := [(4, .int x9), (6, .int x2), (0, .ref a0), (1, .int y1), (2, .int y2), (5, .int y5)]) hx hb dX4_move_52 hl (by decide) rfl (fun ls hl => ?_)
        obtain ⟨x10, e_x10⟩ : ∃ y : Int32, y = y5 + (1 : Int32) := ⟨_, rfl⟩
        refine lv_iinc (v := x10) (lv' := [(5, .int x10), (4, .int x9), (6, .int x2), (0, .ref a0), (1, .int y1), (2, .int y2)]) hx hb dX4_move_54 hl (k := 5) rfl (by rw [e_x10]; rfl) (by decide) rfl (fun ls hl => ?_)
        replace hf := qf_let_e e_x10 hf
        refine lv_goto (tgt := 6) hx hb dX4_move_57 (by decide) ?_
        exact ih hf V (lv_sub hl [3, 4, 5, 1, 0] rfl)
  unfold f_X4_move at hf
  refine lv_iload_n hx hb dX4_move_0 rfl (lv_at hl 3 rfl) ?_
  refine lv_istore (lv' := [(4, .int p3), (0, .ref a0), (1, .int p1), (2, .int p2), (3, .int p3)]) hx hb dX4_move_1 hl (by decide) rfl (fun ls hl => ?_)
  refine lv_iconst (v := 0) hx hb dX4_move_3 (by decide) ?_
  refine lv_istore (lv' := [(5, .int (0 : Int32)), (4, .int p3), (0, .ref a0), (1, .int p1), (2, .int p2), (3, .int p3)]) hx hb dX4_move_4 hl (by decide) rfl (fun ls hl => ?_)
  exact L_6 hf V (lv_sub hl [2, 3, 4, 1, 0] rfl)
theorem kd_X7_trade : yX7_trade.cls = RX7 ∧ yX7_trade.cls ≠ "java/lang/invoke/MethodHandle" ∧ yX7_trade.cls ≠ "java/lang/invoke/VarHandle" ∧ (parseMethodDescriptor yX7_trade.desc).map (fun d => d.parameters.length) = some 4 := by decide +kernel
def f_X7_trade (I : Nat → Int32) (A : Nat → Nat → Int32) (G : Nat → Int32 × (Nat → Nat → Int32)) (p1 : Int32) (p2 : Int32) (p3 : Int32) (p4 : Int32) : Option (Int32 × (Nat → Int32) × (Nat → Nat → Int32) × (Nat → Int32 × (Nat → Nat → Int32))) :=
  qf_bd (f_X7_isHouse I p1) fun r1 =>
  if r1 = 0 then (some ((-1 : Int32), I, A, G)) else (qf_bd (f_X7_isHouse I p2) fun r2 =>
    if r2 = 0 then (some ((-1 : Int32), I, A, G)) else (qf_bd (f_X7_isGroup I p3) fun r3 =>
      if r3 = 0 then (some ((-1 : Int32), I, A, G)) else (if p1 = p2 then (some ((-1 : Int32), I, A, G)) else (if p4 < (1 : Int32) then (some ((-2 : Int32), I, A, G)) else (if p4 ≤ (999 : Int32) then (qf_bd (f_X7_holding A p1 p3) fun r4 =>
              if p4 ≤ r4 then (qf_bd (f_X7_giveRoom A p1) fun r5 =>
                if r5 < p4 then (some ((-6 : Int32), I, A, G)) else (qf_bd (f_X7_takeRoom A p2) fun r6 =>
                  if p4 ≤ r6 then (qf_bd2 (f_X1_keep_r43 A I G) fun I7 G8 =>
                    qf_bd (f_X5_purse p1 p3) fun r9 =>
                    qf_bd (f_X5_purse p2 p3) fun r10 =>
                    qf_bd (f_X4_move 120 (A 36) r9 r10 p4) fun f11 =>
                    qf_let (qf_up A 36 f11) fun A12 =>
                    qf_ld 6 (A12 37) p1 fun x13 =>
                    qf_st 6 p1 fun i15 =>
                    qf_let (qf_up A12 37 (upd (A12 37) i15 (x13 + p4))) fun A14 =>
                    qf_ld 6 (A14 38) p2 fun x16 =>
                    qf_st 6 p2 fun i18 =>
                    qf_let (qf_up A14 38 (upd (A14 38) i18 (x16 + p4))) fun A17 =>
                    qf_bd (f_X7_holding A17 p1 p3) fun r19 =>
                    some (r19, I7, A17, G8)) else (some ((-6 : Int32), I, A, G)))) else (some ((-5 : Int32), I, A, G))) else (some ((-2 : Int32), I, A, G)))))))
abbrev wz_X7_trade : List Cond := Cond.code yX7_trade cX7_trade 5 (some .int) :: qw_big
def rm_X7_trade : Room := { frames := 4, cells := 0, slots := 0, locals := 123 }
set_option maxHeartbeats 4000000 in
set_option maxRecDepth 100000 in
theorem c_X7_trade (l : Launch) {D : va_G} {cy : Nat → ClassId} {ad : Nat → Nat} {I : Nat → Int32} {A : Nat → Nat → Int32} {G : Nat → Int32 × (Nat → Nat → Int32)} {T : Nat} {p1 : Int32} {p2 : Int32} {p3 : Int32} {p4 : Int32} {rv : Int32} {I9 : Nat → Int32} {A9 : Nat → Nat → Int32} {G9 : Nat → Int32 × (Nat → Nat → Int32)} {sz : Nat} (hf : f_X7_trade I A G p1 p2 p3 p4 = some (rv, I9, A9, G9)) : Met l yX7_trade wz_X7_trade rm_X7_trade (va_Pc [.ref (ad 0), .int p1, .int p2, .int p3, .int p4] (qw_Pre D cy (Wo cy ad I A G T) sz)) (qw_Q (some (.int rv)) D (Wo cy ad I9 A9 G9 T) (va_A (Wo cy ad I A G T) sz)) 0 0 (va_A (Wo cy ad I A G T) sz) := by
  refine qw_of (cc := cX7_trade) (maxL := 5) (ret := (some .int)) (by decide) (Nat.le_of_ble_eq_true rfl) ?_
  intro p e s m args below meth c ls S0 hr hlocks hsz V hl
  have S0 : CallFix p m c cX7_trade 5 s args qw_big RX7 := S0
  have hx := S0.1; have hb := S0.2.1; have hown := S0.2.2.2.1; have hts := S0.2.2.2.2
  have hl : lv_has ls 5 [(0, .ref (ad 0)), (1, .int p1), (2, .int p2), (3, .int p3), (4, .int p4)] := hl
  generalize va_A (Wo cy ad I A G T) sz = Z9 at V ⊢
  obtain ⟨Q9, hQ⟩ : ∃ q, q = MQ below (qw_Q (some (.int rv)) D (Wo cy ad I9 A9 G9 T) Z9) args s 0 0 Z9 := ⟨_, rfl⟩
  rw [← hQ]
  clear hsz
  unfold f_X7_trade at hf
  refine lv_aload_n hx hb dX7_trade_0 rfl (lv_at hl 0 rfl) ?_
  refine lv_iload_n hx hb dX7_trade_1 rfl (lv_at hl 1 rfl) ?_
  obtain ⟨r1, hc_2, hf⟩ := qf_bd_e hf
  refine qw_cVR (rest := []) (st1 := [.int r1]) S0 V hl 0 gO_0 rfl (c_X7_isHouse l hc_2) kg_X7_150 rfl ⟨rfl, rfl⟩ kd_X7_isHouse ⟨Nat.le_of_ble_eq_true rfl, Nat.le_of_ble_eq_true rfl⟩ rfl rfl (Nat.le_of_ble_eq_true rfl) ⟨Nat.zero_le _, Nat.zero_le _⟩ rfl dX7_trade_2 ?_
  refine lv_if_eq (tgt := 29) hx hb dX7_trade_5 (by decide) (fun c_5 => ?_) (fun c_5 => ?_)
  · replace hf := qf_t c_5 hf
    refine lv_iconst (v := -1) hx hb dX7_trade_29 (by decide) ?_
    have hE := Option.some.inj hf
    obtain ⟨e0, hE⟩ := qf_pr hE
    obtain ⟨e1, hE⟩ := qf_pr hE
    obtain ⟨e2, hE⟩ := qf_pr hE
    exact qw_ireti S0 hr hlocks hQ e0 (by rw [e1, e2, hE]) V dX7_trade_30
  · replace hf := qf_f c_5 hf
    refine lv_aload_n hx hb dX7_trade_8 rfl (lv_at hl 0 rfl) ?_
    refine lv_iload_n hx hb dX7_trade_9 rfl (lv_at hl 2 rfl) ?_
    obtain ⟨r2, hc_10, hf⟩ := qf_bd_e hf
    refine qw_cVR (rest := []) (st1 := [.int r2]) S0 V hl 0 gO_0 rfl (c_X7_isHouse l hc_10) kg_X7_150 rfl ⟨rfl, rfl⟩ kd_X7_isHouse ⟨Nat.le_of_ble_eq_true rfl, Nat.le_of_ble_eq_true rfl⟩ rfl rfl (Nat.le_of_ble_eq_true rfl) ⟨Nat.zero_le _, Nat.zero_le _⟩ rfl dX7_trade_10 ?_
    refine lv_if_eq (tgt := 29) hx hb dX7_trade_13 (by decide) (fun c_13 => ?_) (fun c_13 => ?_)
    · replace hf := qf_t c_13 hf
      refine lv_iconst (v := -1) hx hb dX7_trade_29 (by decide) ?_
      have hE := Option.some.inj hf
      obtain ⟨e0, hE⟩ := qf_pr hE
      obtain ⟨e1, hE⟩ := qf_pr hE
      obtain ⟨e2, hE⟩ := qf_pr hE
      exact qw_ireti S0 hr hlocks hQ e0 (by rw [e1, e2, hE]) V dX7_trade_30
    · replace hf := qf_f c_13 hf
      refine lv_aload_n hx hb dX7_trade_16 rfl (lv_at hl 0 rfl) ?_
      refine lv_iload_n hx hb dX7_trade_17 rfl (lv_at hl 3 rfl) ?_
      obtain ⟨r3, hc_18, hf⟩ := qf_bd_e hf
      refine qw_cVR (rest := []) (st1 := [.int r3]) S0 V hl 0 gO_0 rfl (c_X7_isGroup l hc_18) kg_X7_115 rfl ⟨rfl, rfl⟩ kd_X7_isGroup ⟨Nat.le_of_ble_eq_true rfl, Nat.le_of_ble_eq_true rfl⟩ rfl rfl (Nat.le_of_ble_eq_true rfl) ⟨Nat.zero_le _, Nat.zero_le _⟩ rfl dX7_trade_18 ?_
      refine lv_if_eq (tgt := 29) hx hb dX7_trade_21 (by decide) (fun c_21 => ?_) (fun c_21 => ?_)
      · replace hf := qf_t c_21 hf
        refine lv_iconst (v := -1) hx hb dX7_trade_29 (by decide) ?_
        have hE := Option.some.inj hf
        obtain ⟨e0, hE⟩ := qf_pr hE
        obtain ⟨e1, hE⟩ := qf_pr hE
        obtain ⟨e2, hE⟩ := qf_pr hE
        exact qw_ireti S0 hr hlocks hQ e0 (by rw [e1, e2, hE]) V dX7_trade_30
      · replace hf := qf_f c_21 hf
        refine lv_iload_n hx hb dX7_trade_24 rfl (lv_at hl 1 rfl) ?_
        refine lv_iload_n hx hb dX7_trade_25 rfl (lv_at hl 2 rfl) ?_
        refine lv_icmp_ne (tgt := 31) hx hb dX7_trade_26 (by decide) (fun c_26 => ?_) (fun c_26 => ?_)
        · replace hf := qf_f c_26 hf
          refine lv_iload hx hb dX7_trade_31 (lv_at hl 4 rfl) ?_
          refine lv_iconst (v := 1) hx hb dX7_trade_33 (by decide) ?_
          refine lv_icmp_lt (tgt := 45) hx hb dX7_trade_34 (by decide) (fun c_34 => ?_) (fun c_34 => ?_)
          · replace hf := qf_t c_34 hf
            refine lv_bipush (v := -2) hx hb dX7_trade_45 (by decide) ?_
            have hE := Option.some.inj hf
            obtain ⟨e0, hE⟩ := qf_pr hE
            obtain ⟨e1, hE⟩ := qf_pr hE
            obtain ⟨e2, hE⟩ := qf_pr hE
            exact qw_ireti S0 hr hlocks hQ e0 (by rw [e1, e2, hE]) V dX7_trade_47
          · replace hf := qf_f c_34 hf
            refine lv_iload hx hb dX7_trade_37 (lv_at hl 4 rfl) ?_
            refine lv_sipush (v := 999) hx hb dX7_trade_39 (by decide) ?_
            refine lv_icmp_le (tgt := 48) hx hb dX7_trade_42 (by decide) (fun c_42 => ?_) (fun c_42 => ?_)
            · replace hf := qf_t c_42 hf
              refine lv_aload_n hx hb dX7_trade_48 rfl (lv_at hl 0 rfl) ?_
              refine lv_iload_n hx hb dX7_trade_49 rfl (lv_at hl 1 rfl) ?_
              refine lv_iload_n hx hb dX7_trade_50 rfl (lv_at hl 3 rfl) ?_
              obtain ⟨r4, hc_51, hf⟩ := qf_bd_e hf
              refine qw_cVR (rest := []) (st1 := [.int r4]) S0 V hl 0 gO_0 rfl (c_X7_holding l hc_51) kg_X7_162 rfl ⟨rfl, rfl⟩ kd_X7_holding ⟨Nat.le_of_ble_eq_true rfl, Nat.le_of_ble_eq_true rfl⟩ rfl rfl (Nat.le_of_ble_eq_true rfl) ⟨Nat.zero_le _, Nat.zero_le _⟩ rfl dX7_trade_51 ?_
              refine lv_iload hx hb dX7_trade_54 (lv_at hl 4 rfl) ?_
              refine lv_icmp_ge (tgt := 62) hx hb dX7_trade_56 (by decide) (fun c_56 => ?_) (fun c_56 => ?_)
              · replace hf := qf_t c_56 hf
                refine lv_iload hx hb dX7_trade_62 (lv_at hl 4 rfl) ?_
                refine lv_aload_n hx hb dX7_trade_64 rfl (lv_at hl 0 rfl) ?_
                refine lv_iload_n hx hb dX7_trade_65 rfl (lv_at hl 1 rfl) ?_
                obtain ⟨r5, hc_66, hf⟩ := qf_bd_e hf
                refine qw_cVR (rest := [.int p4]) (st1 := [.int r5, .int p4]) S0 V hl 0 gO_0 rfl (c_X7_giveRoom l hc_66) kg_X7_307 rfl ⟨rfl, rfl⟩ kd_X7_giveRoom ⟨Nat.le_of_ble_eq_true rfl, Nat.le_of_ble_eq_true rfl⟩ rfl rfl (Nat.le_of_ble_eq_true rfl) ⟨Nat.zero_le _, Nat.zero_le _⟩ rfl dX7_trade_66 ?_
                refine lv_icmp_gt (tgt := 82) hx hb dX7_trade_69 (by decide) (fun c_69 => ?_) (fun c_69 => ?_)
                · replace hf := qf_t c_69 hf
                  refine lv_bipush (v := -6) hx hb dX7_trade_82 (by decide) ?_
                  have hE := Option.some.inj hf
                  obtain ⟨e0, hE⟩ := qf_pr hE
                  obtain ⟨e1, hE⟩ := qf_pr hE
                  obtain ⟨e2, hE⟩ := qf_pr hE
                  exact qw_ireti S0 hr hlocks hQ e0 (by rw [e1, e2, hE]) V dX7_trade_84
                · replace hf := qf_f c_69 hf
                  refine lv_iload hx hb dX7_trade_72 (lv_at hl 4 rfl) ?_
                  refine lv_aload_n hx hb dX7_trade_74 rfl (lv_at hl 0 rfl) ?_
                  refine lv_iload_n hx hb dX7_trade_75 rfl (lv_at hl 2 rfl) ?_
                  obtain ⟨r6, hc_76, hf⟩ := qf_bd_e hf
                  refine qw_cVR (rest := [.int p4]) (st1 := [.int r6, .int p4]) S0 V hl 0 gO_0 rfl (c_X7_takeRoom l hc_76) kg_X7_197 rfl ⟨rfl, rfl⟩ kd_X7_takeRoom ⟨Nat.le_of_ble_eq_true rfl, Nat.le_of_ble_eq_true rfl⟩ rfl rfl (Nat.le_of_ble_eq_true rfl) ⟨Nat.zero_le _, Nat.zero_le _⟩ rfl dX7_trade_76 ?_
                  refine lv_icmp_le (tgt := 85) hx hb dX7_trade_79 (by decide) (fun c_79 => ?_) (fun c_79 => ?_)
                  · replace hf := qf_t c_79 hf
                    refine lv_aload_n hx hb dX7_trade_85 rfl (lv_at hl 0 rfl) ?_
                    refine gfO_0_2 S0 V kl_X7_23 dX7_trade_86 ?_
                    refine lv_aload_n hx hb dX7_trade_89 rfl (lv_at hl 0 rfl) ?_
                    refine gfO_0_6 S0 V kl_X7_47 dX7_trade_90 ?_
                    obtain ⟨I7, G8, hc_93, hf⟩ := qf_bd2_e hf
                    refine qw_cV (rest := []) (st1 := []) S0 V hl 6 gO_6 rfl (c_X1_keep_r43 l hc_93) kg_X7_297 rfl ⟨rfl, rfl⟩ kd_X1_keep ⟨Nat.le_of_ble_eq_true rfl, Nat.le_of_ble_eq_true rfl⟩ rfl rfl (Nat.le_of_ble_eq_true rfl) ⟨Nat.zero_le _, Nat.zero_le _⟩ rfl dX7_trade_93 (fun H locs V => ?_)
                    refine lv_aload_n hx hb dX7_trade_96 rfl (lv_at hl 0 rfl) ?_
                    refine gfO_0_6 S0 V kl_X7_47 dX7_trade_97 ?_
                    refine gfO_43_4 S0 V kl_X7_166 dX7_trade_100 ?_
                    refine lv_iload_n hx hb dX7_trade_103 rfl (lv_at hl 1 rfl) ?_
                    refine lv_iload_n hx hb dX7_trade_104 rfl (lv_at hl 3 rfl) ?_
                    obtain ⟨r9, hc_105, hf⟩ := qf_bd_e hf
                    refine qw_cSR (rest := [.ref (ad 47)]) (st1 := [.int r9, .ref (ad 47)]) S0 V hl (c_X5_purse l hc_105) kg_X7_169 rfl ⟨rfl, rfl⟩ kd_X5_purse ⟨Nat.le_of_ble_eq_true rfl, Nat.le_of_ble_eq_true rfl⟩ rfl rfl (Nat.le_of_ble_eq_true rfl) ⟨Nat.zero_le _, Nat.zero_le _⟩ rfl dX7_trade_105 ?_
                    refine lv_iload_n hx hb dX7_trade_108 rfl (lv_at hl 2 rfl) ?_
                    refine lv_iload_n hx hb dX7_trade_109 rfl (lv_at hl 3 rfl) ?_
                    obtain ⟨r10, hc_110, hf⟩ := qf_bd_e hf
                    refine qw_cSR (rest := [.int r9, .ref (ad 47)]) (st1 := [.int r10, .int r9, .ref (ad 47)]) S0 V hl (c_X5_purse l hc_110) kg_X7_169 rfl ⟨rfl, rfl⟩ kd_X5_purse ⟨Nat.le_of_ble_eq_true rfl, Nat.le_of_ble_eq_true rfl⟩ rfl rfl (Nat.le_of_ble_eq_true rfl) ⟨Nat.zero_le _, Nat.zero_le _⟩ rfl dX7_trade_110 ?_
                    refine lv_iload hx hb dX7_trade_113 (lv_at hl 4 rfl) ?_
                    obtain ⟨f11, hc_115, hf⟩ := qf_bd_e hf
                    obtain ⟨A12, e_A12⟩ : ∃ y : Nat → Nat → Int32, y = qf_up A 36 f11 := ⟨_, rfl⟩
                    replace hf := qf_let_e e_A12 hf
                    refine qw_cS (rest := []) (st1 := []) S0 V hl (c_X4_move l (hs := (sO_47 e_A12)) (q0 := 47) gO_47 hc_115) kg_X7_310 rfl ⟨rfl, rfl⟩ kd_X4_move ⟨Nat.le_of_ble_eq_true rfl, Nat.le_of_ble_eq_true rfl⟩ rfl rfl (Nat.le_of_ble_eq_true rfl) ⟨Nat.zero_le _, Nat.zero_le _⟩ rfl dX7_trade_115 (fun H locs V => ?_)
                    refine lv_aload_n hx hb dX7_trade_118 rfl (lv_at hl 0 rfl) ?_
                    refine gfO_0_6 S0 V kl_X7_47 dX7_trade_119 ?_
                    refine gfO_43_5 S0 V kl_X7_188 dX7_trade_122 ?_
                    refine lv_iload_n hx hb dX7_trade_125 rfl (lv_at hl 1 rfl) ?_
                    refine lv_dup2_11 hx hb dX7_trade_126 rfl rfl ?_
                    have h_127 := qf_ld_in hf
                    refine alO_48 S0 V h_127 dX7_trade_127 ?_
                    refine lv_topi (fun x13 e_x13 => ?_)
                    replace hf := qf_ld_e e_x13 hf
                    refine lv_iload hx hb dX7_trade_128 (lv_at hl 4 rfl) ?_
                    refine lv_iadd hx hb dX7_trade_130 ?_
                    have h_131 := qf_st_in hf
                    replace hf := qf_st_e hf
                    refine asO_48 S0 V h_131 dX7_trade_131 (fun H locs A14 e_A14 V => ?_)
                    replace hf := qf_let_e e_A14 hf
                    refine lv_aload_n hx hb dX7_trade_132 rfl (lv_at hl 0 rfl) ?_
                    refine gfO_0_6 S0 V kl_X7_47 dX7_trade_133 ?_
                    refine gfO_43_6 S0 V kl_X7_191 dX7_trade_136 ?_
                    refine lv_iload_n hx hb dX7_trade_139 rfl (lv_at hl 2 rfl) ?_
                    refine lv_dup2_11 hx hb dX7_trade_140 rfl rfl ?_
                    have h_141 := qf_ld_in hf
                    refine alO_49 S0 V h_141 dX7_trade_141 ?_
                    refine lv_topi (fun x16 e_x16 => ?_)
                    replace hf := qf_ld_e e_x16 hf
                    refine lv_iload hx hb dX7_trade_142 (lv_at hl 4 rfl) ?_
                    refine lv_iadd hx hb dX7_trade_144 ?_
                    have h_145 := qf_st_in hf
                    replace hf := qf_st_e hf
                    refine asO_49 S0 V h_145 dX7_trade_145 (fun H locs A17 e_A17 V => ?_)
                    replace hf := qf_let_e e_A17 hf
                    refine lv_aload_n hx hb dX7_trade_146 rfl (lv_at hl 0 rfl) ?_
                    refine lv_iload_n hx hb dX7_trade_147 rfl (lv_at hl 1 rfl) ?_
                    refine lv_iload_n hx hb dX7_trade_148 rfl (lv_at hl 3 rfl) ?_
                    obtain ⟨r19, hc_149, hf⟩ := qf_bd_e hf
                    refine qw_cVR (rest := []) (st1 := [.int r19]) S0 V hl 0 gO_0 rfl (c_X7_holding l hc_149) kg_X7_162 rfl ⟨rfl, rfl⟩ kd_X7_holding ⟨Nat.le_of_ble_eq_true rfl, Nat.le_of_ble_eq_true rfl⟩ rfl rfl (Nat.le_of_ble_eq_true rfl) ⟨Nat.zero_le _, Nat.zero_le _⟩ rfl dX7_trade_149 ?_
                    have hE := Option.some.inj hf
                    obtain ⟨e0, hE⟩ := qf_pr hE
                    obtain ⟨e1, hE⟩ := qf_pr hE
                    obtain ⟨e2, hE⟩ := qf_pr hE
                    exact qw_ireti S0 hr hlocks hQ e0 (by rw [e1, e2, hE]) V dX7_trade_152
                  · replace hf := qf_f c_79 hf
                    refine lv_bipush (v := -6) hx hb dX7_trade_82 (by decide) ?_
                    have hE := Option.some.inj hf
                    obtain ⟨e0, hE⟩ := qf_pr hE
                    obtain ⟨e1, hE⟩ := qf_pr hE
                    obtain ⟨e2, hE⟩ := qf_pr hE
                    exact qw_ireti S0 hr hlocks hQ e0 (by rw [e1, e2, hE]) V dX7_trade_84
              · replace hf := qf_f c_56 hf
                refine lv_bipush (v := -5) hx hb dX7_trade_59 (by decide) ?_
                have hE := Option.some.inj hf
                obtain ⟨e0, hE⟩ := qf_pr hE
                obtain ⟨e1, hE⟩ := qf_pr hE
                obtain ⟨e2, hE⟩ := qf_pr hE
                exact qw_ireti S0 hr hlocks hQ e0 (by rw [e1, e2, hE]) V dX7_trade_61
            · replace hf := qf_f c_42 hf
              refine lv_bipush (v := -2) hx hb dX7_trade_45 (by decide) ?_
              have hE := Option.some.inj hf
              obtain ⟨e0, hE⟩ := qf_pr hE
              obtain ⟨e1, hE⟩ := qf_pr hE
              obtain ⟨e2, hE⟩ := qf_pr hE
              exact qw_ireti S0 hr hlocks hQ e0 (by rw [e1, e2, hE]) V dX7_trade_47
        · replace hf := qf_t c_26 hf
          refine lv_iconst (v := -1) hx hb dX7_trade_29 (by decide) ?_
          have hE := Option.some.inj hf
          obtain ⟨e0, hE⟩ := qf_pr hE
          obtain ⟨e1, hE⟩ := qf_pr hE
          obtain ⟨e2, hE⟩ := qf_pr hE
          exact qw_ireti S0 hr hlocks hQ e0 (by rw [e1, e2, hE]) V dX7_trade_30
theorem kd_X7_audit : yX7_audit.cls = RX7 ∧ yX7_audit.cls ≠ "java/lang/invoke/MethodHandle" ∧ yX7_audit.cls ≠ "java/lang/invoke/VarHandle" ∧ (parseMethodDescriptor yX7_audit.desc).map (fun d => d.parameters.length) = some 3 := by decide +kernel
def f_X7_audit (I : Nat → Int32) (A : Nat → Nat → Int32) (G : Nat → Int32 × (Nat → Nat → Int32)) (p1 : Int32) (p2 : Int32) (p3 : Int32) : Option (Int32 × (Nat → Int32) × (Nat → Nat → Int32) × (Nat → Int32 × (Nat → Nat → Int32))) :=
  qf_bd (f_X7_isShop I p1) fun r1 =>
  if r1 = 0 then (some ((-1 : Int32), I, A, G)) else (qf_bd (f_X7_isGood I p2) fun r2 =>
    if r2 = 0 then (some ((-1 : Int32), I, A, G)) else (if p3 < 0 then (some ((-2 : Int32), I, A, G)) else (if p3 ≤ (99999 : Int32) then (qf_bd2 (f_X1_keep_r43 A I G) fun I3 G4 =>
          qf_bd (f_X5_shelf p1 p2) fun r5 =>
          qf_ld 4 (A 41) p1 fun x6 =>
          qf_ld 24 (A 39) r5 fun x7 =>
          qf_let ((if 0 ≤ (p3 - x7) then (p3 - x7) else 0 - (p3 - x7))) fun x8 =>
          qf_ld 6 (A 20) p2 fun x9 =>
          qf_st 4 p1 fun i11 =>
          qf_let (qf_up A 41 (upd (A 41) i11 (x6 + (x8 * x9)))) fun A10 =>
          qf_st 24 r5 fun i13 =>
          qf_let (qf_up A10 39 (upd (A10 39) i13 p3)) fun A12 =>
          qf_ld 4 (A12 41) p1 fun x14 =>
          some (x14, I3, A12, G4)) else (some ((-2 : Int32), I, A, G)))))
abbrev wz_X7_audit : List Cond := Cond.code yX7_audit cX7_audit 5 (some .int) :: qw_big
def rm_X7_audit : Room := { frames := 4, cells := 0, slots := 0, locals := 123 }
set_option maxHeartbeats 4000000 in
set_option maxRecDepth 100000 in
theorem c_X7_audit (l : Launch) {D : va_G} {cy : Nat → ClassId} {ad : Nat → Nat} {I : Nat → Int32} {A : Nat → Nat → Int32} {G : Nat → Int32 × (Nat → Nat → Int32)} {T : Nat} {p1 : Int32} {p2 : Int32} {p3 : Int32} {rv : Int32} {I9 : Nat → Int32} {A9 : Nat → Nat → Int32} {G9 : Nat → Int32 × (Nat → Nat → Int32)} {sz : Nat} (hf : f_X7_audit I A G p1 p2 p3 = some (rv, I9, A9, G9)) : Met l yX7_audit wz_X7_audit rm_X7_audit (va_Pc [.ref (ad 0), .int p1, .int p2, .int p3] (qw_Pre D cy (Wo cy ad I A G T) sz)) (qw_Q (some (.int rv)) D (Wo cy ad I9 A9 G9 T) (va_A (Wo cy ad I A G T) sz)) 0 0 (va_A (Wo cy ad I A G T) sz) := by
  refine qw_of (cc := cX7_audit) (maxL := 5) (ret := (some .int)) (by decide) (Nat.le_of_ble_eq_true rfl) ?_
  intro p e s m args below meth c ls S0 hr hlocks hsz V hl
  have S0 : CallFix p m c cX7_audit 5 s args qw_big RX7 := S0
  have hx := S0.1; have hb := S0.2.1; have hown := S0.2.2.2.1; have hts := S0.2.2.2.2
  have hl : lv_has ls 5 [(0, .ref (ad 0)), (1, .int p1), (2, .int p2), (3, .int p3)] := hl
  generalize va_A (Wo cy ad I A G T) sz = Z9 at V ⊢
  obtain ⟨Q9, hQ⟩ : ∃ q, q = MQ below (qw_Q (some (.int rv)) D (Wo cy ad I9 A9 G9 T) Z9) args s 0 0 Z9 := ⟨_, rfl⟩
  rw [← hQ]
  clear hsz
  unfold f_X7_audit at hf
  refine lv_aload_n hx hb dX7_audit_0 rfl (lv_at hl 0 rfl) ?_
  refine lv_iload_n hx hb dX7_audit_1 rfl (lv_at hl 1 rfl) ?_
  obtain ⟨r1, hc_2, hf⟩ := qf_bd_e hf
  refine qw_cVR (rest := []) (st1 := [.int r1]) S0 V hl 0 gO_0 rfl (c_X7_isShop l hc_2) kg_X7_213 rfl ⟨rfl, rfl⟩ kd_X7_isShop ⟨Nat.le_of_ble_eq_true rfl, Nat.le_of_ble_eq_true rfl⟩ rfl rfl (Nat.le_of_ble_eq_true rfl) ⟨Nat.zero_le _, Nat.zero_le _⟩ rfl dX7_audit_2 ?_
  refine lv_if_eq (tgt := 16) hx hb dX7_audit_5 (by decide) (fun c_5 => ?_) (fun c_5 => ?_)
  · replace hf := qf_t c_5 hf
    refine lv_iconst (v := -1) hx hb dX7_audit_16 (by decide) ?_
    have hE := Option.some.inj hf
    obtain ⟨e0, hE⟩ := qf_pr hE
    obtain ⟨e1, hE⟩ := qf_pr hE
    obtain ⟨e2, hE⟩ := qf_pr hE
    exact qw_ireti S0 hr hlocks hQ e0 (by rw [e1, e2, hE]) V dX7_audit_17
  · replace hf := qf_f c_5 hf
    refine lv_aload_n hx hb dX7_audit_8 rfl (lv_at hl 0 rfl) ?_
    refine lv_iload_n hx hb dX7_audit_9 rfl (lv_at hl 2 rfl) ?_
    obtain ⟨r2, hc_10, hf⟩ := qf_bd_e hf
    refine qw_cVR (rest := []) (st1 := [.int r2]) S0 V hl 0 gO_0 rfl (c_X7_isGood l hc_10) kg_X7_138 rfl ⟨rfl, rfl⟩ kd_X7_isGood ⟨Nat.le_of_ble_eq_true rfl, Nat.le_of_ble_eq_true rfl⟩ rfl rfl (Nat.le_of_ble_eq_true rfl) ⟨Nat.zero_le _, Nat.zero_le _⟩ rfl dX7_audit_10 ?_
    refine lv_if_ne (tgt := 18) hx hb dX7_audit_13 (by decide) (fun c_13 => ?_) (fun c_13 => ?_)
    · replace hf := qf_f c_13 hf
      refine lv_iload_n hx hb dX7_audit_18 rfl (lv_at hl 3 rfl) ?_
      refine lv_if_lt (tgt := 29) hx hb dX7_audit_19 (by decide) (fun c_19 => ?_) (fun c_19 => ?_)
      · replace hf := qf_t c_19 hf
        refine lv_bipush (v := -2) hx hb dX7_audit_29 (by decide) ?_
        have hE := Option.some.inj hf
        obtain ⟨e0, hE⟩ := qf_pr hE
        obtain ⟨e1, hE⟩ := qf_pr hE
        obtain ⟨e2, hE⟩ := qf_pr hE
        exact qw_ireti S0 hr hlocks hQ e0 (by rw [e1, e2, hE]) V dX7_audit_31
      · replace hf := qf_f c_19 hf
        refine lv_iload_n hx hb dX7_audit_22 rfl (lv_at hl 3 rfl) ?_
        refine lv_ldcw (v := 99999) hx hb hown (hts _ kct_X7_286) dX7_audit_23 ?_
        refine lv_icmp_le (tgt := 32) hx hb dX7_audit_26 (by decide) (fun c_26 => ?_) (fun c_26 => ?_)
        · replace hf := qf_t c_26 hf
          refine lv_aload_n hx hb dX7_audit_32 rfl (lv_at hl 0 rfl) ?_
          refine gfO_0_2 S0 V kl_X7_23 dX7_audit_33 ?_
          refine lv_aload_n hx hb dX7_audit_36 rfl (lv_at hl 0 rfl) ?_
          refine gfO_0_6 S0 V kl_X7_47 dX7_audit_37 ?_
          obtain ⟨I3, G4, hc_40, hf⟩ := qf_bd2_e hf
          refine qw_cV (rest := []) (st1 := []) S0 V hl 6 gO_6 rfl (c_X1_keep_r43 l hc_40) kg_X7_297 rfl ⟨rfl, rfl⟩ kd_X1_keep ⟨Nat.le_of_ble_eq_true rfl, Nat.le_of_ble_eq_true rfl⟩ rfl rfl (Nat.le_of_ble_eq_true rfl) ⟨Nat.zero_le _, Nat.zero_le _⟩ rfl dX7_audit_40 (fun H locs V => ?_)
          refine lv_iload_n hx hb dX7_audit_43 rfl (lv_at hl 1 rfl) ?_
          refine lv_iload_n hx hb dX7_audit_44 rfl (lv_at hl 2 rfl) ?_
          obtain ⟨r5, hc_45, hf⟩ := qf_bd_e hf
          refine qw_cSR (rest := []) (st1 := [.int r5]) S0 V hl (c_X5_shelf l hc_45) kg_X7_219 rfl ⟨rfl, rfl⟩ kd_X5_shelf ⟨Nat.le_of_ble_eq_true rfl, Nat.le_of_ble_eq_true rfl⟩ rfl rfl (Nat.le_of_ble_eq_true rfl) ⟨Nat.zero_le _, Nat.zero_le _⟩ rfl dX7_audit_45 ?_
          refine lv_istore (lv' := [(4, .int r5), (0, .ref (ad 0)), (1, .int p1), (2, .int p2), (3, .int p3)]) hx hb dX7_audit_48 hl (by decide) rfl (fun ls hl => ?_)
          refine lv_aload_n hx hb dX7_audit_50 rfl (lv_at hl 1 rfl) ?_
          refine gfO_0_6 S0 V kl_X7_47 dX7_audit_51 ?_
          refine gfO_43_9 S0 V kl_X7_228 dX7_audit_54 ?_
          refine lv_iload_n hx hb dX7_audit_57 rfl (lv_at hl 2 rfl) ?_
          refine lv_dup2_11 hx hb dX7_audit_58 rfl rfl ?_
          have h_59 := qf_ld_in hf
          refine alO_52 S0 V h_59 dX7_audit_59 ?_
          refine lv_topi (fun x6 e_x6 => ?_)
          replace hf := qf_ld_e e_x6 hf
          refine lv_iload_n hx hb dX7_audit_60 rfl (lv_at hl 4 rfl) ?_
          refine lv_aload_n hx hb dX7_audit_61 rfl (lv_at hl 1 rfl) ?_
          refine gfO_0_6 S0 V kl_X7_47 dX7_audit_62 ?_
          refine gfO_43_7 S0 V kl_X7_216 dX7_audit_65 ?_
          refine lv_iload hx hb dX7_audit_68 (lv_at hl 0 rfl) ?_
          have h_70 := qf_ld_in hf
          refine alO_50 S0 V h_70 dX7_audit_70 ?_
          refine lv_topi (fun x7 e_x7 => ?_)
          replace hf := qf_ld_e e_x7 hf
          refine lv_isub hx hb dX7_audit_71 ?_
          refine qw_abs S0 hl.1 kml_X7_314 (Nat.le_of_ble_eq_true rfl) (Nat.le_of_ble_eq_true rfl) (Nat.zero_le _) (Nat.zero_le _) dX7_audit_72 ?_
          refine lv_topi (fun x8 e_x8 => ?_)
          replace hf := qf_let_e e_x8 hf
          refine lv_aload_n hx hb dX7_audit_75 rfl (lv_at hl 1 rfl) ?_
          refine gfO_0_5 S0 V kl_X7_40 dX7_audit_76 ?_
          refine gfO_19_13 S0 V kl_X7_144 dX7_audit_79 ?_
          refine lv_iload_n hx hb dX7_audit_82 rfl (lv_at hl 3 rfl) ?_
          have h_83 := qf_ld_in hf
          refine alO_29 S0 V h_83 dX7_audit_83 ?_
          refine lv_topi (fun x9 e_x9 => ?_)
          replace hf := qf_ld_e e_x9 hf
          refine lv_imul hx hb dX7_audit_84 ?_
          refine lv_iadd hx hb dX7_audit_85 ?_
          have h_86 := qf_st_in hf
          replace hf := qf_st_e hf
          refine asO_52 S0 V h_86 dX7_audit_86 (fun H locs A10 e_A10 V => ?_)
          replace hf := qf_let_e e_A10 hf
          refine lv_aload_n hx hb dX7_audit_87 rfl (lv_at hl 1 rfl) ?_
          refine gfO_0_6 S0 V kl_X7_47 dX7_audit_88 ?_
          refine gfO_43_7 S0 V kl_X7_216 dX7_audit_91 ?_
          refine lv_iload hx hb dX7_audit_94 (lv_at hl 0 rfl) ?_
          refine lv_iload_n hx hb dX7_audit_96 rfl (lv_at hl 4 rfl) ?_
          have h_97 := qf_st_in hf
          replace hf := qf_st_e hf
          refine asO_50 S0 V h_97 dX7_audit_97 (fun H locs A12 e_A12 V => ?_)
          replace hf := qf_let_e e_A12 hf
          refine lv_aload_n hx hb dX7_audit_98 rfl (lv_at hl 1 rfl) ?_
          refine gfO_0_6 S0 V kl_X7_47 dX7_audit_99 ?_
          refine gfO_43_9 S0 V kl_X7_228 dX7_audit_102 ?_
          refine lv_iload_n hx hb dX7_audit_105 rfl (lv_at hl 2 rfl) ?_
          have h_106 := qf_ld_in hf
          refine alO_52 S0 V h_106 dX7_audit_106 ?_
          refine lv_topi (fun x14 e_x14 => ?_)
          replace hf := qf_ld_e e_x14 hf
          have hE := Option.some.inj hf
          obtain ⟨e0, hE⟩ := qf_pr hE
          obtain ⟨e1, hE⟩ := qf_pr hE
          obtain ⟨e2, hE⟩ := qf_pr hE
          exact qw_ireti S0 hr hlocks hQ e0 (by rw [e1, e2, hE]) V dX7_audit_107
        · replace hf := qf_f c_26 hf
          refine lv_bipush (v := -2) hx hb dX7_audit_29 (by decide) ?_
          have hE := Option.some.inj hf
          obtain ⟨e0, hE⟩ := qf_pr hE
          obtain ⟨e1, hE⟩ := qf_pr hE
          obtain ⟨e2, hE⟩ := qf_pr hE
          exact qw_ireti S0 hr hlocks hQ e0 (by rw [e1, e2, hE]) V dX7_audit_31
    · replace hf := qf_t c_13 hf
      refine lv_iconst (v := -1) hx hb dX7_audit_16 (by decide) ?_
      have hE := Option.some.inj hf
      obtain ⟨e0, hE⟩ := qf_pr hE
      obtain ⟨e1, hE⟩ := qf_pr hE
      obtain ⟨e2, hE⟩ := qf_pr hE
      exact qw_ireti S0 hr hlocks hQ e0 (by rw [e1, e2, hE]) V dX7_audit_17
theorem kd_X7_pardon : yX7_pardon.cls = RX7 ∧ yX7_pardon.cls ≠ "java/lang/invoke/MethodHandle" ∧ yX7_pardon.cls ≠ "java/lang/invoke/VarHandle" ∧ (parseMethodDescriptor yX7_pardon.desc).map (fun d => d.parameters.length) = some 1 := by decide +kernel
def f_X7_pardon (I : Nat → Int32) (A : Nat → Nat → Int32) (G : Nat → Int32 × (Nat → Nat → Int32)) (p1 : Int32) : Option (Int32 × (Nat → Int32) × (Nat → Nat → Int32) × (Nat → Int32 × (Nat → Nat → Int32))) :=
  qf_bd (f_X7_isShop I p1) fun r1 =>
  if r1 = 0 then (some ((-1 : Int32), I, A, G)) else (qf_bd2 (f_X1_keep_r43 A I G) fun I2 G3 =>
    qf_ld 4 (A 41) p1 fun x4 =>
    qf_st 4 p1 fun i6 =>
    qf_let (qf_up A 41 (upd (A 41) i6 (0 : Int32))) fun A5 =>
    some (x4, I2, A5, G3))
abbrev wz_X7_pardon : List Cond := Cond.code yX7_pardon cX7_pardon 3 (some .int) :: qw_big
def rm_X7_pardon : Room := { frames := 4, cells := 0, slots := 0, locals := 123 }
set_option maxHeartbeats 4000000 in
set_option maxRecDepth 100000 in
theorem c_X7_pardon (l : Launch) {D : va_G} {cy : Nat → ClassId} {ad : Nat → Nat} {I : Nat → Int32} {A : Nat → Nat → Int32} {G : Nat → Int32 × (Nat → Nat → Int32)} {T : Nat} {p1 : Int32} {rv : Int32} {I9 : Nat → Int32} {A9 : Nat → Nat → Int32} {G9 : Nat → Int32 × (Nat → Nat → Int32)} {sz : Nat} (hf : f_X7_pardon I A G p1 = some (rv, I9, A9, G9)) : Met l yX7_pardon wz_X7_pardon rm_X7_pardon (va_Pc [.ref (ad 0), .int p1] (qw_Pre D cy (Wo cy ad I A G T) sz)) (qw_Q (some (.int rv)) D (Wo cy ad I9 A9 G9 T) (va_A (Wo cy ad I A G T) sz)) 0 0 (va_A (Wo cy ad I A G T) sz) := by
  refine qw_of (cc := cX7_pardon) (maxL := 3) (ret := (some .int)) (by decide) (Nat.le_of_ble_eq_true rfl) ?_
  intro p e s m args below meth c ls S0 hr hlocks hsz V hl
  have S0 : CallFix p m c cX7_pardon 3 s args qw_big RX7 := S0
  have hx := S0.1; have hb := S0.2.1; have hown := S0.2.2.2.1; have hts := S0.2.2.2.2
  have hl : lv_has ls 3 [(0, .ref (ad 0)), (1, .int p1)] := hl
  generalize va_A (Wo cy ad I A G T) sz = Z9 at V ⊢
  obtain ⟨Q9, hQ⟩ : ∃ q, q = MQ below (qw_Q (some (.int rv)) D (Wo cy ad I9 A9 G9 T) Z9) args s 0 0 Z9 := ⟨_, rfl⟩
  rw [← hQ]
  clear hsz
  unfold f_X7_pardon at hf
  refine lv_aload_n hx hb dX7_pardon_0 rfl (lv_at hl 0 rfl) ?_
  refine lv_iload_n hx hb dX7_pardon_1 rfl (lv_at hl 1 rfl) ?_
  obtain ⟨r1, hc_2, hf⟩ := qf_bd_e hf
  refine qw_cVR (rest := []) (st1 := [.int r1]) S0 V hl 0 gO_0 rfl (c_X7_isShop l hc_2) kg_X7_213 rfl ⟨rfl, rfl⟩ kd_X7_isShop ⟨Nat.le_of_ble_eq_true rfl, Nat.le_of_ble_eq_true rfl⟩ rfl rfl (Nat.le_of_ble_eq_true rfl) ⟨Nat.zero_le _, Nat.zero_le _⟩ rfl dX7_pardon_2 ?_
  refine lv_if_ne (tgt := 10) hx hb dX7_pardon_5 (by decide) (fun c_5 => ?_) (fun c_5 => ?_)
  · replace hf := qf_f c_5 hf
    refine lv_aload_n hx hb dX7_pardon_10 rfl (lv_at hl 0 rfl) ?_
    refine gfO_0_2 S0 V kl_X7_23 dX7_pardon_11 ?_
    refine lv_aload_n hx hb dX7_pardon_14 rfl (lv_at hl 0 rfl) ?_
    refine gfO_0_6 S0 V kl_X7_47 dX7_pardon_15 ?_
    obtain ⟨I2, G3, hc_18, hf⟩ := qf_bd2_e hf
    refine qw_cV (rest := []) (st1 := []) S0 V hl 6 gO_6 rfl (c_X1_keep_r43 l hc_18) kg_X7_297 rfl ⟨rfl, rfl⟩ kd_X1_keep ⟨Nat.le_of_ble_eq_true rfl, Nat.le_of_ble_eq_true rfl⟩ rfl rfl (Nat.le_of_ble_eq_true rfl) ⟨Nat.zero_le _, Nat.zero_le _⟩ rfl dX7_pardon_18 (fun H locs V => ?_)
    refine lv_aload_n hx hb dX7_pardon_21 rfl (lv_at hl 0 rfl) ?_
    refine gfO_0_6 S0 V kl_X7_47 dX7_pardon_22 ?_
    refine gfO_43_9 S0 V kl_X7_228 dX7_pardon_25 ?_
    refine lv_iload_n hx hb dX7_pardon_28 rfl (lv_at hl 1 rfl) ?_
    have h_29 := qf_ld_in hf
    refine alO_52 S0 V h_29 dX7_pardon_29 ?_
    refine lv_topi (fun x4 e_x4 => ?_)
    replace hf := qf_ld_e e_x4 hf
    refine lv_istore_n (lv' := [(2, .int x4), (0, .ref (ad 0)), (1, .int p1)]) hx hb dX7_pardon_30 rfl hl (by decide) rfl (fun ls hl => ?_)
    refine lv_aload_n hx hb dX7_pardon_31 rfl (lv_at hl 1 rfl) ?_
    refine gfO_0_6 S0 V kl_X7_47 dX7_pardon_32 ?_
    refine gfO_43_9 S0 V kl_X7_228 dX7_pardon_35 ?_
    refine lv_iload_n hx hb dX7_pardon_38 rfl (lv_at hl 2 rfl) ?_
    refine lv_iconst (v := 0) hx hb dX7_pardon_39 (by decide) ?_
    have h_40 := qf_st_in hf
    replace hf := qf_st_e hf
    refine asO_52 S0 V h_40 dX7_pardon_40 (fun H locs A5 e_A5 V => ?_)
    replace hf := qf_let_e e_A5 hf
    refine lv_iload_n hx hb dX7_pardon_41 rfl (lv_at hl 0 rfl) ?_
    have hE := Option.some.inj hf
    obtain ⟨e0, hE⟩ := qf_pr hE
    obtain ⟨e1, hE⟩ := qf_pr hE
    obtain ⟨e2, hE⟩ := qf_pr hE
    exact qw_ireti S0 hr hlocks hQ e0 (by rw [e1, e2, hE]) V dX7_pardon_42
  · replace hf := qf_t c_5 hf
    refine lv_iconst (v := -1) hx hb dX7_pardon_8 (by decide) ?_
    have hE := Option.some.inj hf
    obtain ⟨e0, hE⟩ := qf_pr hE
    obtain ⟨e1, hE⟩ := qf_pr hE
    obtain ⟨e2, hE⟩ := qf_pr hE
    exact qw_ireti S0 hr hlocks hQ e0 (by rw [e1, e2, hE]) V dX7_pardon_9
theorem kd_X7_endPeriodOf : yX7_endPeriodOf.cls = RX7 ∧ yX7_endPeriodOf.cls ≠ "java/lang/invoke/MethodHandle" ∧ yX7_endPeriodOf.cls ≠ "java/lang/invoke/VarHandle" ∧ (parseMethodDescriptor yX7_endPeriodOf.desc).map (fun d => d.parameters.length) = some 1 := by decide +kernel
def f_X7_endPeriodOf_l4 (I : Nat → Int32)  (y1 : Int32) : Nat → (Nat → Nat → Int32) → Int32 → Int32 → Option (Int32 × (Nat → Nat → Int32))
  | 0, _, _, _ => none
  | n + 1, A, y2, y3 =>
  if (I 14) ≤ y3 then (qf_ld 4 (A 46) y1 fun x1 =>
    qf_st 4 y1 fun i3 =>
    qf_let (qf_up A 46 (upd (A 46) i3 (x1 + y2))) fun A2 =>
    some (y2, A2)) else (qf_bd (f_X5_purse y3 y1) fun r4 =>
    qf_ld 4 (A 16) y1 fun x5 =>
    qf_bd2 (f_X4_growOlder 120 (A 36) r4 x5) fun r6 f7 =>
    qf_let (qf_up A 36 f7) fun A8 =>
    qf_let ((y2 + r6)) fun x9 =>
    qf_let (y3 + (1 : Int32)) fun x10 =>
    f_X7_endPeriodOf_l4 I y1 n A8 x9 x10)
def f_X7_endPeriodOf (I : Nat → Int32) (A : Nat → Nat → Int32) (p1 : Int32) : Option (Int32 × (Nat → Nat → Int32)) :=
  f_X7_endPeriodOf_l4 I p1 100000 A (0 : Int32) (0 : Int32)
abbrev wz_X7_endPeriodOf : List Cond := Cond.code yX7_endPeriodOf cX7_endPeriodOf 4 (some .int) :: qw_big
def rm_X7_endPeriodOf : Room := { frames := 1, cells := 0, slots := 0, locals := 25 }
set_option maxHeartbeats 4000000 in
set_option maxRecDepth 100000 in
theorem c_X7_endPeriodOf (l : Launch) {D : va_G} {cy : Nat → ClassId} {ad : Nat → Nat} {I : Nat → Int32} {A : Nat → Nat → Int32} {G : Nat → Int32 × (Nat → Nat → Int32)} {T : Nat} {p1 : Int32} {rv : Int32} {A9 : Nat → Nat → Int32} {sz : Nat} (hf : f_X7_endPeriodOf I A p1 = some (rv, A9)) : Met l yX7_endPeriodOf wz_X7_endPeriodOf rm_X7_endPeriodOf (va_Pc [.ref (ad 0), .int p1] (qw_Pre D cy (Wo cy ad I A G T) sz)) (qw_Q (some (.int rv)) D (Wo cy ad I A9 G T) (va_A (Wo cy ad I A G T) sz)) 0 0 (va_A (Wo cy ad I A G T) sz) := by
  refine qw_of (cc := cX7_endPeriodOf) (maxL := 4) (ret := (some .int)) (by decide) (Nat.le_of_ble_eq_true rfl) ?_
  intro p e s m args below meth c ls S0 hr hlocks hsz V hl
  have S0 : CallFix p m c cX7_endPeriodOf 4 s args qw_big RX7 := S0
  have hx := S0.1; have hb := S0.2.1; have hown := S0.2.2.2.1; have hts := S0.2.2.2.2
  have hl : lv_has ls 4 [(0, .ref (ad 0)), (1, .int p1)] := hl
  generalize va_A (Wo cy ad I A G T) sz = Z9 at V ⊢
  obtain ⟨Q9, hQ⟩ : ∃ q, q = MQ below (qw_Q (some (.int rv)) D (Wo cy ad I A9 G T) Z9) args s 0 0 Z9 := ⟨_, rfl⟩
  rw [← hQ]
  clear hsz
  have L_4 : ∀  {y1 : Int32} {n : Nat} {A : Nat → Nat → Int32} {y2 : Int32} {y3 : Int32} {H : Heap} {locs : List Loc} {ls : Array Slot}, f_X7_endPeriodOf_l4 I y1 n A y2 y3 = some (rv, A9) → qw_V D cy Z9 s (Wo cy ad I A G T) H locs → lv_has ls 4 [(0, .ref (ad 0)), (1, .int y1), (2, .int y2), (3, .int y3)] → W p l e rm_X7_endPeriodOf s m args below meth c H locs 0 0 Q9 (F0 m 4 ls []) := by
    intro y1 n
    induction n with
    | zero => intro A y2 y3 H locs ls hf V hl; exact qf_no hf
    | succ n ih =>
      intro A y2 y3 H locs ls hf V hl
      rw [f_X7_endPeriodOf_l4] at hf
      refine lv_iload_n hx hb dX7_endPeriodOf_4 rfl (lv_at hl 3 rfl) ?_
      refine lv_aload_n hx hb dX7_endPeriodOf_5 rfl (lv_at hl 0 rfl) ?_
      refine gfO_0_5 S0 V kl_X7_40 dX7_endPeriodOf_6 ?_
      refine gfO_19_2 S0 V kl_X7_87 dX7_endPeriodOf_9 ?_
      refine lv_icmp_ge (tgt := 48) hx hb dX7_endPeriodOf_12 (by decide) (fun c_12 => ?_) (fun c_12 => ?_)
      · replace hf := qf_t c_12 hf
        refine lv_aload_n hx hb dX7_endPeriodOf_48 rfl (lv_at hl 0 rfl) ?_
        refine gfO_0_6 S0 V kl_X7_47 dX7_endPeriodOf_49 ?_
        refine gfO_43_14 S0 V kl_X7_246 dX7_endPeriodOf_52 ?_
        refine lv_iload_n hx hb dX7_endPeriodOf_55 rfl (lv_at hl 1 rfl) ?_
        refine lv_dup2_11 hx hb dX7_endPeriodOf_56 rfl rfl ?_
        have h_57 := qf_ld_in hf
        refine alO_57 S0 V h_57 dX7_endPeriodOf_57 ?_
        refine lv_topi (fun x1 e_x1 => ?_)
        replace hf := qf_ld_e e_x1 hf
        refine lv_iload_n hx hb dX7_endPeriodOf_58 rfl (lv_at hl 2 rfl) ?_
        refine lv_iadd hx hb dX7_endPeriodOf_59 ?_
        have h_60 := qf_st_in hf
        replace hf := qf_st_e hf
        refine asO_57 S0 V h_60 dX7_endPeriodOf_60 (fun H locs A2 e_A2 V => ?_)
        replace hf := qf_let_e e_A2 hf
        refine lv_iload_n hx hb dX7_endPeriodOf_61 rfl (lv_at hl 2 rfl) ?_
        have hE := Option.some.inj hf
        obtain ⟨e0, hE⟩ := qf_pr hE
        exact qw_ireti S0 hr hlocks hQ e0 (by rw [hE]) V dX7_endPeriodOf_62
      · replace hf := qf_f c_12 hf
        refine lv_iload_n hx hb dX7_endPeriodOf_15 rfl (lv_at hl 2 rfl) ?_
        refine lv_aload_n hx hb dX7_endPeriodOf_16 rfl (lv_at hl 0 rfl) ?_
        refine gfO_0_6 S0 V kl_X7_47 dX7_endPeriodOf_17 ?_
        refine gfO_43_4 S0 V kl_X7_166 dX7_endPeriodOf_20 ?_
        refine lv_iload_n hx hb dX7_endPeriodOf_23 rfl (lv_at hl 3 rfl) ?_
        refine lv_iload_n hx hb dX7_endPeriodOf_24 rfl (lv_at hl 1 rfl) ?_
        obtain ⟨r4, hc_25, hf⟩ := qf_bd_e hf
        refine qw_cSR (rest := [.ref (ad 47), .int y2]) (st1 := [.int r4, .ref (ad 47), .int y2]) S0 V hl (c_X5_purse l hc_25) kg_X7_169 rfl ⟨rfl, rfl⟩ kd_X5_purse ⟨Nat.le_of_ble_eq_true rfl, Nat.le_of_ble_eq_true rfl⟩ rfl rfl (Nat.le_of_ble_eq_true rfl) ⟨Nat.zero_le _, Nat.zero_le _⟩ rfl dX7_endPeriodOf_25 ?_
        refine lv_aload_n hx hb dX7_endPeriodOf_28 rfl (lv_at hl 0 rfl) ?_
        refine gfO_0_5 S0 V kl_X7_40 dX7_endPeriodOf_29 ?_
        refine gfO_19_9 S0 V kl_X7_129 dX7_endPeriodOf_32 ?_
        refine lv_iload_n hx hb dX7_endPeriodOf_35 rfl (lv_at hl 1 rfl) ?_
        have h_36 := qf_ld_in hf
        refine alO_25 S0 V h_36 dX7_endPeriodOf_36 ?_
        refine lv_topi (fun x5 e_x5 => ?_)
        replace hf := qf_ld_e e_x5 hf
        obtain ⟨r6, f7, hc_37, hf⟩ := qf_bd2_e hf
        obtain ⟨A8, e_A8⟩ : ∃ y : Nat → Nat → Int32, y = qf_up A 36 f7 := ⟨_, rfl⟩
        replace hf := qf_let_e e_A8 hf
        refine qw_cS (rest := [.int y2]) (st1 := [.int r6, .int y2]) S0 V hl (c_X4_growOlder l (hs := (sO_47 e_A8)) (q0 := 47) gO_47 hc_37) kg_X7_326 rfl ⟨rfl, rfl⟩ kd_X4_growOlder ⟨Nat.le_of_ble_eq_true rfl, Nat.le_of_ble_eq_true rfl⟩ rfl rfl (Nat.le_of_ble_eq_true rfl) ⟨Nat.zero_le _, Nat.zero_le _⟩ rfl dX7_endPeriodOf_37 (fun H locs V => ?_)
        refine lv_iadd hx hb dX7_endPeriodOf_40 ?_
        refine lv_topi (fun x9 e_x9 => ?_)
        replace hf := qf_let_e e_x9 hf
        refine lv_istore_n (lv' := [(2, .int x9), (0, .ref (ad 0)), (1, .int y1), (3, .int y3)]) hx hb dX7_endPeriodOf_41 rfl hl (by decide) rfl (fun ls hl => ?_)
        obtain ⟨x10, e_x10⟩ : ∃ y : Int32, y = y3 + (1 : Int32) := ⟨_, rfl⟩
        refine lv_iinc (v := x10) (lv' := [(3, .int x10), (2, .int x9), (0, .ref (ad 0)), (1, .int y1)]) hx hb dX7_endPeriodOf_42 hl (k := 3) rfl (by rw [e_x10]; rfl) (by decide) rfl (fun ls hl => ?_)
        replace hf := qf_let_e e_x10 hf
        refine lv_goto (tgt := 4) hx hb dX7_endPeriodOf_45 (by decide) ?_
        exact ih hf V (lv_sub hl [2, 3, 1, 0] rfl)
  unfold f_X7_endPeriodOf at hf
  refine lv_iconst (v := 0) hx hb dX7_endPeriodOf_0 (by decide) ?_
  refine lv_istore_n (lv' := [(2, .int (0 : Int32)), (0, .ref (ad 0)), (1, .int p1)]) hx hb dX7_endPeriodOf_1 rfl hl (by decide) rfl (fun ls hl => ?_)
  refine lv_iconst (v := 0) hx hb dX7_endPeriodOf_2 (by decide) ?_
  refine lv_istore_n (lv' := [(3, .int (0 : Int32)), (2, .int (0 : Int32)), (0, .ref (ad 0)), (1, .int p1)]) hx hb dX7_endPeriodOf_3 rfl hl (by decide) rfl (fun ls hl => ?_)
  exact L_4 hf V (lv_sub hl [2, 3, 1, 0] rfl)
theorem kd_X7_nextPeriod : yX7_nextPeriod.cls = RX7 ∧ yX7_nextPeriod.cls ≠ "java/lang/invoke/MethodHandle" ∧ yX7_nextPeriod.cls ≠ "java/lang/invoke/VarHandle" ∧ (parseMethodDescriptor yX7_nextPeriod.desc).map (fun d => d.parameters.length) = some 0 := by decide +kernel
def f_X7_nextPeriod_l15    : Nat → (Nat → Int32) → (Nat → Nat → Int32) → (Nat → Int32 × (Nat → Nat → Int32)) → Int32 → Int32 → Option (Int32 × (Nat → Int32) × (Nat → Nat → Int32) × (Nat → Int32 × (Nat → Nat → Int32)))
  | 0, _, _, _, _, _ => none
  | n + 1, I, A, G, y1, y2 =>
  if (I 12) ≤ y2 then (qf_let (upd I 20 ((I 20) + (1 : Int32))) fun I3 =>
    qf_bd (f_J7_fill_53178 6 (A 37) (0 : Int32)) fun f4 =>
    qf_let (qf_up A 37 f4) fun A5 =>
    qf_bd (f_J7_fill_53178 6 (A5 38) (0 : Int32)) fun f6 =>
    qf_let (qf_up A5 38 f6) fun A7 =>
    qf_bd (f_X7_issueToAll I3 A7) fun A8 =>
    some (y1, I3, A8, G)) else (qf_bd2 (f_X7_endPeriodOf I A y2) fun r9 A10 =>
    qf_let ((y1 + r9)) fun x11 =>
    qf_let (y2 + (1 : Int32)) fun x12 =>
    f_X7_nextPeriod_l15  n I A10 G x11 x12)
def f_X7_nextPeriod (I : Nat → Int32) (A : Nat → Nat → Int32) (G : Nat → Int32 × (Nat → Nat → Int32)) : Option (Int32 × (Nat → Int32) × (Nat → Nat → Int32) × (Nat → Int32 × (Nat → Nat → Int32))) :=
  qf_bd2 (f_X1_keep_r43 A I G) fun I1 G2 =>
  f_X7_nextPeriod_l15  100000 I1 A G2 (0 : Int32) (0 : Int32)
abbrev wz_X7_nextPeriod : List Cond := Cond.code yX7_nextPeriod cX7_nextPeriod 3 (some .int) :: qw_big
def rm_X7_nextPeriod : Room := { frames := 4, cells := 0, slots := 0, locals := 123 }
set_option maxHeartbeats 4000000 in
set_option maxRecDepth 100000 in
theorem c_X7_nextPeriod (l : Launch) {D : va_G} {cy : Nat → ClassId} {ad : Nat → Nat} {I : Nat → Int32} {A : Nat → Nat → Int32} {G : Nat → Int32 × (Nat → Nat → Int32)} {T : Nat}  {rv : Int32} {I9 : Nat → Int32} {A9 : Nat → Nat → Int32} {G9 : Nat → Int32 × (Nat → Nat → Int32)} {sz : Nat} (hf : f_X7_nextPeriod I A G = some (rv, I9, A9, G9)) : Met l yX7_nextPeriod wz_X7_nextPeriod rm_X7_nextPeriod (va_Pc [.ref (ad 0)] (qw_Pre D cy (Wo cy ad I A G T) sz)) (qw_Q (some (.int rv)) D (Wo cy ad I9 A9 G9 T) (va_A (Wo cy ad I A G T) sz)) 0 0 (va_A (Wo cy ad I A G T) sz) := by
  refine qw_of (cc := cX7_nextPeriod) (maxL := 3) (ret := (some .int)) (by decide) (Nat.le_of_ble_eq_true rfl) ?_
  intro p e s m args below meth c ls S0 hr hlocks hsz V hl
  have S0 : CallFix p m c cX7_nextPeriod 3 s args qw_big RX7 := S0
  have hx := S0.1; have hb := S0.2.1; have hown := S0.2.2.2.1; have hts := S0.2.2.2.2
  have hl : lv_has ls 3 [(0, .ref (ad 0))] := hl
  generalize va_A (Wo cy ad I A G T) sz = Z9 at V ⊢
  obtain ⟨Q9, hQ⟩ : ∃ q, q = MQ below (qw_Q (some (.int rv)) D (Wo cy ad I9 A9 G9 T) Z9) args s 0 0 Z9 := ⟨_, rfl⟩
  rw [← hQ]
  clear hsz
  have L_15 : ∀   {n : Nat} {I : Nat → Int32} {A : Nat → Nat → Int32} {G : Nat → Int32 × (Nat → Nat → Int32)} {y1 : Int32} {y2 : Int32} {H : Heap} {locs : List Loc} {ls : Array Slot}, f_X7_nextPeriod_l15 n I A G y1 y2 = some (rv, I9, A9, G9) → qw_V D cy Z9 s (Wo cy ad I A G T) H locs → lv_has ls 3 [(0, .ref (ad 0)), (1, .int y1), (2, .int y2)] → W p l e rm_X7_nextPeriod s m args below meth c H locs 0 0 Q9 (F0 m 15 ls []) := by
    intro n
    induction n with
    | zero => intro I A G y1 y2 H locs ls hf V hl; exact qf_no hf
    | succ n ih =>
      intro I A G y1 y2 H locs ls hf V hl
      rw [f_X7_nextPeriod_l15] at hf
      refine lv_iload_n hx hb dX7_nextPeriod_15 rfl (lv_at hl 2 rfl) ?_
      refine lv_aload_n hx hb dX7_nextPeriod_16 rfl (lv_at hl 0 rfl) ?_
      refine gfO_0_5 S0 V kl_X7_40 dX7_nextPeriod_17 ?_
      refine gfO_19_0 S0 V kl_X7_81 dX7_nextPeriod_20 ?_
      refine lv_icmp_ge (tgt := 40) hx hb dX7_nextPeriod_23 (by decide) (fun c_23 => ?_) (fun c_23 => ?_)
      · replace hf := qf_t c_23 hf
        refine lv_aload_n hx hb dX7_nextPeriod_40 rfl (lv_at hl 0 rfl) ?_
        refine gfO_0_6 S0 V kl_X7_47 dX7_nextPeriod_41 ?_
        refine lv_dup hx hb dX7_nextPeriod_44 rfl ?_
        refine gfO_43_0 S0 V kl_X7_96 dX7_nextPeriod_45 ?_
        refine lv_iconst (v := 1) hx hb dX7_nextPeriod_48 (by decide) ?_
        refine lv_iadd hx hb dX7_nextPeriod_49 ?_
        refine pfO_43_0 S0 V kl_X7_96 dX7_nextPeriod_50 (fun H locs I3 e_I3 V => ?_)
        replace hf := qf_let_e e_I3 hf
        refine lv_aload_n hx hb dX7_nextPeriod_53 rfl (lv_at hl 0 rfl) ?_
        refine gfO_0_6 S0 V kl_X7_47 dX7_nextPeriod_54 ?_
        refine gfO_43_5 S0 V kl_X7_188 dX7_nextPeriod_57 ?_
        refine lv_iconst (v := 0) hx hb dX7_nextPeriod_60 (by decide) ?_
        obtain ⟨f4, hc_61, hf⟩ := qf_bd_e hf
        obtain ⟨A5, e_A5⟩ : ∃ y : Nat → Nat → Int32, y = qf_up A 37 f4 := ⟨_, rfl⟩
        replace hf := qf_let_e e_A5 hf
        refine qw_cS (rest := []) (st1 := []) S0 V hl (c_J7_fill_53178 l (hs := (sO_48 e_A5)) (q0 := 48) gO_48 hc_61) kg_X7_320 rfl ⟨rfl, rfl⟩ kd_J7_fill_53178 ⟨Nat.le_of_ble_eq_true rfl, Nat.le_of_ble_eq_true rfl⟩ rfl rfl (Nat.le_of_ble_eq_true rfl) ⟨Nat.zero_le _, Nat.zero_le _⟩ rfl dX7_nextPeriod_61 (fun H locs V => ?_)
        refine lv_aload_n hx hb dX7_nextPeriod_64 rfl (lv_at hl 0 rfl) ?_
        refine gfO_0_6 S0 V kl_X7_47 dX7_nextPeriod_65 ?_
        refine gfO_43_6 S0 V kl_X7_191 dX7_nextPeriod_68 ?_
        refine lv_iconst (v := 0) hx hb dX7_nextPeriod_71 (by decide) ?_
        obtain ⟨f6, hc_72, hf⟩ := qf_bd_e hf
        obtain ⟨A7, e_A7⟩ : ∃ y : Nat → Nat → Int32, y = qf_up A5 38 f6 := ⟨_, rfl⟩
        replace hf := qf_let_e e_A7 hf
        refine qw_cS (rest := []) (st1 := []) S0 V hl (c_J7_fill_53178 l (hs := (sO_49 e_A7)) (q0 := 49) gO_49 hc_72) kg_X7_320 rfl ⟨rfl, rfl⟩ kd_J7_fill_53178 ⟨Nat.le_of_ble_eq_true rfl, Nat.le_of_ble_eq_true rfl⟩ rfl rfl (Nat.le_of_ble_eq_true rfl) ⟨Nat.zero_le _, Nat.zero_le _⟩ rfl dX7_nextPeriod_72 (fun H locs V => ?_)
        refine lv_aload_n hx hb dX7_nextPeriod_75 rfl (lv_at hl 0 rfl) ?_
        obtain ⟨A8, hc_76, hf⟩ := qf_bd_e hf
        refine qw_cV (rest := []) (st1 := []) S0 V hl 0 gO_0 rfl (c_X7_issueToAll l hc_76) kg_X7_76 rfl ⟨rfl, rfl⟩ kd_X7_issueToAll ⟨Nat.le_of_ble_eq_true rfl, Nat.le_of_ble_eq_true rfl⟩ rfl rfl (Nat.le_of_ble_eq_true rfl) ⟨Nat.zero_le _, Nat.zero_le _⟩ rfl dX7_nextPeriod_76 (fun H locs V => ?_)
        refine lv_iload_n hx hb dX7_nextPeriod_79 rfl (lv_at hl 1 rfl) ?_
        have hE := Option.some.inj hf
        obtain ⟨e0, hE⟩ := qf_pr hE
        obtain ⟨e1, hE⟩ := qf_pr hE
        obtain ⟨e2, hE⟩ := qf_pr hE
        exact qw_ireti S0 hr hlocks hQ e0 (by rw [e1, e2, hE]) V dX7_nextPeriod_80
      · replace hf := qf_f c_23 hf
        refine lv_iload_n hx hb dX7_nextPeriod_26 rfl (lv_at hl 1 rfl) ?_
        refine lv_aload_n hx hb dX7_nextPeriod_27 rfl (lv_at hl 0 rfl) ?_
        refine lv_iload_n hx hb dX7_nextPeriod_28 rfl (lv_at hl 2 rfl) ?_
        obtain ⟨r9, A10, hc_29, hf⟩ := qf_bd2_e hf
        refine qw_cV (rest := [.int y1]) (st1 := [.int r9, .int y1]) S0 V hl 0 gO_0 rfl (c_X7_endPeriodOf l hc_29) kg_X7_317 rfl ⟨rfl, rfl⟩ kd_X7_endPeriodOf ⟨Nat.le_of_ble_eq_true rfl, Nat.le_of_ble_eq_true rfl⟩ rfl rfl (Nat.le_of_ble_eq_true rfl) ⟨Nat.zero_le _, Nat.zero_le _⟩ rfl dX7_nextPeriod_29 (fun H locs V => ?_)
        refine lv_iadd hx hb dX7_nextPeriod_32 ?_
        refine lv_topi (fun x11 e_x11 => ?_)
        replace hf := qf_let_e e_x11 hf
        refine lv_istore_n (lv' := [(1, .int x11), (0, .ref (ad 0)), (2, .int y2)]) hx hb dX7_nextPeriod_33 rfl hl (by decide) rfl (fun ls hl => ?_)
        obtain ⟨x12, e_x12⟩ : ∃ y : Int32, y = y2 + (1 : Int32) := ⟨_, rfl⟩
        refine lv_iinc (v := x12) (lv' := [(2, .int x12), (1, .int x11), (0, .ref (ad 0))]) hx hb dX7_nextPeriod_34 hl (k := 2) rfl (by rw [e_x12]; rfl) (by decide) rfl (fun ls hl => ?_)
        replace hf := qf_let_e e_x12 hf
        refine lv_goto (tgt := 15) hx hb dX7_nextPeriod_37 (by decide) ?_
        exact ih hf V (lv_sub hl [2, 1, 0] rfl)
  unfold f_X7_nextPeriod at hf
  refine lv_aload_n hx hb dX7_nextPeriod_0 rfl (lv_at hl 0 rfl) ?_
  refine gfO_0_2 S0 V kl_X7_23 dX7_nextPeriod_1 ?_
  refine lv_aload_n hx hb dX7_nextPeriod_4 rfl (lv_at hl 0 rfl) ?_
  refine gfO_0_6 S0 V kl_X7_47 dX7_nextPeriod_5 ?_
  obtain ⟨I1, G2, hc_8, hf⟩ := qf_bd2_e hf
  refine qw_cV (rest := []) (st1 := []) S0 V hl 6 gO_6 rfl (c_X1_keep_r43 l hc_8) kg_X7_297 rfl ⟨rfl, rfl⟩ kd_X1_keep ⟨Nat.le_of_ble_eq_true rfl, Nat.le_of_ble_eq_true rfl⟩ rfl rfl (Nat.le_of_ble_eq_true rfl) ⟨Nat.zero_le _, Nat.zero_le _⟩ rfl dX7_nextPeriod_8 (fun H locs V => ?_)
  refine lv_iconst (v := 0) hx hb dX7_nextPeriod_11 (by decide) ?_
  refine lv_istore_n (lv' := [(1, .int (0 : Int32)), (0, .ref (ad 0))]) hx hb dX7_nextPeriod_12 rfl hl (by decide) rfl (fun ls hl => ?_)
  refine lv_iconst (v := 0) hx hb dX7_nextPeriod_13 (by decide) ?_
  refine lv_istore_n (lv' := [(2, .int (0 : Int32)), (1, .int (0 : Int32)), (0, .ref (ad 0))]) hx hb dX7_nextPeriod_14 rfl hl (by decide) rfl (fun ls hl => ?_)
  exact L_15 hf V (lv_sub hl [2, 1, 0] rfl)
theorem kd_X7_setRation : yX7_setRation.cls = RX7 ∧ yX7_setRation.cls ≠ "java/lang/invoke/MethodHandle" ∧ yX7_setRation.cls ≠ "java/lang/invoke/VarHandle" ∧ (parseMethodDescriptor yX7_setRation.desc).map (fun d => d.parameters.length) = some 2 := by decide +kernel
def f_X7_setRation (I : Nat → Int32) (A : Nat → Nat → Int32) (G : Nat → Int32 × (Nat → Nat → Int32)) (p1 : Int32) (p2 : Int32) : Option (Int32 × (Nat → Int32) × (Nat → Nat → Int32) × (Nat → Int32 × (Nat → Nat → Int32))) :=
  qf_bd (f_X7_isGroup I p1) fun r1 =>
  if r1 = 0 then (some ((-1 : Int32), I, A, G)) else (if p2 < 0 then (some ((-2 : Int32), I, A, G)) else (if p2 ≤ (99 : Int32) then (qf_bd2 (f_X1_keep_r43 A I G) fun I2 G3 =>
        qf_ld 4 (A 33) p1 fun x4 =>
        qf_st 4 p1 fun i6 =>
        qf_let (qf_up A 33 (upd (A 33) i6 p2)) fun A5 =>
        some (x4, I2, A5, G3)) else (some ((-2 : Int32), I, A, G))))
abbrev wz_X7_setRation : List Cond := Cond.code yX7_setRation cX7_setRation 4 (some .int) :: qw_big
def rm_X7_setRation : Room := { frames := 4, cells := 0, slots := 0, locals := 123 }
set_option maxHeartbeats 4000000 in
set_option maxRecDepth 100000 in
theorem c_X7_setRation (l : Launch) {D : va_G} {cy : Nat → ClassId} {ad : Nat → Nat} {I : Nat → Int32} {A : Nat → Nat → Int32} {G : Nat → Int32 × (Nat → Nat → Int32)} {T : Nat} {p1 : Int32} {p2 : Int32} {rv : Int32} {I9 : Nat → Int32} {A9 : Nat → Nat → Int32} {G9 : Nat → Int32 × (Nat → Nat → Int32)} {sz : Nat} (hf : f_X7_setRation I A G p1 p2 = some (rv, I9, A9, G9)) : Met l yX7_setRation wz_X7_setRation rm_X7_setRation (va_Pc [.ref (ad 0), .int p1, .int p2] (qw_Pre D cy (Wo cy ad I A G T) sz)) (qw_Q (some (.int rv)) D (Wo cy ad I9 A9 G9 T) (va_A (Wo cy ad I A G T) sz)) 0 0 (va_A (Wo cy ad I A G T) sz) := by
  refine qw_of (cc := cX7_setRation) (maxL := 4) (ret := (some .int)) (by decide) (Nat.le_of_ble_eq_true rfl) ?_
  intro p e s m args below meth c ls S0 hr hlocks hsz V hl
  have S0 : CallFix p m c cX7_setRation 4 s args qw_big RX7 := S0
  have hx := S0.1; have hb := S0.2.1; have hown := S0.2.2.2.1; have hts := S0.2.2.2.2
  have hl : lv_has ls 4 [(0, .ref (ad 0)), (1, .int p1), (2, .int p2)] := hl
  generalize va_A (Wo cy ad I A G T) sz = Z9 at V ⊢
  obtain ⟨Q9, hQ⟩ : ∃ q, q = MQ below (qw_Q (some (.int rv)) D (Wo cy ad I9 A9 G9 T) Z9) args s 0 0 Z9 := ⟨_, rfl⟩
  rw [← hQ]
  clear hsz
  unfold f_X7_setRation at hf
  refine lv_aload_n hx hb dX7_setRation_0 rfl (lv_at hl 0 rfl) ?_
  refine lv_iload_n hx hb dX7_setRation_1 rfl (lv_at hl 1 rfl) ?_
  obtain ⟨r1, hc_2, hf⟩ := qf_bd_e hf
  refine qw_cVR (rest := []) (st1 := [.int r1]) S0 V hl 0 gO_0 rfl (c_X7_isGroup l hc_2) kg_X7_115 rfl ⟨rfl, rfl⟩ kd_X7_isGroup ⟨Nat.le_of_ble_eq_true rfl, Nat.le_of_ble_eq_true rfl⟩ rfl rfl (Nat.le_of_ble_eq_true rfl) ⟨Nat.zero_le _, Nat.zero_le _⟩ rfl dX7_setRation_2 ?_
  refine lv_if_ne (tgt := 10) hx hb dX7_setRation_5 (by decide) (fun c_5 => ?_) (fun c_5 => ?_)
  · replace hf := qf_f c_5 hf
    refine lv_iload_n hx hb dX7_setRation_10 rfl (lv_at hl 2 rfl) ?_
    refine lv_if_lt (tgt := 20) hx hb dX7_setRation_11 (by decide) (fun c_11 => ?_) (fun c_11 => ?_)
    · replace hf := qf_t c_11 hf
      refine lv_bipush (v := -2) hx hb dX7_setRation_20 (by decide) ?_
      have hE := Option.some.inj hf
      obtain ⟨e0, hE⟩ := qf_pr hE
      obtain ⟨e1, hE⟩ := qf_pr hE
      obtain ⟨e2, hE⟩ := qf_pr hE
      exact qw_ireti S0 hr hlocks hQ e0 (by rw [e1, e2, hE]) V dX7_setRation_22
    · replace hf := qf_f c_11 hf
      refine lv_iload_n hx hb dX7_setRation_14 rfl (lv_at hl 2 rfl) ?_
      refine lv_bipush (v := 99) hx hb dX7_setRation_15 (by decide) ?_
      refine lv_icmp_le (tgt := 23) hx hb dX7_setRation_17 (by decide) (fun c_17 => ?_) (fun c_17 => ?_)
      · replace hf := qf_t c_17 hf
        refine lv_aload_n hx hb dX7_setRation_23 rfl (lv_at hl 0 rfl) ?_
        refine gfO_0_2 S0 V kl_X7_23 dX7_setRation_24 ?_
        refine lv_aload_n hx hb dX7_setRation_27 rfl (lv_at hl 0 rfl) ?_
        refine gfO_0_6 S0 V kl_X7_47 dX7_setRation_28 ?_
        obtain ⟨I2, G3, hc_31, hf⟩ := qf_bd2_e hf
        refine qw_cV (rest := []) (st1 := []) S0 V hl 6 gO_6 rfl (c_X1_keep_r43 l hc_31) kg_X7_297 rfl ⟨rfl, rfl⟩ kd_X1_keep ⟨Nat.le_of_ble_eq_true rfl, Nat.le_of_ble_eq_true rfl⟩ rfl rfl (Nat.le_of_ble_eq_true rfl) ⟨Nat.zero_le _, Nat.zero_le _⟩ rfl dX7_setRation_31 (fun H locs V => ?_)
        refine lv_aload_n hx hb dX7_setRation_34 rfl (lv_at hl 0 rfl) ?_
        refine gfO_0_6 S0 V kl_X7_47 dX7_setRation_35 ?_
        refine gfO_43_1 S0 V kl_X7_123 dX7_setRation_38 ?_
        refine lv_iload_n hx hb dX7_setRation_41 rfl (lv_at hl 1 rfl) ?_
        have h_42 := qf_ld_in hf
        refine alO_44 S0 V h_42 dX7_setRation_42 ?_
        refine lv_topi (fun x4 e_x4 => ?_)
        replace hf := qf_ld_e e_x4 hf
        refine lv_istore_n (lv' := [(3, .int x4), (0, .ref (ad 0)), (1, .int p1), (2, .int p2)]) hx hb dX7_setRation_43 rfl hl (by decide) rfl (fun ls hl => ?_)
        refine lv_aload_n hx hb dX7_setRation_44 rfl (lv_at hl 1 rfl) ?_
        refine gfO_0_6 S0 V kl_X7_47 dX7_setRation_45 ?_
        refine gfO_43_1 S0 V kl_X7_123 dX7_setRation_48 ?_
        refine lv_iload_n hx hb dX7_setRation_51 rfl (lv_at hl 2 rfl) ?_
        refine lv_iload_n hx hb dX7_setRation_52 rfl (lv_at hl 3 rfl) ?_
        have h_53 := qf_st_in hf
        replace hf := qf_st_e hf
        refine asO_44 S0 V h_53 dX7_setRation_53 (fun H locs A5 e_A5 V => ?_)
        replace hf := qf_let_e e_A5 hf
        refine lv_iload_n hx hb dX7_setRation_54 rfl (lv_at hl 0 rfl) ?_
        have hE := Option.some.inj hf
        obtain ⟨e0, hE⟩ := qf_pr hE
        obtain ⟨e1, hE⟩ := qf_pr hE
        obtain ⟨e2, hE⟩ := qf_pr hE
        exact qw_ireti S0 hr hlocks hQ e0 (by rw [e1, e2, hE]) V dX7_setRation_55
      · replace hf := qf_f c_17 hf
        refine lv_bipush (v := -2) hx hb dX7_setRation_20 (by decide) ?_
        have hE := Option.some.inj hf
        obtain ⟨e0, hE⟩ := qf_pr hE
        obtain ⟨e1, hE⟩ := qf_pr hE
        obtain ⟨e2, hE⟩ := qf_pr hE
        exact qw_ireti S0 hr hlocks hQ e0 (by rw [e1, e2, hE]) V dX7_setRation_22
  · replace hf := qf_t c_5 hf
    refine lv_iconst (v := -1) hx hb dX7_setRation_8 (by decide) ?_
    have hE := Option.some.inj hf
    obtain ⟨e0, hE⟩ := qf_pr hE
    obtain ⟨e1, hE⟩ := qf_pr hE
    obtain ⟨e2, hE⟩ := qf_pr hE
    exact qw_ireti S0 hr hlocks hQ e0 (by rw [e1, e2, hE]) V dX7_setRation_9
theorem kd_X7_setSize : yX7_setSize.cls = RX7 ∧ yX7_setSize.cls ≠ "java/lang/invoke/MethodHandle" ∧ yX7_setSize.cls ≠ "java/lang/invoke/VarHandle" ∧ (parseMethodDescriptor yX7_setSize.desc).map (fun d => d.parameters.length) = some 2 := by decide +kernel
def f_X7_setSize (I : Nat → Int32) (A : Nat → Nat → Int32) (G : Nat → Int32 × (Nat → Nat → Int32)) (p1 : Int32) (p2 : Int32) : Option (Int32 × (Nat → Int32) × (Nat → Nat → Int32) × (Nat → Int32 × (Nat → Nat → Int32))) :=
  qf_bd (f_X7_isHouse I p1) fun r1 =>
  if r1 = 0 then (some ((-1 : Int32), I, A, G)) else (if p2 < (1 : Int32) then (some ((-2 : Int32), I, A, G)) else (if p2 ≤ (9 : Int32) then (qf_bd2 (f_X1_keep_r43 A I G) fun I2 G3 =>
        qf_ld 6 (A 34) p1 fun x4 =>
        qf_st 6 p1 fun i6 =>
        qf_let (qf_up A 34 (upd (A 34) i6 p2)) fun A5 =>
        some (x4, I2, A5, G3)) else (some ((-2 : Int32), I, A, G))))
abbrev wz_X7_setSize : List Cond := Cond.code yX7_setSize cX7_setSize 4 (some .int) :: qw_big
def rm_X7_setSize : Room := { frames := 4, cells := 0, slots := 0, locals := 123 }
set_option maxHeartbeats 4000000 in
set_option maxRecDepth 100000 in
theorem c_X7_setSize (l : Launch) {D : va_G} {cy : Nat → ClassId} {ad : Nat → Nat} {I : Nat → Int32} {A : Nat → Nat → Int32} {G : Nat → Int32 × (Nat → Nat → Int32)} {T : Nat} {p1 : Int32} {p2 : Int32} {rv : Int32} {I9 : Nat → Int32} {A9 : Nat → Nat → Int32} {G9 : Nat → Int32 × (Nat → Nat → Int32)} {sz : Nat} (hf : f_X7_setSize I A G p1 p2 = some (rv, I9, A9, G9)) : Met l yX7_setSize wz_X7_setSize rm_X7_setSize (va_Pc [.ref (ad 0), .int p1, .int p2] (qw_Pre D cy (Wo cy ad I A G T) sz)) (qw_Q (some (.int rv)) D (Wo cy ad I9 A9 G9 T) (va_A (Wo cy ad I A G T) sz)) 0 0 (va_A (Wo cy ad I A G T) sz) := by
  refine qw_of (cc := cX7_setSize) (maxL := 4) (ret := (some .int)) (by decide) (Nat.le_of_ble_eq_true rfl) ?_
  intro p e s m args below meth c ls S0 hr hlocks hsz V hl
  have S0 : CallFix p m c cX7_setSize 4 s args qw_big RX7 := S0
  have hx := S0.1; have hb := S0.2.1; have hown := S0.2.2.2.1; have hts := S0.2.2.2.2
  have hl : lv_has ls 4 [(0, .ref (ad 0)), (1, .int p1), (2, .int p2)] := hl
  generalize va_A (Wo cy ad I A G T) sz = Z9 at V ⊢
  obtain ⟨Q9, hQ⟩ : ∃ q, q = MQ below (qw_Q (some (.int rv)) D (Wo cy ad I9 A9 G9 T) Z9) args s 0 0 Z9 := ⟨_, rfl⟩
  rw [← hQ]
  clear hsz
  unfold f_X7_setSize at hf
  refine lv_aload_n hx hb dX7_setSize_0 rfl (lv_at hl 0 rfl) ?_
  refine lv_iload_n hx hb dX7_setSize_1 rfl (lv_at hl 1 rfl) ?_
  obtain ⟨r1, hc_2, hf⟩ := qf_bd_e hf
  refine qw_cVR (rest := []) (st1 := [.int r1]) S0 V hl 0 gO_0 rfl (c_X7_isHouse l hc_2) kg_X7_150 rfl ⟨rfl, rfl⟩ kd_X7_isHouse ⟨Nat.le_of_ble_eq_true rfl, Nat.le_of_ble_eq_true rfl⟩ rfl rfl (Nat.le_of_ble_eq_true rfl) ⟨Nat.zero_le _, Nat.zero_le _⟩ rfl dX7_setSize_2 ?_
  refine lv_if_ne (tgt := 10) hx hb dX7_setSize_5 (by decide) (fun c_5 => ?_) (fun c_5 => ?_)
  · replace hf := qf_f c_5 hf
    refine lv_iload_n hx hb dX7_setSize_10 rfl (lv_at hl 2 rfl) ?_
    refine lv_iconst (v := 1) hx hb dX7_setSize_11 (by decide) ?_
    refine lv_icmp_lt (tgt := 21) hx hb dX7_setSize_12 (by decide) (fun c_12 => ?_) (fun c_12 => ?_)
    · replace hf := qf_t c_12 hf
      refine lv_bipush (v := -2) hx hb dX7_setSize_21 (by decide) ?_
      have hE := Option.some.inj hf
      obtain ⟨e0, hE⟩ := qf_pr hE
      obtain ⟨e1, hE⟩ := qf_pr hE
      obtain ⟨e2, hE⟩ := qf_pr hE
      exact qw_ireti S0 hr hlocks hQ e0 (by rw [e1, e2, hE]) V dX7_setSize_23
    · replace hf := qf_f c_12 hf
      refine lv_iload_n hx hb dX7_setSize_15 rfl (lv_at hl 2 rfl) ?_
      refine lv_bipush (v := 9) hx hb dX7_setSize_16 (by decide) ?_
      refine lv_icmp_le (tgt := 24) hx hb dX7_setSize_18 (by decide) (fun c_18 => ?_) (fun c_18 => ?_)
      · replace hf := qf_t c_18 hf
        refine lv_aload_n hx hb dX7_setSize_24 rfl (lv_at hl 0 rfl) ?_
        refine gfO_0_2 S0 V kl_X7_23 dX7_setSize_25 ?_
        refine lv_aload_n hx hb dX7_setSize_28 rfl (lv_at hl 0 rfl) ?_
        refine gfO_0_6 S0 V kl_X7_47 dX7_setSize_29 ?_
        obtain ⟨I2, G3, hc_32, hf⟩ := qf_bd2_e hf
        refine qw_cV (rest := []) (st1 := []) S0 V hl 6 gO_6 rfl (c_X1_keep_r43 l hc_32) kg_X7_297 rfl ⟨rfl, rfl⟩ kd_X1_keep ⟨Nat.le_of_ble_eq_true rfl, Nat.le_of_ble_eq_true rfl⟩ rfl rfl (Nat.le_of_ble_eq_true rfl) ⟨Nat.zero_le _, Nat.zero_le _⟩ rfl dX7_setSize_32 (fun H locs V => ?_)
        refine lv_aload_n hx hb dX7_setSize_35 rfl (lv_at hl 0 rfl) ?_
        refine gfO_0_6 S0 V kl_X7_47 dX7_setSize_36 ?_
        refine gfO_43_2 S0 V kl_X7_153 dX7_setSize_39 ?_
        refine lv_iload_n hx hb dX7_setSize_42 rfl (lv_at hl 1 rfl) ?_
        have h_43 := qf_ld_in hf
        refine alO_45 S0 V h_43 dX7_setSize_43 ?_
        refine lv_topi (fun x4 e_x4 => ?_)
        replace hf := qf_ld_e e_x4 hf
        refine lv_istore_n (lv' := [(3, .int x4), (0, .ref (ad 0)), (1, .int p1), (2, .int p2)]) hx hb dX7_setSize_44 rfl hl (by decide) rfl (fun ls hl => ?_)
        refine lv_aload_n hx hb dX7_setSize_45 rfl (lv_at hl 1 rfl) ?_
        refine gfO_0_6 S0 V kl_X7_47 dX7_setSize_46 ?_
        refine gfO_43_2 S0 V kl_X7_153 dX7_setSize_49 ?_
        refine lv_iload_n hx hb dX7_setSize_52 rfl (lv_at hl 2 rfl) ?_
        refine lv_iload_n hx hb dX7_setSize_53 rfl (lv_at hl 3 rfl) ?_
        have h_54 := qf_st_in hf
        replace hf := qf_st_e hf
        refine asO_45 S0 V h_54 dX7_setSize_54 (fun H locs A5 e_A5 V => ?_)
        replace hf := qf_let_e e_A5 hf
        refine lv_iload_n hx hb dX7_setSize_55 rfl (lv_at hl 0 rfl) ?_
        have hE := Option.some.inj hf
        obtain ⟨e0, hE⟩ := qf_pr hE
        obtain ⟨e1, hE⟩ := qf_pr hE
        obtain ⟨e2, hE⟩ := qf_pr hE
        exact qw_ireti S0 hr hlocks hQ e0 (by rw [e1, e2, hE]) V dX7_setSize_56
      · replace hf := qf_f c_18 hf
        refine lv_bipush (v := -2) hx hb dX7_setSize_21 (by decide) ?_
        have hE := Option.some.inj hf
        obtain ⟨e0, hE⟩ := qf_pr hE
        obtain ⟨e1, hE⟩ := qf_pr hE
        obtain ⟨e2, hE⟩ := qf_pr hE
        exact qw_ireti S0 hr hlocks hQ e0 (by rw [e1, e2, hE]) V dX7_setSize_23
  · replace hf := qf_t c_5 hf
    refine lv_iconst (v := -1) hx hb dX7_setSize_8 (by decide) ?_
    have hE := Option.some.inj hf
    obtain ⟨e0, hE⟩ := qf_pr hE
    obtain ⟨e1, hE⟩ := qf_pr hE
    obtain ⟨e2, hE⟩ := qf_pr hE
    exact qw_ireti S0 hr hlocks hQ e0 (by rw [e1, e2, hE]) V dX7_setSize_9
theorem kd_X7_setSetting : yX7_setSetting.cls = RX7 ∧ yX7_setSetting.cls ≠ "java/lang/invoke/MethodHandle" ∧ yX7_setSetting.cls ≠ "java/lang/invoke/VarHandle" ∧ (parseMethodDescriptor yX7_setSetting.desc).map (fun d => d.parameters.length) = some 2 := by decide +kernel
def f_X7_setSetting (I : Nat → Int32) (A : Nat → Nat → Int32) (G : Nat → Int32 × (Nat → Nat → Int32)) (p1 : Int32) (p2 : Int32) : Option (Int32 × (Nat → Int32) × (Nat → Nat → Int32) × (Nat → Int32 × (Nat → Nat → Int32))) :=
  qf_bd (f_X7_isSetting p1) fun r1 =>
  if r1 = 0 then (some ((-2 : Int32), I, A, G)) else (if p2 < 0 then (some ((-2 : Int32), I, A, G)) else (qf_ld 3 (fun j => ([999, 999, 9999] : List Int32).getD j 0) p1 fun x2 =>
      if p2 ≤ x2 then (qf_bd2 (f_X1_keep_r43 A I G) fun I3 G4 =>
        qf_ld 3 (A 35) p1 fun x5 =>
        qf_st 3 p1 fun i7 =>
        qf_let (qf_up A 35 (upd (A 35) i7 p2)) fun A6 =>
        some (x5, I3, A6, G4)) else (some ((-2 : Int32), I, A, G))))
abbrev wz_X7_setSetting : List Cond := Cond.code yX7_setSetting cX7_setSetting 4 (some .int) :: qw_big
def rm_X7_setSetting : Room := { frames := 4, cells := 0, slots := 0, locals := 123 }
set_option maxHeartbeats 4000000 in
set_option maxRecDepth 100000 in
theorem c_X7_setSetting (l : Launch) {D : va_G} {cy : Nat → ClassId} {ad : Nat → Nat} {I : Nat → Int32} {A : Nat → Nat → Int32} {G : Nat → Int32 × (Nat → Nat → Int32)} {T : Nat} {p1 : Int32} {p2 : Int32} {rv : Int32} {I9 : Nat → Int32} {A9 : Nat → Nat → Int32} {G9 : Nat → Int32 × (Nat → Nat → Int32)} {sz : Nat} (hf : f_X7_setSetting I A G p1 p2 = some (rv, I9, A9, G9)) : Met l yX7_setSetting wz_X7_setSetting rm_X7_setSetting (va_Pc [.ref (ad 0), .int p1, .int p2] (qw_Pre D cy (Wo cy ad I A G T) sz)) (qw_Q (some (.int rv)) D (Wo cy ad I9 A9 G9 T) (va_A (Wo cy ad I A G T) sz)) 0 0 (va_A (Wo cy ad I A G T) sz) := by
  refine qw_of (cc := cX7_setSetting) (maxL := 4) (ret := (some .int)) (by decide) (Nat.le_of_ble_eq_true rfl) ?_
  intro p e s m args below meth c ls S0 hr hlocks hsz V hl
  have S0 : CallFix p m c cX7_setSetting 4 s args qw_big RX7 := S0
  have hx := S0.1; have hb := S0.2.1; have hown := S0.2.2.2.1; have hts := S0.2.2.2.2
  have hl : lv_has ls 4 [(0, .ref (ad 0)), (1, .int p1), (2, .int p2)] := hl
  generalize va_A (Wo cy ad I A G T) sz = Z9 at V ⊢
  obtain ⟨Q9, hQ⟩ : ∃ q, q = MQ below (qw_Q (some (.int rv)) D (Wo cy ad I9 A9 G9 T) Z9) args s 0 0 Z9 := ⟨_, rfl⟩
  rw [← hQ]
  clear hsz
  unfold f_X7_setSetting at hf
  refine lv_iload_n hx hb dX7_setSetting_0 rfl (lv_at hl 1 rfl) ?_
  obtain ⟨r1, hc_1, hf⟩ := qf_bd_e hf
  refine qw_cSR (rest := []) (st1 := [.int r1]) S0 V hl (c_X7_isSetting l hc_1) kg_X7_156 rfl ⟨rfl, rfl⟩ kd_X7_isSetting ⟨Nat.le_of_ble_eq_true rfl, Nat.le_of_ble_eq_true rfl⟩ rfl rfl (Nat.le_of_ble_eq_true rfl) ⟨Nat.zero_le _, Nat.zero_le _⟩ rfl dX7_setSetting_1 ?_
  refine lv_if_eq (tgt := 20) hx hb dX7_setSetting_4 (by decide) (fun c_4 => ?_) (fun c_4 => ?_)
  · replace hf := qf_t c_4 hf
    refine lv_bipush (v := -2) hx hb dX7_setSetting_20 (by decide) ?_
    have hE := Option.some.inj hf
    obtain ⟨e0, hE⟩ := qf_pr hE
    obtain ⟨e1, hE⟩ := qf_pr hE
    obtain ⟨e2, hE⟩ := qf_pr hE
    exact qw_ireti S0 hr hlocks hQ e0 (by rw [e1, e2, hE]) V dX7_setSetting_22
  · replace hf := qf_f c_4 hf
    refine lv_iload_n hx hb dX7_setSetting_7 rfl (lv_at hl 2 rfl) ?_
    refine lv_if_lt (tgt := 20) hx hb dX7_setSetting_8 (by decide) (fun c_8 => ?_) (fun c_8 => ?_)
    · replace hf := qf_t c_8 hf
      refine lv_bipush (v := -2) hx hb dX7_setSetting_20 (by decide) ?_
      have hE := Option.some.inj hf
      obtain ⟨e0, hE⟩ := qf_pr hE
      obtain ⟨e1, hE⟩ := qf_pr hE
      obtain ⟨e2, hE⟩ := qf_pr hE
      exact qw_ireti S0 hr hlocks hQ e0 (by rw [e1, e2, hE]) V dX7_setSetting_22
    · replace hf := qf_f c_8 hf
      refine lv_iload_n hx hb dX7_setSetting_11 rfl (lv_at hl 2 rfl) ?_
      obtain ⟨tG, hZG, hTG⟩ := V.2.2.2.2.2.2.2.2.2.2.1
      refine va_gets hx hb hZG V.2.2.2.1 hown (hts _ kl_X7_332) (fun _ h => h) dX7_setSetting_12 ?_
      refine lv_iload_n hx hb dX7_setSetting_15 rfl (lv_at hl 1 rfl) ?_
      have h_16 := qf_ld_in hf
      refine va_ti hx hb hTG V.2.2.2.1 h_16 rfl dX7_setSetting_16 ?_
      refine lv_topi (fun x2 e_x2 => ?_)
      replace hf := qf_ld_e e_x2 hf
      refine lv_icmp_le (tgt := 23) hx hb dX7_setSetting_17 (by decide) (fun c_17 => ?_) (fun c_17 => ?_)
      · replace hf := qf_t c_17 hf
        refine lv_aload_n hx hb dX7_setSetting_23 rfl (lv_at hl 0 rfl) ?_
        refine gfO_0_2 S0 V kl_X7_23 dX7_setSetting_24 ?_
        refine lv_aload_n hx hb dX7_setSetting_27 rfl (lv_at hl 0 rfl) ?_
        refine gfO_0_6 S0 V kl_X7_47 dX7_setSetting_28 ?_
        obtain ⟨I3, G4, hc_31, hf⟩ := qf_bd2_e hf
        refine qw_cV (rest := []) (st1 := []) S0 V hl 6 gO_6 rfl (c_X1_keep_r43 l hc_31) kg_X7_297 rfl ⟨rfl, rfl⟩ kd_X1_keep ⟨Nat.le_of_ble_eq_true rfl, Nat.le_of_ble_eq_true rfl⟩ rfl rfl (Nat.le_of_ble_eq_true rfl) ⟨Nat.zero_le _, Nat.zero_le _⟩ rfl dX7_setSetting_31 (fun H locs V => ?_)
        refine lv_aload_n hx hb dX7_setSetting_34 rfl (lv_at hl 0 rfl) ?_
        refine gfO_0_6 S0 V kl_X7_47 dX7_setSetting_35 ?_
        refine gfO_43_3 S0 V kl_X7_159 dX7_setSetting_38 ?_
        refine lv_iload_n hx hb dX7_setSetting_41 rfl (lv_at hl 1 rfl) ?_
        have h_42 := qf_ld_in hf
        refine alO_46 S0 V h_42 dX7_setSetting_42 ?_
        refine lv_topi (fun x5 e_x5 => ?_)
        replace hf := qf_ld_e e_x5 hf
        refine lv_istore_n (lv' := [(3, .int x5), (0, .ref (ad 0)), (1, .int p1), (2, .int p2)]) hx hb dX7_setSetting_43 rfl hl (by decide) rfl (fun ls hl => ?_)
        refine lv_aload_n hx hb dX7_setSetting_44 rfl (lv_at hl 1 rfl) ?_
        refine gfO_0_6 S0 V kl_X7_47 dX7_setSetting_45 ?_
        refine gfO_43_3 S0 V kl_X7_159 dX7_setSetting_48 ?_
        refine lv_iload_n hx hb dX7_setSetting_51 rfl (lv_at hl 2 rfl) ?_
        refine lv_iload_n hx hb dX7_setSetting_52 rfl (lv_at hl 3 rfl) ?_
        have h_53 := qf_st_in hf
        replace hf := qf_st_e hf
        refine asO_46 S0 V h_53 dX7_setSetting_53 (fun H locs A6 e_A6 V => ?_)
        replace hf := qf_let_e e_A6 hf
        refine lv_iload_n hx hb dX7_setSetting_54 rfl (lv_at hl 0 rfl) ?_
        have hE := Option.some.inj hf
        obtain ⟨e0, hE⟩ := qf_pr hE
        obtain ⟨e1, hE⟩ := qf_pr hE
        obtain ⟨e2, hE⟩ := qf_pr hE
        exact qw_ireti S0 hr hlocks hQ e0 (by rw [e1, e2, hE]) V dX7_setSetting_55
      · replace hf := qf_f c_17 hf
        refine lv_bipush (v := -2) hx hb dX7_setSetting_20 (by decide) ?_
        have hE := Option.some.inj hf
        obtain ⟨e0, hE⟩ := qf_pr hE
        obtain ⟨e1, hE⟩ := qf_pr hE
        obtain ⟨e2, hE⟩ := qf_pr hE
        exact qw_ireti S0 hr hlocks hQ e0 (by rw [e1, e2, hE]) V dX7_setSetting_22
def f_X5_become_t43_rring (G : Nat → Int32 × (Nat → Nat → Int32)) (I : Nat → Int32) (A : Nat → Nat → Int32) (j : Nat) : Option ((Nat → Int32) × (Nat → Nat → Int32)) :=
  qf_let (upd I 20 ((G j).1)) fun I1 =>
  qf_bd (f_X5_copy 4 4 ((G j).2 0) (A 33)) fun f2 =>
  qf_let (qf_up A 33 f2) fun A3 =>
  qf_bd (f_X5_copy 6 6 ((G j).2 1) (A3 34)) fun f4 =>
  qf_let (qf_up A3 34 f4) fun A5 =>
  qf_bd (f_X5_copy 3 3 ((G j).2 2) (A5 35)) fun f6 =>
  qf_let (qf_up A5 35 f6) fun A7 =>
  qf_bd (f_X5_copy 120 120 ((G j).2 3) (A7 36)) fun f8 =>
  qf_let (qf_up A7 36 f8) fun A9 =>
  qf_bd (f_X5_copy 6 6 ((G j).2 4) (A9 37)) fun f10 =>
  qf_let (qf_up A9 37 f10) fun A11 =>
  qf_bd (f_X5_copy 6 6 ((G j).2 5) (A11 38)) fun f12 =>
  qf_let (qf_up A11 38 f12) fun A13 =>
  qf_bd (f_X5_copy 24 24 ((G j).2 6) (A13 39)) fun f14 =>
  qf_let (qf_up A13 39 f14) fun A15 =>
  qf_bd (f_X5_copy 16 16 ((G j).2 7) (A15 40)) fun f16 =>
  qf_let (qf_up A15 40 f16) fun A17 =>
  qf_bd (f_X5_copy 4 4 ((G j).2 8) (A17 41)) fun f18 =>
  qf_let (qf_up A17 41 f18) fun A19 =>
  qf_bd (f_X5_copy 24 24 ((G j).2 9) (A19 42)) fun f20 =>
  qf_let (qf_up A19 42 f20) fun A21 =>
  qf_bd (f_X5_copy 24 24 ((G j).2 10) (A21 43)) fun f22 =>
  qf_let (qf_up A21 43 f22) fun A23 =>
  qf_bd (f_X5_copy 4 4 ((G j).2 11) (A23 44)) fun f24 =>
  qf_let (qf_up A23 44 f24) fun A25 =>
  qf_bd (f_X5_copy 4 4 ((G j).2 12) (A25 45)) fun f26 =>
  qf_let (qf_up A25 45 f26) fun A27 =>
  qf_bd (f_X5_copy 4 4 ((G j).2 13) (A27 46)) fun f28 =>
  qf_let (qf_up A27 46 f28) fun A29 =>
  some (I1, A29)
def rm_X5_become_t43_rring : Room := { frames := 2, cells := 0, slots := 0, locals := 81 }
set_option maxHeartbeats 4000000 in
set_option maxRecDepth 100000 in
theorem c_X5_become_t43_rring (l : Launch) {D : va_G} {cy : Nat → ClassId} {ad : Nat → Nat} {I : Nat → Int32} {A : Nat → Nat → Int32} {G : Nat → Int32 × (Nat → Nat → Int32)} {T : Nat} {j : Nat} (l_j : j < 10)  {I9 : Nat → Int32} {A9 : Nat → Nat → Int32} {sz : Nat} (hf : f_X5_become_t43_rring G I A j = some (I9, A9)) : Met l yX5_become wz_X5_become rm_X5_become_t43_rring (va_Pc [.ref (ad 43), .ref (ad (73 + 15 * j))] (qw_Pre D cy (Wo cy ad I A G T) sz)) (qw_Q none D (Wo cy ad I9 A9 G T) (va_A (Wo cy ad I A G T) sz)) 0 0 (va_A (Wo cy ad I A G T) sz) := by
  refine qw_of (cc := cX5_become) (maxL := 2) (ret := none) (by decide) (Nat.le_of_ble_eq_true rfl) ?_
  intro p e s m args below meth c ls S0 hr hlocks hsz V hl
  have S0 : CallFix p m c cX5_become 2 s args qw_big RX5 := S0
  have hx := S0.1; have hb := S0.2.1; have hown := S0.2.2.2.1; have hts := S0.2.2.2.2
  have hl : lv_has ls 2 [(0, .ref (ad 43)), (1, .ref (ad (73 + 15 * j)))] := hl
  generalize va_A (Wo cy ad I A G T) sz = Z9 at V ⊢
  obtain ⟨Q9, hQ⟩ : ∃ q, q = MQ below (qw_Q none D (Wo cy ad I9 A9 G T) Z9) args s 0 0 Z9 := ⟨_, rfl⟩
  rw [← hQ]
  clear hsz
  unfold f_X5_become_t43_rring at hf
  refine lv_aload_n hx hb dX5_become_0 rfl (lv_at hl 0 rfl) ?_
  refine lv_aload_n hx hb dX5_become_1 rfl (lv_at hl 1 rfl) ?_
  refine gfR_0 l_j S0 V kl_X5_9 dX5_become_2 ?_
  refine pfO_43_0 S0 V kl_X5_9 dX5_become_5 (fun H locs I1 e_I1 V => ?_)
  replace hf := qf_let_e e_I1 hf
  refine lv_aload_n hx hb dX5_become_8 rfl (lv_at hl 1 rfl) ?_
  refine gfR_1 l_j S0 V kl_X5_15 dX5_become_9 ?_
  refine lv_aload_n hx hb dX5_become_12 rfl (lv_at hl 0 rfl) ?_
  refine gfO_43_1 S0 V kl_X5_15 dX5_become_13 ?_
  obtain ⟨f2, hc_16, hf⟩ := qf_bd_e hf
  obtain ⟨A3, e_A3⟩ : ∃ y : Nat → Nat → Int32, y = qf_up A 33 f2 := ⟨_, rfl⟩
  replace hf := qf_let_e e_A3 hf
  refine qw_cS (rest := []) (st1 := []) S0 V hl (c_X5_copy l (hs := (sO_44 e_A3)) (q0 := (73 + 15 * j + 1)) (g_rarr_0 l_j) (q1 := 44) gO_44 (by omega) hc_16) kg_X5_61 rfl ⟨rfl, rfl⟩ kd_X5_copy ⟨Nat.le_of_ble_eq_true rfl, Nat.le_of_ble_eq_true rfl⟩ rfl rfl (Nat.le_of_ble_eq_true rfl) ⟨Nat.zero_le _, Nat.zero_le _⟩ rfl dX5_become_16 (fun H locs V => ?_)
  refine lv_aload_n hx hb dX5_become_19 rfl (lv_at hl 1 rfl) ?_
  refine gfR_2 l_j S0 V kl_X5_19 dX5_become_20 ?_
  refine lv_aload_n hx hb dX5_become_23 rfl (lv_at hl 0 rfl) ?_
  refine gfO_43_2 S0 V kl_X5_19 dX5_become_24 ?_
  obtain ⟨f4, hc_27, hf⟩ := qf_bd_e hf
  obtain ⟨A5, e_A5⟩ : ∃ y : Nat → Nat → Int32, y = qf_up A3 34 f4 := ⟨_, rfl⟩
  replace hf := qf_let_e e_A5 hf
  refine qw_cS (rest := []) (st1 := []) S0 V hl (c_X5_copy l (hs := (sO_45 e_A5)) (q0 := (73 + 15 * j + 2)) (g_rarr_1 l_j) (q1 := 45) gO_45 (by omega) hc_27) kg_X5_61 rfl ⟨rfl, rfl⟩ kd_X5_copy ⟨Nat.le_of_ble_eq_true rfl, Nat.le_of_ble_eq_true rfl⟩ rfl rfl (Nat.le_of_ble_eq_true rfl) ⟨Nat.zero_le _, Nat.zero_le _⟩ rfl dX5_become_27 (fun H locs V => ?_)
  refine lv_aload_n hx hb dX5_become_30 rfl (lv_at hl 1 rfl) ?_
  refine gfR_3 l_j S0 V kl_X5_22 dX5_become_31 ?_
  refine lv_aload_n hx hb dX5_become_34 rfl (lv_at hl 0 rfl) ?_
  refine gfO_43_3 S0 V kl_X5_22 dX5_become_35 ?_
  obtain ⟨f6, hc_38, hf⟩ := qf_bd_e hf
  obtain ⟨A7, e_A7⟩ : ∃ y : Nat → Nat → Int32, y = qf_up A5 35 f6 := ⟨_, rfl⟩
  replace hf := qf_let_e e_A7 hf
  refine qw_cS (rest := []) (st1 := []) S0 V hl (c_X5_copy l (hs := (sO_46 e_A7)) (q0 := (73 + 15 * j + 3)) (g_rarr_2 l_j) (q1 := 46) gO_46 (by omega) hc_38) kg_X5_61 rfl ⟨rfl, rfl⟩ kd_X5_copy ⟨Nat.le_of_ble_eq_true rfl, Nat.le_of_ble_eq_true rfl⟩ rfl rfl (Nat.le_of_ble_eq_true rfl) ⟨Nat.zero_le _, Nat.zero_le _⟩ rfl dX5_become_38 (fun H locs V => ?_)
  refine lv_aload_n hx hb dX5_become_41 rfl (lv_at hl 1 rfl) ?_
  refine gfR_4 l_j S0 V kl_X5_25 dX5_become_42 ?_
  refine lv_aload_n hx hb dX5_become_45 rfl (lv_at hl 0 rfl) ?_
  refine gfO_43_4 S0 V kl_X5_25 dX5_become_46 ?_
  obtain ⟨f8, hc_49, hf⟩ := qf_bd_e hf
  obtain ⟨A9, e_A9⟩ : ∃ y : Nat → Nat → Int32, y = qf_up A7 36 f8 := ⟨_, rfl⟩
  replace hf := qf_let_e e_A9 hf
  refine qw_cS (rest := []) (st1 := []) S0 V hl (c_X5_copy l (hs := (sO_47 e_A9)) (q0 := (73 + 15 * j + 4)) (g_rarr_3 l_j) (q1 := 47) gO_47 (by omega) hc_49) kg_X5_61 rfl ⟨rfl, rfl⟩ kd_X5_copy ⟨Nat.le_of_ble_eq_true rfl, Nat.le_of_ble_eq_true rfl⟩ rfl rfl (Nat.le_of_ble_eq_true rfl) ⟨Nat.zero_le _, Nat.zero_le _⟩ rfl dX5_become_49 (fun H locs V => ?_)
  refine lv_aload_n hx hb dX5_become_52 rfl (lv_at hl 1 rfl) ?_
  refine gfR_5 l_j S0 V kl_X5_28 dX5_become_53 ?_
  refine lv_aload_n hx hb dX5_become_56 rfl (lv_at hl 0 rfl) ?_
  refine gfO_43_5 S0 V kl_X5_28 dX5_become_57 ?_
  obtain ⟨f10, hc_60, hf⟩ := qf_bd_e hf
  obtain ⟨A11, e_A11⟩ : ∃ y : Nat → Nat → Int32, y = qf_up A9 37 f10 := ⟨_, rfl⟩
  replace hf := qf_let_e e_A11 hf
  refine qw_cS (rest := []) (st1 := []) S0 V hl (c_X5_copy l (hs := (sO_48 e_A11)) (q0 := (73 + 15 * j + 5)) (g_rarr_4 l_j) (q1 := 48) gO_48 (by omega) hc_60) kg_X5_61 rfl ⟨rfl, rfl⟩ kd_X5_copy ⟨Nat.le_of_ble_eq_true rfl, Nat.le_of_ble_eq_true rfl⟩ rfl rfl (Nat.le_of_ble_eq_true rfl) ⟨Nat.zero_le _, Nat.zero_le _⟩ rfl dX5_become_60 (fun H locs V => ?_)
  refine lv_aload_n hx hb dX5_become_63 rfl (lv_at hl 1 rfl) ?_
  refine gfR_6 l_j S0 V kl_X5_31 dX5_become_64 ?_
  refine lv_aload_n hx hb dX5_become_67 rfl (lv_at hl 0 rfl) ?_
  refine gfO_43_6 S0 V kl_X5_31 dX5_become_68 ?_
  obtain ⟨f12, hc_71, hf⟩ := qf_bd_e hf
  obtain ⟨A13, e_A13⟩ : ∃ y : Nat → Nat → Int32, y = qf_up A11 38 f12 := ⟨_, rfl⟩
  replace hf := qf_let_e e_A13 hf
  refine qw_cS (rest := []) (st1 := []) S0 V hl (c_X5_copy l (hs := (sO_49 e_A13)) (q0 := (73 + 15 * j + 6)) (g_rarr_5 l_j) (q1 := 49) gO_49 (by omega) hc_71) kg_X5_61 rfl ⟨rfl, rfl⟩ kd_X5_copy ⟨Nat.le_of_ble_eq_true rfl, Nat.le_of_ble_eq_true rfl⟩ rfl rfl (Nat.le_of_ble_eq_true rfl) ⟨Nat.zero_le _, Nat.zero_le _⟩ rfl dX5_become_71 (fun H locs V => ?_)
  refine lv_aload_n hx hb dX5_become_74 rfl (lv_at hl 1 rfl) ?_
  refine gfR_7 l_j S0 V kl_X5_34 dX5_become_75 ?_
  refine lv_aload_n hx hb dX5_become_78 rfl (lv_at hl 0 rfl) ?_
  refine gfO_43_7 S0 V kl_X5_34 dX5_become_79 ?_
  obtain ⟨f14, hc_82, hf⟩ := qf_bd_e hf
  obtain ⟨A15, e_A15⟩ : ∃ y : Nat → Nat → Int32, y = qf_up A13 39 f14 := ⟨_, rfl⟩
  replace hf := qf_let_e e_A15 hf
  refine qw_cS (rest := []) (st1 := []) S0 V hl (c_X5_copy l (hs := (sO_50 e_A15)) (q0 := (73 + 15 * j + 7)) (g_rarr_6 l_j) (q1 := 50) gO_50 (by omega) hc_82) kg_X5_61 rfl ⟨rfl, rfl⟩ kd_X5_copy ⟨Nat.le_of_ble_eq_true rfl, Nat.le_of_ble_eq_true rfl⟩ rfl rfl (Nat.le_of_ble_eq_true rfl) ⟨Nat.zero_le _, Nat.zero_le _⟩ rfl dX5_become_82 (fun H locs V => ?_)
  refine lv_aload_n hx hb dX5_become_85 rfl (lv_at hl 1 rfl) ?_
  refine gfR_8 l_j S0 V kl_X5_37 dX5_become_86 ?_
  refine lv_aload_n hx hb dX5_become_89 rfl (lv_at hl 0 rfl) ?_
  refine gfO_43_8 S0 V kl_X5_37 dX5_become_90 ?_
  obtain ⟨f16, hc_93, hf⟩ := qf_bd_e hf
  obtain ⟨A17, e_A17⟩ : ∃ y : Nat → Nat → Int32, y = qf_up A15 40 f16 := ⟨_, rfl⟩
  replace hf := qf_let_e e_A17 hf
  refine qw_cS (rest := []) (st1 := []) S0 V hl (c_X5_copy l (hs := (sO_51 e_A17)) (q0 := (73 + 15 * j + 8)) (g_rarr_7 l_j) (q1 := 51) gO_51 (by omega) hc_93) kg_X5_61 rfl ⟨rfl, rfl⟩ kd_X5_copy ⟨Nat.le_of_ble_eq_true rfl, Nat.le_of_ble_eq_true rfl⟩ rfl rfl (Nat.le_of_ble_eq_true rfl) ⟨Nat.zero_le _, Nat.zero_le _⟩ rfl dX5_become_93 (fun H locs V => ?_)
  refine lv_aload_n hx hb dX5_become_96 rfl (lv_at hl 1 rfl) ?_
  refine gfR_9 l_j S0 V kl_X5_40 dX5_become_97 ?_
  refine lv_aload_n hx hb dX5_become_100 rfl (lv_at hl 0 rfl) ?_
  refine gfO_43_9 S0 V kl_X5_40 dX5_become_101 ?_
  obtain ⟨f18, hc_104, hf⟩ := qf_bd_e hf
  obtain ⟨A19, e_A19⟩ : ∃ y : Nat → Nat → Int32, y = qf_up A17 41 f18 := ⟨_, rfl⟩
  replace hf := qf_let_e e_A19 hf
  refine qw_cS (rest := []) (st1 := []) S0 V hl (c_X5_copy l (hs := (sO_52 e_A19)) (q0 := (73 + 15 * j + 9)) (g_rarr_8 l_j) (q1 := 52) gO_52 (by omega) hc_104) kg_X5_61 rfl ⟨rfl, rfl⟩ kd_X5_copy ⟨Nat.le_of_ble_eq_true rfl, Nat.le_of_ble_eq_true rfl⟩ rfl rfl (Nat.le_of_ble_eq_true rfl) ⟨Nat.zero_le _, Nat.zero_le _⟩ rfl dX5_become_104 (fun H locs V => ?_)
  refine lv_aload_n hx hb dX5_become_107 rfl (lv_at hl 1 rfl) ?_
  refine gfR_10 l_j S0 V kl_X5_43 dX5_become_108 ?_
  refine lv_aload_n hx hb dX5_become_111 rfl (lv_at hl 0 rfl) ?_
  refine gfO_43_10 S0 V kl_X5_43 dX5_become_112 ?_
  obtain ⟨f20, hc_115, hf⟩ := qf_bd_e hf
  obtain ⟨A21, e_A21⟩ : ∃ y : Nat → Nat → Int32, y = qf_up A19 42 f20 := ⟨_, rfl⟩
  replace hf := qf_let_e e_A21 hf
  refine qw_cS (rest := []) (st1 := []) S0 V hl (c_X5_copy l (hs := (sO_53 e_A21)) (q0 := (73 + 15 * j + 10)) (g_rarr_9 l_j) (q1 := 53) gO_53 (by omega) hc_115) kg_X5_61 rfl ⟨rfl, rfl⟩ kd_X5_copy ⟨Nat.le_of_ble_eq_true rfl, Nat.le_of_ble_eq_true rfl⟩ rfl rfl (Nat.le_of_ble_eq_true rfl) ⟨Nat.zero_le _, Nat.zero_le _⟩ rfl dX5_become_115 (fun H locs V => ?_)
  refine lv_aload_n hx hb dX5_become_118 rfl (lv_at hl 1 rfl) ?_
  refine gfR_11 l_j S0 V kl_X5_46 dX5_become_119 ?_
  refine lv_aload_n hx hb dX5_become_122 rfl (lv_at hl 0 rfl) ?_
  refine gfO_43_11 S0 V kl_X5_46 dX5_become_123 ?_
  obtain ⟨f22, hc_126, hf⟩ := qf_bd_e hf
  obtain ⟨A23, e_A23⟩ : ∃ y : Nat → Nat → Int32, y = qf_up A21 43 f22 := ⟨_, rfl⟩
  replace hf := qf_let_e e_A23 hf
  refine qw_cS (rest := []) (st1 := []) S0 V hl (c_X5_copy l (hs := (sO_54 e_A23)) (q0 := (73 + 15 * j + 11)) (g_rarr_10 l_j) (q1 := 54) gO_54 (by omega) hc_126) kg_X5_61 rfl ⟨rfl, rfl⟩ kd_X5_copy ⟨Nat.le_of_ble_eq_true rfl, Nat.le_of_ble_eq_true rfl⟩ rfl rfl (Nat.le_of_ble_eq_true rfl) ⟨Nat.zero_le _, Nat.zero_le _⟩ rfl dX5_become_126 (fun H locs V => ?_)
  refine lv_aload_n hx hb dX5_become_129 rfl (lv_at hl 1 rfl) ?_
  refine gfR_12 l_j S0 V kl_X5_49 dX5_become_130 ?_
  refine lv_aload_n hx hb dX5_become_133 rfl (lv_at hl 0 rfl) ?_
  refine gfO_43_12 S0 V kl_X5_49 dX5_become_134 ?_
  obtain ⟨f24, hc_137, hf⟩ := qf_bd_e hf
  obtain ⟨A25, e_A25⟩ : ∃ y : Nat → Nat → Int32, y = qf_up A23 44 f24 := ⟨_, rfl⟩
  replace hf := qf_let_e e_A25 hf
  refine qw_cS (rest := []) (st1 := []) S0 V hl (c_X5_copy l (hs := (sO_55 e_A25)) (q0 := (73 + 15 * j + 12)) (g_rarr_11 l_j) (q1 := 55) gO_55 (by omega) hc_137) kg_X5_61 rfl ⟨rfl, rfl⟩ kd_X5_copy ⟨Nat.le_of_ble_eq_true rfl, Nat.le_of_ble_eq_true rfl⟩ rfl rfl (Nat.le_of_ble_eq_true rfl) ⟨Nat.zero_le _, Nat.zero_le _⟩ rfl dX5_become_137 (fun H locs V => ?_)
  refine lv_aload_n hx hb dX5_become_140 rfl (lv_at hl 1 rfl) ?_
  refine gfR_13 l_j S0 V kl_X5_52 dX5_become_141 ?_
  refine lv_aload_n hx hb dX5_become_144 rfl (lv_at hl 0 rfl) ?_
  refine gfO_43_13 S0 V kl_X5_52 dX5_become_145 ?_
  obtain ⟨f26, hc_148, hf⟩ := qf_bd_e hf
  obtain ⟨A27, e_A27⟩ : ∃ y : Nat → Nat → Int32, y = qf_up A25 45 f26 := ⟨_, rfl⟩
  replace hf := qf_let_e e_A27 hf
  refine qw_cS (rest := []) (st1 := []) S0 V hl (c_X5_copy l (hs := (sO_56 e_A27)) (q0 := (73 + 15 * j + 13)) (g_rarr_12 l_j) (q1 := 56) gO_56 (by omega) hc_148) kg_X5_61 rfl ⟨rfl, rfl⟩ kd_X5_copy ⟨Nat.le_of_ble_eq_true rfl, Nat.le_of_ble_eq_true rfl⟩ rfl rfl (Nat.le_of_ble_eq_true rfl) ⟨Nat.zero_le _, Nat.zero_le _⟩ rfl dX5_become_148 (fun H locs V => ?_)
  refine lv_aload_n hx hb dX5_become_151 rfl (lv_at hl 1 rfl) ?_
  refine gfR_14 l_j S0 V kl_X5_55 dX5_become_152 ?_
  refine lv_aload_n hx hb dX5_become_155 rfl (lv_at hl 0 rfl) ?_
  refine gfO_43_14 S0 V kl_X5_55 dX5_become_156 ?_
  obtain ⟨f28, hc_159, hf⟩ := qf_bd_e hf
  obtain ⟨A29, e_A29⟩ : ∃ y : Nat → Nat → Int32, y = qf_up A27 46 f28 := ⟨_, rfl⟩
  replace hf := qf_let_e e_A29 hf
  refine qw_cS (rest := []) (st1 := []) S0 V hl (c_X5_copy l (hs := (sO_57 e_A29)) (q0 := (73 + 15 * j + 14)) (g_rarr_13 l_j) (q1 := 57) gO_57 (by omega) hc_159) kg_X5_61 rfl ⟨rfl, rfl⟩ kd_X5_copy ⟨Nat.le_of_ble_eq_true rfl, Nat.le_of_ble_eq_true rfl⟩ rfl rfl (Nat.le_of_ble_eq_true rfl) ⟨Nat.zero_le _, Nat.zero_le _⟩ rfl dX5_become_159 (fun H locs V => ?_)
  have hE := Option.some.inj hf
  obtain ⟨e0, hE⟩ := qf_pr hE
  exact qw_vreti S0 hr hlocks hQ (by rw [e0, hE]) V dX5_become_162
theorem kd_X1_bringBack : yX1_bringBack.cls = RX1 ∧ yX1_bringBack.cls ≠ "java/lang/invoke/MethodHandle" ∧ yX1_bringBack.cls ≠ "java/lang/invoke/VarHandle" ∧ (parseMethodDescriptor yX1_bringBack.desc).map (fun d => d.parameters.length) = some 1 := by decide +kernel
def f_X1_bringBack_r43 (G : Nat → Int32 × (Nat → Nat → Int32)) (I : Nat → Int32) (A : Nat → Nat → Int32) : Option ((Nat → Int32) × (Nat → Nat → Int32)) :=
  qf_let (upd I 9 ((((I 9) + (10 : Int32)) - (1 : Int32)) - (((I 9) + (10 : Int32)) - (1 : Int32)) / (10 : Int32) * (10 : Int32))) fun I1 =>
  qf_st 10 (I1 9) fun j2 =>
  qf_bd2 (f_X5_become_t43_rring G I1 A j2) fun I3 A4 =>
  qf_let ((if ((I3 10) - (1 : Int32)) < (0 : Int32) then (0 : Int32) else ((I3 10) - (1 : Int32)))) fun x5 =>
  qf_let (upd I3 10 x5) fun I6 =>
  some (I6, A4)
abbrev wz_X1_bringBack : List Cond := Cond.code yX1_bringBack cX1_bringBack 2 none :: qw_big
def rm_X1_bringBack_r43 : Room := { frames := 3, cells := 0, slots := 0, locals := 102 }
set_option maxHeartbeats 4000000 in
set_option maxRecDepth 100000 in
theorem c_X1_bringBack_r43 (l : Launch) {D : va_G} {cy : Nat → ClassId} {ad : Nat → Nat} {I : Nat → Int32} {A : Nat → Nat → Int32} {G : Nat → Int32 × (Nat → Nat → Int32)} {T : Nat}  {I9 : Nat → Int32} {A9 : Nat → Nat → Int32} {sz : Nat} (hf : f_X1_bringBack_r43 G I A = some (I9, A9)) : Met l yX1_bringBack wz_X1_bringBack rm_X1_bringBack_r43 (va_Pc [.ref (ad 6), .ref (ad 43)] (qw_Pre D cy (Wo cy ad I A G T) sz)) (qw_Q none D (Wo cy ad I9 A9 G T) (va_A (Wo cy ad I A G T) sz)) 0 0 (va_A (Wo cy ad I A G T) sz) := by
  refine qw_of (cc := cX1_bringBack) (maxL := 2) (ret := none) (by decide) (Nat.le_of_ble_eq_true rfl) ?_
  intro p e s m args below meth c ls S0 hr hlocks hsz V hl
  have S0 : CallFix p m c cX1_bringBack 2 s args qw_big RX1 := S0
  have hx := S0.1; have hb := S0.2.1; have hown := S0.2.2.2.1; have hts := S0.2.2.2.2
  have hl : lv_has ls 2 [(0, .ref (ad 6)), (1, .ref (ad 43))] := hl
  generalize va_A (Wo cy ad I A G T) sz = Z9 at V ⊢
  obtain ⟨Q9, hQ⟩ : ∃ q, q = MQ below (qw_Q none D (Wo cy ad I9 A9 G T) Z9) args s 0 0 Z9 := ⟨_, rfl⟩
  rw [← hQ]
  clear hsz
  unfold f_X1_bringBack_r43 at hf
  refine lv_aload_n hx hb dX1_bringBack_0 rfl (lv_at hl 0 rfl) ?_
  refine lv_aload_n hx hb dX1_bringBack_1 rfl (lv_at hl 0 rfl) ?_
  refine gfO_6_1 S0 V kl_X1_17 dX1_bringBack_2 ?_
  refine lv_bipush (v := 10) hx hb dX1_bringBack_5 (by decide) ?_
  refine lv_iadd hx hb dX1_bringBack_7 ?_
  refine lv_iconst (v := 1) hx hb dX1_bringBack_8 (by decide) ?_
  refine lv_isub hx hb dX1_bringBack_9 ?_
  refine lv_bipush (v := 10) hx hb dX1_bringBack_10 (by decide) ?_
  refine lv_irem hx hb dX1_bringBack_12 (by decide) ?_
  refine pfO_6_1 S0 V kl_X1_17 dX1_bringBack_13 (fun H locs I1 e_I1 V => ?_)
  replace hf := qf_let_e e_I1 hf
  refine lv_aload_n hx hb dX1_bringBack_16 rfl (lv_at hl 1 rfl) ?_
  refine lv_aload_n hx hb dX1_bringBack_17 rfl (lv_at hl 0 rfl) ?_
  refine gfO_6_0 S0 V kl_X1_11 dX1_bringBack_18 ?_
  refine lv_aload_n hx hb dX1_bringBack_21 rfl (lv_at hl 0 rfl) ?_
  refine gfO_6_1 S0 V kl_X1_17 dX1_bringBack_22 ?_
  have h_25 := qf_st_in hf
  replace hf := qf_st_e hf
  refine al_ring S0 V h_25 dX1_bringBack_25 (fun j2 e_j2 l_j2 => ?_)
  rw [← e_j2] at hf
  obtain ⟨I3, A4, hc_26, hf⟩ := qf_bd2_e hf
  refine qw_cV (rest := []) (st1 := []) S0 V hl 43 gO_43 rfl (c_X5_become_t43_rring l l_j2 hc_26) kg_X1_25 rfl ⟨rfl, rfl⟩ kd_X5_become ⟨Nat.le_of_ble_eq_true rfl, Nat.le_of_ble_eq_true rfl⟩ rfl rfl (Nat.le_of_ble_eq_true rfl) ⟨Nat.zero_le _, Nat.zero_le _⟩ rfl dX1_bringBack_26 (fun H locs V => ?_)
  refine lv_aload_n hx hb dX1_bringBack_29 rfl (lv_at hl 0 rfl) ?_
  refine lv_aload_n hx hb dX1_bringBack_30 rfl (lv_at hl 0 rfl) ?_
  refine gfO_6_2 S0 V kl_X1_21 dX1_bringBack_31 ?_
  refine lv_iconst (v := 1) hx hb dX1_bringBack_34 (by decide) ?_
  refine lv_isub hx hb dX1_bringBack_35 ?_
  refine lv_iconst (v := 0) hx hb dX1_bringBack_36 (by decide) ?_
  refine qw_max S0 hl.1 kml_X1_35 (Nat.le_of_ble_eq_true rfl) (Nat.le_of_ble_eq_true rfl) (Nat.zero_le _) (Nat.zero_le _) dX1_bringBack_37 ?_
  refine lv_topi (fun x5 e_x5 => ?_)
  replace hf := qf_let_e e_x5 hf
  refine pfO_6_2 S0 V kl_X1_21 dX1_bringBack_40 (fun H locs I6 e_I6 V => ?_)
  replace hf := qf_let_e e_I6 hf
  have hE := Option.some.inj hf
  obtain ⟨e0, hE⟩ := qf_pr hE
  exact qw_vreti S0 hr hlocks hQ (by rw [e0, hE]) V dX1_bringBack_43
theorem kd_X7_undo : yX7_undo.cls = RX7 ∧ yX7_undo.cls ≠ "java/lang/invoke/MethodHandle" ∧ yX7_undo.cls ≠ "java/lang/invoke/VarHandle" ∧ (parseMethodDescriptor yX7_undo.desc).map (fun d => d.parameters.length) = some 0 := by decide +kernel
def f_X7_undo (G : Nat → Int32 × (Nat → Nat → Int32)) (I : Nat → Int32) (A : Nat → Nat → Int32) : Option (Int32 × (Nat → Int32) × (Nat → Nat → Int32)) :=
  if (I 10) = 0 then (some ((-1 : Int32), I, A)) else (qf_bd2 (f_X1_bringBack_r43 G I A) fun I1 A2 =>
    some ((I1 10), I1, A2))
abbrev wz_X7_undo : List Cond := Cond.code yX7_undo cX7_undo 1 (some .int) :: qw_big
def rm_X7_undo : Room := { frames := 4, cells := 0, slots := 0, locals := 123 }
set_option maxHeartbeats 4000000 in
set_option maxRecDepth 100000 in
theorem c_X7_undo (l : Launch) {D : va_G} {cy : Nat → ClassId} {ad : Nat → Nat} {I : Nat → Int32} {A : Nat → Nat → Int32} {G : Nat → Int32 × (Nat → Nat → Int32)} {T : Nat}  {rv : Int32} {I9 : Nat → Int32} {A9 : Nat → Nat → Int32} {sz : Nat} (hf : f_X7_undo G I A = some (rv, I9, A9)) : Met l yX7_undo wz_X7_undo rm_X7_undo (va_Pc [.ref (ad 0)] (qw_Pre D cy (Wo cy ad I A G T) sz)) (qw_Q (some (.int rv)) D (Wo cy ad I9 A9 G T) (va_A (Wo cy ad I A G T) sz)) 0 0 (va_A (Wo cy ad I A G T) sz) := by
  refine qw_of (cc := cX7_undo) (maxL := 1) (ret := (some .int)) (by decide) (Nat.le_of_ble_eq_true rfl) ?_
  intro p e s m args below meth c ls S0 hr hlocks hsz V hl
  have S0 : CallFix p m c cX7_undo 1 s args qw_big RX7 := S0
  have hx := S0.1; have hb := S0.2.1; have hown := S0.2.2.2.1; have hts := S0.2.2.2.2
  have hl : lv_has ls 1 [(0, .ref (ad 0))] := hl
  generalize va_A (Wo cy ad I A G T) sz = Z9 at V ⊢
  obtain ⟨Q9, hQ⟩ : ∃ q, q = MQ below (qw_Q (some (.int rv)) D (Wo cy ad I9 A9 G T) Z9) args s 0 0 Z9 := ⟨_, rfl⟩
  rw [← hQ]
  clear hsz
  unfold f_X7_undo at hf
  refine lv_aload_n hx hb dX7_undo_0 rfl (lv_at hl 0 rfl) ?_
  refine gfO_0_2 S0 V kl_X7_23 dX7_undo_1 ?_
  refine gfO_6_2 S0 V kl_X7_93 dX7_undo_4 ?_
  refine lv_if_ne (tgt := 12) hx hb dX7_undo_7 (by decide) (fun c_7 => ?_) (fun c_7 => ?_)
  · replace hf := qf_f c_7 hf
    refine lv_aload_n hx hb dX7_undo_12 rfl (lv_at hl 0 rfl) ?_
    refine gfO_0_2 S0 V kl_X7_23 dX7_undo_13 ?_
    refine lv_aload_n hx hb dX7_undo_16 rfl (lv_at hl 0 rfl) ?_
    refine gfO_0_6 S0 V kl_X7_47 dX7_undo_17 ?_
    obtain ⟨I1, A2, hc_20, hf⟩ := qf_bd2_e hf
    refine qw_cV (rest := []) (st1 := []) S0 V hl 6 gO_6 rfl (c_X1_bringBack_r43 l hc_20) kg_X7_335 rfl ⟨rfl, rfl⟩ kd_X1_bringBack ⟨Nat.le_of_ble_eq_true rfl, Nat.le_of_ble_eq_true rfl⟩ rfl rfl (Nat.le_of_ble_eq_true rfl) ⟨Nat.zero_le _, Nat.zero_le _⟩ rfl dX7_undo_20 (fun H locs V => ?_)
    refine lv_aload_n hx hb dX7_undo_23 rfl (lv_at hl 0 rfl) ?_
    refine gfO_0_2 S0 V kl_X7_23 dX7_undo_24 ?_
    refine gfO_6_2 S0 V kl_X7_93 dX7_undo_27 ?_
    have hE := Option.some.inj hf
    obtain ⟨e0, hE⟩ := qf_pr hE
    obtain ⟨e1, hE⟩ := qf_pr hE
    exact qw_ireti S0 hr hlocks hQ e0 (by rw [e1, hE]) V dX7_undo_30
  · replace hf := qf_t c_7 hf
    refine lv_iconst (v := -1) hx hb dX7_undo_10 (by decide) ?_
    have hE := Option.some.inj hf
    obtain ⟨e0, hE⟩ := qf_pr hE
    obtain ⟨e1, hE⟩ := qf_pr hE
    exact qw_ireti S0 hr hlocks hQ e0 (by rw [e1, hE]) V dX7_undo_11
