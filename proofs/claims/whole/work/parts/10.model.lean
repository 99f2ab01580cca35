theorem kd_X8_thrown : yX8_thrown.cls = RX8 ∧ yX8_thrown.cls ≠ "java/lang/invoke/MethodHandle" ∧ yX8_thrown.cls ≠ "java/lang/invoke/VarHandle" ∧ (parseMethodDescriptor yX8_thrown.desc).map (fun d => d.parameters.length) = some 0 := by decide +kernel
def f_X8_thrown (I : Nat → Int32) : Option (Int32) :=
  some ((I 1))
abbrev wz_X8_thrown : List Cond := Cond.code yX8_thrown cX8_thrown 1 (some .int) :: qw_big
def rm_X8_thrown : Room := { frames := 0, cells := 0, slots := 0, locals := 0 }
set_option maxHeartbeats 4000000 in
set_option maxRecDepth 100000 in
theorem c_X8_thrown (l : Launch) {D : va_G} {cy : Nat → ClassId} {ad : Nat → Nat} {I : Nat → Int32} {A : Nat → Nat → Int32} {w : Int64}  {rv : Int32} {sz : Nat} (hf : f_X8_thrown I = some (rv)) : Met l yX8_thrown wz_X8_thrown rm_X8_thrown (va_Pc [.ref (ad 0)] (qw_Pre D cy (Wm cy ad I A w) sz)) (qw_R (some (.int rv))) 0 0 (fun _ => False) := by
  refine qw_of (cc := cX8_thrown) (maxL := 1) (ret := (some .int)) (by decide) (Nat.le_of_ble_eq_true rfl) ?_
  intro p e s m args below meth c ls S0 hr hlocks hsz V hl
  have S0 : CallFix p m c cX8_thrown 1 s args qw_big RX8 := S0
  have hx := S0.1; have hb := S0.2.1; have hown := S0.2.2.2.1; have hts := S0.2.2.2.2
  have hl : lv_has ls 1 [(0, .ref (ad 0))] := hl
  obtain ⟨Q9, hQ⟩ : ∃ q, q = MQ below (qw_R (some (.int rv))) args s 0 0 (fun _ => False) := ⟨_, rfl⟩
  rw [← hQ]
  generalize va_A (Wm cy ad I A w) sz = Z9 at V
  unfold f_X8_thrown at hf
  refine lv_aload_n hx hb dX8_thrown_0 rfl (lv_at hl 0 rfl) ?_
  refine gfM_0_4 S0 V kl_X8_49 dX8_thrown_1 ?_
  have hE := Option.some.inj hf
  exact qw_iretR S0 hr hlocks hQ hE dX8_thrown_4
theorem kd_X8_inRange : yX8_inRange.cls ≠ "java/lang/invoke/MethodHandle" ∧ yX8_inRange.cls ≠ "java/lang/invoke/VarHandle" ∧ (parseMethodDescriptor yX8_inRange.desc).map (fun d => d.parameters.length) = some 3 := by decide +kernel
def f_X8_inRange (p1 : Int32) (p2 : Int32) (p3 : Int32) : Option (Int32) :=
  if p1 < p2 then (some ((0 : Int32))) else (if p3 < p1 then (some ((0 : Int32))) else (some ((1 : Int32))))
abbrev wz_X8_inRange : List Cond := Cond.code yX8_inRange cX8_inRange 3 (some .boolean) :: qw_big
def rm_X8_inRange : Room := { frames := 0, cells := 0, slots := 0, locals := 0 }
set_option maxHeartbeats 4000000 in
set_option maxRecDepth 100000 in
theorem c_X8_inRange (l : Launch) {D : va_G} {cy : Nat → ClassId} {ws : va_W} {p1 : Int32} {p2 : Int32} {p3 : Int32} {rv : Int32} {sz : Nat} (hf : f_X8_inRange p1 p2 p3 = some (rv)) : Met l yX8_inRange wz_X8_inRange rm_X8_inRange (va_Pc [.int p1, .int p2, .int p3] (qw_Pre D cy ws sz)) (qw_R (some (.int rv))) 0 0 (fun _ => False) := by
  refine qw_of (cc := cX8_inRange) (maxL := 3) (ret := (some .boolean)) (by decide) (Nat.le_of_ble_eq_true rfl) ?_
  intro p e s m args below meth c ls S0 hr hlocks hsz V hl
  have S0 : CallFix p m c cX8_inRange 3 s args qw_big RX8 := S0
  have hx := S0.1; have hb := S0.2.1; have hown := S0.2.2.2.1; have hts := S0.2.2.2.2
  have hl : lv_has ls 3 [(0, .int p1), (1, .int p2), (2, .int p3)] := hl
  obtain ⟨Q9, hQ⟩ : ∃ q, q = MQ below (qw_R (some (.int rv))) args s 0 0 (fun _ => False) := ⟨_, rfl⟩
  rw [← hQ]
  generalize va_A ws sz = Z9 at V
  unfold f_X8_inRange at hf
  refine lv_iload_n hx hb dX8_inRange_0 rfl (lv_at hl 0 rfl) ?_
  refine lv_iload_n hx hb dX8_inRange_1 rfl (lv_at hl 1 rfl) ?_
  refine lv_icmp_lt (tgt := 14) hx hb dX8_inRange_2 (by decide) (fun c_2 => ?_) (fun c_2 => ?_)
  · replace hf := qf_t c_2 hf
    refine lv_iconst (v := 0) hx hb dX8_inRange_14 (by decide) ?_
    have hE := Option.some.inj hf
    exact qw_zretR S0 hr hlocks hQ rfl hE dX8_inRange_15
  · replace hf := qf_f c_2 hf
    refine lv_iload_n hx hb dX8_inRange_5 rfl (lv_at hl 0 rfl) ?_
    refine lv_iload_n hx hb dX8_inRange_6 rfl (lv_at hl 2 rfl) ?_
    refine lv_icmp_gt (tgt := 14) hx hb dX8_inRange_7 (by decide) (fun c_7 => ?_) (fun c_7 => ?_)
    · replace hf := qf_t c_7 hf
      refine lv_iconst (v := 0) hx hb dX8_inRange_14 (by decide) ?_
      have hE := Option.some.inj hf
      exact qw_zretR S0 hr hlocks hQ rfl hE dX8_inRange_15
    · replace hf := qf_f c_7 hf
      refine lv_iconst (v := 1) hx hb dX8_inRange_10 (by decide) ?_
      refine lv_goto (tgt := 15) hx hb dX8_inRange_11 (by decide) ?_
      have hE := Option.some.inj hf
      exact qw_zretR S0 hr hlocks hQ rfl hE dX8_inRange_15
theorem kd_X8_lesser : yX8_lesser.cls ≠ "java/lang/invoke/MethodHandle" ∧ yX8_lesser.cls ≠ "java/lang/invoke/VarHandle" ∧ (parseMethodDescriptor yX8_lesser.desc).map (fun d => d.parameters.length) = some 2 := by decide +kernel
def f_X8_lesser (p1 : Int32) (p2 : Int32) : Option (Int32) :=
  if p2 ≤ p1 then (some (p2)) else (some (p1))
abbrev wz_X8_lesser : List Cond := Cond.code yX8_lesser cX8_lesser 2 (some .int) :: qw_big
def rm_X8_lesser : Room := { frames := 0, cells := 0, slots := 0, locals := 0 }
set_option maxHeartbeats 4000000 in
set_option maxRecDepth 100000 in
theorem c_X8_lesser (l : Launch) {D : va_G} {cy : Nat → ClassId} {ws : va_W} {p1 : Int32} {p2 : Int32} {rv : Int32} {sz : Nat} (hf : f_X8_lesser p1 p2 = some (rv)) : Met l yX8_lesser wz_X8_lesser rm_X8_lesser (va_Pc [.int p1, .int p2] (qw_Pre D cy ws sz)) (qw_R (some (.int rv))) 0 0 (fun _ => False) := by
  refine qw_of (cc := cX8_lesser) (maxL := 2) (ret := (some .int)) (by decide) (Nat.le_of_ble_eq_true rfl) ?_
  intro p e s m args below meth c ls S0 hr hlocks hsz V hl
  have S0 : CallFix p m c cX8_lesser 2 s args qw_big RX8 := S0
  have hx := S0.1; have hb := S0.2.1; have hown := S0.2.2.2.1; have hts := S0.2.2.2.2
  have hl : lv_has ls 2 [(0, .int p1), (1, .int p2)] := hl
  obtain ⟨Q9, hQ⟩ : ∃ q, q = MQ below (qw_R (some (.int rv))) args s 0 0 (fun _ => False) := ⟨_, rfl⟩
  rw [← hQ]
  generalize va_A ws sz = Z9 at V
  unfold f_X8_lesser at hf
  refine lv_iload_n hx hb dX8_lesser_0 rfl (lv_at hl 0 rfl) ?_
  refine lv_iload_n hx hb dX8_lesser_1 rfl (lv_at hl 1 rfl) ?_
  refine lv_icmp_ge (tgt := 9) hx hb dX8_lesser_2 (by decide) (fun c_2 => ?_) (fun c_2 => ?_)
  · replace hf := qf_t c_2 hf
    refine lv_iload_n hx hb dX8_lesser_9 rfl (lv_at hl 1 rfl) ?_
    have hE := Option.some.inj hf
    exact qw_iretR S0 hr hlocks hQ hE dX8_lesser_10
  · replace hf := qf_f c_2 hf
    refine lv_iload_n hx hb dX8_lesser_5 rfl (lv_at hl 0 rfl) ?_
    refine lv_goto (tgt := 10) hx hb dX8_lesser_6 (by decide) ?_
    have hE := Option.some.inj hf
    exact qw_iretR S0 hr hlocks hQ hE dX8_lesser_10
theorem kd_X8_fails : yX8_fails.cls = RX8 ∧ yX8_fails.cls ≠ "java/lang/invoke/MethodHandle" ∧ yX8_fails.cls ≠ "java/lang/invoke/VarHandle" ∧ (parseMethodDescriptor yX8_fails.desc).map (fun d => d.parameters.length) = some 1 := by decide +kernel
def f_X8_fails_j10 (I : Nat → Int32)  (y1 : Int32) (s0 : Int32) : Option (Int32 × (Nat → Int32)) :=
  qf_let (upd I 1 s0) fun I1 =>
  if y1 = 0 then (some ((1 : Int32), I1)) else (some ((0 : Int32), I1))
def f_X8_fails (I : Nat → Int32) (p1 : Int32) : Option (Int32 × (Nat → Int32)) :=
  if p1 = 0 then (f_X8_fails_j10 I p1 (1 : Int32)) else (f_X8_fails_j10 I p1 (0 : Int32))
abbrev wz_X8_fails : List Cond := Cond.code yX8_fails cX8_fails 2 (some .boolean) :: qw_big
def rm_X8_fails : Room := { frames := 0, cells := 0, slots := 0, locals := 0 }
set_option maxHeartbeats 4000000 in
set_option maxRecDepth 100000 in
theorem c_X8_fails (l : Launch) {D : va_G} {cy : Nat → ClassId} {ad : Nat → Nat} {I : Nat → Int32} {A : Nat → Nat → Int32} {w : Int64} {p1 : Int32} {rv : Int32} {I9 : Nat → Int32} {sz : Nat} (hf : f_X8_fails I p1 = some (rv, I9)) : Met l yX8_fails wz_X8_fails rm_X8_fails (va_Pc [.ref (ad 0), .int p1] (qw_Pre D cy (Wm cy ad I A w) sz)) (qw_Q (some (.int rv)) D (Wm cy ad I9 A w) (va_A (Wm cy ad I A w) sz)) 0 0 (va_A (Wm cy ad I A w) sz) := by
  refine qw_of (cc := cX8_fails) (maxL := 2) (ret := (some .boolean)) (by decide) (Nat.le_of_ble_eq_true rfl) ?_
  intro p e s m args below meth c ls S0 hr hlocks hsz V hl
  have S0 : CallFix p m c cX8_fails 2 s args qw_big RX8 := S0
  have hx := S0.1; have hb := S0.2.1; have hown := S0.2.2.2.1; have hts := S0.2.2.2.2
  have hl : lv_has ls 2 [(0, .ref (ad 0)), (1, .int p1)] := hl
  generalize va_A (Wm cy ad I A w) sz = Z9 at V ⊢
  obtain ⟨Q9, hQ⟩ : ∃ q, q = MQ below (qw_Q (some (.int rv)) D (Wm cy ad I9 A w) Z9) args s 0 0 Z9 := ⟨_, rfl⟩
  rw [← hQ]
  clear hsz
  have J_10 : ∀   {y1 : Int32} {s0 : Int32} {H : Heap} {locs : List Loc} {ls : Array Slot}, f_X8_fails_j10 I y1 s0 = some (rv, I9) → qw_V D cy Z9 s (Wm cy ad I A w) H locs → lv_has ls 2 [(1, .int y1)] → W p l e rm_X8_fails s m args below meth c H locs 0 0 Q9 (F0 m 10 ls [.int s0, .ref (ad 0)]) := by
    intro y1 s0 H locs ls hf V hl
    unfold f_X8_fails_j10 at hf
    refine pfM_0_4 S0 V kl_X8_49 dX8_fails_10 (fun H locs I1 e_I1 V => ?_)
    replace hf := qf_let_e e_I1 hf
    refine lv_iload_n hx hb dX8_fails_13 rfl (lv_at hl 0 rfl) ?_
    refine lv_if_ne (tgt := 21) hx hb dX8_fails_14 (by decide) (fun c_14 => ?_) (fun c_14 => ?_)
    · replace hf := qf_f c_14 hf
      refine lv_iconst (v := 0) hx hb dX8_fails_21 (by decide) ?_
      have hE := Option.some.inj hf
      obtain ⟨e0, hE⟩ := qf_pr hE
      exact qw_zreti S0 hr hlocks hQ e0 (by rw [hE]) rfl V dX8_fails_22
    · replace hf := qf_t c_14 hf
      refine lv_iconst (v := 1) hx hb dX8_fails_17 (by decide) ?_
      refine lv_goto (tgt := 22) hx hb dX8_fails_18 (by decide) ?_
      have hE := Option.some.inj hf
      obtain ⟨e0, hE⟩ := qf_pr hE
      exact qw_zreti S0 hr hlocks hQ e0 (by rw [hE]) rfl V dX8_fails_22
  unfold f_X8_fails at hf
  refine lv_aload_n hx hb dX8_fails_0 rfl (lv_at hl 0 rfl) ?_
  refine lv_iload_n hx hb dX8_fails_1 rfl (lv_at hl 1 rfl) ?_
  refine lv_if_eq (tgt := 9) hx hb dX8_fails_2 (by decide) (fun c_2 => ?_) (fun c_2 => ?_)
  · replace hf := qf_t c_2 hf
    refine lv_iconst (v := 1) hx hb dX8_fails_9 (by decide) ?_
    exact J_10 hf V (lv_sub hl [1] rfl)
  · replace hf := qf_f c_2 hf
    refine lv_iconst (v := 0) hx hb dX8_fails_5 (by decide) ?_
    refine lv_goto (tgt := 10) hx hb dX8_fails_6 (by decide) ?_
    exact J_10 hf V (lv_sub hl [1] rfl)
theorem kd_X8_reset : yX8_reset.cls ≠ "java/lang/invoke/MethodHandle" ∧ yX8_reset.cls ≠ "java/lang/invoke/VarHandle" ∧ (parseMethodDescriptor yX8_reset.desc).map (fun d => d.parameters.length) = some 1 := by decide +kernel
def f_X8_reset_l2 (n0 : Nat)   : Nat → (Nat → Int32) → Int32 → Option ((Nat → Int32))
  | 0, _, _ => none
  | n + 1, f0, y1 =>
  if (250 : Int32) ≤ y1 then (qf_st n0 (0 : Int32) fun i2 =>
    qf_let (upd f0 i2 (20 : Int32)) fun A1 =>
    qf_st n0 (1 : Int32) fun i4 =>
    qf_let (upd A1 i4 (20 : Int32)) fun A3 =>
    qf_st n0 (2 : Int32) fun i6 =>
    qf_let (upd A3 i6 (10 : Int32)) fun A5 =>
    some (A5)) else (qf_st n0 y1 fun i8 =>
    qf_let (upd f0 i8 (0 : Int32)) fun A7 =>
    qf_let (y1 + (1 : Int32)) fun x9 =>
    f_X8_reset_l2 n0 n A7 x9)
def f_X8_reset (n0 : Nat) (f0 : Nat → Int32) : Option ((Nat → Int32)) :=
  f_X8_reset_l2 n0 100000 f0 (0 : Int32)
abbrev wz_X8_reset : List Cond := Cond.code yX8_reset cX8_reset 2 none :: qw_big
def rm_X8_reset : Room := { frames := 0, cells := 0, slots := 0, locals := 0 }
set_option maxHeartbeats 4000000 in
set_option maxRecDepth 100000 in
theorem c_X8_reset (l : Launch) {D : va_G} {cy : Nat → ClassId} {ws : va_W} {q0 a0 n0 : Nat} {f0 : Nat → Int32} (ha0 : ws[q0]? = some (a0, .inl (cy 0, n0, .inl f0)))  {f09 : Nat → Int32} {ws9 : va_W} (hs : ws.set q0 (a0, .inl (cy 0, n0, .inl f09)) = ws9) {sz : Nat} (hf : f_X8_reset n0 f0 = some (f09)) : Met l yX8_reset wz_X8_reset rm_X8_reset (va_Pc [.ref a0] (qw_Pre D cy ws sz)) (qw_Q none D ws9 (va_A ws sz)) 0 0 (va_A ws sz) := by
  refine qw_of (cc := cX8_reset) (maxL := 2) (ret := none) (by decide) (Nat.le_of_ble_eq_true rfl) ?_
  intro p e s m args below meth c ls S0 hr hlocks hsz V hl
  have S0 : CallFix p m c cX8_reset 2 s args qw_big RX8 := S0
  have hx := S0.1; have hb := S0.2.1; have hown := S0.2.2.2.1; have hts := S0.2.2.2.2
  have hl : lv_has ls 2 [(0, .ref a0)] := hl
  generalize va_A ws sz = Z9 at V ⊢
  obtain ⟨Q9, hQ⟩ : ∃ q, q = MQ below (qw_Q none D ws9 Z9) args s 0 0 Z9 := ⟨_, rfl⟩
  rw [← hQ]
  have V := qw_V.toq ha0 V
  subst hs
  clear hsz
  have L_2 : ∀   {n : Nat} {f0 : Nat → Int32} {y1 : Int32} {H : Heap} {locs : List Loc} {ls : Array Slot}, f_X8_reset_l2 n0 n f0 y1 = some (f09) → qw_V D cy Z9 s (ws.set q0 (a0, .inl (cy 0, n0, .inl f0))) H locs → lv_has ls 2 [(0, .ref a0), (1, .int y1)] → W p l e rm_X8_reset s m args below meth c H locs 0 0 Q9 (F0 m 2 ls []) := by
    intro n
    induction n with
    | zero => intro f0 y1 H locs ls hf V hl; exact qf_no hf
    | succ n ih =>
      intro f0 y1 H locs ls hf V hl
      rw [f_X8_reset_l2] at hf
      refine lv_iload_n hx hb dX8_reset_2 rfl (lv_at hl 1 rfl) ?_
      refine lv_sipush (v := 250) hx hb dX8_reset_3 (by decide) ?_
      refine lv_icmp_ge (tgt := 19) hx hb dX8_reset_6 (by decide) (fun c_6 => ?_) (fun c_6 => ?_)
      · replace hf := qf_t c_6 hf
        refine lv_aload_n hx hb dX8_reset_19 rfl (lv_at hl 0 rfl) ?_
        refine lv_iconst (v := 0) hx hb dX8_reset_20 (by decide) ?_
        refine lv_bipush (v := 20) hx hb dX8_reset_21 (by decide) ?_
        have h_23 := qf_st_in hf
        replace hf := qf_st_e hf
        refine qw_istq S0 V q0 ha0 h_23 dX8_reset_23 (fun H locs A1 e_A1 V => ?_)
        replace hf := qf_let_e e_A1 hf
        refine lv_aload_n hx hb dX8_reset_24 rfl (lv_at hl 0 rfl) ?_
        refine lv_iconst (v := 1) hx hb dX8_reset_25 (by decide) ?_
        refine lv_bipush (v := 20) hx hb dX8_reset_26 (by decide) ?_
        have h_28 := qf_st_in hf
        replace hf := qf_st_e hf
        refine qw_istq S0 V q0 ha0 h_28 dX8_reset_28 (fun H locs A3 e_A3 V => ?_)
        replace hf := qf_let_e e_A3 hf
        refine lv_aload_n hx hb dX8_reset_29 rfl (lv_at hl 0 rfl) ?_
        refine lv_iconst (v := 2) hx hb dX8_reset_30 (by decide) ?_
        refine lv_bipush (v := 10) hx hb dX8_reset_31 (by decide) ?_
        have h_33 := qf_st_in hf
        replace hf := qf_st_e hf
        refine qw_istq S0 V q0 ha0 h_33 dX8_reset_33 (fun H locs A5 e_A5 V => ?_)
        replace hf := qf_let_e e_A5 hf
        have hE := Option.some.inj hf
        exact qw_vreti S0 hr hlocks hQ (by rw [hE]) V dX8_reset_34
      · replace hf := qf_f c_6 hf
        refine lv_aload_n hx hb dX8_reset_9 rfl (lv_at hl 0 rfl) ?_
        refine lv_iload_n hx hb dX8_reset_10 rfl (lv_at hl 1 rfl) ?_
        refine lv_iconst (v := 0) hx hb dX8_reset_11 (by decide) ?_
        have h_12 := qf_st_in hf
        replace hf := qf_st_e hf
        refine qw_istq S0 V q0 ha0 h_12 dX8_reset_12 (fun H locs A7 e_A7 V => ?_)
        replace hf := qf_let_e e_A7 hf
        obtain ⟨x9, e_x9⟩ : ∃ y : Int32, y = y1 + (1 : Int32) := ⟨_, rfl⟩
        refine lv_iinc (v := x9) (lv' := [(1, .int x9), (0, .ref a0)]) hx hb dX8_reset_13 hl (k := 1) rfl (by rw [e_x9]; rfl) (by decide) rfl (fun ls hl => ?_)
        replace hf := qf_let_e e_x9 hf
        refine lv_goto (tgt := 2) hx hb dX8_reset_16 (by decide) ?_
        exact ih hf V (lv_sub hl [1, 0] rfl)
  unfold f_X8_reset at hf
  refine lv_iconst (v := 0) hx hb dX8_reset_0 (by decide) ?_
  refine lv_istore_n (lv' := [(1, .int (0 : Int32)), (0, .ref a0)]) hx hb dX8_reset_1 rfl hl (by decide) rfl (fun ls hl => ?_)
  exact L_2 hf V (lv_sub hl [1, 0] rfl)
theorem kd_X8_clear : yX8_clear.cls ≠ "java/lang/invoke/MethodHandle" ∧ yX8_clear.cls ≠ "java/lang/invoke/VarHandle" ∧ (parseMethodDescriptor yX8_clear.desc).map (fun d => d.parameters.length) = some 1 := by decide +kernel
def f_X8_clear_l20 (n0 : Nat)   : Nat → (Nat → Int32) → Int32 → Option ((Nat → Int32))
  | 0, _, _ => none
  | n + 1, f0, y1 =>
  if (4 : Int32) ≤ y1 then (some (f0)) else (qf_st n0 ((12 : Int32) + y1) fun i5 =>
    qf_let (upd f0 i5 (-1 : Int32)) fun A4 =>
    qf_let (y1 + (1 : Int32)) fun x6 =>
    f_X8_clear_l20 n0 n A4 x6)
def f_X8_clear_l2 (n0 : Nat)   : Nat → (Nat → Int32) → Int32 → Option ((Nat → Int32))
  | 0, _, _ => none
  | n + 1, f0, y1 =>
  if (62 : Int32) ≤ y1 then (f_X8_clear_l20 n0 100000 f0 (0 : Int32)) else (qf_st n0 y1 fun i2 =>
    qf_let (upd f0 i2 (0 : Int32)) fun A1 =>
    qf_let (y1 + (1 : Int32)) fun x3 =>
    f_X8_clear_l2 n0 n A1 x3)
def f_X8_clear (n0 : Nat) (f0 : Nat → Int32) : Option ((Nat → Int32)) :=
  f_X8_clear_l2 n0 100000 f0 (0 : Int32)
abbrev wz_X8_clear : List Cond := Cond.code yX8_clear cX8_clear 2 none :: qw_big
def rm_X8_clear : Room := { frames := 0, cells := 0, slots := 0, locals := 0 }
set_option maxHeartbeats 4000000 in
set_option maxRecDepth 100000 in
theorem c_X8_clear (l : Launch) {D : va_G} {cy : Nat → ClassId} {ws : va_W} {q0 a0 n0 : Nat} {f0 : Nat → Int32} (ha0 : ws[q0]? = some (a0, .inl (cy 0, n0, .inl f0)))  {f09 : Nat → Int32} {ws9 : va_W} (hs : ws.set q0 (a0, .inl (cy 0, n0, .inl f09)) = ws9) {sz : Nat} (hf : f_X8_clear n0 f0 = some (f09)) : Met l yX8_clear wz_X8_clear rm_X8_clear (va_Pc [.ref a0] (qw_Pre D cy ws sz)) (qw_Q none D ws9 (va_A ws sz)) 0 0 (va_A ws sz) := by
  refine qw_of (cc := cX8_clear) (maxL := 2) (ret := none) (by decide) (Nat.le_of_ble_eq_true rfl) ?_
  intro p e s m args below meth c ls S0 hr hlocks hsz V hl
  have S0 : CallFix p m c cX8_clear 2 s args qw_big RX8 := S0
  have hx := S0.1; have hb := S0.2.1; have hown := S0.2.2.2.1; have hts := S0.2.2.2.2
  have hl : lv_has ls 2 [(0, .ref a0)] := hl
  generalize va_A ws sz = Z9 at V ⊢
  obtain ⟨Q9, hQ⟩ : ∃ q, q = MQ below (qw_Q none D ws9 Z9) args s 0 0 Z9 := ⟨_, rfl⟩
  rw [← hQ]
  have V := qw_V.toq ha0 V
  subst hs
  clear hsz
  have L_20 : ∀   {n : Nat} {f0 : Nat → Int32} {y1 : Int32} {H : Heap} {locs : List Loc} {ls : Array Slot}, f_X8_clear_l20 n0 n f0 y1 = some (f09) → qw_V D cy Z9 s (ws.set q0 (a0, .inl (cy 0, n0, .inl f0))) H locs → lv_has ls 2 [(0, .ref a0), (1, .int y1)] → W p l e rm_X8_clear s m args below meth c H locs 0 0 Q9 (F0 m 20 ls []) := by
    intro n
    induction n with
    | zero => intro f0 y1 H locs ls hf V hl; exact qf_no hf
    | succ n ih =>
      intro f0 y1 H locs ls hf V hl
      rw [f_X8_clear_l20] at hf
      refine lv_iload_n hx hb dX8_clear_20 rfl (lv_at hl 1 rfl) ?_
      refine lv_iconst (v := 4) hx hb dX8_clear_21 (by decide) ?_
      refine lv_icmp_ge (tgt := 38) hx hb dX8_clear_22 (by decide) (fun c_22 => ?_) (fun c_22 => ?_)
      · replace hf := qf_t c_22 hf
        have hE := Option.some.inj hf
        exact qw_vreti S0 hr hlocks hQ (by rw [hE]) V dX8_clear_38
      · replace hf := qf_f c_22 hf
        refine lv_aload_n hx hb dX8_clear_25 rfl (lv_at hl 0 rfl) ?_
        refine lv_bipush (v := 12) hx hb dX8_clear_26 (by decide) ?_
        refine lv_iload_n hx hb dX8_clear_28 rfl (lv_at hl 1 rfl) ?_
        refine lv_iadd hx hb dX8_clear_29 ?_
        refine lv_iconst (v := -1) hx hb dX8_clear_30 (by decide) ?_
        have h_31 := qf_st_in hf
        replace hf := qf_st_e hf
        refine qw_istq S0 V q0 ha0 h_31 dX8_clear_31 (fun H locs A4 e_A4 V => ?_)
        replace hf := qf_let_e e_A4 hf
        obtain ⟨x6, e_x6⟩ : ∃ y : Int32, y = y1 + (1 : Int32) := ⟨_, rfl⟩
        refine lv_iinc (v := x6) (lv' := [(1, .int x6), (0, .ref a0)]) hx hb dX8_clear_32 hl (k := 1) rfl (by rw [e_x6]; rfl) (by decide) rfl (fun ls hl => ?_)
        replace hf := qf_let_e e_x6 hf
        refine lv_goto (tgt := 20) hx hb dX8_clear_35 (by decide) ?_
        exact ih hf V (lv_sub hl [1, 0] rfl)
  have L_2 : ∀   {n : Nat} {f0 : Nat → Int32} {y1 : Int32} {H : Heap} {locs : List Loc} {ls : Array Slot}, f_X8_clear_l2 n0 n f0 y1 = some (f09) → qw_V D cy Z9 s (ws.set q0 (a0, .inl (cy 0, n0, .inl f0))) H locs → lv_has ls 2 [(0, .ref a0), (1, .int y1)] → W p l e rm_X8_clear s m args below meth c H locs 0 0 Q9 (F0 m 2 ls []) := by
    intro n
    induction n with
    | zero => intro f0 y1 H locs ls hf V hl; exact qf_no hf
    | succ n ih =>
      intro f0 y1 H locs ls hf V hl
      rw [f_X8_clear_l2] at hf
      refine lv_iload_n hx hb dX8_clear_2 rfl (lv_at hl 1 rfl) ?_
      refine lv_bipush (v := 62) hx hb dX8_clear_3 (by decide) ?_
      refine lv_icmp_ge (tgt := 18) hx hb dX8_clear_5 (by decide) (fun c_5 => ?_) (fun c_5 => ?_)
      · replace hf := qf_t c_5 hf
        refine lv_iconst (v := 0) hx hb dX8_clear_18 (by decide) ?_
        refine lv_istore_n (lv' := [(1, .int (0 : Int32)), (0, .ref a0)]) hx hb dX8_clear_19 rfl hl (by decide) rfl (fun ls hl => ?_)
        exact L_20 hf V (lv_sub hl [1, 0] rfl)
      · replace hf := qf_f c_5 hf
        refine lv_aload_n hx hb dX8_clear_8 rfl (lv_at hl 0 rfl) ?_
        refine lv_iload_n hx hb dX8_clear_9 rfl (lv_at hl 1 rfl) ?_
        refine lv_iconst (v := 0) hx hb dX8_clear_10 (by decide) ?_
        have h_11 := qf_st_in hf
        replace hf := qf_st_e hf
        refine qw_istq S0 V q0 ha0 h_11 dX8_clear_11 (fun H locs A1 e_A1 V => ?_)
        replace hf := qf_let_e e_A1 hf
        obtain ⟨x3, e_x3⟩ : ∃ y : Int32, y = y1 + (1 : Int32) := ⟨_, rfl⟩
        refine lv_iinc (v := x3) (lv' := [(1, .int x3), (0, .ref a0)]) hx hb dX8_clear_12 hl (k := 1) rfl (by rw [e_x3]; rfl) (by decide) rfl (fun ls hl => ?_)
        replace hf := qf_let_e e_x3 hf
        refine lv_goto (tgt := 2) hx hb dX8_clear_15 (by decide) ?_
        exact ih hf V (lv_sub hl [1, 0] rfl)
  unfold f_X8_clear at hf
  refine lv_iconst (v := 0) hx hb dX8_clear_0 (by decide) ?_
  refine lv_istore_n (lv' := [(1, .int (0 : Int32)), (0, .ref a0)]) hx hb dX8_clear_1 rfl hl (by decide) rfl (fun ls hl => ?_)
  exact L_2 hf V (lv_sub hl [1, 0] rfl)
theorem kd_X8_mostOf : yX8_mostOf.cls ≠ "java/lang/invoke/MethodHandle" ∧ yX8_mostOf.cls ≠ "java/lang/invoke/VarHandle" ∧ (parseMethodDescriptor yX8_mostOf.desc).map (fun d => d.parameters.length) = some 1 := by decide +kernel
def f_X8_mostOf (p1 : Int32) : Option (Int32) :=
  if p1 = (2 : Int32) then (some ((9999 : Int32))) else (some ((999 : Int32)))
abbrev wz_X8_mostOf : List Cond := Cond.code yX8_mostOf cX8_mostOf 1 (some .int) :: qw_big
def rm_X8_mostOf : Room := { frames := 0, cells := 0, slots := 0, locals := 0 }
set_option maxHeartbeats 4000000 in
set_option maxRecDepth 100000 in
theorem c_X8_mostOf (l : Launch) {D : va_G} {cy : Nat → ClassId} {ws : va_W} {p1 : Int32} {rv : Int32} {sz : Nat} (hf : f_X8_mostOf p1 = some (rv)) : Met l yX8_mostOf wz_X8_mostOf rm_X8_mostOf (va_Pc [.int p1] (qw_Pre D cy ws sz)) (qw_R (some (.int rv))) 0 0 (fun _ => False) := by
  refine qw_of (cc := cX8_mostOf) (maxL := 1) (ret := (some .int)) (by decide) (Nat.le_of_ble_eq_true rfl) ?_
  intro p e s m args below meth c ls S0 hr hlocks hsz V hl
  have S0 : CallFix p m c cX8_mostOf 1 s args qw_big RX8 := S0
  have hx := S0.1; have hb := S0.2.1; have hown := S0.2.2.2.1; have hts := S0.2.2.2.2
  have hl : lv_has ls 1 [(0, .int p1)] := hl
  obtain ⟨Q9, hQ⟩ : ∃ q, q = MQ below (qw_R (some (.int rv))) args s 0 0 (fun _ => False) := ⟨_, rfl⟩
  rw [← hQ]
  generalize va_A ws sz = Z9 at V
  unfold f_X8_mostOf at hf
  refine lv_iload_n hx hb dX8_mostOf_0 rfl (lv_at hl 0 rfl) ?_
  refine lv_iconst (v := 2) hx hb dX8_mostOf_1 (by decide) ?_
  refine lv_icmp_ne (tgt := 11) hx hb dX8_mostOf_2 (by decide) (fun c_2 => ?_) (fun c_2 => ?_)
  · replace hf := qf_f c_2 hf
    refine lv_sipush (v := 999) hx hb dX8_mostOf_11 (by decide) ?_
    have hE := Option.some.inj hf
    exact qw_iretR S0 hr hlocks hQ hE dX8_mostOf_14
  · replace hf := qf_t c_2 hf
    refine lv_sipush (v := 9999) hx hb dX8_mostOf_5 (by decide) ?_
    refine lv_goto (tgt := 14) hx hb dX8_mostOf_8 (by decide) ?_
    have hE := Option.some.inj hf
    exact qw_iretR S0 hr hlocks hQ hE dX8_mostOf_14
theorem kd_X8_remember : yX8_remember.cls = RX8 ∧ yX8_remember.cls ≠ "java/lang/invoke/MethodHandle" ∧ yX8_remember.cls ≠ "java/lang/invoke/VarHandle" ∧ (parseMethodDescriptor yX8_remember.desc).map (fun d => d.parameters.length) = some 0 := by decide +kernel
def f_X8_remember_l54    : Nat → (Nat → Int32) → (Nat → Nat → Int32) → Int32 → Option ((Nat → Int32) × (Nat → Nat → Int32))
  | 0, _, _, _ => none
  | n + 1, I, A, y1 =>
  if (250 : Int32) ≤ y1 then (qf_let (upd I 0 ((I 0) + (1 : Int32))) fun I6 =>
    some (I6, A)) else (qf_ld 250 (A 0) y1 fun x7 =>
    qf_st 2500 (((I 0) * (250 : Int32)) + y1) fun i9 =>
    qf_let (qf_up A 2 (upd (A 2) i9 x7)) fun A8 =>
    qf_let (y1 + (1 : Int32)) fun x10 =>
    f_X8_remember_l54  n I A8 x10)
def f_X8_remember_j52   (I : Nat → Int32) (A : Nat → Nat → Int32) : Option ((Nat → Int32) × (Nat → Nat → Int32)) :=
  f_X8_remember_l54  100000 I A (0 : Int32)
def f_X8_remember_l13 (I : Nat → Int32)   : Nat → (Nat → Nat → Int32) → Int32 → Option ((Nat → Int32) × (Nat → Nat → Int32))
  | 0, _, _ => none
  | n + 1, A, y1 =>
  if (2500 : Int32) ≤ y1 then (qf_let (upd I 0 ((I 0) - (1 : Int32))) fun I1 =>
    f_X8_remember_j52 I1 A) else (qf_ld 2500 (A 2) y1 fun x2 =>
    qf_st 2500 (y1 - (250 : Int32)) fun i4 =>
    qf_let (qf_up A 2 (upd (A 2) i4 x2)) fun A3 =>
    qf_let (y1 + (1 : Int32)) fun x5 =>
    f_X8_remember_l13 I n A3 x5)
def f_X8_remember (I : Nat → Int32) (A : Nat → Nat → Int32) : Option ((Nat → Int32) × (Nat → Nat → Int32)) :=
  if (I 0) = (10 : Int32) then (f_X8_remember_l13 I 100000 A (250 : Int32)) else (f_X8_remember_j52 I A)
abbrev wz_X8_remember : List Cond := Cond.code yX8_remember cX8_remember 2 none :: qw_big
def rm_X8_remember : Room := { frames := 0, cells := 0, slots := 0, locals := 0 }
set_option maxHeartbeats 4000000 in
set_option maxRecDepth 100000 in
theorem c_X8_remember (l : Launch) {D : va_G} {cy : Nat → ClassId} {ad : Nat → Nat} {I : Nat → Int32} {A : Nat → Nat → Int32} {w : Int64}  {I9 : Nat → Int32} {A9 : Nat → Nat → Int32} {sz : Nat} (hf : f_X8_remember I A = some (I9, A9)) : Met l yX8_remember wz_X8_remember rm_X8_remember (va_Pc [.ref (ad 0)] (qw_Pre D cy (Wm cy ad I A w) sz)) (qw_Q none D (Wm cy ad I9 A9 w) (va_A (Wm cy ad I A w) sz)) 0 0 (va_A (Wm cy ad I A w) sz) := by
  refine qw_of (cc := cX8_remember) (maxL := 2) (ret := none) (by decide) (Nat.le_of_ble_eq_true rfl) ?_
  intro p e s m args below meth c ls S0 hr hlocks hsz V hl
  have S0 : CallFix p m c cX8_remember 2 s args qw_big RX8 := S0
  have hx := S0.1; have hb := S0.2.1; have hown := S0.2.2.2.1; have hts := S0.2.2.2.2
  have hl : lv_has ls 2 [(0, .ref (ad 0))] := hl
  generalize va_A (Wm cy ad I A w) sz = Z9 at V ⊢
  obtain ⟨Q9, hQ⟩ : ∃ q, q = MQ below (qw_Q none D (Wm cy ad I9 A9 w) Z9) args s 0 0 Z9 := ⟨_, rfl⟩
  rw [← hQ]
  clear hsz
  have L_54 : ∀   {n : Nat} {I : Nat → Int32} {A : Nat → Nat → Int32} {y1 : Int32} {H : Heap} {locs : List Loc} {ls : Array Slot}, f_X8_remember_l54 n I A y1 = some (I9, A9) → qw_V D cy Z9 s (Wm cy ad I A w) H locs → lv_has ls 2 [(0, .ref (ad 0)), (1, .int y1)] → W p l e rm_X8_remember s m args below meth c H locs 0 0 Q9 (F0 m 54 ls []) := by
    intro n
    induction n with
    | zero => intro I A y1 H locs ls hf V hl; exact qf_no hf
    | succ n ih =>
      intro I A y1 H locs ls hf V hl
      rw [f_X8_remember_l54] at hf
      refine lv_iload_n hx hb dX8_remember_54 rfl (lv_at hl 1 rfl) ?_
      refine lv_sipush (v := 250) hx hb dX8_remember_55 (by decide) ?_
      refine lv_icmp_ge (tgt := 88) hx hb dX8_remember_58 (by decide) (fun c_58 => ?_) (fun c_58 => ?_)
      · replace hf := qf_t c_58 hf
        refine lv_aload_n hx hb dX8_remember_88 rfl (lv_at hl 0 rfl) ?_
        refine lv_dup hx hb dX8_remember_89 rfl ?_
        refine gfM_0_3 S0 V kl_X8_52 dX8_remember_90 ?_
        refine lv_iconst (v := 1) hx hb dX8_remember_93 (by decide) ?_
        refine lv_iadd hx hb dX8_remember_94 ?_
        refine pfM_0_3 S0 V kl_X8_52 dX8_remember_95 (fun H locs I6 e_I6 V => ?_)
        replace hf := qf_let_e e_I6 hf
        have hE := Option.some.inj hf
        obtain ⟨e0, hE⟩ := qf_pr hE
        exact qw_vreti S0 hr hlocks hQ (by rw [e0, hE]) V dX8_remember_98
      · replace hf := qf_f c_58 hf
        refine lv_aload_n hx hb dX8_remember_61 rfl (lv_at hl 0 rfl) ?_
        refine gfM_0_2 S0 V kl_X8_16 dX8_remember_62 ?_
        refine lv_aload_n hx hb dX8_remember_65 rfl (lv_at hl 0 rfl) ?_
        refine gfM_0_3 S0 V kl_X8_52 dX8_remember_66 ?_
        refine lv_sipush (v := 250) hx hb dX8_remember_69 (by decide) ?_
        refine lv_imul hx hb dX8_remember_72 ?_
        refine lv_iload_n hx hb dX8_remember_73 rfl (lv_at hl 1 rfl) ?_
        refine lv_iadd hx hb dX8_remember_74 ?_
        refine lv_aload_n hx hb dX8_remember_75 rfl (lv_at hl 0 rfl) ?_
        refine gfM_0_0 S0 V kl_X8_7 dX8_remember_76 ?_
        refine lv_iload_n hx hb dX8_remember_79 rfl (lv_at hl 1 rfl) ?_
        have h_80 := qf_ld_in hf
        refine alM_1 S0 V h_80 dX8_remember_80 ?_
        refine lv_topi (fun x7 e_x7 => ?_)
        replace hf := qf_ld_e e_x7 hf
        have h_81 := qf_st_in hf
        replace hf := qf_st_e hf
        refine asM_3 S0 V h_81 dX8_remember_81 (fun H locs A8 e_A8 V => ?_)
        replace hf := qf_let_e e_A8 hf
        obtain ⟨x10, e_x10⟩ : ∃ y : Int32, y = y1 + (1 : Int32) := ⟨_, rfl⟩
        refine lv_iinc (v := x10) (lv' := [(1, .int x10), (0, .ref (ad 0))]) hx hb dX8_remember_82 hl (k := 1) rfl (by rw [e_x10]; rfl) (by decide) rfl (fun ls hl => ?_)
        replace hf := qf_let_e e_x10 hf
        refine lv_goto (tgt := 54) hx hb dX8_remember_85 (by decide) ?_
        exact ih hf V (lv_sub hl [1, 0] rfl)
  have J_52 : ∀  {I : Nat → Int32} {A : Nat → Nat → Int32}  {H : Heap} {locs : List Loc} {ls : Array Slot}, f_X8_remember_j52 I A = some (I9, A9) → qw_V D cy Z9 s (Wm cy ad I A w) H locs → lv_has ls 2 [(0, .ref (ad 0))] → W p l e rm_X8_remember s m args below meth c H locs 0 0 Q9 (F0 m 52 ls []) := by
    intro I A H locs ls hf V hl
    unfold f_X8_remember_j52 at hf
    refine lv_iconst (v := 0) hx hb dX8_remember_52 (by decide) ?_
    refine lv_istore_n (lv' := [(1, .int (0 : Int32)), (0, .ref (ad 0))]) hx hb dX8_remember_53 rfl hl (by decide) rfl (fun ls hl => ?_)
    exact L_54 hf V (lv_sub hl [1, 0] rfl)
  have L_13 : ∀   {n : Nat} {A : Nat → Nat → Int32} {y1 : Int32} {H : Heap} {locs : List Loc} {ls : Array Slot}, f_X8_remember_l13 I n A y1 = some (I9, A9) → qw_V D cy Z9 s (Wm cy ad I A w) H locs → lv_has ls 2 [(0, .ref (ad 0)), (1, .int y1)] → W p l e rm_X8_remember s m args below meth c H locs 0 0 Q9 (F0 m 13 ls []) := by
    intro n
    induction n with
    | zero => intro A y1 H locs ls hf V hl; exact qf_no hf
    | succ n ih =>
      intro A y1 H locs ls hf V hl
      rw [f_X8_remember_l13] at hf
      refine lv_iload_n hx hb dX8_remember_13 rfl (lv_at hl 1 rfl) ?_
      refine lv_sipush (v := 2500) hx hb dX8_remember_14 (by decide) ?_
      refine lv_icmp_ge (tgt := 42) hx hb dX8_remember_17 (by decide) (fun c_17 => ?_) (fun c_17 => ?_)
      · replace hf := qf_t c_17 hf
        refine lv_aload_n hx hb dX8_remember_42 rfl (lv_at hl 0 rfl) ?_
        refine lv_dup hx hb dX8_remember_43 rfl ?_
        refine gfM_0_3 S0 V kl_X8_52 dX8_remember_44 ?_
        refine lv_iconst (v := 1) hx hb dX8_remember_47 (by decide) ?_
        refine lv_isub hx hb dX8_remember_48 ?_
        refine pfM_0_3 S0 V kl_X8_52 dX8_remember_49 (fun H locs I1 e_I1 V => ?_)
        replace hf := qf_let_e e_I1 hf
        exact J_52 hf V (lv_sub hl [0] rfl)
      · replace hf := qf_f c_17 hf
        refine lv_aload_n hx hb dX8_remember_20 rfl (lv_at hl 0 rfl) ?_
        refine gfM_0_2 S0 V kl_X8_16 dX8_remember_21 ?_
        refine lv_iload_n hx hb dX8_remember_24 rfl (lv_at hl 1 rfl) ?_
        refine lv_sipush (v := 250) hx hb dX8_remember_25 (by decide) ?_
        refine lv_isub hx hb dX8_remember_28 ?_
        refine lv_aload_n hx hb dX8_remember_29 rfl (lv_at hl 0 rfl) ?_
        refine gfM_0_2 S0 V kl_X8_16 dX8_remember_30 ?_
        refine lv_iload_n hx hb dX8_remember_33 rfl (lv_at hl 1 rfl) ?_
        have h_34 := qf_ld_in hf
        refine alM_3 S0 V h_34 dX8_remember_34 ?_
        refine lv_topi (fun x2 e_x2 => ?_)
        replace hf := qf_ld_e e_x2 hf
        have h_35 := qf_st_in hf
        replace hf := qf_st_e hf
        refine asM_3 S0 V h_35 dX8_remember_35 (fun H locs A3 e_A3 V => ?_)
        replace hf := qf_let_e e_A3 hf
        obtain ⟨x5, e_x5⟩ : ∃ y : Int32, y = y1 + (1 : Int32) := ⟨_, rfl⟩
        refine lv_iinc (v := x5) (lv' := [(1, .int x5), (0, .ref (ad 0))]) hx hb dX8_remember_36 hl (k := 1) rfl (by rw [e_x5]; rfl) (by decide) rfl (fun ls hl => ?_)
        replace hf := qf_let_e e_x5 hf
        refine lv_goto (tgt := 13) hx hb dX8_remember_39 (by decide) ?_
        exact ih hf V (lv_sub hl [1, 0] rfl)
  unfold f_X8_remember at hf
  refine lv_aload_n hx hb dX8_remember_0 rfl (lv_at hl 0 rfl) ?_
  refine gfM_0_3 S0 V kl_X8_52 dX8_remember_1 ?_
  refine lv_bipush (v := 10) hx hb dX8_remember_4 (by decide) ?_
  refine lv_icmp_ne (tgt := 52) hx hb dX8_remember_6 (by decide) (fun c_6 => ?_) (fun c_6 => ?_)
  · replace hf := qf_f c_6 hf
    exact J_52 hf V (lv_sub hl [0] rfl)
  · replace hf := qf_t c_6 hf
    refine lv_sipush (v := 250) hx hb dX8_remember_9 (by decide) ?_
    refine lv_istore_n (lv' := [(1, .int (250 : Int32)), (0, .ref (ad 0))]) hx hb dX8_remember_12 rfl hl (by decide) rfl (fun ls hl => ?_)
    exact L_13 hf V (lv_sub hl [1, 0] rfl)
theorem kd_X8_undo : yX8_undo.cls = RX8 ∧ yX8_undo.cls ≠ "java/lang/invoke/MethodHandle" ∧ yX8_undo.cls ≠ "java/lang/invoke/VarHandle" ∧ (parseMethodDescriptor yX8_undo.desc).map (fun d => d.parameters.length) = some 0 := by decide +kernel
def f_X8_undo_l26    : Nat → (Nat → Int32) → (Nat → Nat → Int32) → Int32 → Option (Int32 × (Nat → Int32) × (Nat → Nat → Int32))
  | 0, _, _, _ => none
  | n + 1, I, A, y1 =>
  if (250 : Int32) ≤ y1 then (some ((I 0), I, A)) else (qf_ld 2500 (A 2) (((I 0) * (250 : Int32)) + y1) fun x3 =>
    qf_st 250 y1 fun i5 =>
    qf_let (qf_up A 0 (upd (A 0) i5 x3)) fun A4 =>
    qf_let (y1 + (1 : Int32)) fun x6 =>
    f_X8_undo_l26  n I A4 x6)
def f_X8_undo (I : Nat → Int32) (A : Nat → Nat → Int32) : Option (Int32 × (Nat → Int32) × (Nat → Nat → Int32)) :=
  qf_let (upd I 1 (0 : Int32)) fun I1 =>
  if (I1 0) = 0 then (some ((-1 : Int32), I1, A)) else (qf_let (upd I1 0 ((I1 0) - (1 : Int32))) fun I2 =>
    f_X8_undo_l26  100000 I2 A (0 : Int32))
abbrev wz_X8_undo : List Cond := Cond.code yX8_undo cX8_undo 2 (some .int) :: qw_big
def rm_X8_undo : Room := { frames := 0, cells := 0, slots := 0, locals := 0 }
set_option maxHeartbeats 4000000 in
set_option maxRecDepth 100000 in
theorem c_X8_undo (l : Launch) {D : va_G} {cy : Nat → ClassId} {ad : Nat → Nat} {I : Nat → Int32} {A : Nat → Nat → Int32} {w : Int64}  {rv : Int32} {I9 : Nat → Int32} {A9 : Nat → Nat → Int32} {sz : Nat} (hf : f_X8_undo I A = some (rv, I9, A9)) : Met l yX8_undo wz_X8_undo rm_X8_undo (va_Pc [.ref (ad 0)] (qw_Pre D cy (Wm cy ad I A w) sz)) (qw_Q (some (.int rv)) D (Wm cy ad I9 A9 w) (va_A (Wm cy ad I A w) sz)) 0 0 (va_A (Wm cy ad I A w) sz) := by
  refine qw_of (cc := cX8_undo) (maxL := 2) (ret := (some .int)) (by decide) (Nat.le_of_ble_eq_true rfl) ?_
  intro p e s m args below meth c ls S0 hr hlocks hsz V hl
  have S0 : CallFix p m c cX8_undo 2 s args qw_big RX8 := S0
  have hx := S0.1; have hb := S0.2.1; have hown := S0.2.2.2.1; have hts := S0.2.2.2.2
  have hl : lv_has ls 2 [(0, .ref (ad 0))] := hl
  generalize va_A (Wm cy ad I A w) sz = Z9 at V ⊢
  obtain ⟨Q9, hQ⟩ : ∃ q, q = MQ below (qw_Q (some (.int rv)) D (Wm cy ad I9 A9 w) Z9) args s 0 0 Z9 := ⟨_, rfl⟩
  rw [← hQ]
  clear hsz
  have L_26 : ∀   {n : Nat} {I : Nat → Int32} {A : Nat → Nat → Int32} {y1 : Int32} {H : Heap} {locs : List Loc} {ls : Array Slot}, f_X8_undo_l26 n I A y1 = some (rv, I9, A9) → qw_V D cy Z9 s (Wm cy ad I A w) H locs → lv_has ls 2 [(0, .ref (ad 0)), (1, .int y1)] → W p l e rm_X8_undo s m args below meth c H locs 0 0 Q9 (F0 m 26 ls []) := by
    intro n
    induction n with
    | zero => intro I A y1 H locs ls hf V hl; exact qf_no hf
    | succ n ih =>
      intro I A y1 H locs ls hf V hl
      rw [f_X8_undo_l26] at hf
      refine lv_iload_n hx hb dX8_undo_26 rfl (lv_at hl 1 rfl) ?_
      refine lv_sipush (v := 250) hx hb dX8_undo_27 (by decide) ?_
      refine lv_icmp_ge (tgt := 60) hx hb dX8_undo_30 (by decide) (fun c_30 => ?_) (fun c_30 => ?_)
      · replace hf := qf_t c_30 hf
        refine lv_aload_n hx hb dX8_undo_60 rfl (lv_at hl 0 rfl) ?_
        refine gfM_0_3 S0 V kl_X8_52 dX8_undo_61 ?_
        have hE := Option.some.inj hf
        obtain ⟨e0, hE⟩ := qf_pr hE
        obtain ⟨e1, hE⟩ := qf_pr hE
        exact qw_ireti S0 hr hlocks hQ e0 (by rw [e1, hE]) V dX8_undo_64
      · replace hf := qf_f c_30 hf
        refine lv_aload_n hx hb dX8_undo_33 rfl (lv_at hl 0 rfl) ?_
        refine gfM_0_0 S0 V kl_X8_7 dX8_undo_34 ?_
        refine lv_iload_n hx hb dX8_undo_37 rfl (lv_at hl 1 rfl) ?_
        refine lv_aload_n hx hb dX8_undo_38 rfl (lv_at hl 0 rfl) ?_
        refine gfM_0_2 S0 V kl_X8_16 dX8_undo_39 ?_
        refine lv_aload_n hx hb dX8_undo_42 rfl (lv_at hl 0 rfl) ?_
        refine gfM_0_3 S0 V kl_X8_52 dX8_undo_43 ?_
        refine lv_sipush (v := 250) hx hb dX8_undo_46 (by decide) ?_
        refine lv_imul hx hb dX8_undo_49 ?_
        refine lv_iload_n hx hb dX8_undo_50 rfl (lv_at hl 1 rfl) ?_
        refine lv_iadd hx hb dX8_undo_51 ?_
        have h_52 := qf_ld_in hf
        refine alM_3 S0 V h_52 dX8_undo_52 ?_
        refine lv_topi (fun x3 e_x3 => ?_)
        replace hf := qf_ld_e e_x3 hf
        have h_53 := qf_st_in hf
        replace hf := qf_st_e hf
        refine asM_1 S0 V h_53 dX8_undo_53 (fun H locs A4 e_A4 V => ?_)
        replace hf := qf_let_e e_A4 hf
        obtain ⟨x6, e_x6⟩ : ∃ y : Int32, y = y1 + (1 : Int32) := ⟨_, rfl⟩
        refine lv_iinc (v := x6) (lv' := [(1, .int x6), (0, .ref (ad 0))]) hx hb dX8_undo_54 hl (k := 1) rfl (by rw [e_x6]; rfl) (by decide) rfl (fun ls hl => ?_)
        replace hf := qf_let_e e_x6 hf
        refine lv_goto (tgt := 26) hx hb dX8_undo_57 (by decide) ?_
        exact ih hf V (lv_sub hl [1, 0] rfl)
  unfold f_X8_undo at hf
  refine lv_aload_n hx hb dX8_undo_0 rfl (lv_at hl 0 rfl) ?_
  refine lv_iconst (v := 0) hx hb dX8_undo_1 (by decide) ?_
  refine pfM_0_4 S0 V kl_X8_49 dX8_undo_2 (fun H locs I1 e_I1 V => ?_)
  replace hf := qf_let_e e_I1 hf
  refine lv_aload_n hx hb dX8_undo_5 rfl (lv_at hl 0 rfl) ?_
  refine gfM_0_3 S0 V kl_X8_52 dX8_undo_6 ?_
  refine lv_if_ne (tgt := 14) hx hb dX8_undo_9 (by decide) (fun c_9 => ?_) (fun c_9 => ?_)
  · replace hf := qf_f c_9 hf
    refine lv_aload_n hx hb dX8_undo_14 rfl (lv_at hl 0 rfl) ?_
    refine lv_dup hx hb dX8_undo_15 rfl ?_
    refine gfM_0_3 S0 V kl_X8_52 dX8_undo_16 ?_
    refine lv_iconst (v := 1) hx hb dX8_undo_19 (by decide) ?_
    refine lv_isub hx hb dX8_undo_20 ?_
    refine pfM_0_3 S0 V kl_X8_52 dX8_undo_21 (fun H locs I2 e_I2 V => ?_)
    replace hf := qf_let_e e_I2 hf
    refine lv_iconst (v := 0) hx hb dX8_undo_24 (by decide) ?_
    refine lv_istore_n (lv' := [(1, .int (0 : Int32)), (0, .ref (ad 0))]) hx hb dX8_undo_25 rfl hl (by decide) rfl (fun ls hl => ?_)
    exact L_26 hf V (lv_sub hl [1, 0] rfl)
  · replace hf := qf_t c_9 hf
    refine lv_iconst (v := -1) hx hb dX8_undo_12 (by decide) ?_
    have hE := Option.some.inj hf
    obtain ⟨e0, hE⟩ := qf_pr hE
    obtain ⟨e1, hE⟩ := qf_pr hE
    exact qw_ireti S0 hr hlocks hQ e0 (by rw [e1, hE]) V dX8_undo_13
theorem kd_X8_undoCount : yX8_undoCount.cls = RX8 ∧ yX8_undoCount.cls ≠ "java/lang/invoke/MethodHandle" ∧ yX8_undoCount.cls ≠ "java/lang/invoke/VarHandle" ∧ (parseMethodDescriptor yX8_undoCount.desc).map (fun d => d.parameters.length) = some 0 := by decide +kernel
def f_X8_undoCount (I : Nat → Int32) : Option (Int32 × (Nat → Int32)) :=
  qf_let (upd I 1 (0 : Int32)) fun I1 =>
  some ((I1 0), I1)
abbrev wz_X8_undoCount : List Cond := Cond.code yX8_undoCount cX8_undoCount 1 (some .int) :: qw_big
def rm_X8_undoCount : Room := { frames := 0, cells := 0, slots := 0, locals := 0 }
set_option maxHeartbeats 4000000 in
set_option maxRecDepth 100000 in
theorem c_X8_undoCount (l : Launch) {D : va_G} {cy : Nat → ClassId} {ad : Nat → Nat} {I : Nat → Int32} {A : Nat → Nat → Int32} {w : Int64}  {rv : Int32} {I9 : Nat → Int32} {sz : Nat} (hf : f_X8_undoCount I = some (rv, I9)) : Met l yX8_undoCount wz_X8_undoCount rm_X8_undoCount (va_Pc [.ref (ad 0)] (qw_Pre D cy (Wm cy ad I A w) sz)) (qw_Q (some (.int rv)) D (Wm cy ad I9 A w) (va_A (Wm cy ad I A w) sz)) 0 0 (va_A (Wm cy ad I A w) sz) := by
  refine qw_of (cc := cX8_undoCount) (maxL := 1) (ret := (some .int)) (by decide) (Nat.le_of_ble_eq_true rfl) ?_
  intro p e s m args below meth c ls S0 hr hlocks hsz V hl
  have S0 : CallFix p m c cX8_undoCount 1 s args qw_big RX8 := S0
  have hx := S0.1; have hb := S0.2.1; have hown := S0.2.2.2.1; have hts := S0.2.2.2.2
  have hl : lv_has ls 1 [(0, .ref (ad 0))] := hl
  generalize va_A (Wm cy ad I A w) sz = Z9 at V ⊢
  obtain ⟨Q9, hQ⟩ : ∃ q, q = MQ below (qw_Q (some (.int rv)) D (Wm cy ad I9 A w) Z9) args s 0 0 Z9 := ⟨_, rfl⟩
  rw [← hQ]
  clear hsz
  unfold f_X8_undoCount at hf
  refine lv_aload_n hx hb dX8_undoCount_0 rfl (lv_at hl 0 rfl) ?_
  refine lv_iconst (v := 0) hx hb dX8_undoCount_1 (by decide) ?_
  refine pfM_0_4 S0 V kl_X8_49 dX8_undoCount_2 (fun H locs I1 e_I1 V => ?_)
  replace hf := qf_let_e e_I1 hf
  refine lv_aload_n hx hb dX8_undoCount_5 rfl (lv_at hl 0 rfl) ?_
  refine gfM_0_3 S0 V kl_X8_52 dX8_undoCount_6 ?_
  have hE := Option.some.inj hf
  obtain ⟨e0, hE⟩ := qf_pr hE
  exact qw_ireti S0 hr hlocks hQ e0 (by rw [hE]) V dX8_undoCount_9
theorem kd_X8_append : yX8_append.cls = RX8 ∧ yX8_append.cls ≠ "java/lang/invoke/MethodHandle" ∧ yX8_append.cls ≠ "java/lang/invoke/VarHandle" ∧ (parseMethodDescriptor yX8_append.desc).map (fun d => d.parameters.length) = some 1 := by decide +kernel
def f_X8_append_l3   (y1 : Int32) : Nat → (Nat → Int32) → (Nat → Nat → Int32) → Int32 → Option ((Nat → Int32) × (Nat → Nat → Int32))
  | 0, _, _, _ => none
  | n + 1, I, A, y2 =>
  if y2 < 0 then (some (I, A)) else (qf_st 800 (I 2) fun i2 =>
    qf_let (qf_up A 5 (upd (A 5) i2 (vp_nar .byte ((y1 >>> (y2 &&& 31)).toInt8.toInt32)))) fun A1 =>
    qf_let (upd I 2 ((I 2) + (1 : Int32))) fun I3 =>
    qf_let (y2 + (-8 : Int32)) fun x4 =>
    f_X8_append_l3 y1 n I3 A1 x4)
def f_X8_append (I : Nat → Int32) (A : Nat → Nat → Int32) (p1 : Int32) : Option ((Nat → Int32) × (Nat → Nat → Int32)) :=
  f_X8_append_l3 p1 100000 I A (24 : Int32)
abbrev wz_X8_append : List Cond := Cond.code yX8_append cX8_append 3 none :: qw_big
def rm_X8_append : Room := { frames := 0, cells := 0, slots := 0, locals := 0 }
set_option maxHeartbeats 4000000 in
set_option maxRecDepth 100000 in
theorem c_X8_append (l : Launch) {D : va_G} {cy : Nat → ClassId} {ad : Nat → Nat} {I : Nat → Int32} {A : Nat → Nat → Int32} {w : Int64} {p1 : Int32} {I9 : Nat → Int32} {A9 : Nat → Nat → Int32} {sz : Nat} (hf : f_X8_append I A p1 = some (I9, A9)) : Met l yX8_append wz_X8_append rm_X8_append (va_Pc [.ref (ad 0), .int p1] (qw_Pre D cy (Wm cy ad I A w) sz)) (qw_Q none D (Wm cy ad I9 A9 w) (va_A (Wm cy ad I A w) sz)) 0 0 (va_A (Wm cy ad I A w) sz) := by
  refine qw_of (cc := cX8_append) (maxL := 3) (ret := none) (by decide) (Nat.le_of_ble_eq_true rfl) ?_
  intro p e s m args below meth c ls S0 hr hlocks hsz V hl
  have S0 : CallFix p m c cX8_append 3 s args qw_big RX8 := S0
  have hx := S0.1; have hb := S0.2.1; have hown := S0.2.2.2.1; have hts := S0.2.2.2.2
  have hl : lv_has ls 3 [(0, .ref (ad 0)), (1, .int p1)] := hl
  generalize va_A (Wm cy ad I A w) sz = Z9 at V ⊢
  obtain ⟨Q9, hQ⟩ : ∃ q, q = MQ below (qw_Q none D (Wm cy ad I9 A9 w) Z9) args s 0 0 Z9 := ⟨_, rfl⟩
  rw [← hQ]
  clear hsz
  have L_3 : ∀  {y1 : Int32} {n : Nat} {I : Nat → Int32} {A : Nat → Nat → Int32} {y2 : Int32} {H : Heap} {locs : List Loc} {ls : Array Slot}, f_X8_append_l3 y1 n I A y2 = some (I9, A9) → qw_V D cy Z9 s (Wm cy ad I A w) H locs → lv_has ls 3 [(0, .ref (ad 0)), (1, .int y1), (2, .int y2)] → W p l e rm_X8_append s m args below meth c H locs 0 0 Q9 (F0 m 3 ls []) := by
    intro y1 n
    induction n with
    | zero => intro I A y2 H locs ls hf V hl; exact qf_no hf
    | succ n ih =>
      intro I A y2 H locs ls hf V hl
      rw [f_X8_append_l3] at hf
      refine lv_iload_n hx hb dX8_append_3 rfl (lv_at hl 2 rfl) ?_
      refine lv_if_lt (tgt := 36) hx hb dX8_append_4 (by decide) (fun c_4 => ?_) (fun c_4 => ?_)
      · replace hf := qf_t c_4 hf
        have hE := Option.some.inj hf
        obtain ⟨e0, hE⟩ := qf_pr hE
        exact qw_vreti S0 hr hlocks hQ (by rw [e0, hE]) V dX8_append_36
      · replace hf := qf_f c_4 hf
        refine lv_aload_n hx hb dX8_append_7 rfl (lv_at hl 0 rfl) ?_
        refine gfM_0_7 S0 V kl_X8_25 dX8_append_8 ?_
        refine lv_aload_n hx hb dX8_append_11 rfl (lv_at hl 0 rfl) ?_
        refine gfM_0_8 S0 V kl_X8_55 dX8_append_12 ?_
        refine lv_iload_n hx hb dX8_append_15 rfl (lv_at hl 1 rfl) ?_
        refine lv_iload_n hx hb dX8_append_16 rfl (lv_at hl 2 rfl) ?_
        refine lv_ishr hx hb dX8_append_17 ?_
        refine lv_i2b hx hb dX8_append_18 rfl ?_
        have h_19 := qf_st_in hf
        replace hf := qf_st_e hf
        refine asM_6 S0 V h_19 dX8_append_19 (fun H locs A1 e_A1 V => ?_)
        replace hf := qf_let_e e_A1 hf
        refine lv_aload_n hx hb dX8_append_20 rfl (lv_at hl 0 rfl) ?_
        refine lv_dup hx hb dX8_append_21 rfl ?_
        refine gfM_0_8 S0 V kl_X8_55 dX8_append_22 ?_
        refine lv_iconst (v := 1) hx hb dX8_append_25 (by decide) ?_
        refine lv_iadd hx hb dX8_append_26 ?_
        refine pfM_0_8 S0 V kl_X8_55 dX8_append_27 (fun H locs I3 e_I3 V => ?_)
        replace hf := qf_let_e e_I3 hf
        obtain ⟨x4, e_x4⟩ : ∃ y : Int32, y = y2 + (-8 : Int32) := ⟨_, rfl⟩
        refine lv_iinc (v := x4) (lv' := [(2, .int x4), (0, .ref (ad 0)), (1, .int y1)]) hx hb dX8_append_30 hl (k := 2) rfl (by rw [e_x4]; rfl) (by decide) rfl (fun ls hl => ?_)
        replace hf := qf_let_e e_x4 hf
        refine lv_goto (tgt := 3) hx hb dX8_append_33 (by decide) ?_
        exact ih hf V (lv_sub hl [1, 2, 0] rfl)
  unfold f_X8_append at hf
  refine lv_bipush (v := 24) hx hb dX8_append_0 (by decide) ?_
  refine lv_istore_n (lv' := [(2, .int (24 : Int32)), (0, .ref (ad 0)), (1, .int p1)]) hx hb dX8_append_2 rfl hl (by decide) rfl (fun ls hl => ?_)
  exact L_3 hf V (lv_sub hl [1, 2, 0] rfl)
theorem kd_X8_feed : yX8_feed.cls = RX8 ∧ yX8_feed.cls ≠ "java/lang/invoke/MethodHandle" ∧ yX8_feed.cls ≠ "java/lang/invoke/VarHandle" ∧ (parseMethodDescriptor yX8_feed.desc).map (fun d => d.parameters.length) = some 5 := by decide +kernel
def f_X8_feed (I : Nat → Int32) (A : Nat → Nat → Int32) (p1 : Int32) (p2 : Int32) (p3 : Int32) (p4 : Int32) (p5 : Int32) : Option (Int32 × (Nat → Int32) × (Nat → Nat → Int32)) :=
  qf_let (upd I 1 (0 : Int32)) fun I1 =>
  if ((I1 2) + (20 : Int32)) ≤ (800 : Int32) then (qf_bd2 (f_X8_append I1 A p1) fun I2 A3 =>
    qf_bd2 (f_X8_append I2 A3 p2) fun I4 A5 =>
    qf_bd2 (f_X8_append I4 A5 p3) fun I6 A7 =>
    qf_bd2 (f_X8_append I6 A7 p4) fun I8 A9 =>
    qf_bd2 (f_X8_append I8 A9 p5) fun I10 A11 =>
    some ((I10 2), I10, A11)) else (some ((-3 : Int32), I1, A))
abbrev wz_X8_feed : List Cond := Cond.code yX8_feed cX8_feed 6 (some .int) :: qw_big
def rm_X8_feed : Room := { frames := 1, cells := 0, slots := 0, locals := 22 }
set_option maxHeartbeats 4000000 in
set_option maxRecDepth 100000 in
theorem c_X8_feed (l : Launch) {D : va_G} {cy : Nat → ClassId} {ad : Nat → Nat} {I : Nat → Int32} {A : Nat → Nat → Int32} {w : Int64} {p1 : Int32} {p2 : Int32} {p3 : Int32} {p4 : Int32} {p5 : Int32} {rv : Int32} {I9 : Nat → Int32} {A9 : Nat → Nat → Int32} {sz : Nat} (hf : f_X8_feed I A p1 p2 p3 p4 p5 = some (rv, I9, A9)) : Met l yX8_feed wz_X8_feed rm_X8_feed (va_Pc [.ref (ad 0), .int p1, .int p2, .int p3, .int p4, .int p5] (qw_Pre D cy (Wm cy ad I A w) sz)) (qw_Q (some (.int rv)) D (Wm cy ad I9 A9 w) (va_A (Wm cy ad I A w) sz)) 0 0 (va_A (Wm cy ad I A w) sz) := by
  refine qw_of (cc := cX8_feed) (maxL := 6) (ret := (some .int)) (by decide) (Nat.le_of_ble_eq_true rfl) ?_
  intro p e s m args below meth c ls S0 hr hlocks hsz V hl
  have S0 : CallFix p m c cX8_feed 6 s args qw_big RX8 := S0
  have hx := S0.1; have hb := S0.2.1; have hown := S0.2.2.2.1; have hts := S0.2.2.2.2
  have hl : lv_has ls 6 [(0, .ref (ad 0)), (1, .int p1), (2, .int p2), (3, .int p3), (4, .int p4), (5, .int p5)] := hl
  generalize va_A (Wm cy ad I A w) sz = Z9 at V ⊢
  obtain ⟨Q9, hQ⟩ : ∃ q, q = MQ below (qw_Q (some (.int rv)) D (Wm cy ad I9 A9 w) Z9) args s 0 0 Z9 := ⟨_, rfl⟩
  rw [← hQ]
  clear hsz
  unfold f_X8_feed at hf
  refine lv_aload_n hx hb dX8_feed_0 rfl (lv_at hl 0 rfl) ?_
  refine lv_iconst (v := 0) hx hb dX8_feed_1 (by decide) ?_
  refine pfM_0_4 S0 V kl_X8_49 dX8_feed_2 (fun H locs I1 e_I1 V => ?_)
  replace hf := qf_let_e e_I1 hf
  refine lv_aload_n hx hb dX8_feed_5 rfl (lv_at hl 0 rfl) ?_
  refine gfM_0_8 S0 V kl_X8_55 dX8_feed_6 ?_
  refine lv_bipush (v := 20) hx hb dX8_feed_9 (by decide) ?_
  refine lv_iadd hx hb dX8_feed_11 ?_
  refine lv_sipush (v := 800) hx hb dX8_feed_12 (by decide) ?_
  refine lv_icmp_le (tgt := 21) hx hb dX8_feed_15 (by decide) (fun c_15 => ?_) (fun c_15 => ?_)
  · replace hf := qf_t c_15 hf
    refine lv_aload_n hx hb dX8_feed_21 rfl (lv_at hl 0 rfl) ?_
    refine lv_iload_n hx hb dX8_feed_22 rfl (lv_at hl 1 rfl) ?_
    obtain ⟨I2, A3, hc_23, hf⟩ := qf_bd2_e hf
    refine qw_cV (rest := []) (st1 := []) S0 V hl 0 gM_0 rfl (c_X8_append l hc_23) kg_X8_58 rfl ⟨rfl, rfl⟩ kd_X8_append ⟨Nat.le_of_ble_eq_true rfl, Nat.le_of_ble_eq_true rfl⟩ rfl rfl (Nat.le_of_ble_eq_true rfl) ⟨Nat.zero_le _, Nat.zero_le _⟩ rfl dX8_feed_23 (fun H locs V => ?_)
    refine lv_aload_n hx hb dX8_feed_26 rfl (lv_at hl 0 rfl) ?_
    refine lv_iload_n hx hb dX8_feed_27 rfl (lv_at hl 2 rfl) ?_
    obtain ⟨I4, A5, hc_28, hf⟩ := qf_bd2_e hf
    refine qw_cV (rest := []) (st1 := []) S0 V hl 0 gM_0 rfl (c_X8_append l hc_28) kg_X8_58 rfl ⟨rfl, rfl⟩ kd_X8_append ⟨Nat.le_of_ble_eq_true rfl, Nat.le_of_ble_eq_true rfl⟩ rfl rfl (Nat.le_of_ble_eq_true rfl) ⟨Nat.zero_le _, Nat.zero_le _⟩ rfl dX8_feed_28 (fun H locs V => ?_)
    refine lv_aload_n hx hb dX8_feed_31 rfl (lv_at hl 0 rfl) ?_
    refine lv_iload_n hx hb dX8_feed_32 rfl (lv_at hl 3 rfl) ?_
    obtain ⟨I6, A7, hc_33, hf⟩ := qf_bd2_e hf
    refine qw_cV (rest := []) (st1 := []) S0 V hl 0 gM_0 rfl (c_X8_append l hc_33) kg_X8_58 rfl ⟨rfl, rfl⟩ kd_X8_append ⟨Nat.le_of_ble_eq_true rfl, Nat.le_of_ble_eq_true rfl⟩ rfl rfl (Nat.le_of_ble_eq_true rfl) ⟨Nat.zero_le _, Nat.zero_le _⟩ rfl dX8_feed_33 (fun H locs V => ?_)
    refine lv_aload_n hx hb dX8_feed_36 rfl (lv_at hl 0 rfl) ?_
    refine lv_iload hx hb dX8_feed_37 (lv_at hl 4 rfl) ?_
    obtain ⟨I8, A9, hc_39, hf⟩ := qf_bd2_e hf
    refine qw_cV (rest := []) (st1 := []) S0 V hl 0 gM_0 rfl (c_X8_append l hc_39) kg_X8_58 rfl ⟨rfl, rfl⟩ kd_X8_append ⟨Nat.le_of_ble_eq_true rfl, Nat.le_of_ble_eq_true rfl⟩ rfl rfl (Nat.le_of_ble_eq_true rfl) ⟨Nat.zero_le _, Nat.zero_le _⟩ rfl dX8_feed_39 (fun H locs V => ?_)
    refine lv_aload_n hx hb dX8_feed_42 rfl (lv_at hl 0 rfl) ?_
    refine lv_iload hx hb dX8_feed_43 (lv_at hl 5 rfl) ?_
    obtain ⟨I10, A11, hc_45, hf⟩ := qf_bd2_e hf
    refine qw_cV (rest := []) (st1 := []) S0 V hl 0 gM_0 rfl (c_X8_append l hc_45) kg_X8_58 rfl ⟨rfl, rfl⟩ kd_X8_append ⟨Nat.le_of_ble_eq_true rfl, Nat.le_of_ble_eq_true rfl⟩ rfl rfl (Nat.le_of_ble_eq_true rfl) ⟨Nat.zero_le _, Nat.zero_le _⟩ rfl dX8_feed_45 (fun H locs V => ?_)
    refine lv_aload_n hx hb dX8_feed_48 rfl (lv_at hl 0 rfl) ?_
    refine gfM_0_8 S0 V kl_X8_55 dX8_feed_49 ?_
    have hE := Option.some.inj hf
    obtain ⟨e0, hE⟩ := qf_pr hE
    obtain ⟨e1, hE⟩ := qf_pr hE
    exact qw_ireti S0 hr hlocks hQ e0 (by rw [e1, hE]) V dX8_feed_52
  · replace hf := qf_f c_15 hf
    refine lv_bipush (v := -3) hx hb dX8_feed_18 (by decide) ?_
    have hE := Option.some.inj hf
    obtain ⟨e0, hE⟩ := qf_pr hE
    obtain ⟨e1, hE⟩ := qf_pr hE
    exact qw_ireti S0 hr hlocks hQ e0 (by rw [e1, hE]) V dX8_feed_20
theorem kd_X8_errorPosition : yX8_errorPosition.cls = RX8 ∧ yX8_errorPosition.cls ≠ "java/lang/invoke/MethodHandle" ∧ yX8_errorPosition.cls ≠ "java/lang/invoke/VarHandle" ∧ (parseMethodDescriptor yX8_errorPosition.desc).map (fun d => d.parameters.length) = some 0 := by decide +kernel
def f_X8_errorPosition (I : Nat → Int32) : Option (Int32 × (Nat → Int32)) :=
  qf_let (upd I 1 (0 : Int32)) fun I1 =>
  some ((I1 9), I1)
abbrev wz_X8_errorPosition : List Cond := Cond.code yX8_errorPosition cX8_errorPosition 1 (some .int) :: qw_big
def rm_X8_errorPosition : Room := { frames := 0, cells := 0, slots := 0, locals := 0 }
set_option maxHeartbeats 4000000 in
set_option maxRecDepth 100000 in
theorem c_X8_errorPosition (l : Launch) {D : va_G} {cy : Nat → ClassId} {ad : Nat → Nat} {I : Nat → Int32} {A : Nat → Nat → Int32} {w : Int64}  {rv : Int32} {I9 : Nat → Int32} {sz : Nat} (hf : f_X8_errorPosition I = some (rv, I9)) : Met l yX8_errorPosition wz_X8_errorPosition rm_X8_errorPosition (va_Pc [.ref (ad 0)] (qw_Pre D cy (Wm cy ad I A w) sz)) (qw_Q (some (.int rv)) D (Wm cy ad I9 A w) (va_A (Wm cy ad I A w) sz)) 0 0 (va_A (Wm cy ad I A w) sz) := by
  refine qw_of (cc := cX8_errorPosition) (maxL := 1) (ret := (some .int)) (by decide) (Nat.le_of_ble_eq_true rfl) ?_
  intro p e s m args below meth c ls S0 hr hlocks hsz V hl
  have S0 : CallFix p m c cX8_errorPosition 1 s args qw_big RX8 := S0
  have hx := S0.1; have hb := S0.2.1; have hown := S0.2.2.2.1; have hts := S0.2.2.2.2
  have hl : lv_has ls 1 [(0, .ref (ad 0))] := hl
  generalize va_A (Wm cy ad I A w) sz = Z9 at V ⊢
  obtain ⟨Q9, hQ⟩ : ∃ q, q = MQ below (qw_Q (some (.int rv)) D (Wm cy ad I9 A w) Z9) args s 0 0 Z9 := ⟨_, rfl⟩
  rw [← hQ]
  clear hsz
  unfold f_X8_errorPosition at hf
  refine lv_aload_n hx hb dX8_errorPosition_0 rfl (lv_at hl 0 rfl) ?_
  refine lv_iconst (v := 0) hx hb dX8_errorPosition_1 (by decide) ?_
  refine pfM_0_4 S0 V kl_X8_49 dX8_errorPosition_2 (fun H locs I1 e_I1 V => ?_)
  replace hf := qf_let_e e_I1 hf
  refine lv_aload_n hx hb dX8_errorPosition_5 rfl (lv_at hl 0 rfl) ?_
  refine gfM_0_16 S0 V kl_X8_29 dX8_errorPosition_6 ?_
  have hE := Option.some.inj hf
  obtain ⟨e0, hE⟩ := qf_pr hE
  exact qw_ireti S0 hr hlocks hQ e0 (by rw [hE]) V dX8_errorPosition_9
theorem kd_X8_peek : yX8_peek.cls = RX8 ∧ yX8_peek.cls ≠ "java/lang/invoke/MethodHandle" ∧ yX8_peek.cls ≠ "java/lang/invoke/VarHandle" ∧ (parseMethodDescriptor yX8_peek.desc).map (fun d => d.parameters.length) = some 0 := by decide +kernel
def f_X8_peek (I : Nat → Int32) (A : Nat → Nat → Int32) : Option (Int32) :=
  if (I 3) ≤ (I 4) then (some ((-1 : Int32))) else (qf_ld 800 (A 5) (I 4) fun x1 =>
    some ((x1 &&& (255 : Int32))))
abbrev wz_X8_peek : List Cond := Cond.code yX8_peek cX8_peek 1 (some .int) :: qw_big
def rm_X8_peek : Room := { frames := 0, cells := 0, slots := 0, locals := 0 }
set_option maxHeartbeats 4000000 in
set_option maxRecDepth 100000 in
theorem c_X8_peek (l : Launch) {D : va_G} {cy : Nat → ClassId} {ad : Nat → Nat} {I : Nat → Int32} {A : Nat → Nat → Int32} {w : Int64}  {rv : Int32} {sz : Nat} (hf : f_X8_peek I A = some (rv)) : Met l yX8_peek wz_X8_peek rm_X8_peek (va_Pc [.ref (ad 0)] (qw_Pre D cy (Wm cy ad I A w) sz)) (qw_R (some (.int rv))) 0 0 (fun _ => False) := by
  refine qw_of (cc := cX8_peek) (maxL := 1) (ret := (some .int)) (by decide) (Nat.le_of_ble_eq_true rfl) ?_
  intro p e s m args below meth c ls S0 hr hlocks hsz V hl
  have S0 : CallFix p m c cX8_peek 1 s args qw_big RX8 := S0
  have hx := S0.1; have hb := S0.2.1; have hown := S0.2.2.2.1; have hts := S0.2.2.2.2
  have hl : lv_has ls 1 [(0, .ref (ad 0))] := hl
  obtain ⟨Q9, hQ⟩ : ∃ q, q = MQ below (qw_R (some (.int rv))) args s 0 0 (fun _ => False) := ⟨_, rfl⟩
  rw [← hQ]
  generalize va_A (Wm cy ad I A w) sz = Z9 at V
  unfold f_X8_peek at hf
  refine lv_aload_n hx hb dX8_peek_0 rfl (lv_at hl 0 rfl) ?_
  refine gfM_0_10 S0 V kl_X8_62 dX8_peek_1 ?_
  refine lv_aload_n hx hb dX8_peek_4 rfl (lv_at hl 0 rfl) ?_
  refine gfM_0_9 S0 V kl_X8_65 dX8_peek_5 ?_
  refine lv_icmp_ge (tgt := 27) hx hb dX8_peek_8 (by decide) (fun c_8 => ?_) (fun c_8 => ?_)
  · replace hf := qf_t c_8 hf
    refine lv_iconst (v := -1) hx hb dX8_peek_27 (by decide) ?_
    have hE := Option.some.inj hf
    exact qw_iretR S0 hr hlocks hQ hE dX8_peek_28
  · replace hf := qf_f c_8 hf
    refine lv_aload_n hx hb dX8_peek_11 rfl (lv_at hl 0 rfl) ?_
    refine gfM_0_7 S0 V kl_X8_25 dX8_peek_12 ?_
    refine lv_aload_n hx hb dX8_peek_15 rfl (lv_at hl 0 rfl) ?_
    refine gfM_0_10 S0 V kl_X8_62 dX8_peek_16 ?_
    have h_19 := qf_ld_in hf
    refine alM_6 S0 V h_19 dX8_peek_19 ?_
    refine lv_topi (fun x1 e_x1 => ?_)
    replace hf := qf_ld_e e_x1 hf
    refine lv_sipush (v := 255) hx hb dX8_peek_20 (by decide) ?_
    refine lv_iand hx hb dX8_peek_23 ?_
    refine lv_goto (tgt := 28) hx hb dX8_peek_24 (by decide) ?_
    have hE := Option.some.inj hf
    exact qw_iretR S0 hr hlocks hQ hE dX8_peek_28
theorem kd_X8_advance : yX8_advance.cls = RX8 ∧ yX8_advance.cls ≠ "java/lang/invoke/MethodHandle" ∧ yX8_advance.cls ≠ "java/lang/invoke/VarHandle" ∧ (parseMethodDescriptor yX8_advance.desc).map (fun d => d.parameters.length) = some 0 := by decide +kernel
def f_X8_advance_j18 (A : Nat → Nat → Int32) (w : Int64) (K0 : (Nat → Int32) → Option ((Nat → Int32) × (Int64))) (I : Nat → Int32) : Option ((Nat → Int32) × (Int64)) :=
  qf_let (upd I 4 ((I 4) + (1 : Int32))) fun I11 =>
  K0 I11
def f_X8_advance_j228 (A : Nat → Nat → Int32) (K184 : (Nat → Int32) → (Int64) → Option ((Nat → Int32) × (Int64))) (I : Nat → Int32) (w : Int64) (s0 : Int32) : Option ((Nat → Int32) × (Int64)) :=
  qf_let (upd I 7 s0) fun I21 =>
  qf_let (upd I21 4 ((I21 4) + (1 : Int32))) fun I22 =>
  K184 I22 w
def f_X8_advance_l184 (A : Nat → Nat → Int32)   : Nat → (Nat → Int32) → (Int64) → Option ((Nat → Int32) × (Int64))
  | 0, _, _ => none
  | n + 1, I, w =>
  qf_bd (f_X8_peek I A) fun r14 =>
  qf_bd (f_X8_inRange r14 (48 : Int32) (57 : Int32)) fun r15 =>
  if r15 = 0 then (some (I, w)) else (if (I 7) ≤ (100000000 : Int32) then (qf_bd (f_X8_peek I A) fun r16 =>
      f_X8_advance_j228 A (fun z0 z1 => f_X8_advance_l184 A n z0 z1) I w ((((10 : Int32) * (I 7)) + r16) - (48 : Int32))) else (f_X8_advance_j228 A (fun z0 z1 => f_X8_advance_l184 A n z0 z1) I w (1000000000 : Int32)))
def f_X8_advance_j256 (A : Nat → Nat → Int32)  (I : Nat → Int32) (w : Int64) (s0 : Int32) : Option ((Nat → Int32) × (Int64)) :=
  qf_let (upd I 6 s0) fun I12 =>
  qf_let (upd I12 4 ((I12 4) + (1 : Int32))) fun I13 =>
  some (I13, w)
def f_X8_advance_j130 (A : Nat → Nat → Int32) (K82 : (Nat → Int32) → (Int64) → Option ((Nat → Int32) × (Int64))) (I : Nat → Int32) (w : Int64) (s0 : Int64) : Option ((Nat → Int32) × (Int64)) :=
  qf_let (upd I 4 ((I 4) + (1 : Int32))) fun I23 =>
  K82 I23 s0
def f_X8_advance_l82 (A : Nat → Nat → Int32)   : Nat → (Nat → Int32) → (Int64) → Option ((Nat → Int32) × (Int64))
  | 0, _, _ => none
  | n + 1, I, w =>
  qf_bd (f_X8_peek I A) fun r17 =>
  qf_bd (f_X8_inRange r17 (97 : Int32) (122 : Int32)) fun r18 =>
  if r18 = 0 then (if ((I 4) - (I 5)) ≤ (12 : Int32) then (some (I, w)) else (some (I, (0 : Int64)))) else (if (12 : Int32) ≤ ((I 4) - (I 5)) then (f_X8_advance_j130 A (fun z0 z1 => f_X8_advance_l82 A n z0 z1) I w (0 : Int64)) else (qf_bd (f_X8_peek I A) fun r19 =>
      qf_let (((w <<< ((5 : Int32).toInt64 &&& 63)) ||| ((r19 - (96 : Int32)).toInt64))) fun x20 =>
      f_X8_advance_j130 A (fun z0 z1 => f_X8_advance_l82 A n z0 z1) I w x20))
def f_X8_advance_l0 (A : Nat → Nat → Int32) (w : Int64)   : Nat → (Nat → Int32) → Option ((Nat → Int32) × (Int64))
  | 0, _ => none
  | n + 1, I =>
  qf_bd (f_X8_peek I A) fun r1 =>
  if r1 = (32 : Int32) then (f_X8_advance_j18 A w (fun z0 => f_X8_advance_l0 A w n z0) I) else (qf_bd (f_X8_peek I A) fun r2 =>
    if r2 = (10 : Int32) then (f_X8_advance_j18 A w (fun z0 => f_X8_advance_l0 A w n z0) I) else (qf_let (upd I 5 (I 4)) fun I3 =>
      qf_let (upd I3 7 (0 : Int32)) fun I4 =>
      qf_bd (f_X8_peek I4 A) fun r5 =>
      if 0 ≤ r5 then (qf_bd (f_X8_inRange r5 (97 : Int32) (122 : Int32)) fun r6 =>
        if r6 = 0 then (qf_bd (f_X8_inRange r5 (48 : Int32) (57 : Int32)) fun r7 =>
          if r7 = 0 then (if r5 = (59 : Int32) then (f_X8_advance_j256 A I4 (0 : Int64) (3 : Int32)) else (f_X8_advance_j256 A I4 (0 : Int64) (4 : Int32))) else (qf_let (upd I4 6 (2 : Int32)) fun I8 =>
            f_X8_advance_l184 A 100000 I8 (0 : Int64))) else (qf_let (upd I4 6 (1 : Int32)) fun I9 =>
          f_X8_advance_l82 A 100000 I9 (0 : Int64))) else (qf_let (upd I4 6 (0 : Int32)) fun I10 =>
        some (I10, (0 : Int64)))))
def f_X8_advance (A : Nat → Nat → Int32) (I : Nat → Int32) (w : Int64) : Option ((Nat → Int32) × (Int64)) :=
  f_X8_advance_l0 A w 100000 I
abbrev wz_X8_advance : List Cond := Cond.code yX8_advance cX8_advance 2 none :: qw_big
def rm_X8_advance : Room := { frames := 1, cells := 0, slots := 0, locals := 22 }
set_option maxHeartbeats 4000000 in
set_option maxRecDepth 100000 in
theorem c_X8_advance (l : Launch) {D : va_G} {cy : Nat → ClassId} {ad : Nat → Nat} {I : Nat → Int32} {A : Nat → Nat → Int32} {w : Int64}  {I9 : Nat → Int32} {w9 : Int64} {sz : Nat} (hf : f_X8_advance A I w = some (I9, w9)) : Met l yX8_advance wz_X8_advance rm_X8_advance (va_Pc [.ref (ad 0)] (qw_Pre D cy (Wm cy ad I A w) sz)) (qw_Q none D (Wm cy ad I9 A w9) (va_A (Wm cy ad I A w) sz)) 0 0 (va_A (Wm cy ad I A w) sz) := by
  refine qw_of (cc := cX8_advance) (maxL := 2) (ret := none) (by decide) (Nat.le_of_ble_eq_true rfl) ?_
  intro p e s m args below meth c ls S0 hr hlocks hsz V hl
  have S0 : CallFix p m c cX8_advance 2 s args qw_big RX8 := S0
  have hx := S0.1; have hb := S0.2.1; have hown := S0.2.2.2.1; have hts := S0.2.2.2.2
  have hl : lv_has ls 2 [(0, .ref (ad 0))] := hl
  generalize va_A (Wm cy ad I A w) sz = Z9 at V ⊢
  obtain ⟨Q9, hQ⟩ : ∃ q, q = MQ below (qw_Q none D (Wm cy ad I9 A w9) Z9) args s 0 0 Z9 := ⟨_, rfl⟩
  rw [← hQ]
  clear hsz
  have J_18 : ∀ {K0 : (Nat → Int32) → Option ((Nat → Int32) × (Int64))}  (hK0 : ∀ {I : Nat → Int32}  {H : Heap} {locs : List Loc} {ls : Array Slot}, K0 I = some (I9, w9) → qw_V D cy Z9 s (Wm cy ad I A w) H locs → lv_has ls 2 [(0, .ref (ad 0))] → W p l e rm_X8_advance s m args below meth c H locs 0 0 Q9 (F0 m 0 ls [])) {I : Nat → Int32}  {H : Heap} {locs : List Loc} {ls : Array Slot}, f_X8_advance_j18 A w K0 I = some (I9, w9) → qw_V D cy Z9 s (Wm cy ad I A w) H locs → lv_has ls 2 [(0, .ref (ad 0))] → W p l e rm_X8_advance s m args below meth c H locs 0 0 Q9 (F0 m 18 ls []) := by
    intro K0 hK0 I H locs ls hf V hl
    unfold f_X8_advance_j18 at hf
    refine lv_aload_n hx hb dX8_advance_18 rfl (lv_at hl 0 rfl) ?_
    refine lv_dup hx hb dX8_advance_19 rfl ?_
    refine gfM_0_10 S0 V kl_X8_62 dX8_advance_20 ?_
    refine lv_iconst (v := 1) hx hb dX8_advance_23 (by decide) ?_
    refine lv_iadd hx hb dX8_advance_24 ?_
    refine pfM_0_10 S0 V kl_X8_62 dX8_advance_25 (fun H locs I11 e_I11 V => ?_)
    replace hf := qf_let_e e_I11 hf
    refine lv_goto (tgt := 0) hx hb dX8_advance_28 (by decide) ?_
    exact hK0 hf V (lv_sub hl [0] rfl)
  have J_228 : ∀ {K184 : (Nat → Int32) → (Int64) → Option ((Nat → Int32) × (Int64))}  (hK184 : ∀ {I : Nat → Int32} {w : Int64}  {H : Heap} {locs : List Loc} {ls : Array Slot}, K184 I w = some (I9, w9) → qw_V D cy Z9 s (Wm cy ad I A w) H locs → lv_has ls 2 [(0, .ref (ad 0))] → W p l e rm_X8_advance s m args below meth c H locs 0 0 Q9 (F0 m 184 ls [])) {I : Nat → Int32} {w : Int64} {s0 : Int32} {H : Heap} {locs : List Loc} {ls : Array Slot}, f_X8_advance_j228 A K184 I w s0 = some (I9, w9) → qw_V D cy Z9 s (Wm cy ad I A w) H locs → lv_has ls 2 [(0, .ref (ad 0))] → W p l e rm_X8_advance s m args below meth c H locs 0 0 Q9 (F0 m 228 ls [.int s0, .ref (ad 0)]) := by
    intro K184 hK184 I w s0 H locs ls hf V hl
    unfold f_X8_advance_j228 at hf
    refine pfM_0_14 S0 V kl_X8_79 dX8_advance_228 (fun H locs I21 e_I21 V => ?_)
    replace hf := qf_let_e e_I21 hf
    refine lv_aload_n hx hb dX8_advance_231 rfl (lv_at hl 0 rfl) ?_
    refine lv_dup hx hb dX8_advance_232 rfl ?_
    refine gfM_0_10 S0 V kl_X8_62 dX8_advance_233 ?_
    refine lv_iconst (v := 1) hx hb dX8_advance_236 (by decide) ?_
    refine lv_iadd hx hb dX8_advance_237 ?_
    refine pfM_0_10 S0 V kl_X8_62 dX8_advance_238 (fun H locs I22 e_I22 V => ?_)
    replace hf := qf_let_e e_I22 hf
    refine lv_goto (tgt := 184) hx hb dX8_advance_241 (by decide) ?_
    exact hK184 hf V (lv_sub hl [0] rfl)
  have L_184 : ∀   {n : Nat} {I : Nat → Int32} {w : Int64}  {H : Heap} {locs : List Loc} {ls : Array Slot}, f_X8_advance_l184 A n I w = some (I9, w9) → qw_V D cy Z9 s (Wm cy ad I A w) H locs → lv_has ls 2 [(0, .ref (ad 0))] → W p l e rm_X8_advance s m args below meth c H locs 0 0 Q9 (F0 m 184 ls []) := by
    intro n
    induction n with
    | zero => intro I w H locs ls hf V hl; exact qf_no hf
    | succ n ih =>
      intro I w H locs ls hf V hl
      rw [f_X8_advance_l184] at hf
      refine lv_aload_n hx hb dX8_advance_184 rfl (lv_at hl 0 rfl) ?_
      obtain ⟨r14, hc_185, hf⟩ := qf_bd_e hf
      refine qw_cVR (rest := []) (st1 := [.int r14]) S0 V hl 0 gM_0 rfl (c_X8_peek l hc_185) kg_X8_68 rfl ⟨rfl, rfl⟩ kd_X8_peek ⟨Nat.le_of_ble_eq_true rfl, Nat.le_of_ble_eq_true rfl⟩ rfl rfl (Nat.le_of_ble_eq_true rfl) ⟨Nat.zero_le _, Nat.zero_le _⟩ rfl dX8_advance_185 ?_
      refine lv_bipush (v := 48) hx hb dX8_advance_188 (by decide) ?_
      refine lv_bipush (v := 57) hx hb dX8_advance_190 (by decide) ?_
      obtain ⟨r15, hc_192, hf⟩ := qf_bd_e hf
      refine qw_cSR (rest := []) (st1 := [.int r15]) S0 V hl (c_X8_inRange l hc_192) kg_X8_85 rfl ⟨rfl, rfl⟩ kd_X8_inRange ⟨Nat.le_of_ble_eq_true rfl, Nat.le_of_ble_eq_true rfl⟩ rfl rfl (Nat.le_of_ble_eq_true rfl) ⟨Nat.zero_le _, Nat.zero_le _⟩ rfl dX8_advance_192 ?_
      refine lv_if_eq (tgt := 269) hx hb dX8_advance_195 (by decide) (fun c_195 => ?_) (fun c_195 => ?_)
      · replace hf := qf_t c_195 hf
        have hE := Option.some.inj hf
        obtain ⟨e0, hE⟩ := qf_pr hE
        exact qw_vreti S0 hr hlocks hQ (by rw [e0, hE]) V dX8_advance_269
      · replace hf := qf_f c_195 hf
        refine lv_aload_n hx hb dX8_advance_198 rfl (lv_at hl 0 rfl) ?_
        refine lv_aload_n hx hb dX8_advance_199 rfl (lv_at hl 0 rfl) ?_
        refine gfM_0_14 S0 V kl_X8_79 dX8_advance_200 ?_
        refine lv_ldc (v := 100000000) hx hb hown (hts _ kct_X8_89) dX8_advance_203 ?_
        refine lv_icmp_le (tgt := 213) hx hb dX8_advance_205 (by decide) (fun c_205 => ?_) (fun c_205 => ?_)
        · replace hf := qf_t c_205 hf
          refine lv_bipush (v := 10) hx hb dX8_advance_213 (by decide) ?_
          refine lv_aload_n hx hb dX8_advance_215 rfl (lv_at hl 0 rfl) ?_
          refine gfM_0_14 S0 V kl_X8_79 dX8_advance_216 ?_
          refine lv_imul hx hb dX8_advance_219 ?_
          refine lv_aload_n hx hb dX8_advance_220 rfl (lv_at hl 0 rfl) ?_
          obtain ⟨r16, hc_221, hf⟩ := qf_bd_e hf
          refine qw_cVR (rest := [.int ((10 : Int32) * (I 7)), .ref (ad 0)]) (st1 := [.int r16, .int ((10 : Int32) * (I 7)), .ref (ad 0)]) S0 V hl 0 gM_0 rfl (c_X8_peek l hc_221) kg_X8_68 rfl ⟨rfl, rfl⟩ kd_X8_peek ⟨Nat.le_of_ble_eq_true rfl, Nat.le_of_ble_eq_true rfl⟩ rfl rfl (Nat.le_of_ble_eq_true rfl) ⟨Nat.zero_le _, Nat.zero_le _⟩ rfl dX8_advance_221 ?_
          refine lv_iadd hx hb dX8_advance_224 ?_
          refine lv_bipush (v := 48) hx hb dX8_advance_225 (by decide) ?_
          refine lv_isub hx hb dX8_advance_227 ?_
          exact J_228 (fun hf V hl => ih hf V hl) hf V (lv_sub hl [0] rfl)
        · replace hf := qf_f c_205 hf
          refine lv_ldc (v := 1000000000) hx hb hown (hts _ kct_X8_90) dX8_advance_208 ?_
          refine lv_goto (tgt := 228) hx hb dX8_advance_210 (by decide) ?_
          exact J_228 (fun hf V hl => ih hf V hl) hf V (lv_sub hl [0] rfl)
  have J_256 : ∀  {I : Nat → Int32} {w : Int64} {s0 : Int32} {H : Heap} {locs : List Loc} {ls : Array Slot}, f_X8_advance_j256 A I w s0 = some (I9, w9) → qw_V D cy Z9 s (Wm cy ad I A w) H locs → lv_has ls 2 [(0, .ref (ad 0))] → W p l e rm_X8_advance s m args below meth c H locs 0 0 Q9 (F0 m 256 ls [.int s0, .ref (ad 0)]) := by
    intro I w s0 H locs ls hf V hl
    unfold f_X8_advance_j256 at hf
    refine pfM_0_12 S0 V kl_X8_82 dX8_advance_256 (fun H locs I12 e_I12 V => ?_)
    replace hf := qf_let_e e_I12 hf
    refine lv_aload_n hx hb dX8_advance_259 rfl (lv_at hl 0 rfl) ?_
    refine lv_dup hx hb dX8_advance_260 rfl ?_
    refine gfM_0_10 S0 V kl_X8_62 dX8_advance_261 ?_
    refine lv_iconst (v := 1) hx hb dX8_advance_264 (by decide) ?_
    refine lv_iadd hx hb dX8_advance_265 ?_
    refine pfM_0_10 S0 V kl_X8_62 dX8_advance_266 (fun H locs I13 e_I13 V => ?_)
    replace hf := qf_let_e e_I13 hf
    have hE := Option.some.inj hf
    obtain ⟨e0, hE⟩ := qf_pr hE
    exact qw_vreti S0 hr hlocks hQ (by rw [e0, hE]) V dX8_advance_269
  have J_130 : ∀ {K82 : (Nat → Int32) → (Int64) → Option ((Nat → Int32) × (Int64))}  (hK82 : ∀ {I : Nat → Int32} {w : Int64}  {H : Heap} {locs : List Loc} {ls : Array Slot}, K82 I w = some (I9, w9) → qw_V D cy Z9 s (Wm cy ad I A w) H locs → lv_has ls 2 [(0, .ref (ad 0))] → W p l e rm_X8_advance s m args below meth c H locs 0 0 Q9 (F0 m 82 ls [])) {I : Nat → Int32} {w : Int64} {s0 : Int64} {H : Heap} {locs : List Loc} {ls : Array Slot}, f_X8_advance_j130 A K82 I w s0 = some (I9, w9) → qw_V D cy Z9 s (Wm cy ad I A w) H locs → lv_has ls 2 [(0, .ref (ad 0))] → W p l e rm_X8_advance s m args below meth c H locs 0 0 Q9 (F0 m 130 ls [.long s0, .ref (ad 0)]) := by
    intro K82 hK82 I w s0 H locs ls hf V hl
    unfold f_X8_advance_j130 at hf
    refine pfM_0_13 S0 V kl_X8_75 dX8_advance_130 (fun H locs V => ?_)
    refine lv_aload_n hx hb dX8_advance_133 rfl (lv_at hl 0 rfl) ?_
    refine lv_dup hx hb dX8_advance_134 rfl ?_
    refine gfM_0_10 S0 V kl_X8_62 dX8_advance_135 ?_
    refine lv_iconst (v := 1) hx hb dX8_advance_138 (by decide) ?_
    refine lv_iadd hx hb dX8_advance_139 ?_
    refine pfM_0_10 S0 V kl_X8_62 dX8_advance_140 (fun H locs I23 e_I23 V => ?_)
    replace hf := qf_let_e e_I23 hf
    refine lv_goto (tgt := 82) hx hb dX8_advance_143 (by decide) ?_
    exact hK82 hf V (lv_sub hl [0] rfl)
  have L_82 : ∀   {n : Nat} {I : Nat → Int32} {w : Int64}  {H : Heap} {locs : List Loc} {ls : Array Slot}, f_X8_advance_l82 A n I w = some (I9, w9) → qw_V D cy Z9 s (Wm cy ad I A w) H locs → lv_has ls 2 [(0, .ref (ad 0))] → W p l e rm_X8_advance s m args below meth c H locs 0 0 Q9 (F0 m 82 ls []) := by
    intro n
    induction n with
    | zero => intro I w H locs ls hf V hl; exact qf_no hf
    | succ n ih =>
      intro I w H locs ls hf V hl
      rw [f_X8_advance_l82] at hf
      refine lv_aload_n hx hb dX8_advance_82 rfl (lv_at hl 0 rfl) ?_
      obtain ⟨r17, hc_83, hf⟩ := qf_bd_e hf
      refine qw_cVR (rest := []) (st1 := [.int r17]) S0 V hl 0 gM_0 rfl (c_X8_peek l hc_83) kg_X8_68 rfl ⟨rfl, rfl⟩ kd_X8_peek ⟨Nat.le_of_ble_eq_true rfl, Nat.le_of_ble_eq_true rfl⟩ rfl rfl (Nat.le_of_ble_eq_true rfl) ⟨Nat.zero_le _, Nat.zero_le _⟩ rfl dX8_advance_83 ?_
      refine lv_bipush (v := 97) hx hb dX8_advance_86 (by decide) ?_
      refine lv_bipush (v := 122) hx hb dX8_advance_88 (by decide) ?_
      obtain ⟨r18, hc_90, hf⟩ := qf_bd_e hf
      refine qw_cSR (rest := []) (st1 := [.int r18]) S0 V hl (c_X8_inRange l hc_90) kg_X8_85 rfl ⟨rfl, rfl⟩ kd_X8_inRange ⟨Nat.le_of_ble_eq_true rfl, Nat.le_of_ble_eq_true rfl⟩ rfl rfl (Nat.le_of_ble_eq_true rfl) ⟨Nat.zero_le _, Nat.zero_le _⟩ rfl dX8_advance_90 ?_
      refine lv_if_eq (tgt := 146) hx hb dX8_advance_93 (by decide) (fun c_93 => ?_) (fun c_93 => ?_)
      · replace hf := qf_t c_93 hf
        refine lv_aload_n hx hb dX8_advance_146 rfl (lv_at hl 0 rfl) ?_
        refine gfM_0_10 S0 V kl_X8_62 dX8_advance_147 ?_
        refine lv_aload_n hx hb dX8_advance_150 rfl (lv_at hl 0 rfl) ?_
        refine gfM_0_11 S0 V kl_X8_72 dX8_advance_151 ?_
        refine lv_isub hx hb dX8_advance_154 ?_
        refine lv_bipush (v := 12) hx hb dX8_advance_155 (by decide) ?_
        refine lv_icmp_le (tgt := 269) hx hb dX8_advance_157 (by decide) (fun c_157 => ?_) (fun c_157 => ?_)
        · replace hf := qf_t c_157 hf
          have hE := Option.some.inj hf
          obtain ⟨e0, hE⟩ := qf_pr hE
          exact qw_vreti S0 hr hlocks hQ (by rw [e0, hE]) V dX8_advance_269
        · replace hf := qf_f c_157 hf
          refine lv_aload_n hx hb dX8_advance_160 rfl (lv_at hl 0 rfl) ?_
          refine lv_lconst (v := 0) hx hb dX8_advance_161 rfl ?_
          refine pfM_0_13 S0 V kl_X8_75 dX8_advance_162 (fun H locs V => ?_)
          refine lv_goto (tgt := 269) hx hb dX8_advance_165 (by decide) ?_
          have hE := Option.some.inj hf
          obtain ⟨e0, hE⟩ := qf_pr hE
          exact qw_vreti S0 hr hlocks hQ (by rw [e0, hE]) V dX8_advance_269
      · replace hf := qf_f c_93 hf
        refine lv_aload_n hx hb dX8_advance_96 rfl (lv_at hl 0 rfl) ?_
        refine lv_aload_n hx hb dX8_advance_97 rfl (lv_at hl 0 rfl) ?_
        refine gfM_0_10 S0 V kl_X8_62 dX8_advance_98 ?_
        refine lv_aload_n hx hb dX8_advance_101 rfl (lv_at hl 0 rfl) ?_
        refine gfM_0_11 S0 V kl_X8_72 dX8_advance_102 ?_
        refine lv_isub hx hb dX8_advance_105 ?_
        refine lv_bipush (v := 12) hx hb dX8_advance_106 (by decide) ?_
        refine lv_icmp_ge (tgt := 129) hx hb dX8_advance_108 (by decide) (fun c_108 => ?_) (fun c_108 => ?_)
        · replace hf := qf_t c_108 hf
          refine lv_lconst (v := 0) hx hb dX8_advance_129 rfl ?_
          exact J_130 (fun hf V hl => ih hf V hl) hf V (lv_sub hl [0] rfl)
        · replace hf := qf_f c_108 hf
          refine lv_aload_n hx hb dX8_advance_111 rfl (lv_at hl 0 rfl) ?_
          refine gfM_0_13 S0 V kl_X8_75 dX8_advance_112 ?_
          refine lv_iconst (v := 5) hx hb dX8_advance_115 (by decide) ?_
          refine lv_lshl hx hb dX8_advance_116 rfl ?_
          refine lv_aload_n hx hb dX8_advance_117 rfl (lv_at hl 0 rfl) ?_
          obtain ⟨r19, hc_118, hf⟩ := qf_bd_e hf
          refine qw_cVR (rest := [.long (w <<< ((5 : Int32).toInt64 &&& 63)), .ref (ad 0)]) (st1 := [.int r19, .long (w <<< ((5 : Int32).toInt64 &&& 63)), .ref (ad 0)]) S0 V hl 0 gM_0 rfl (c_X8_peek l hc_118) kg_X8_68 rfl ⟨rfl, rfl⟩ kd_X8_peek ⟨Nat.le_of_ble_eq_true rfl, Nat.le_of_ble_eq_true rfl⟩ rfl rfl (Nat.le_of_ble_eq_true rfl) ⟨Nat.zero_le _, Nat.zero_le _⟩ rfl dX8_advance_118 ?_
          refine lv_bipush (v := 96) hx hb dX8_advance_121 (by decide) ?_
          refine lv_isub hx hb dX8_advance_123 ?_
          refine lv_i2l hx hb dX8_advance_124 rfl ?_
          refine lv_lor hx hb dX8_advance_125 ?_
          refine lv_topl (fun x20 e_x20 => ?_)
          replace hf := qf_let_e e_x20 hf
          refine lv_goto (tgt := 130) hx hb dX8_advance_126 (by decide) ?_
          exact J_130 (fun hf V hl => ih hf V hl) hf V (lv_sub hl [0] rfl)
  have L_0 : ∀   {n : Nat} {I : Nat → Int32}  {H : Heap} {locs : List Loc} {ls : Array Slot}, f_X8_advance_l0 A w n I = some (I9, w9) → qw_V D cy Z9 s (Wm cy ad I A w) H locs → lv_has ls 2 [(0, .ref (ad 0))] → W p l e rm_X8_advance s m args below meth c H locs 0 0 Q9 (F0 m 0 ls []) := by
    intro n
    induction n with
    | zero => intro I H locs ls hf V hl; exact qf_no hf
    | succ n ih =>
      intro I H locs ls hf V hl
      rw [f_X8_advance_l0] at hf
      refine lv_aload_n hx hb dX8_advance_0 rfl (lv_at hl 0 rfl) ?_
      obtain ⟨r1, hc_1, hf⟩ := qf_bd_e hf
      refine qw_cVR (rest := []) (st1 := [.int r1]) S0 V hl 0 gM_0 rfl (c_X8_peek l hc_1) kg_X8_68 rfl ⟨rfl, rfl⟩ kd_X8_peek ⟨Nat.le_of_ble_eq_true rfl, Nat.le_of_ble_eq_true rfl⟩ rfl rfl (Nat.le_of_ble_eq_true rfl) ⟨Nat.zero_le _, Nat.zero_le _⟩ rfl dX8_advance_1 ?_
      refine lv_bipush (v := 32) hx hb dX8_advance_4 (by decide) ?_
      refine lv_icmp_eq (tgt := 18) hx hb dX8_advance_6 (by decide) (fun c_6 => ?_) (fun c_6 => ?_)
      · replace hf := qf_t c_6 hf
        exact J_18 (fun hf V hl => ih hf V hl) hf V (lv_sub hl [0] rfl)
      · replace hf := qf_f c_6 hf
        refine lv_aload_n hx hb dX8_advance_9 rfl (lv_at hl 0 rfl) ?_
        obtain ⟨r2, hc_10, hf⟩ := qf_bd_e hf
        refine qw_cVR (rest := []) (st1 := [.int r2]) S0 V hl 0 gM_0 rfl (c_X8_peek l hc_10) kg_X8_68 rfl ⟨rfl, rfl⟩ kd_X8_peek ⟨Nat.le_of_ble_eq_true rfl, Nat.le_of_ble_eq_true rfl⟩ rfl rfl (Nat.le_of_ble_eq_true rfl) ⟨Nat.zero_le _, Nat.zero_le _⟩ rfl dX8_advance_10 ?_
        refine lv_bipush (v := 10) hx hb dX8_advance_13 (by decide) ?_
        refine lv_icmp_ne (tgt := 31) hx hb dX8_advance_15 (by decide) (fun c_15 => ?_) (fun c_15 => ?_)
        · replace hf := qf_f c_15 hf
          refine lv_aload_n hx hb dX8_advance_31 rfl (lv_at hl 0 rfl) ?_
          refine lv_aload_n hx hb dX8_advance_32 rfl (lv_at hl 0 rfl) ?_
          refine gfM_0_10 S0 V kl_X8_62 dX8_advance_33 ?_
          refine pfM_0_11 S0 V kl_X8_72 dX8_advance_36 (fun H locs I3 e_I3 V => ?_)
          replace hf := qf_let_e e_I3 hf
          refine lv_aload_n hx hb dX8_advance_39 rfl (lv_at hl 0 rfl) ?_
          refine lv_lconst (v := 0) hx hb dX8_advance_40 rfl ?_
          refine pfM_0_13 S0 V kl_X8_75 dX8_advance_41 (fun H locs V => ?_)
          refine lv_aload_n hx hb dX8_advance_44 rfl (lv_at hl 0 rfl) ?_
          refine lv_iconst (v := 0) hx hb dX8_advance_45 (by decide) ?_
          refine pfM_0_14 S0 V kl_X8_79 dX8_advance_46 (fun H locs I4 e_I4 V => ?_)
          replace hf := qf_let_e e_I4 hf
          refine lv_aload_n hx hb dX8_advance_49 rfl (lv_at hl 0 rfl) ?_
          obtain ⟨r5, hc_50, hf⟩ := qf_bd_e hf
          refine qw_cVR (rest := []) (st1 := [.int r5]) S0 V hl 0 gM_0 rfl (c_X8_peek l hc_50) kg_X8_68 rfl ⟨rfl, rfl⟩ kd_X8_peek ⟨Nat.le_of_ble_eq_true rfl, Nat.le_of_ble_eq_true rfl⟩ rfl rfl (Nat.le_of_ble_eq_true rfl) ⟨Nat.zero_le _, Nat.zero_le _⟩ rfl dX8_advance_50 ?_
          refine lv_istore_n (lv' := [(1, .int r5), (0, .ref (ad 0))]) hx hb dX8_advance_53 rfl hl (by decide) rfl (fun ls hl => ?_)
          refine lv_iload_n hx hb dX8_advance_54 rfl (lv_at hl 0 rfl) ?_
          refine lv_if_ge (tgt := 66) hx hb dX8_advance_55 (by decide) (fun c_55 => ?_) (fun c_55 => ?_)
          · replace hf := qf_t c_55 hf
            refine lv_iload_n hx hb dX8_advance_66 rfl (lv_at hl 0 rfl) ?_
            refine lv_bipush (v := 97) hx hb dX8_advance_67 (by decide) ?_
            refine lv_bipush (v := 122) hx hb dX8_advance_69 (by decide) ?_
            obtain ⟨r6, hc_71, hf⟩ := qf_bd_e hf
            refine qw_cSR (rest := []) (st1 := [.int r6]) S0 V hl (c_X8_inRange l hc_71) kg_X8_85 rfl ⟨rfl, rfl⟩ kd_X8_inRange ⟨Nat.le_of_ble_eq_true rfl, Nat.le_of_ble_eq_true rfl⟩ rfl rfl (Nat.le_of_ble_eq_true rfl) ⟨Nat.zero_le _, Nat.zero_le _⟩ rfl dX8_advance_71 ?_
            refine lv_if_eq (tgt := 168) hx hb dX8_advance_74 (by decide) (fun c_74 => ?_) (fun c_74 => ?_)
            · replace hf := qf_t c_74 hf
              refine lv_iload_n hx hb dX8_advance_168 rfl (lv_at hl 0 rfl) ?_
              refine lv_bipush (v := 48) hx hb dX8_advance_169 (by decide) ?_
              refine lv_bipush (v := 57) hx hb dX8_advance_171 (by decide) ?_
              obtain ⟨r7, hc_173, hf⟩ := qf_bd_e hf
              refine qw_cSR (rest := []) (st1 := [.int r7]) S0 V hl (c_X8_inRange l hc_173) kg_X8_85 rfl ⟨rfl, rfl⟩ kd_X8_inRange ⟨Nat.le_of_ble_eq_true rfl, Nat.le_of_ble_eq_true rfl⟩ rfl rfl (Nat.le_of_ble_eq_true rfl) ⟨Nat.zero_le _, Nat.zero_le _⟩ rfl dX8_advance_173 ?_
              refine lv_if_eq (tgt := 244) hx hb dX8_advance_176 (by decide) (fun c_176 => ?_) (fun c_176 => ?_)
              · replace hf := qf_t c_176 hf
                refine lv_aload_n hx hb dX8_advance_244 rfl (lv_at hl 1 rfl) ?_
                refine lv_iload_n hx hb dX8_advance_245 rfl (lv_at hl 0 rfl) ?_
                refine lv_bipush (v := 59) hx hb dX8_advance_246 (by decide) ?_
                refine lv_icmp_ne (tgt := 255) hx hb dX8_advance_248 (by decide) (fun c_248 => ?_) (fun c_248 => ?_)
                · replace hf := qf_f c_248 hf
                  refine lv_iconst (v := 4) hx hb dX8_advance_255 (by decide) ?_
                  exact J_256 hf V (lv_sub hl [1] rfl)
                · replace hf := qf_t c_248 hf
                  refine lv_iconst (v := 3) hx hb dX8_advance_251 (by decide) ?_
                  refine lv_goto (tgt := 256) hx hb dX8_advance_252 (by decide) ?_
                  exact J_256 hf V (lv_sub hl [1] rfl)
              · replace hf := qf_f c_176 hf
                refine lv_aload_n hx hb dX8_advance_179 rfl (lv_at hl 1 rfl) ?_
                refine lv_iconst (v := 2) hx hb dX8_advance_180 (by decide) ?_
                refine pfM_0_12 S0 V kl_X8_82 dX8_advance_181 (fun H locs I8 e_I8 V => ?_)
                replace hf := qf_let_e e_I8 hf
                exact L_184 hf V (lv_sub hl [1] rfl)
            · replace hf := qf_f c_74 hf
              refine lv_aload_n hx hb dX8_advance_77 rfl (lv_at hl 1 rfl) ?_
              refine lv_iconst (v := 1) hx hb dX8_advance_78 (by decide) ?_
              refine pfM_0_12 S0 V kl_X8_82 dX8_advance_79 (fun H locs I9 e_I9 V => ?_)
              replace hf := qf_let_e e_I9 hf
              exact L_82 hf V (lv_sub hl [1] rfl)
          · replace hf := qf_f c_55 hf
            refine lv_aload_n hx hb dX8_advance_58 rfl (lv_at hl 1 rfl) ?_
            refine lv_iconst (v := 0) hx hb dX8_advance_59 (by decide) ?_
            refine pfM_0_12 S0 V kl_X8_82 dX8_advance_60 (fun H locs I10 e_I10 V => ?_)
            replace hf := qf_let_e e_I10 hf
            refine lv_goto (tgt := 269) hx hb dX8_advance_63 (by decide) ?_
            have hE := Option.some.inj hf
            obtain ⟨e0, hE⟩ := qf_pr hE
            exact qw_vreti S0 hr hlocks hQ (by rw [e0, hE]) V dX8_advance_269
        · replace hf := qf_t c_15 hf
          exact J_18 (fun hf V hl => ih hf V hl) hf V (lv_sub hl [0] rfl)
  unfold f_X8_advance at hf
  exact L_0 hf V (lv_sub hl [0] rfl)
theorem kd_X8_check : yX8_check.cls = RX8 ∧ yX8_check.cls ≠ "java/lang/invoke/MethodHandle" ∧ yX8_check.cls ≠ "java/lang/invoke/VarHandle" ∧ (parseMethodDescriptor yX8_check.desc).map (fun d => d.parameters.length) = some 2 := by decide +kernel
def f_X8_check (I : Nat → Int32) (p1 : Int32) (p2 : Int32) : Option ((Nat → Int32)) :=
  if p1 = 0 then (if (I 8) = 0 then (qf_let (upd I 8 p2) fun I1 =>
      qf_let (upd I1 9 (I1 5)) fun I2 =>
      some (I2)) else (some (I))) else (some (I))
abbrev wz_X8_check : List Cond := Cond.code yX8_check cX8_check 3 none :: qw_big
def rm_X8_check : Room := { frames := 0, cells := 0, slots := 0, locals := 0 }
set_option maxHeartbeats 4000000 in
set_option maxRecDepth 100000 in
theorem c_X8_check (l : Launch) {D : va_G} {cy : Nat → ClassId} {ad : Nat → Nat} {I : Nat → Int32} {A : Nat → Nat → Int32} {w : Int64} {p1 : Int32} {p2 : Int32} {I9 : Nat → Int32} {sz : Nat} (hf : f_X8_check I p1 p2 = some (I9)) : Met l yX8_check wz_X8_check rm_X8_check (va_Pc [.ref (ad 0), .int p1, .int p2] (qw_Pre D cy (Wm cy ad I A w) sz)) (qw_Q none D (Wm cy ad I9 A w) (va_A (Wm cy ad I A w) sz)) 0 0 (va_A (Wm cy ad I A w) sz) := by
  refine qw_of (cc := cX8_check) (maxL := 3) (ret := none) (by decide) (Nat.le_of_ble_eq_true rfl) ?_
  intro p e s m args below meth c ls S0 hr hlocks hsz V hl
  have S0 : CallFix p m c cX8_check 3 s args qw_big RX8 := S0
  have hx := S0.1; have hb := S0.2.1; have hown := S0.2.2.2.1; have hts := S0.2.2.2.2
  have hl : lv_has ls 3 [(0, .ref (ad 0)), (1, .int p1), (2, .int p2)] := hl
  generalize va_A (Wm cy ad I A w) sz = Z9 at V ⊢
  obtain ⟨Q9, hQ⟩ : ∃ q, q = MQ below (qw_Q none D (Wm cy ad I9 A w) Z9) args s 0 0 Z9 := ⟨_, rfl⟩
  rw [← hQ]
  clear hsz
  unfold f_X8_check at hf
  refine lv_iload_n hx hb dX8_check_0 rfl (lv_at hl 1 rfl) ?_
  refine lv_if_ne (tgt := 11) hx hb dX8_check_1 (by decide) (fun c_1 => ?_) (fun c_1 => ?_)
  · replace hf := qf_f c_1 hf
    have hE := Option.some.inj hf
    exact qw_vreti S0 hr hlocks hQ (by rw [hE]) V dX8_check_11
  · replace hf := qf_t c_1 hf
    refine lv_aload_n hx hb dX8_check_4 rfl (lv_at hl 0 rfl) ?_
    refine gfM_0_15 S0 V kl_X8_91 dX8_check_5 ?_
    refine lv_if_eq (tgt := 12) hx hb dX8_check_8 (by decide) (fun c_8 => ?_) (fun c_8 => ?_)
    · replace hf := qf_t c_8 hf
      refine lv_aload_n hx hb dX8_check_12 rfl (lv_at hl 0 rfl) ?_
      refine lv_iload_n hx hb dX8_check_13 rfl (lv_at hl 2 rfl) ?_
      refine pfM_0_15 S0 V kl_X8_91 dX8_check_14 (fun H locs I1 e_I1 V => ?_)
      replace hf := qf_let_e e_I1 hf
      refine lv_aload_n hx hb dX8_check_17 rfl (lv_at hl 0 rfl) ?_
      refine lv_aload_n hx hb dX8_check_18 rfl (lv_at hl 0 rfl) ?_
      refine gfM_0_11 S0 V kl_X8_72 dX8_check_19 ?_
      refine pfM_0_16 S0 V kl_X8_29 dX8_check_22 (fun H locs I2 e_I2 V => ?_)
      replace hf := qf_let_e e_I2 hf
      have hE := Option.some.inj hf
      exact qw_vreti S0 hr hlocks hQ (by rw [hE]) V dX8_check_25
    · replace hf := qf_f c_8 hf
      have hE := Option.some.inj hf
      exact qw_vreti S0 hr hlocks hQ (by rw [hE]) V dX8_check_11
theorem kd_X8_advanceIfGood : yX8_advanceIfGood.cls = RX8 ∧ yX8_advanceIfGood.cls ≠ "java/lang/invoke/MethodHandle" ∧ yX8_advanceIfGood.cls ≠ "java/lang/invoke/VarHandle" ∧ (parseMethodDescriptor yX8_advanceIfGood.desc).map (fun d => d.parameters.length) = some 0 := by decide +kernel
def f_X8_advanceIfGood (A : Nat → Nat → Int32) (I : Nat → Int32) (w : Int64) : Option ((Nat → Int32) × (Int64)) :=
  if (I 8) = 0 then (qf_bd2 (f_X8_advance A I w) fun I1 w2 =>
    some (I1, w2)) else (some (I, w))
abbrev wz_X8_advanceIfGood : List Cond := Cond.code yX8_advanceIfGood cX8_advanceIfGood 1 none :: qw_big
def rm_X8_advanceIfGood : Room := { frames := 2, cells := 0, slots := 0, locals := 43 }
set_option maxHeartbeats 4000000 in
set_option maxRecDepth 100000 in
theorem c_X8_advanceIfGood (l : Launch) {D : va_G} {cy : Nat → ClassId} {ad : Nat → Nat} {I : Nat → Int32} {A : Nat → Nat → Int32} {w : Int64}  {I9 : Nat → Int32} {w9 : Int64} {sz : Nat} (hf : f_X8_advanceIfGood A I w = some (I9, w9)) : Met l yX8_advanceIfGood wz_X8_advanceIfGood rm_X8_advanceIfGood (va_Pc [.ref (ad 0)] (qw_Pre D cy (Wm cy ad I A w) sz)) (qw_Q none D (Wm cy ad I9 A w9) (va_A (Wm cy ad I A w) sz)) 0 0 (va_A (Wm cy ad I A w) sz) := by
  refine qw_of (cc := cX8_advanceIfGood) (maxL := 1) (ret := none) (by decide) (Nat.le_of_ble_eq_true rfl) ?_
  intro p e s m args below meth c ls S0 hr hlocks hsz V hl
  have S0 : CallFix p m c cX8_advanceIfGood 1 s args qw_big RX8 := S0
  have hx := S0.1; have hb := S0.2.1; have hown := S0.2.2.2.1; have hts := S0.2.2.2.2
  have hl : lv_has ls 1 [(0, .ref (ad 0))] := hl
  generalize va_A (Wm cy ad I A w) sz = Z9 at V ⊢
  obtain ⟨Q9, hQ⟩ : ∃ q, q = MQ below (qw_Q none D (Wm cy ad I9 A w9) Z9) args s 0 0 Z9 := ⟨_, rfl⟩
  rw [← hQ]
  clear hsz
  unfold f_X8_advanceIfGood at hf
  refine lv_aload_n hx hb dX8_advanceIfGood_0 rfl (lv_at hl 0 rfl) ?_
  refine gfM_0_15 S0 V kl_X8_91 dX8_advanceIfGood_1 ?_
  refine lv_if_ne (tgt := 11) hx hb dX8_advanceIfGood_4 (by decide) (fun c_4 => ?_) (fun c_4 => ?_)
  · replace hf := qf_f c_4 hf
    have hE := Option.some.inj hf
    obtain ⟨e0, hE⟩ := qf_pr hE
    exact qw_vreti S0 hr hlocks hQ (by rw [e0, hE]) V dX8_advanceIfGood_11
  · replace hf := qf_t c_4 hf
    refine lv_aload_n hx hb dX8_advanceIfGood_7 rfl (lv_at hl 0 rfl) ?_
    obtain ⟨I1, w2, hc_8, hf⟩ := qf_bd2_e hf
    refine qw_cV (rest := []) (st1 := []) S0 V hl 0 gM_0 rfl (c_X8_advance l hc_8) kg_X8_94 rfl ⟨rfl, rfl⟩ kd_X8_advance ⟨Nat.le_of_ble_eq_true rfl, Nat.le_of_ble_eq_true rfl⟩ rfl rfl (Nat.le_of_ble_eq_true rfl) ⟨Nat.zero_le _, Nat.zero_le _⟩ rfl dX8_advanceIfGood_8 (fun H locs V => ?_)
    have hE := Option.some.inj hf
    obtain ⟨e0, hE⟩ := qf_pr hE
    exact qw_vreti S0 hr hlocks hQ (by rw [e0, hE]) V dX8_advanceIfGood_11
theorem kd_X8_isWord : yX8_isWord.cls = RX8 ∧ yX8_isWord.cls ≠ "java/lang/invoke/MethodHandle" ∧ yX8_isWord.cls ≠ "java/lang/invoke/VarHandle" ∧ (parseMethodDescriptor yX8_isWord.desc).map (fun d => d.parameters.length) = some 1 := by decide +kernel
def f_X8_isWord (I : Nat → Int32) (w : Int64) (p1 : Int64) : Option (Int32) :=
  if (I 8) = 0 then (if (I 6) = (1 : Int32) then (if (lg_cmp w p1) = 0 then (some ((1 : Int32))) else (some ((0 : Int32)))) else (some ((0 : Int32)))) else (some ((0 : Int32)))
abbrev wz_X8_isWord : List Cond := Cond.code yX8_isWord cX8_isWord 3 (some .boolean) :: qw_big
def rm_X8_isWord : Room := { frames := 0, cells := 0, slots := 0, locals := 0 }
set_option maxHeartbeats 4000000 in
set_option maxRecDepth 100000 in
theorem c_X8_isWord (l : Launch) {D : va_G} {cy : Nat → ClassId} {ad : Nat → Nat} {I : Nat → Int32} {A : Nat → Nat → Int32} {w : Int64} {p1 : Int64} {rv : Int32} {sz : Nat} (hf : f_X8_isWord I w p1 = some (rv)) : Met l yX8_isWord wz_X8_isWord rm_X8_isWord (va_Pc [.ref (ad 0), .long p1] (qw_Pre D cy (Wm cy ad I A w) sz)) (qw_R (some (.int rv))) 0 0 (fun _ => False) := by
  refine qw_of (cc := cX8_isWord) (maxL := 3) (ret := (some .boolean)) (by decide) (Nat.le_of_ble_eq_true rfl) ?_
  intro p e s m args below meth c ls S0 hr hlocks hsz V hl
  have S0 : CallFix p m c cX8_isWord 3 s args qw_big RX8 := S0
  have hx := S0.1; have hb := S0.2.1; have hown := S0.2.2.2.1; have hts := S0.2.2.2.2
  have hl : lv_has ls 3 [(0, .ref (ad 0)), (1, .long p1)] := hl
  obtain ⟨Q9, hQ⟩ : ∃ q, q = MQ below (qw_R (some (.int rv))) args s 0 0 (fun _ => False) := ⟨_, rfl⟩
  rw [← hQ]
  generalize va_A (Wm cy ad I A w) sz = Z9 at V
  unfold f_X8_isWord at hf
  refine lv_aload_n hx hb dX8_isWord_0 rfl (lv_at hl 0 rfl) ?_
  refine gfM_0_15 S0 V kl_X8_91 dX8_isWord_1 ?_
  refine lv_if_ne (tgt := 28) hx hb dX8_isWord_4 (by decide) (fun c_4 => ?_) (fun c_4 => ?_)
  · replace hf := qf_f c_4 hf
    refine lv_iconst (v := 0) hx hb dX8_isWord_28 (by decide) ?_
    have hE := Option.some.inj hf
    exact qw_zretR S0 hr hlocks hQ rfl hE dX8_isWord_29
  · replace hf := qf_t c_4 hf
    refine lv_aload_n hx hb dX8_isWord_7 rfl (lv_at hl 0 rfl) ?_
    refine gfM_0_12 S0 V kl_X8_82 dX8_isWord_8 ?_
    refine lv_iconst (v := 1) hx hb dX8_isWord_11 (by decide) ?_
    refine lv_icmp_ne (tgt := 28) hx hb dX8_isWord_12 (by decide) (fun c_12 => ?_) (fun c_12 => ?_)
    · replace hf := qf_f c_12 hf
      refine lv_iconst (v := 0) hx hb dX8_isWord_28 (by decide) ?_
      have hE := Option.some.inj hf
      exact qw_zretR S0 hr hlocks hQ rfl hE dX8_isWord_29
    · replace hf := qf_t c_12 hf
      refine lv_aload_n hx hb dX8_isWord_15 rfl (lv_at hl 0 rfl) ?_
      refine gfM_0_13 S0 V kl_X8_75 dX8_isWord_16 ?_
      refine lv_lload_n hx hb dX8_isWord_19 rfl (lv_at hl 1 rfl) ?_
      refine W.lcmp hx hb dX8_isWord_20 ?_
      refine lv_if_ne (tgt := 28) hx hb dX8_isWord_21 (by decide) (fun c_21 => ?_) (fun c_21 => ?_)
      · replace hf := qf_f c_21 hf
        refine lv_iconst (v := 0) hx hb dX8_isWord_28 (by decide) ?_
        have hE := Option.some.inj hf
        exact qw_zretR S0 hr hlocks hQ rfl hE dX8_isWord_29
      · replace hf := qf_t c_21 hf
        refine lv_iconst (v := 1) hx hb dX8_isWord_24 (by decide) ?_
        refine lv_goto (tgt := 29) hx hb dX8_isWord_25 (by decide) ?_
        have hE := Option.some.inj hf
        exact qw_zretR S0 hr hlocks hQ rfl hE dX8_isWord_29
theorem kd_X8_readInteger : yX8_readInteger.cls = RX8 ∧ yX8_readInteger.cls ≠ "java/lang/invoke/MethodHandle" ∧ yX8_readInteger.cls ≠ "java/lang/invoke/VarHandle" ∧ (parseMethodDescriptor yX8_readInteger.desc).map (fun d => d.parameters.length) = some 2 := by decide +kernel
def f_X8_readInteger_j14 (I : Nat → Int32) (A : Nat → Nat → Int32) (w : Int64)  (y1 : Int32) (y2 : Int32) (s0 : Int32) : Option (Int32 × (Nat → Int32) × (Int64)) :=
  qf_bd (f_X8_check I s0 (-11 : Int32)) fun I1 =>
  qf_bd (f_X8_inRange (I1 7) y1 y2) fun r2 =>
  qf_bd (f_X8_check I1 r2 (-12 : Int32)) fun I3 =>
  qf_let ((I3 7)) fun x4 =>
  qf_bd2 (f_X8_advanceIfGood A I3 w) fun I5 w6 =>
  some (x4, I5, w6)
def f_X8_readInteger (A : Nat → Nat → Int32) (I : Nat → Int32) (w : Int64) (p1 : Int32) (p2 : Int32) : Option (Int32 × (Nat → Int32) × (Int64)) :=
  if (I 6) = (2 : Int32) then (f_X8_readInteger_j14 I A w p1 p2 (1 : Int32)) else (f_X8_readInteger_j14 I A w p1 p2 (0 : Int32))
abbrev wz_X8_readInteger : List Cond := Cond.code yX8_readInteger cX8_readInteger 4 (some .int) :: qw_big
def rm_X8_readInteger : Room := { frames := 3, cells := 0, slots := 0, locals := 63 }
set_option maxHeartbeats 4000000 in
set_option maxRecDepth 100000 in
theorem c_X8_readInteger (l : Launch) {D : va_G} {cy : Nat → ClassId} {ad : Nat → Nat} {I : Nat → Int32} {A : Nat → Nat → Int32} {w : Int64} {p1 : Int32} {p2 : Int32} {rv : Int32} {I9 : Nat → Int32} {w9 : Int64} {sz : Nat} (hf : f_X8_readInteger A I w p1 p2 = some (rv, I9, w9)) : Met l yX8_readInteger wz_X8_readInteger rm_X8_readInteger (va_Pc [.ref (ad 0), .int p1, .int p2] (qw_Pre D cy (Wm cy ad I A w) sz)) (qw_Q (some (.int rv)) D (Wm cy ad I9 A w9) (va_A (Wm cy ad I A w) sz)) 0 0 (va_A (Wm cy ad I A w) sz) := by
  refine qw_of (cc := cX8_readInteger) (maxL := 4) (ret := (some .int)) (by decide) (Nat.le_of_ble_eq_true rfl) ?_
  intro p e s m args below meth c ls S0 hr hlocks hsz V hl
  have S0 : CallFix p m c cX8_readInteger 4 s args qw_big RX8 := S0
  have hx := S0.1; have hb := S0.2.1; have hown := S0.2.2.2.1; have hts := S0.2.2.2.2
  have hl : lv_has ls 4 [(0, .ref (ad 0)), (1, .int p1), (2, .int p2)] := hl
  generalize va_A (Wm cy ad I A w) sz = Z9 at V ⊢
  obtain ⟨Q9, hQ⟩ : ∃ q, q = MQ below (qw_Q (some (.int rv)) D (Wm cy ad I9 A w9) Z9) args s 0 0 Z9 := ⟨_, rfl⟩
  rw [← hQ]
  clear hsz
  have J_14 : ∀   {y1 : Int32} {y2 : Int32} {s0 : Int32} {H : Heap} {locs : List Loc} {ls : Array Slot}, f_X8_readInteger_j14 I A w y1 y2 s0 = some (rv, I9, w9) → qw_V D cy Z9 s (Wm cy ad I A w) H locs → lv_has ls 4 [(0, .ref (ad 0)), (1, .int y1), (2, .int y2)] → W p l e rm_X8_readInteger s m args below meth c H locs 0 0 Q9 (F0 m 14 ls [.int s0, .ref (ad 0)]) := by
    intro y1 y2 s0 H locs ls hf V hl
    unfold f_X8_readInteger_j14 at hf
    refine lv_bipush (v := -11) hx hb dX8_readInteger_14 (by decide) ?_
    obtain ⟨I1, hc_16, hf⟩ := qf_bd_e hf
    refine qw_cV (rest := []) (st1 := []) S0 V hl 0 gM_0 rfl (c_X8_check l hc_16) kg_X8_97 rfl ⟨rfl, rfl⟩ kd_X8_check ⟨Nat.le_of_ble_eq_true rfl, Nat.le_of_ble_eq_true rfl⟩ rfl rfl (Nat.le_of_ble_eq_true rfl) ⟨Nat.zero_le _, Nat.zero_le _⟩ rfl dX8_readInteger_16 (fun H locs V => ?_)
    refine lv_aload_n hx hb dX8_readInteger_19 rfl (lv_at hl 0 rfl) ?_
    refine lv_aload_n hx hb dX8_readInteger_20 rfl (lv_at hl 0 rfl) ?_
    refine gfM_0_14 S0 V kl_X8_79 dX8_readInteger_21 ?_
    refine lv_iload_n hx hb dX8_readInteger_24 rfl (lv_at hl 1 rfl) ?_
    refine lv_iload_n hx hb dX8_readInteger_25 rfl (lv_at hl 2 rfl) ?_
    obtain ⟨r2, hc_26, hf⟩ := qf_bd_e hf
    refine qw_cSR (rest := [.ref (ad 0)]) (st1 := [.int r2, .ref (ad 0)]) S0 V hl (c_X8_inRange l hc_26) kg_X8_85 rfl ⟨rfl, rfl⟩ kd_X8_inRange ⟨Nat.le_of_ble_eq_true rfl, Nat.le_of_ble_eq_true rfl⟩ rfl rfl (Nat.le_of_ble_eq_true rfl) ⟨Nat.zero_le _, Nat.zero_le _⟩ rfl dX8_readInteger_26 ?_
    refine lv_bipush (v := -12) hx hb dX8_readInteger_29 (by decide) ?_
    obtain ⟨I3, hc_31, hf⟩ := qf_bd_e hf
    refine qw_cV (rest := []) (st1 := []) S0 V hl 0 gM_0 rfl (c_X8_check l hc_31) kg_X8_97 rfl ⟨rfl, rfl⟩ kd_X8_check ⟨Nat.le_of_ble_eq_true rfl, Nat.le_of_ble_eq_true rfl⟩ rfl rfl (Nat.le_of_ble_eq_true rfl) ⟨Nat.zero_le _, Nat.zero_le _⟩ rfl dX8_readInteger_31 (fun H locs V => ?_)
    refine lv_aload_n hx hb dX8_readInteger_34 rfl (lv_at hl 0 rfl) ?_
    refine gfM_0_14 S0 V kl_X8_79 dX8_readInteger_35 ?_
    refine lv_topi (fun x4 e_x4 => ?_)
    replace hf := qf_let_e e_x4 hf
    refine lv_istore_n (lv' := [(3, .int x4), (0, .ref (ad 0)), (1, .int y1), (2, .int y2)]) hx hb dX8_readInteger_38 rfl hl (by decide) rfl (fun ls hl => ?_)
    refine lv_aload_n hx hb dX8_readInteger_39 rfl (lv_at hl 1 rfl) ?_
    obtain ⟨I5, w6, hc_40, hf⟩ := qf_bd2_e hf
    refine qw_cV (rest := []) (st1 := []) S0 V hl 0 gM_0 rfl (c_X8_advanceIfGood l hc_40) kg_X8_101 rfl ⟨rfl, rfl⟩ kd_X8_advanceIfGood ⟨Nat.le_of_ble_eq_true rfl, Nat.le_of_ble_eq_true rfl⟩ rfl rfl (Nat.le_of_ble_eq_true rfl) ⟨Nat.zero_le _, Nat.zero_le _⟩ rfl dX8_readInteger_40 (fun H locs V => ?_)
    refine lv_iload_n hx hb dX8_readInteger_43 rfl (lv_at hl 0 rfl) ?_
    have hE := Option.some.inj hf
    obtain ⟨e0, hE⟩ := qf_pr hE
    obtain ⟨e1, hE⟩ := qf_pr hE
    exact qw_ireti S0 hr hlocks hQ e0 (by rw [e1, hE]) V dX8_readInteger_44
  unfold f_X8_readInteger at hf
  refine lv_aload_n hx hb dX8_readInteger_0 rfl (lv_at hl 0 rfl) ?_
  refine lv_aload_n hx hb dX8_readInteger_1 rfl (lv_at hl 0 rfl) ?_
  refine gfM_0_12 S0 V kl_X8_82 dX8_readInteger_2 ?_
  refine lv_iconst (v := 2) hx hb dX8_readInteger_5 (by decide) ?_
  refine lv_icmp_ne (tgt := 13) hx hb dX8_readInteger_6 (by decide) (fun c_6 => ?_) (fun c_6 => ?_)
  · replace hf := qf_f c_6 hf
    refine lv_iconst (v := 0) hx hb dX8_readInteger_13 (by decide) ?_
    exact J_14 hf V (lv_sub hl [0, 1, 2] rfl)
  · replace hf := qf_t c_6 hf
    refine lv_iconst (v := 1) hx hb dX8_readInteger_9 (by decide) ?_
    refine lv_goto (tgt := 14) hx hb dX8_readInteger_10 (by decide) ?_
    exact J_14 hf V (lv_sub hl [0, 1, 2] rfl)
theorem kd_X8_isKeyword : yX8_isKeyword.cls = RX8 ∧ yX8_isKeyword.cls ≠ "java/lang/invoke/MethodHandle" ∧ yX8_isKeyword.cls ≠ "java/lang/invoke/VarHandle" ∧ (parseMethodDescriptor yX8_isKeyword.desc).map (fun d => d.parameters.length) = some 0 := by decide +kernel
def f_X8_isKeyword_j88 (w : Int64)   : Option (Int32) :=
  some ((1 : Int32))
def f_X8_isKeyword (w : Int64) : Option (Int32) :=
  if (lg_cmp w (7945904 : Int64)) = 0 then (f_X8_isKeyword_j88 w) else (if (lg_cmp w (646192 : Int64)) = 0 then (f_X8_isKeyword_j88 w) else (if (lg_cmp w (245220 : Int64)) = 0 then (f_X8_isKeyword_j88 w) else (if (lg_cmp w (8902245 : Int64)) = 0 then (f_X8_isKeyword_j88 w) else (if (lg_cmp w (631280 : Int64)) = 0 then (f_X8_isKeyword_j88 w) else (if (lg_cmp w (19636 : Int64)) = 0 then (f_X8_isKeyword_j88 w) else (if (lg_cmp w (239301 : Int64)) = 0 then (f_X8_isKeyword_j88 w) else (if (lg_cmp w (656741 : Int64)) = 0 then (f_X8_isKeyword_j88 w) else (some ((0 : Int32))))))))))
abbrev wz_X8_isKeyword : List Cond := Cond.code yX8_isKeyword cX8_isKeyword 1 (some .boolean) :: qw_big
def rm_X8_isKeyword : Room := { frames := 0, cells := 0, slots := 0, locals := 0 }
set_option maxHeartbeats 4000000 in
set_option maxRecDepth 100000 in
theorem c_X8_isKeyword (l : Launch) {D : va_G} {cy : Nat → ClassId} {ad : Nat → Nat} {I : Nat → Int32} {A : Nat → Nat → Int32} {w : Int64}  {rv : Int32} {sz : Nat} (hf : f_X8_isKeyword w = some (rv)) : Met l yX8_isKeyword wz_X8_isKeyword rm_X8_isKeyword (va_Pc [.ref (ad 0)] (qw_Pre D cy (Wm cy ad I A w) sz)) (qw_R (some (.int rv))) 0 0 (fun _ => False) := by
  refine qw_of (cc := cX8_isKeyword) (maxL := 1) (ret := (some .boolean)) (by decide) (Nat.le_of_ble_eq_true rfl) ?_
  intro p e s m args below meth c ls S0 hr hlocks hsz V hl
  have S0 : CallFix p m c cX8_isKeyword 1 s args qw_big RX8 := S0
  have hx := S0.1; have hb := S0.2.1; have hown := S0.2.2.2.1; have hts := S0.2.2.2.2
  have hl : lv_has ls 1 [(0, .ref (ad 0))] := hl
  obtain ⟨Q9, hQ⟩ : ∃ q, q = MQ below (qw_R (some (.int rv))) args s 0 0 (fun _ => False) := ⟨_, rfl⟩
  rw [← hQ]
  generalize va_A (Wm cy ad I A w) sz = Z9 at V
  have J_88 : ∀    {ls : Array Slot}, f_X8_isKeyword_j88 w = some (rv) → lv_has ls 1 [] → W p l e rm_X8_isKeyword s m args below meth c s.heap [] 0 0 Q9 (F0 m 88 ls []) := by
    intro ls hf hl
    unfold f_X8_isKeyword_j88 at hf
    refine lv_iconst (v := 1) hx hb dX8_isKeyword_88 (by decide) ?_
    refine lv_goto (tgt := 93) hx hb dX8_isKeyword_89 (by decide) ?_
    have hE := Option.some.inj hf
    exact qw_zretR S0 hr hlocks hQ rfl hE dX8_isKeyword_93
  unfold f_X8_isKeyword at hf
  refine lv_aload_n hx hb dX8_isKeyword_0 rfl (lv_at hl 0 rfl) ?_
  refine gfM_0_13 S0 V kl_X8_75 dX8_isKeyword_1 ?_
  refine lv_ldc2 (v := 7945904) hx hb hown (hts _ kct_X8_104) dX8_isKeyword_4 ?_
  refine W.lcmp hx hb dX8_isKeyword_7 ?_
  refine lv_if_eq (tgt := 88) hx hb dX8_isKeyword_8 (by decide) (fun c_8 => ?_) (fun c_8 => ?_)
  · replace hf := qf_t c_8 hf
    exact J_88 hf (lv_sub hl [] rfl)
  · replace hf := qf_f c_8 hf
    refine lv_aload_n hx hb dX8_isKeyword_11 rfl (lv_at hl 0 rfl) ?_
    refine gfM_0_13 S0 V kl_X8_75 dX8_isKeyword_12 ?_
    refine lv_ldc2 (v := 646192) hx hb hown (hts _ kct_X8_106) dX8_isKeyword_15 ?_
    refine W.lcmp hx hb dX8_isKeyword_18 ?_
    refine lv_if_eq (tgt := 88) hx hb dX8_isKeyword_19 (by decide) (fun c_19 => ?_) (fun c_19 => ?_)
    · replace hf := qf_t c_19 hf
      exact J_88 hf (lv_sub hl [] rfl)
    · replace hf := qf_f c_19 hf
      refine lv_aload_n hx hb dX8_isKeyword_22 rfl (lv_at hl 0 rfl) ?_
      refine gfM_0_13 S0 V kl_X8_75 dX8_isKeyword_23 ?_
      refine lv_ldc2 (v := 245220) hx hb hown (hts _ kct_X8_108) dX8_isKeyword_26 ?_
      refine W.lcmp hx hb dX8_isKeyword_29 ?_
      refine lv_if_eq (tgt := 88) hx hb dX8_isKeyword_30 (by decide) (fun c_30 => ?_) (fun c_30 => ?_)
      · replace hf := qf_t c_30 hf
        exact J_88 hf (lv_sub hl [] rfl)
      · replace hf := qf_f c_30 hf
        refine lv_aload_n hx hb dX8_isKeyword_33 rfl (lv_at hl 0 rfl) ?_
        refine gfM_0_13 S0 V kl_X8_75 dX8_isKeyword_34 ?_
        refine lv_ldc2 (v := 8902245) hx hb hown (hts _ kct_X8_110) dX8_isKeyword_37 ?_
        refine W.lcmp hx hb dX8_isKeyword_40 ?_
        refine lv_if_eq (tgt := 88) hx hb dX8_isKeyword_41 (by decide) (fun c_41 => ?_) (fun c_41 => ?_)
        · replace hf := qf_t c_41 hf
          exact J_88 hf (lv_sub hl [] rfl)
        · replace hf := qf_f c_41 hf
          refine lv_aload_n hx hb dX8_isKeyword_44 rfl (lv_at hl 0 rfl) ?_
          refine gfM_0_13 S0 V kl_X8_75 dX8_isKeyword_45 ?_
          refine lv_ldc2 (v := 631280) hx hb hown (hts _ kct_X8_112) dX8_isKeyword_48 ?_
          refine W.lcmp hx hb dX8_isKeyword_51 ?_
          refine lv_if_eq (tgt := 88) hx hb dX8_isKeyword_52 (by decide) (fun c_52 => ?_) (fun c_52 => ?_)
          · replace hf := qf_t c_52 hf
            exact J_88 hf (lv_sub hl [] rfl)
          · replace hf := qf_f c_52 hf
            refine lv_aload_n hx hb dX8_isKeyword_55 rfl (lv_at hl 0 rfl) ?_
            refine gfM_0_13 S0 V kl_X8_75 dX8_isKeyword_56 ?_
            refine lv_ldc2 (v := 19636) hx hb hown (hts _ kct_X8_114) dX8_isKeyword_59 ?_
            refine W.lcmp hx hb dX8_isKeyword_62 ?_
            refine lv_if_eq (tgt := 88) hx hb dX8_isKeyword_63 (by decide) (fun c_63 => ?_) (fun c_63 => ?_)
            · replace hf := qf_t c_63 hf
              exact J_88 hf (lv_sub hl [] rfl)
            · replace hf := qf_f c_63 hf
              refine lv_aload_n hx hb dX8_isKeyword_66 rfl (lv_at hl 0 rfl) ?_
              refine gfM_0_13 S0 V kl_X8_75 dX8_isKeyword_67 ?_
              refine lv_ldc2 (v := 239301) hx hb hown (hts _ kct_X8_116) dX8_isKeyword_70 ?_
              refine W.lcmp hx hb dX8_isKeyword_73 ?_
              refine lv_if_eq (tgt := 88) hx hb dX8_isKeyword_74 (by decide) (fun c_74 => ?_) (fun c_74 => ?_)
              · replace hf := qf_t c_74 hf
                exact J_88 hf (lv_sub hl [] rfl)
              · replace hf := qf_f c_74 hf
                refine lv_aload_n hx hb dX8_isKeyword_77 rfl (lv_at hl 0 rfl) ?_
                refine gfM_0_13 S0 V kl_X8_75 dX8_isKeyword_78 ?_
                refine lv_ldc2 (v := 656741) hx hb hown (hts _ kct_X8_118) dX8_isKeyword_81 ?_
                refine W.lcmp hx hb dX8_isKeyword_84 ?_
                refine lv_if_ne (tgt := 92) hx hb dX8_isKeyword_85 (by decide) (fun c_85 => ?_) (fun c_85 => ?_)
                · replace hf := qf_f c_85 hf
                  refine lv_iconst (v := 0) hx hb dX8_isKeyword_92 (by decide) ?_
                  have hE := Option.some.inj hf
                  exact qw_zretR S0 hr hlocks hQ rfl hE dX8_isKeyword_93
                · replace hf := qf_t c_85 hf
                  exact J_88 hf (lv_sub hl [] rfl)
theorem kd_X8_lettersHere : yX8_lettersHere.cls = RX8 ∧ yX8_lettersHere.cls ≠ "java/lang/invoke/MethodHandle" ∧ yX8_lettersHere.cls ≠ "java/lang/invoke/VarHandle" ∧ (parseMethodDescriptor yX8_lettersHere.desc).map (fun d => d.parameters.length) = some 0 := by decide +kernel
def f_X8_lettersHere_l56 (w : Int64)   : Nat → (Nat → Int32) → Int32 → Int32 → Option (Int32 × (Nat → Int32))
  | 0, _, _, _ => none
  | n + 1, I, y1, y2 =>
  if (6 : Int32) ≤ y2 then (some (y1, I)) else (qf_let ((y1 <<< ((5 : Int32) &&& 31))) fun x5 =>
    qf_let (y2 + (1 : Int32)) fun x6 =>
    f_X8_lettersHere_l56 w n I x5 x6)
def f_X8_lettersHere_j35 (I : Nat → Int32) (w : Int64)  (s0 : Int32) : Option (Int32 × (Nat → Int32)) :=
  qf_bd (f_X8_check I s0 (-11 : Int32)) fun I2 =>
  qf_let ((w.toInt32)) fun x3 =>
  qf_let (((I2 4) - (I2 5))) fun x4 =>
  f_X8_lettersHere_l56 w 100000 I2 x3 x4
def f_X8_lettersHere_j34 (I : Nat → Int32) (w : Int64)   : Option (Int32 × (Nat → Int32)) :=
  f_X8_lettersHere_j35 I w (0 : Int32)
def f_X8_lettersHere (w : Int64) (I : Nat → Int32) : Option (Int32 × (Nat → Int32)) :=
  if (I 6) = (1 : Int32) then (if (6 : Int32) < ((I 4) - (I 5)) then (f_X8_lettersHere_j34 I w) else (qf_bd (f_X8_isKeyword w) fun r1 =>
      if r1 = 0 then (f_X8_lettersHere_j35 I w (1 : Int32)) else (f_X8_lettersHere_j34 I w))) else (f_X8_lettersHere_j34 I w)
abbrev wz_X8_lettersHere : List Cond := Cond.code yX8_lettersHere cX8_lettersHere 3 (some .int) :: qw_big
def rm_X8_lettersHere : Room := { frames := 1, cells := 0, slots := 0, locals := 22 }
set_option maxHeartbeats 4000000 in
set_option maxRecDepth 100000 in
theorem c_X8_lettersHere (l : Launch) {D : va_G} {cy : Nat → ClassId} {ad : Nat → Nat} {I : Nat → Int32} {A : Nat → Nat → Int32} {w : Int64}  {rv : Int32} {I9 : Nat → Int32} {sz : Nat} (hf : f_X8_lettersHere w I = some (rv, I9)) : Met l yX8_lettersHere wz_X8_lettersHere rm_X8_lettersHere (va_Pc [.ref (ad 0)] (qw_Pre D cy (Wm cy ad I A w) sz)) (qw_Q (some (.int rv)) D (Wm cy ad I9 A w) (va_A (Wm cy ad I A w) sz)) 0 0 (va_A (Wm cy ad I A w) sz) := by
  refine qw_of (cc := cX8_lettersHere) (maxL := 3) (ret := (some .int)) (by decide) (Nat.le_of_ble_eq_true rfl) ?_
  intro p e s m args below meth c ls S0 hr hlocks hsz V hl
  have S0 : CallFix p m c cX8_lettersHere 3 s args qw_big RX8 := S0
  have hx := S0.1; have hb := S0.2.1; have hown := S0.2.2.2.1; have hts := S0.2.2.2.2
  have hl : lv_has ls 3 [(0, .ref (ad 0))] := hl
  generalize va_A (Wm cy ad I A w) sz = Z9 at V ⊢
  obtain ⟨Q9, hQ⟩ : ∃ q, q = MQ below (qw_Q (some (.int rv)) D (Wm cy ad I9 A w) Z9) args s 0 0 Z9 := ⟨_, rfl⟩
  rw [← hQ]
  clear hsz
  have L_56 : ∀   {n : Nat} {I : Nat → Int32} {y1 : Int32} {y2 : Int32} {H : Heap} {locs : List Loc} {ls : Array Slot}, f_X8_lettersHere_l56 w n I y1 y2 = some (rv, I9) → qw_V D cy Z9 s (Wm cy ad I A w) H locs → lv_has ls 3 [(1, .int y1), (2, .int y2)] → W p l e rm_X8_lettersHere s m args below meth c H locs 0 0 Q9 (F0 m 56 ls []) := by
    intro n
    induction n with
    | zero => intro I y1 y2 H locs ls hf V hl; exact qf_no hf
    | succ n ih =>
      intro I y1 y2 H locs ls hf V hl
      rw [f_X8_lettersHere_l56] at hf
      refine lv_iload_n hx hb dX8_lettersHere_56 rfl (lv_at hl 1 rfl) ?_
      refine lv_bipush (v := 6) hx hb dX8_lettersHere_57 (by decide) ?_
      refine lv_icmp_ge (tgt := 72) hx hb dX8_lettersHere_59 (by decide) (fun c_59 => ?_) (fun c_59 => ?_)
      · replace hf := qf_t c_59 hf
        refine lv_iload_n hx hb dX8_lettersHere_72 rfl (lv_at hl 0 rfl) ?_
        have hE := Option.some.inj hf
        obtain ⟨e0, hE⟩ := qf_pr hE
        exact qw_ireti S0 hr hlocks hQ e0 (by rw [hE]) V dX8_lettersHere_73
      · replace hf := qf_f c_59 hf
        refine lv_iload_n hx hb dX8_lettersHere_62 rfl (lv_at hl 0 rfl) ?_
        refine lv_iconst (v := 5) hx hb dX8_lettersHere_63 (by decide) ?_
        refine lv_ishl hx hb dX8_lettersHere_64 ?_
        refine lv_topi (fun x5 e_x5 => ?_)
        replace hf := qf_let_e e_x5 hf
        refine lv_istore_n (lv' := [(1, .int x5), (2, .int y2)]) hx hb dX8_lettersHere_65 rfl hl (by decide) rfl (fun ls hl => ?_)
        obtain ⟨x6, e_x6⟩ : ∃ y : Int32, y = y2 + (1 : Int32) := ⟨_, rfl⟩
        refine lv_iinc (v := x6) (lv' := [(2, .int x6), (1, .int x5)]) hx hb dX8_lettersHere_66 hl (k := 1) rfl (by rw [e_x6]; rfl) (by decide) rfl (fun ls hl => ?_)
        replace hf := qf_let_e e_x6 hf
        refine lv_goto (tgt := 56) hx hb dX8_lettersHere_69 (by decide) ?_
        exact ih hf V (lv_sub hl [1, 0] rfl)
  have J_35 : ∀   {s0 : Int32} {H : Heap} {locs : List Loc} {ls : Array Slot}, f_X8_lettersHere_j35 I w s0 = some (rv, I9) → qw_V D cy Z9 s (Wm cy ad I A w) H locs → lv_has ls 3 [(0, .ref (ad 0))] → W p l e rm_X8_lettersHere s m args below meth c H locs 0 0 Q9 (F0 m 35 ls [.int s0, .ref (ad 0)]) := by
    intro s0 H locs ls hf V hl
    unfold f_X8_lettersHere_j35 at hf
    refine lv_bipush (v := -11) hx hb dX8_lettersHere_35 (by decide) ?_
    obtain ⟨I2, hc_37, hf⟩ := qf_bd_e hf
    refine qw_cV (rest := []) (st1 := []) S0 V hl 0 gM_0 rfl (c_X8_check l hc_37) kg_X8_97 rfl ⟨rfl, rfl⟩ kd_X8_check ⟨Nat.le_of_ble_eq_true rfl, Nat.le_of_ble_eq_true rfl⟩ rfl rfl (Nat.le_of_ble_eq_true rfl) ⟨Nat.zero_le _, Nat.zero_le _⟩ rfl dX8_lettersHere_37 (fun H locs V => ?_)
    refine lv_aload_n hx hb dX8_lettersHere_40 rfl (lv_at hl 0 rfl) ?_
    refine gfM_0_13 S0 V kl_X8_75 dX8_lettersHere_41 ?_
    refine lv_l2i hx hb dX8_lettersHere_44 rfl ?_
    refine lv_topi (fun x3 e_x3 => ?_)
    replace hf := qf_let_e e_x3 hf
    refine lv_istore_n (lv' := [(1, .int x3), (0, .ref (ad 0))]) hx hb dX8_lettersHere_45 rfl hl (by decide) rfl (fun ls hl => ?_)
    refine lv_aload_n hx hb dX8_lettersHere_46 rfl (lv_at hl 1 rfl) ?_
    refine gfM_0_10 S0 V kl_X8_62 dX8_lettersHere_47 ?_
    refine lv_aload_n hx hb dX8_lettersHere_50 rfl (lv_at hl 1 rfl) ?_
    refine gfM_0_11 S0 V kl_X8_72 dX8_lettersHere_51 ?_
    refine lv_isub hx hb dX8_lettersHere_54 ?_
    refine lv_topi (fun x4 e_x4 => ?_)
    replace hf := qf_let_e e_x4 hf
    refine lv_istore_n (lv' := [(2, .int x4), (1, .int x3), (0, .ref (ad 0))]) hx hb dX8_lettersHere_55 rfl hl (by decide) rfl (fun ls hl => ?_)
    exact L_56 hf V (lv_sub hl [1, 0] rfl)
  have J_34 : ∀    {H : Heap} {locs : List Loc} {ls : Array Slot}, f_X8_lettersHere_j34 I w = some (rv, I9) → qw_V D cy Z9 s (Wm cy ad I A w) H locs → lv_has ls 3 [(0, .ref (ad 0))] → W p l e rm_X8_lettersHere s m args below meth c H locs 0 0 Q9 (F0 m 34 ls [.ref (ad 0)]) := by
    intro H locs ls hf V hl
    unfold f_X8_lettersHere_j34 at hf
    refine lv_iconst (v := 0) hx hb dX8_lettersHere_34 (by decide) ?_
    exact J_35 hf V (lv_sub hl [0] rfl)
  unfold f_X8_lettersHere at hf
  refine lv_aload_n hx hb dX8_lettersHere_0 rfl (lv_at hl 0 rfl) ?_
  refine lv_aload_n hx hb dX8_lettersHere_1 rfl (lv_at hl 0 rfl) ?_
  refine gfM_0_12 S0 V kl_X8_82 dX8_lettersHere_2 ?_
  refine lv_iconst (v := 1) hx hb dX8_lettersHere_5 (by decide) ?_
  refine lv_icmp_ne (tgt := 34) hx hb dX8_lettersHere_6 (by decide) (fun c_6 => ?_) (fun c_6 => ?_)
  · replace hf := qf_f c_6 hf
    exact J_34 hf V (lv_sub hl [0] rfl)
  · replace hf := qf_t c_6 hf
    refine lv_aload_n hx hb dX8_lettersHere_9 rfl (lv_at hl 0 rfl) ?_
    refine gfM_0_10 S0 V kl_X8_62 dX8_lettersHere_10 ?_
    refine lv_aload_n hx hb dX8_lettersHere_13 rfl (lv_at hl 0 rfl) ?_
    refine gfM_0_11 S0 V kl_X8_72 dX8_lettersHere_14 ?_
    refine lv_isub hx hb dX8_lettersHere_17 ?_
    refine lv_bipush (v := 6) hx hb dX8_lettersHere_18 (by decide) ?_
    refine lv_icmp_gt (tgt := 34) hx hb dX8_lettersHere_20 (by decide) (fun c_20 => ?_) (fun c_20 => ?_)
    · replace hf := qf_t c_20 hf
      exact J_34 hf V (lv_sub hl [0] rfl)
    · replace hf := qf_f c_20 hf
      refine lv_aload_n hx hb dX8_lettersHere_23 rfl (lv_at hl 0 rfl) ?_
      obtain ⟨r1, hc_24, hf⟩ := qf_bd_e hf
      refine qw_cVR (rest := [.ref (ad 0)]) (st1 := [.int r1, .ref (ad 0)]) S0 V hl 0 gM_0 rfl (c_X8_isKeyword l hc_24) kg_X8_120 rfl ⟨rfl, rfl⟩ kd_X8_isKeyword ⟨Nat.le_of_ble_eq_true rfl, Nat.le_of_ble_eq_true rfl⟩ rfl rfl (Nat.le_of_ble_eq_true rfl) ⟨Nat.zero_le _, Nat.zero_le _⟩ rfl dX8_lettersHere_24 ?_
      refine lv_if_ne (tgt := 34) hx hb dX8_lettersHere_27 (by decide) (fun c_27 => ?_) (fun c_27 => ?_)
      · replace hf := qf_f c_27 hf
        exact J_34 hf V (lv_sub hl [0] rfl)
      · replace hf := qf_t c_27 hf
        refine lv_iconst (v := 1) hx hb dX8_lettersHere_30 (by decide) ?_
        refine lv_goto (tgt := 35) hx hb dX8_lettersHere_31 (by decide) ?_
        exact J_35 hf V (lv_sub hl [0] rfl)
theorem kd_X8_indexOf : yX8_indexOf.cls ≠ "java/lang/invoke/MethodHandle" ∧ yX8_indexOf.cls ≠ "java/lang/invoke/VarHandle" ∧ (parseMethodDescriptor yX8_indexOf.desc).map (fun d => d.parameters.length) = some 3 := by decide +kernel
def f_X8_indexOf_l2 (n0 : Nat) (f0 : Nat → Int32)  (y1 : Int32) (y2 : Int32) : Nat → Int32 → Option (Int32)
  | 0, _ => none
  | n + 1, y3 =>
  qf_ld n0 f0 ((0 : Int32) + y1) fun x1 =>
  if x1 ≤ y3 then (some ((-1 : Int32))) else (qf_ld n0 f0 (((38 : Int32) + ((6 : Int32) * y1)) + y3) fun x2 =>
    if x2 = y2 then (some (y3)) else (qf_let (y3 + (1 : Int32)) fun x3 =>
      f_X8_indexOf_l2 n0 f0 y1 y2 n x3))
def f_X8_indexOf (n0 : Nat) (f0 : Nat → Int32) (p1 : Int32) (p2 : Int32) : Option (Int32) :=
  f_X8_indexOf_l2 n0 f0 p1 p2 100000 (0 : Int32)
abbrev wz_X8_indexOf : List Cond := Cond.code yX8_indexOf cX8_indexOf 4 (some .int) :: qw_big
def rm_X8_indexOf : Room := { frames := 0, cells := 0, slots := 0, locals := 0 }
set_option maxHeartbeats 4000000 in
set_option maxRecDepth 100000 in
theorem c_X8_indexOf (l : Launch) {D : va_G} {cy : Nat → ClassId} {ws : va_W} {q0 a0 n0 : Nat} {f0 : Nat → Int32} (ha0 : ws[q0]? = some (a0, .inl (cy 0, n0, .inl f0))) {p1 : Int32} {p2 : Int32} {rv : Int32} {sz : Nat} (hf : f_X8_indexOf n0 f0 p1 p2 = some (rv)) : Met l yX8_indexOf wz_X8_indexOf rm_X8_indexOf (va_Pc [.ref a0, .int p1, .int p2] (qw_Pre D cy ws sz)) (qw_R (some (.int rv))) 0 0 (fun _ => False) := by
  refine qw_of (cc := cX8_indexOf) (maxL := 4) (ret := (some .int)) (by decide) (Nat.le_of_ble_eq_true rfl) ?_
  intro p e s m args below meth c ls S0 hr hlocks hsz V hl
  have S0 : CallFix p m c cX8_indexOf 4 s args qw_big RX8 := S0
  have hx := S0.1; have hb := S0.2.1; have hown := S0.2.2.2.1; have hts := S0.2.2.2.2
  have hl : lv_has ls 4 [(0, .ref a0), (1, .int p1), (2, .int p2)] := hl
  obtain ⟨Q9, hQ⟩ : ∃ q, q = MQ below (qw_R (some (.int rv))) args s 0 0 (fun _ => False) := ⟨_, rfl⟩
  rw [← hQ]
  generalize va_A ws sz = Z9 at V
  have L_2 : ∀  {y1 : Int32} {y2 : Int32} {n : Nat}  {y3 : Int32} {ls : Array Slot}, f_X8_indexOf_l2 n0 f0 y1 y2 n y3 = some (rv) → lv_has ls 4 [(0, .ref a0), (1, .int y1), (2, .int y2), (3, .int y3)] → W p l e rm_X8_indexOf s m args below meth c s.heap [] 0 0 Q9 (F0 m 2 ls []) := by
    intro y1 y2 n
    induction n with
    | zero => intro y3 ls hf hl; exact qf_no hf
    | succ n ih =>
      intro y3 ls hf hl
      rw [f_X8_indexOf_l2] at hf
      refine lv_iload_n hx hb dX8_indexOf_2 rfl (lv_at hl 3 rfl) ?_
      refine lv_aload_n hx hb dX8_indexOf_3 rfl (lv_at hl 0 rfl) ?_
      refine lv_iconst (v := 0) hx hb dX8_indexOf_4 (by decide) ?_
      refine lv_iload_n hx hb dX8_indexOf_5 rfl (lv_at hl 1 rfl) ?_
      refine lv_iadd hx hb dX8_indexOf_6 ?_
      have h_7 := qf_ld_in hf
      refine qw_ild S0 V q0 ha0 h_7 dX8_indexOf_7 ?_
      refine lv_topi (fun x1 e_x1 => ?_)
      replace hf := qf_ld_e e_x1 hf
      refine lv_icmp_ge (tgt := 34) hx hb dX8_indexOf_8 (by decide) (fun c_8 => ?_) (fun c_8 => ?_)
      · replace hf := qf_t c_8 hf
        refine lv_iconst (v := -1) hx hb dX8_indexOf_34 (by decide) ?_
        have hE := Option.some.inj hf
        exact qw_iretR S0 hr hlocks hQ hE dX8_indexOf_35
      · replace hf := qf_f c_8 hf
        refine lv_aload_n hx hb dX8_indexOf_11 rfl (lv_at hl 0 rfl) ?_
        refine lv_bipush (v := 38) hx hb dX8_indexOf_12 (by decide) ?_
        refine lv_bipush (v := 6) hx hb dX8_indexOf_14 (by decide) ?_
        refine lv_iload_n hx hb dX8_indexOf_16 rfl (lv_at hl 1 rfl) ?_
        refine lv_imul hx hb dX8_indexOf_17 ?_
        refine lv_iadd hx hb dX8_indexOf_18 ?_
        refine lv_iload_n hx hb dX8_indexOf_19 rfl (lv_at hl 3 rfl) ?_
        refine lv_iadd hx hb dX8_indexOf_20 ?_
        have h_21 := qf_ld_in hf
        refine qw_ild S0 V q0 ha0 h_21 dX8_indexOf_21 ?_
        refine lv_topi (fun x2 e_x2 => ?_)
        replace hf := qf_ld_e e_x2 hf
        refine lv_iload_n hx hb dX8_indexOf_22 rfl (lv_at hl 2 rfl) ?_
        refine lv_icmp_ne (tgt := 28) hx hb dX8_indexOf_23 (by decide) (fun c_23 => ?_) (fun c_23 => ?_)
        · replace hf := qf_f c_23 hf
          obtain ⟨x3, e_x3⟩ : ∃ y : Int32, y = y3 + (1 : Int32) := ⟨_, rfl⟩
          refine lv_iinc (v := x3) (lv' := [(3, .int x3), (0, .ref a0), (1, .int y1), (2, .int y2)]) hx hb dX8_indexOf_28 hl (k := 3) rfl (by rw [e_x3]; rfl) (by decide) rfl (fun ls hl => ?_)
          replace hf := qf_let_e e_x3 hf
          refine lv_goto (tgt := 2) hx hb dX8_indexOf_31 (by decide) ?_
          exact ih hf (lv_sub hl [1, 2, 3, 0] rfl)
        · replace hf := qf_t c_23 hf
          refine lv_iload_n hx hb dX8_indexOf_26 rfl (lv_at hl 3 rfl) ?_
          have hE := Option.some.inj hf
          exact qw_iretR S0 hr hlocks hQ hE dX8_indexOf_27
  unfold f_X8_indexOf at hf
  refine lv_iconst (v := 0) hx hb dX8_indexOf_0 (by decide) ?_
  refine lv_istore_n (lv' := [(3, .int (0 : Int32)), (0, .ref a0), (1, .int p1), (2, .int p2)]) hx hb dX8_indexOf_1 rfl hl (by decide) rfl (fun ls hl => ?_)
  exact L_2 hf (lv_sub hl [1, 2, 3, 0] rfl)
theorem kd_X8_readNewName : yX8_readNewName.cls = RX8 ∧ yX8_readNewName.cls ≠ "java/lang/invoke/MethodHandle" ∧ yX8_readNewName.cls ≠ "java/lang/invoke/VarHandle" ∧ (parseMethodDescriptor yX8_readNewName.desc).map (fun d => d.parameters.length) = some 0 := by decide +kernel
def f_X8_readNewName_j41 (A : Nat → Nat → Int32) (w : Int64) (K18 : (Nat → Int32) → Int32 → Option (Int32 × (Nat → Int32) × (Int64))) (I : Nat → Int32) (y1 : Int32) (y2 : Int32) (s0 : Int32) : Option (Int32 × (Nat → Int32) × (Int64)) :=
  qf_bd (f_X8_check I s0 (-14 : Int32)) fun I6 =>
  qf_let (y2 + (1 : Int32)) fun x7 =>
  K18 I6 x7
def f_X8_readNewName_l18 (A : Nat → Nat → Int32) (w : Int64)  (y1 : Int32) : Nat → (Nat → Int32) → Int32 → Option (Int32 × (Nat → Int32) × (Int64))
  | 0, _, _ => none
  | n + 1, I, y2 =>
  if (3 : Int32) < y2 then (qf_bd2 (f_X8_advanceIfGood A I w) fun I3 w4 =>
    some (y1, I3, w4)) else (qf_bd (f_X8_indexOf 62 (A 4) y2 y1) fun r5 =>
    if 0 ≤ r5 then (f_X8_readNewName_j41 A w (fun z0 z1 => f_X8_readNewName_l18 A w y1 n z0 z1) I y1 y2 (0 : Int32)) else (f_X8_readNewName_j41 A w (fun z0 z1 => f_X8_readNewName_l18 A w y1 n z0 z1) I y1 y2 (1 : Int32)))
def f_X8_readNewName_j15 (A : Nat → Nat → Int32) (w : Int64)  (I : Nat → Int32) (s0 : Int32) : Option (Int32 × (Nat → Int32) × (Int64)) :=
  f_X8_readNewName_l18 A w s0 100000 I (0 : Int32)
def f_X8_readNewName (A : Nat → Nat → Int32) (I : Nat → Int32) (w : Int64) : Option (Int32 × (Nat → Int32) × (Int64)) :=
  if (I 8) = 0 then (qf_bd2 (f_X8_lettersHere w I) fun r1 I2 =>
    f_X8_readNewName_j15 A w I2 r1) else (f_X8_readNewName_j15 A w I (0 : Int32))
abbrev wz_X8_readNewName : List Cond := Cond.code yX8_readNewName cX8_readNewName 3 (some .int) :: qw_big
def rm_X8_readNewName : Room := { frames := 3, cells := 0, slots := 0, locals := 63 }
set_option maxHeartbeats 4000000 in
set_option maxRecDepth 100000 in
theorem c_X8_readNewName (l : Launch) {D : va_G} {cy : Nat → ClassId} {ad : Nat → Nat} {I : Nat → Int32} {A : Nat → Nat → Int32} {w : Int64}  {rv : Int32} {I9 : Nat → Int32} {w9 : Int64} {sz : Nat} (hf : f_X8_readNewName A I w = some (rv, I9, w9)) : Met l yX8_readNewName wz_X8_readNewName rm_X8_readNewName (va_Pc [.ref (ad 0)] (qw_Pre D cy (Wm cy ad I A w) sz)) (qw_Q (some (.int rv)) D (Wm cy ad I9 A w9) (va_A (Wm cy ad I A w) sz)) 0 0 (va_A (Wm cy ad I A w) sz) := by
  refine qw_of (cc := cX8_readNewName) (maxL := 3) (ret := (some .int)) (by decide) (Nat.le_of_ble_eq_true rfl) ?_
  intro p e s m args below meth c ls S0 hr hlocks hsz V hl
  have S0 : CallFix p m c cX8_readNewName 3 s args qw_big RX8 := S0
  have hx := S0.1; have hb := S0.2.1; have hown := S0.2.2.2.1; have hts := S0.2.2.2.2
  have hl : lv_has ls 3 [(0, .ref (ad 0))] := hl
  generalize va_A (Wm cy ad I A w) sz = Z9 at V ⊢
  obtain ⟨Q9, hQ⟩ : ∃ q, q = MQ below (qw_Q (some (.int rv)) D (Wm cy ad I9 A w9) Z9) args s 0 0 Z9 := ⟨_, rfl⟩
  rw [← hQ]
  clear hsz
  have J_41 : ∀ {K18 : (Nat → Int32) → Int32 → Option (Int32 × (Nat → Int32) × (Int64))} {y1 : Int32}  (hK18 : ∀ {I : Nat → Int32} {y2 : Int32} {H : Heap} {locs : List Loc} {ls : Array Slot}, K18 I y2 = some (rv, I9, w9) → qw_V D cy Z9 s (Wm cy ad I A w) H locs → lv_has ls 3 [(0, .ref (ad 0)), (1, .int y1), (2, .int y2)] → W p l e rm_X8_readNewName s m args below meth c H locs 0 0 Q9 (F0 m 18 ls [])) {I : Nat → Int32} {y2 : Int32} {s0 : Int32} {H : Heap} {locs : List Loc} {ls : Array Slot}, f_X8_readNewName_j41 A w K18 I y1 y2 s0 = some (rv, I9, w9) → qw_V D cy Z9 s (Wm cy ad I A w) H locs → lv_has ls 3 [(0, .ref (ad 0)), (1, .int y1), (2, .int y2)] → W p l e rm_X8_readNewName s m args below meth c H locs 0 0 Q9 (F0 m 41 ls [.int s0, .ref (ad 0)]) := by
    intro K18 y1 hK18 I y2 s0 H locs ls hf V hl
    unfold f_X8_readNewName_j41 at hf
    refine lv_bipush (v := -14) hx hb dX8_readNewName_41 (by decide) ?_
    obtain ⟨I6, hc_43, hf⟩ := qf_bd_e hf
    refine qw_cV (rest := []) (st1 := []) S0 V hl 0 gM_0 rfl (c_X8_check l hc_43) kg_X8_97 rfl ⟨rfl, rfl⟩ kd_X8_check ⟨Nat.le_of_ble_eq_true rfl, Nat.le_of_ble_eq_true rfl⟩ rfl rfl (Nat.le_of_ble_eq_true rfl) ⟨Nat.zero_le _, Nat.zero_le _⟩ rfl dX8_readNewName_43 (fun H locs V => ?_)
    obtain ⟨x7, e_x7⟩ : ∃ y : Int32, y = y2 + (1 : Int32) := ⟨_, rfl⟩
    refine lv_iinc (v := x7) (lv' := [(2, .int x7), (0, .ref (ad 0)), (1, .int y1)]) hx hb dX8_readNewName_46 hl (k := 2) rfl (by rw [e_x7]; rfl) (by decide) rfl (fun ls hl => ?_)
    replace hf := qf_let_e e_x7 hf
    refine lv_goto (tgt := 18) hx hb dX8_readNewName_49 (by decide) ?_
    exact hK18 hf V (lv_sub hl [1, 2, 0] rfl)
  have L_18 : ∀  {y1 : Int32} {n : Nat} {I : Nat → Int32} {y2 : Int32} {H : Heap} {locs : List Loc} {ls : Array Slot}, f_X8_readNewName_l18 A w y1 n I y2 = some (rv, I9, w9) → qw_V D cy Z9 s (Wm cy ad I A w) H locs → lv_has ls 3 [(0, .ref (ad 0)), (1, .int y1), (2, .int y2)] → W p l e rm_X8_readNewName s m args below meth c H locs 0 0 Q9 (F0 m 18 ls []) := by
    intro y1 n
    induction n with
    | zero => intro I y2 H locs ls hf V hl; exact qf_no hf
    | succ n ih =>
      intro I y2 H locs ls hf V hl
      rw [f_X8_readNewName_l18] at hf
      refine lv_iload_n hx hb dX8_readNewName_18 rfl (lv_at hl 2 rfl) ?_
      refine lv_iconst (v := 3) hx hb dX8_readNewName_19 (by decide) ?_
      refine lv_icmp_gt (tgt := 52) hx hb dX8_readNewName_20 (by decide) (fun c_20 => ?_) (fun c_20 => ?_)
      · replace hf := qf_t c_20 hf
        refine lv_aload_n hx hb dX8_readNewName_52 rfl (lv_at hl 0 rfl) ?_
        obtain ⟨I3, w4, hc_53, hf⟩ := qf_bd2_e hf
        refine qw_cV (rest := []) (st1 := []) S0 V hl 0 gM_0 rfl (c_X8_advanceIfGood l hc_53) kg_X8_101 rfl ⟨rfl, rfl⟩ kd_X8_advanceIfGood ⟨Nat.le_of_ble_eq_true rfl, Nat.le_of_ble_eq_true rfl⟩ rfl rfl (Nat.le_of_ble_eq_true rfl) ⟨Nat.zero_le _, Nat.zero_le _⟩ rfl dX8_readNewName_53 (fun H locs V => ?_)
        refine lv_iload_n hx hb dX8_readNewName_56 rfl (lv_at hl 1 rfl) ?_
        have hE := Option.some.inj hf
        obtain ⟨e0, hE⟩ := qf_pr hE
        obtain ⟨e1, hE⟩ := qf_pr hE
        exact qw_ireti S0 hr hlocks hQ e0 (by rw [e1, hE]) V dX8_readNewName_57
      · replace hf := qf_f c_20 hf
        refine lv_aload_n hx hb dX8_readNewName_23 rfl (lv_at hl 0 rfl) ?_
        refine lv_aload_n hx hb dX8_readNewName_24 rfl (lv_at hl 0 rfl) ?_
        refine gfM_0_6 S0 V kl_X8_22 dX8_readNewName_25 ?_
        refine lv_iload_n hx hb dX8_readNewName_28 rfl (lv_at hl 2 rfl) ?_
        refine lv_iload_n hx hb dX8_readNewName_29 rfl (lv_at hl 1 rfl) ?_
        obtain ⟨r5, hc_30, hf⟩ := qf_bd_e hf
        refine qw_cSR (rest := [.ref (ad 0)]) (st1 := [.int r5, .ref (ad 0)]) S0 V hl (c_X8_indexOf l (q0 := 5) gM_5 hc_30) kg_X8_127 rfl ⟨rfl, rfl⟩ kd_X8_indexOf ⟨Nat.le_of_ble_eq_true rfl, Nat.le_of_ble_eq_true rfl⟩ rfl rfl (Nat.le_of_ble_eq_true rfl) ⟨Nat.zero_le _, Nat.zero_le _⟩ rfl dX8_readNewName_30 ?_
        refine lv_if_ge (tgt := 40) hx hb dX8_readNewName_33 (by decide) (fun c_33 => ?_) (fun c_33 => ?_)
        · replace hf := qf_t c_33 hf
          refine lv_iconst (v := 0) hx hb dX8_readNewName_40 (by decide) ?_
          exact J_41 (fun hf V hl => ih hf V hl) hf V (lv_sub hl [0, 1, 2] rfl)
        · replace hf := qf_f c_33 hf
          refine lv_iconst (v := 1) hx hb dX8_readNewName_36 (by decide) ?_
          refine lv_goto (tgt := 41) hx hb dX8_readNewName_37 (by decide) ?_
          exact J_41 (fun hf V hl => ih hf V hl) hf V (lv_sub hl [0, 1, 2] rfl)
  have J_15 : ∀  {I : Nat → Int32} {s0 : Int32} {H : Heap} {locs : List Loc} {ls : Array Slot}, f_X8_readNewName_j15 A w I s0 = some (rv, I9, w9) → qw_V D cy Z9 s (Wm cy ad I A w) H locs → lv_has ls 3 [(0, .ref (ad 0))] → W p l e rm_X8_readNewName s m args below meth c H locs 0 0 Q9 (F0 m 15 ls [.int s0]) := by
    intro I s0 H locs ls hf V hl
    unfold f_X8_readNewName_j15 at hf
    refine lv_istore_n (lv' := [(1, .int s0), (0, .ref (ad 0))]) hx hb dX8_readNewName_15 rfl hl (by decide) rfl (fun ls hl => ?_)
    refine lv_iconst (v := 0) hx hb dX8_readNewName_16 (by decide) ?_
    refine lv_istore_n (lv' := [(2, .int (0 : Int32)), (1, .int s0), (0, .ref (ad 0))]) hx hb dX8_readNewName_17 rfl hl (by decide) rfl (fun ls hl => ?_)
    exact L_18 hf V (lv_sub hl [2, 1, 0] rfl)
  unfold f_X8_readNewName at hf
  refine lv_aload_n hx hb dX8_readNewName_0 rfl (lv_at hl 0 rfl) ?_
  refine gfM_0_15 S0 V kl_X8_91 dX8_readNewName_1 ?_
  refine lv_if_ne (tgt := 14) hx hb dX8_readNewName_4 (by decide) (fun c_4 => ?_) (fun c_4 => ?_)
  · replace hf := qf_f c_4 hf
    refine lv_iconst (v := 0) hx hb dX8_readNewName_14 (by decide) ?_
    exact J_15 hf V (lv_sub hl [0] rfl)
  · replace hf := qf_t c_4 hf
    refine lv_aload_n hx hb dX8_readNewName_7 rfl (lv_at hl 0 rfl) ?_
    obtain ⟨r1, I2, hc_8, hf⟩ := qf_bd2_e hf
    refine qw_cV (rest := []) (st1 := [.int r1]) S0 V hl 0 gM_0 rfl (c_X8_lettersHere l hc_8) kg_X8_124 rfl ⟨rfl, rfl⟩ kd_X8_lettersHere ⟨Nat.le_of_ble_eq_true rfl, Nat.le_of_ble_eq_true rfl⟩ rfl rfl (Nat.le_of_ble_eq_true rfl) ⟨Nat.zero_le _, Nat.zero_le _⟩ rfl dX8_readNewName_8 (fun H locs V => ?_)
    refine lv_goto (tgt := 15) hx hb dX8_readNewName_11 (by decide) ?_
    exact J_15 hf V (lv_sub hl [0] rfl)
theorem kd_X8_readOldName : yX8_readOldName.cls = RX8 ∧ yX8_readOldName.cls ≠ "java/lang/invoke/MethodHandle" ∧ yX8_readOldName.cls ≠ "java/lang/invoke/VarHandle" ∧ (parseMethodDescriptor yX8_readOldName.desc).map (fun d => d.parameters.length) = some 1 := by decide +kernel
def f_X8_readOldName_j34 (A : Nat → Nat → Int32) (w : Int64)  (I : Nat → Int32) (y2 : Int32) (s0 : Int32) : Option (Int32 × (Nat → Int32)) :=
  qf_bd (f_X8_check I s0 (-13 : Int32)) fun I4 =>
  some (y2, I4)
def f_X8_readOldName_j23 (A : Nat → Nat → Int32) (w : Int64)  (I : Nat → Int32) (s0 : Int32) : Option (Int32 × (Nat → Int32)) :=
  if s0 < 0 then (f_X8_readOldName_j34 A w I s0 (0 : Int32)) else (f_X8_readOldName_j34 A w I s0 (1 : Int32))
def f_X8_readOldName (A : Nat → Nat → Int32) (w : Int64) (I : Nat → Int32) (p1 : Int32) : Option (Int32 × (Nat → Int32)) :=
  if (I 8) = 0 then (qf_bd2 (f_X8_lettersHere w I) fun r1 I2 =>
    qf_bd (f_X8_indexOf 62 (A 4) p1 r1) fun r3 =>
    f_X8_readOldName_j23 A w I2 r3) else (f_X8_readOldName_j23 A w I (-1 : Int32))
abbrev wz_X8_readOldName : List Cond := Cond.code yX8_readOldName cX8_readOldName 3 (some .int) :: qw_big
def rm_X8_readOldName : Room := { frames := 2, cells := 0, slots := 0, locals := 44 }
set_option maxHeartbeats 4000000 in
set_option maxRecDepth 100000 in
theorem c_X8_readOldName (l : Launch) {D : va_G} {cy : Nat → ClassId} {ad : Nat → Nat} {I : Nat → Int32} {A : Nat → Nat → Int32} {w : Int64} {p1 : Int32} {rv : Int32} {I9 : Nat → Int32} {sz : Nat} (hf : f_X8_readOldName A w I p1 = some (rv, I9)) : Met l yX8_readOldName wz_X8_readOldName rm_X8_readOldName (va_Pc [.ref (ad 0), .int p1] (qw_Pre D cy (Wm cy ad I A w) sz)) (qw_Q (some (.int rv)) D (Wm cy ad I9 A w) (va_A (Wm cy ad I A w) sz)) 0 0 (va_A (Wm cy ad I A w) sz) := by
  refine qw_of (cc := cX8_readOldName) (maxL := 3) (ret := (some .int)) (by decide) (Nat.le_of_ble_eq_true rfl) ?_
  intro p e s m args below meth c ls S0 hr hlocks hsz V hl
  have S0 : CallFix p m c cX8_readOldName 3 s args qw_big RX8 := S0
  have hx := S0.1; have hb := S0.2.1; have hown := S0.2.2.2.1; have hts := S0.2.2.2.2
  have hl : lv_has ls 3 [(0, .ref (ad 0)), (1, .int p1)] := hl
  generalize va_A (Wm cy ad I A w) sz = Z9 at V ⊢
  obtain ⟨Q9, hQ⟩ : ∃ q, q = MQ below (qw_Q (some (.int rv)) D (Wm cy ad I9 A w) Z9) args s 0 0 Z9 := ⟨_, rfl⟩
  rw [← hQ]
  clear hsz
  have J_34 : ∀  {I : Nat → Int32} {y2 : Int32} {s0 : Int32} {H : Heap} {locs : List Loc} {ls : Array Slot}, f_X8_readOldName_j34 A w I y2 s0 = some (rv, I9) → qw_V D cy Z9 s (Wm cy ad I A w) H locs → lv_has ls 3 [(2, .int y2)] → W p l e rm_X8_readOldName s m args below meth c H locs 0 0 Q9 (F0 m 34 ls [.int s0, .ref (ad 0)]) := by
    intro I y2 s0 H locs ls hf V hl
    unfold f_X8_readOldName_j34 at hf
    refine lv_bipush (v := -13) hx hb dX8_readOldName_34 (by decide) ?_
    obtain ⟨I4, hc_36, hf⟩ := qf_bd_e hf
    refine qw_cV (rest := []) (st1 := []) S0 V hl 0 gM_0 rfl (c_X8_check l hc_36) kg_X8_97 rfl ⟨rfl, rfl⟩ kd_X8_check ⟨Nat.le_of_ble_eq_true rfl, Nat.le_of_ble_eq_true rfl⟩ rfl rfl (Nat.le_of_ble_eq_true rfl) ⟨Nat.zero_le _, Nat.zero_le _⟩ rfl dX8_readOldName_36 (fun H locs V => ?_)
    refine lv_iload_n hx hb dX8_readOldName_39 rfl (lv_at hl 0 rfl) ?_
    have hE := Option.some.inj hf
    obtain ⟨e0, hE⟩ := qf_pr hE
    exact qw_ireti S0 hr hlocks hQ e0 (by rw [hE]) V dX8_readOldName_40
  have J_23 : ∀  {I : Nat → Int32} {s0 : Int32} {H : Heap} {locs : List Loc} {ls : Array Slot}, f_X8_readOldName_j23 A w I s0 = some (rv, I9) → qw_V D cy Z9 s (Wm cy ad I A w) H locs → lv_has ls 3 [(0, .ref (ad 0))] → W p l e rm_X8_readOldName s m args below meth c H locs 0 0 Q9 (F0 m 23 ls [.int s0]) := by
    intro I s0 H locs ls hf V hl
    unfold f_X8_readOldName_j23 at hf
    refine lv_istore_n (lv' := [(2, .int s0), (0, .ref (ad 0))]) hx hb dX8_readOldName_23 rfl hl (by decide) rfl (fun ls hl => ?_)
    refine lv_aload_n hx hb dX8_readOldName_24 rfl (lv_at hl 1 rfl) ?_
    refine lv_iload_n hx hb dX8_readOldName_25 rfl (lv_at hl 0 rfl) ?_
    refine lv_if_lt (tgt := 33) hx hb dX8_readOldName_26 (by decide) (fun c_26 => ?_) (fun c_26 => ?_)
    · replace hf := qf_t c_26 hf
      refine lv_iconst (v := 0) hx hb dX8_readOldName_33 (by decide) ?_
      exact J_34 hf V (lv_sub hl [0] rfl)
    · replace hf := qf_f c_26 hf
      refine lv_iconst (v := 1) hx hb dX8_readOldName_29 (by decide) ?_
      refine lv_goto (tgt := 34) hx hb dX8_readOldName_30 (by decide) ?_
      exact J_34 hf V (lv_sub hl [0] rfl)
  unfold f_X8_readOldName at hf
  refine lv_aload_n hx hb dX8_readOldName_0 rfl (lv_at hl 0 rfl) ?_
  refine gfM_0_15 S0 V kl_X8_91 dX8_readOldName_1 ?_
  refine lv_if_ne (tgt := 22) hx hb dX8_readOldName_4 (by decide) (fun c_4 => ?_) (fun c_4 => ?_)
  · replace hf := qf_f c_4 hf
    refine lv_iconst (v := -1) hx hb dX8_readOldName_22 (by decide) ?_
    exact J_23 hf V (lv_sub hl [0] rfl)
  · replace hf := qf_t c_4 hf
    refine lv_aload_n hx hb dX8_readOldName_7 rfl (lv_at hl 0 rfl) ?_
    refine gfM_0_6 S0 V kl_X8_22 dX8_readOldName_8 ?_
    refine lv_iload_n hx hb dX8_readOldName_11 rfl (lv_at hl 1 rfl) ?_
    refine lv_aload_n hx hb dX8_readOldName_12 rfl (lv_at hl 0 rfl) ?_
    obtain ⟨r1, I2, hc_13, hf⟩ := qf_bd2_e hf
    refine qw_cV (rest := [.int p1, .ref (ad 5)]) (st1 := [.int r1, .int p1, .ref (ad 5)]) S0 V hl 0 gM_0 rfl (c_X8_lettersHere l hc_13) kg_X8_124 rfl ⟨rfl, rfl⟩ kd_X8_lettersHere ⟨Nat.le_of_ble_eq_true rfl, Nat.le_of_ble_eq_true rfl⟩ rfl rfl (Nat.le_of_ble_eq_true rfl) ⟨Nat.zero_le _, Nat.zero_le _⟩ rfl dX8_readOldName_13 (fun H locs V => ?_)
    obtain ⟨r3, hc_16, hf⟩ := qf_bd_e hf
    refine qw_cSR (rest := []) (st1 := [.int r3]) S0 V hl (c_X8_indexOf l (q0 := 5) gM_5 hc_16) kg_X8_127 rfl ⟨rfl, rfl⟩ kd_X8_indexOf ⟨Nat.le_of_ble_eq_true rfl, Nat.le_of_ble_eq_true rfl⟩ rfl rfl (Nat.le_of_ble_eq_true rfl) ⟨Nat.zero_le _, Nat.zero_le _⟩ rfl dX8_readOldName_16 ?_
    refine lv_goto (tgt := 23) hx hb dX8_readOldName_19 (by decide) ?_
    exact J_23 hf V (lv_sub hl [0] rfl)
theorem kd_X8_begin : yX8_begin.cls = RX8 ∧ yX8_begin.cls ≠ "java/lang/invoke/MethodHandle" ∧ yX8_begin.cls ≠ "java/lang/invoke/VarHandle" ∧ (parseMethodDescriptor yX8_begin.desc).map (fun d => d.parameters.length) = some 2 := by decide +kernel
def f_X8_begin_j18 (I : Nat → Int32) (A : Nat → Nat → Int32) (w : Int64)  (s0 : Int32) : Option (Int32 × (Nat → Int32) × (Int64)) :=
  qf_bd (f_X8_check I s0 (-15 : Int32)) fun I2 =>
  qf_bd2 (f_X8_advanceIfGood A I2 w) fun I3 w4 =>
  qf_bd3 (f_X8_readNewName A I3 w4) fun r5 I6 w7 =>
  some (r5, I6, w7)
def f_X8_begin (A : Nat → Nat → Int32) (I : Nat → Int32) (w : Int64) (p1 : Int32) (p2 : Int32) : Option (Int32 × (Nat → Int32) × (Int64)) :=
  qf_ld 62 (A 4) ((0 : Int32) + p1) fun x1 =>
  if p2 ≤ x1 then (f_X8_begin_j18 I A w (0 : Int32)) else (f_X8_begin_j18 I A w (1 : Int32))
abbrev wz_X8_begin : List Cond := Cond.code yX8_begin cX8_begin 3 (some .int) :: qw_big
def rm_X8_begin : Room := { frames := 4, cells := 0, slots := 0, locals := 85 }
set_option maxHeartbeats 4000000 in
set_option maxRecDepth 100000 in
theorem c_X8_begin (l : Launch) {D : va_G} {cy : Nat → ClassId} {ad : Nat → Nat} {I : Nat → Int32} {A : Nat → Nat → Int32} {w : Int64} {p1 : Int32} {p2 : Int32} {rv : Int32} {I9 : Nat → Int32} {w9 : Int64} {sz : Nat} (hf : f_X8_begin A I w p1 p2 = some (rv, I9, w9)) : Met l yX8_begin wz_X8_begin rm_X8_begin (va_Pc [.ref (ad 0), .int p1, .int p2] (qw_Pre D cy (Wm cy ad I A w) sz)) (qw_Q (some (.int rv)) D (Wm cy ad I9 A w9) (va_A (Wm cy ad I A w) sz)) 0 0 (va_A (Wm cy ad I A w) sz) := by
  refine qw_of (cc := cX8_begin) (maxL := 3) (ret := (some .int)) (by decide) (Nat.le_of_ble_eq_true rfl) ?_
  intro p e s m args below meth c ls S0 hr hlocks hsz V hl
  have S0 : CallFix p m c cX8_begin 3 s args qw_big RX8 := S0
  have hx := S0.1; have hb := S0.2.1; have hown := S0.2.2.2.1; have hts := S0.2.2.2.2
  have hl : lv_has ls 3 [(0, .ref (ad 0)), (1, .int p1), (2, .int p2)] := hl
  generalize va_A (Wm cy ad I A w) sz = Z9 at V ⊢
  obtain ⟨Q9, hQ⟩ : ∃ q, q = MQ below (qw_Q (some (.int rv)) D (Wm cy ad I9 A w9) Z9) args s 0 0 Z9 := ⟨_, rfl⟩
  rw [← hQ]
  clear hsz
  have J_18 : ∀   {s0 : Int32} {H : Heap} {locs : List Loc} {ls : Array Slot}, f_X8_begin_j18 I A w s0 = some (rv, I9, w9) → qw_V D cy Z9 s (Wm cy ad I A w) H locs → lv_has ls 3 [(0, .ref (ad 0))] → W p l e rm_X8_begin s m args below meth c H locs 0 0 Q9 (F0 m 18 ls [.int s0, .ref (ad 0)]) := by
    intro s0 H locs ls hf V hl
    unfold f_X8_begin_j18 at hf
    refine lv_bipush (v := -15) hx hb dX8_begin_18 (by decide) ?_
    obtain ⟨I2, hc_20, hf⟩ := qf_bd_e hf
    refine qw_cV (rest := []) (st1 := []) S0 V hl 0 gM_0 rfl (c_X8_check l hc_20) kg_X8_97 rfl ⟨rfl, rfl⟩ kd_X8_check ⟨Nat.le_of_ble_eq_true rfl, Nat.le_of_ble_eq_true rfl⟩ rfl rfl (Nat.le_of_ble_eq_true rfl) ⟨Nat.zero_le _, Nat.zero_le _⟩ rfl dX8_begin_20 (fun H locs V => ?_)
    refine lv_aload_n hx hb dX8_begin_23 rfl (lv_at hl 0 rfl) ?_
    obtain ⟨I3, w4, hc_24, hf⟩ := qf_bd2_e hf
    refine qw_cV (rest := []) (st1 := []) S0 V hl 0 gM_0 rfl (c_X8_advanceIfGood l hc_24) kg_X8_101 rfl ⟨rfl, rfl⟩ kd_X8_advanceIfGood ⟨Nat.le_of_ble_eq_true rfl, Nat.le_of_ble_eq_true rfl⟩ rfl rfl (Nat.le_of_ble_eq_true rfl) ⟨Nat.zero_le _, Nat.zero_le _⟩ rfl dX8_begin_24 (fun H locs V => ?_)
    refine lv_aload_n hx hb dX8_begin_27 rfl (lv_at hl 0 rfl) ?_
    obtain ⟨r5, I6, w7, hc_28, hf⟩ := qf_bd3_e hf
    refine qw_cV (rest := []) (st1 := [.int r5]) S0 V hl 0 gM_0 rfl (c_X8_readNewName l hc_28) kg_X8_131 rfl ⟨rfl, rfl⟩ kd_X8_readNewName ⟨Nat.le_of_ble_eq_true rfl, Nat.le_of_ble_eq_true rfl⟩ rfl rfl (Nat.le_of_ble_eq_true rfl) ⟨Nat.zero_le _, Nat.zero_le _⟩ rfl dX8_begin_28 (fun H locs V => ?_)
    have hE := Option.some.inj hf
    obtain ⟨e0, hE⟩ := qf_pr hE
    obtain ⟨e1, hE⟩ := qf_pr hE
    exact qw_ireti S0 hr hlocks hQ e0 (by rw [e1, hE]) V dX8_begin_31
  unfold f_X8_begin at hf
  refine lv_aload_n hx hb dX8_begin_0 rfl (lv_at hl 0 rfl) ?_
  refine lv_aload_n hx hb dX8_begin_1 rfl (lv_at hl 0 rfl) ?_
  refine gfM_0_6 S0 V kl_X8_22 dX8_begin_2 ?_
  refine lv_iconst (v := 0) hx hb dX8_begin_5 (by decide) ?_
  refine lv_iload_n hx hb dX8_begin_6 rfl (lv_at hl 1 rfl) ?_
  refine lv_iadd hx hb dX8_begin_7 ?_
  have h_8 := qf_ld_in hf
  refine alM_5 S0 V h_8 dX8_begin_8 ?_
  refine lv_topi (fun x1 e_x1 => ?_)
  replace hf := qf_ld_e e_x1 hf
  refine lv_iload_n hx hb dX8_begin_9 rfl (lv_at hl 2 rfl) ?_
  refine lv_icmp_ge (tgt := 17) hx hb dX8_begin_10 (by decide) (fun c_10 => ?_) (fun c_10 => ?_)
  · replace hf := qf_t c_10 hf
    refine lv_iconst (v := 0) hx hb dX8_begin_17 (by decide) ?_
    exact J_18 hf V (lv_sub hl [0] rfl)
  · replace hf := qf_f c_10 hf
    refine lv_iconst (v := 1) hx hb dX8_begin_13 (by decide) ?_
    refine lv_goto (tgt := 18) hx hb dX8_begin_14 (by decide) ?_
    exact J_18 hf V (lv_sub hl [0] rfl)
theorem kd_X8_declare : yX8_declare.cls = RX8 ∧ yX8_declare.cls ≠ "java/lang/invoke/MethodHandle" ∧ yX8_declare.cls ≠ "java/lang/invoke/VarHandle" ∧ (parseMethodDescriptor yX8_declare.desc).map (fun d => d.parameters.length) = some 2 := by decide +kernel
def f_X8_declare (I : Nat → Int32) (A : Nat → Nat → Int32) (p1 : Int32) (p2 : Int32) : Option ((Nat → Nat → Int32)) :=
  if (I 8) = 0 then (qf_ld 62 (A 4) ((0 : Int32) + p1) fun x1 =>
    qf_st 62 (((38 : Int32) + ((6 : Int32) * p1)) + x1) fun i3 =>
    qf_let (qf_up A 4 (upd (A 4) i3 p2)) fun A2 =>
    qf_ld 62 (A2 4) ((0 : Int32) + p1) fun x4 =>
    qf_st 62 ((0 : Int32) + p1) fun i6 =>
    qf_let (qf_up A2 4 (upd (A2 4) i6 (x4 + (1 : Int32)))) fun A5 =>
    some (A5)) else (some (A))
abbrev wz_X8_declare : List Cond := Cond.code yX8_declare cX8_declare 3 none :: qw_big
def rm_X8_declare : Room := { frames := 0, cells := 0, slots := 0, locals := 0 }
set_option maxHeartbeats 4000000 in
set_option maxRecDepth 100000 in
theorem c_X8_declare (l : Launch) {D : va_G} {cy : Nat → ClassId} {ad : Nat → Nat} {I : Nat → Int32} {A : Nat → Nat → Int32} {w : Int64} {p1 : Int32} {p2 : Int32} {A9 : Nat → Nat → Int32} {sz : Nat} (hf : f_X8_declare I A p1 p2 = some (A9)) : Met l yX8_declare wz_X8_declare rm_X8_declare (va_Pc [.ref (ad 0), .int p1, .int p2] (qw_Pre D cy (Wm cy ad I A w) sz)) (qw_Q none D (Wm cy ad I A9 w) (va_A (Wm cy ad I A w) sz)) 0 0 (va_A (Wm cy ad I A w) sz) := by
  refine qw_of (cc := cX8_declare) (maxL := 3) (ret := none) (by decide) (Nat.le_of_ble_eq_true rfl) ?_
  intro p e s m args below meth c ls S0 hr hlocks hsz V hl
  have S0 : CallFix p m c cX8_declare 3 s args qw_big RX8 := S0
  have hx := S0.1; have hb := S0.2.1; have hown := S0.2.2.2.1; have hts := S0.2.2.2.2
  have hl : lv_has ls 3 [(0, .ref (ad 0)), (1, .int p1), (2, .int p2)] := hl
  generalize va_A (Wm cy ad I A w) sz = Z9 at V ⊢
  obtain ⟨Q9, hQ⟩ : ∃ q, q = MQ below (qw_Q none D (Wm cy ad I A9 w) Z9) args s 0 0 Z9 := ⟨_, rfl⟩
  rw [← hQ]
  clear hsz
  unfold f_X8_declare at hf
  refine lv_aload_n hx hb dX8_declare_0 rfl (lv_at hl 0 rfl) ?_
  refine gfM_0_15 S0 V kl_X8_91 dX8_declare_1 ?_
  refine lv_if_eq (tgt := 8) hx hb dX8_declare_4 (by decide) (fun c_4 => ?_) (fun c_4 => ?_)
  · replace hf := qf_t c_4 hf
    refine lv_aload_n hx hb dX8_declare_8 rfl (lv_at hl 0 rfl) ?_
    refine gfM_0_6 S0 V kl_X8_22 dX8_declare_9 ?_
    refine lv_bipush (v := 38) hx hb dX8_declare_12 (by decide) ?_
    refine lv_bipush (v := 6) hx hb dX8_declare_14 (by decide) ?_
    refine lv_iload_n hx hb dX8_declare_16 rfl (lv_at hl 1 rfl) ?_
    refine lv_imul hx hb dX8_declare_17 ?_
    refine lv_iadd hx hb dX8_declare_18 ?_
    refine lv_aload_n hx hb dX8_declare_19 rfl (lv_at hl 0 rfl) ?_
    refine gfM_0_6 S0 V kl_X8_22 dX8_declare_20 ?_
    refine lv_iconst (v := 0) hx hb dX8_declare_23 (by decide) ?_
    refine lv_iload_n hx hb dX8_declare_24 rfl (lv_at hl 1 rfl) ?_
    refine lv_iadd hx hb dX8_declare_25 ?_
    have h_26 := qf_ld_in hf
    refine alM_5 S0 V h_26 dX8_declare_26 ?_
    refine lv_topi (fun x1 e_x1 => ?_)
    replace hf := qf_ld_e e_x1 hf
    refine lv_iadd hx hb dX8_declare_27 ?_
    refine lv_iload_n hx hb dX8_declare_28 rfl (lv_at hl 2 rfl) ?_
    have h_29 := qf_st_in hf
    replace hf := qf_st_e hf
    refine asM_5 S0 V h_29 dX8_declare_29 (fun H locs A2 e_A2 V => ?_)
    replace hf := qf_let_e e_A2 hf
    refine lv_aload_n hx hb dX8_declare_30 rfl (lv_at hl 0 rfl) ?_
    refine gfM_0_6 S0 V kl_X8_22 dX8_declare_31 ?_
    refine lv_iconst (v := 0) hx hb dX8_declare_34 (by decide) ?_
    refine lv_iload_n hx hb dX8_declare_35 rfl (lv_at hl 1 rfl) ?_
    refine lv_iadd hx hb dX8_declare_36 ?_
    refine lv_dup2_11 hx hb dX8_declare_37 rfl rfl ?_
    have h_38 := qf_ld_in hf
    refine alM_5 S0 V h_38 dX8_declare_38 ?_
    refine lv_topi (fun x4 e_x4 => ?_)
    replace hf := qf_ld_e e_x4 hf
    refine lv_iconst (v := 1) hx hb dX8_declare_39 (by decide) ?_
    refine lv_iadd hx hb dX8_declare_40 ?_
    have h_41 := qf_st_in hf
    replace hf := qf_st_e hf
    refine asM_5 S0 V h_41 dX8_declare_41 (fun H locs A5 e_A5 V => ?_)
    replace hf := qf_let_e e_A5 hf
    have hE := Option.some.inj hf
    exact qw_vreti S0 hr hlocks hQ (by rw [hE]) V dX8_declare_42
  · replace hf := qf_f c_4 hf
    have hE := Option.some.inj hf
    exact qw_vreti S0 hr hlocks hQ (by rw [hE]) V dX8_declare_7
theorem kd_X8_parseGroup : yX8_parseGroup.cls = RX8 ∧ yX8_parseGroup.cls ≠ "java/lang/invoke/MethodHandle" ∧ yX8_parseGroup.cls ≠ "java/lang/invoke/VarHandle" ∧ (parseMethodDescriptor yX8_parseGroup.desc).map (fun d => d.parameters.length) = some 0 := by decide +kernel
def f_X8_parseGroup (I : Nat → Int32) (A : Nat → Nat → Int32) (w : Int64) : Option ((Nat → Int32) × (Nat → Nat → Int32) × (Int64)) :=
  qf_ld 62 (A 4) (0 : Int32) fun x1 =>
  qf_bd3 (f_X8_begin A I w (0 : Int32) (4 : Int32)) fun r2 I3 w4 =>
  qf_bd3 (f_X8_readInteger A I3 w4 (0 : Int32) (99 : Int32)) fun r5 I6 w7 =>
  qf_bd3 (f_X8_readInteger A I6 w7 (1 : Int32) (4 : Int32)) fun r8 I9 w10 =>
  qf_bd3 (f_X8_readInteger A I9 w10 (0 : Int32) (100 : Int32)) fun r11 I12 w13 =>
  if (I12 8) = 0 then (qf_st 250 ((3 : Int32) + x1) fun i15 =>
    qf_let (qf_up A 1 (upd (A 1) i15 r5)) fun A14 =>
    qf_st 62 ((4 : Int32) + x1) fun i17 =>
    qf_let (qf_up A14 4 (upd (A14 4) i17 r8)) fun A16 =>
    qf_st 62 ((8 : Int32) + x1) fun i19 =>
    qf_let (qf_up A16 4 (upd (A16 4) i19 r11)) fun A18 =>
    qf_bd (f_X8_declare I12 A18 (0 : Int32) r2) fun A20 =>
    some (I12, A20, w13)) else (some (I12, A, w13))
abbrev wz_X8_parseGroup : List Cond := Cond.code yX8_parseGroup cX8_parseGroup 6 none :: qw_big
def rm_X8_parseGroup : Room := { frames := 5, cells := 0, slots := 0, locals := 107 }
set_option maxHeartbeats 4000000 in
set_option maxRecDepth 100000 in
theorem c_X8_parseGroup (l : Launch) {D : va_G} {cy : Nat → ClassId} {ad : Nat → Nat} {I : Nat → Int32} {A : Nat → Nat → Int32} {w : Int64}  {I9 : Nat → Int32} {A9 : Nat → Nat → Int32} {w9 : Int64} {sz : Nat} (hf : f_X8_parseGroup I A w = some (I9, A9, w9)) : Met l yX8_parseGroup wz_X8_parseGroup rm_X8_parseGroup (va_Pc [.ref (ad 0)] (qw_Pre D cy (Wm cy ad I A w) sz)) (qw_Q none D (Wm cy ad I9 A9 w9) (va_A (Wm cy ad I A w) sz)) 0 0 (va_A (Wm cy ad I A w) sz) := by
  refine qw_of (cc := cX8_parseGroup) (maxL := 6) (ret := none) (by decide) (Nat.le_of_ble_eq_true rfl) ?_
  intro p e s m args below meth c ls S0 hr hlocks hsz V hl
  have S0 : CallFix p m c cX8_parseGroup 6 s args qw_big RX8 := S0
  have hx := S0.1; have hb := S0.2.1; have hown := S0.2.2.2.1; have hts := S0.2.2.2.2
  have hl : lv_has ls 6 [(0, .ref (ad 0))] := hl
  generalize va_A (Wm cy ad I A w) sz = Z9 at V ⊢
  obtain ⟨Q9, hQ⟩ : ∃ q, q = MQ below (qw_Q none D (Wm cy ad I9 A9 w9) Z9) args s 0 0 Z9 := ⟨_, rfl⟩
  rw [← hQ]
  clear hsz
  unfold f_X8_parseGroup at hf
  refine lv_aload_n hx hb dX8_parseGroup_0 rfl (lv_at hl 0 rfl) ?_
  refine gfM_0_6 S0 V kl_X8_22 dX8_parseGroup_1 ?_
  refine lv_iconst (v := 0) hx hb dX8_parseGroup_4 (by decide) ?_
  have h_5 := qf_ld_in hf
  refine alM_5 S0 V h_5 dX8_parseGroup_5 ?_
  refine lv_topi (fun x1 e_x1 => ?_)
  replace hf := qf_ld_e e_x1 hf
  refine lv_istore_n (lv' := [(1, .int x1), (0, .ref (ad 0))]) hx hb dX8_parseGroup_6 rfl hl (by decide) rfl (fun ls hl => ?_)
  refine lv_aload_n hx hb dX8_parseGroup_7 rfl (lv_at hl 1 rfl) ?_
  refine lv_iconst (v := 0) hx hb dX8_parseGroup_8 (by decide) ?_
  refine lv_iconst (v := 4) hx hb dX8_parseGroup_9 (by decide) ?_
  obtain ⟨r2, I3, w4, hc_10, hf⟩ := qf_bd3_e hf
  refine qw_cV (rest := []) (st1 := [.int r2]) S0 V hl 0 gM_0 rfl (c_X8_begin l hc_10) kg_X8_134 rfl ⟨rfl, rfl⟩ kd_X8_begin ⟨Nat.le_of_ble_eq_true rfl, Nat.le_of_ble_eq_true rfl⟩ rfl rfl (Nat.le_of_ble_eq_true rfl) ⟨Nat.zero_le _, Nat.zero_le _⟩ rfl dX8_parseGroup_10 (fun H locs V => ?_)
  refine lv_istore_n (lv' := [(2, .int r2), (1, .int x1), (0, .ref (ad 0))]) hx hb dX8_parseGroup_13 rfl hl (by decide) rfl (fun ls hl => ?_)
  refine lv_aload_n hx hb dX8_parseGroup_14 rfl (lv_at hl 2 rfl) ?_
  refine lv_iconst (v := 0) hx hb dX8_parseGroup_15 (by decide) ?_
  refine lv_bipush (v := 99) hx hb dX8_parseGroup_16 (by decide) ?_
  obtain ⟨r5, I6, w7, hc_18, hf⟩ := qf_bd3_e hf
  refine qw_cV (rest := []) (st1 := [.int r5]) S0 V hl 0 gM_0 rfl (c_X8_readInteger l hc_18) kg_X8_138 rfl ⟨rfl, rfl⟩ kd_X8_readInteger ⟨Nat.le_of_ble_eq_true rfl, Nat.le_of_ble_eq_true rfl⟩ rfl rfl (Nat.le_of_ble_eq_true rfl) ⟨Nat.zero_le _, Nat.zero_le _⟩ rfl dX8_parseGroup_18 (fun H locs V => ?_)
  refine lv_istore_n (lv' := [(3, .int r5), (2, .int r2), (1, .int x1), (0, .ref (ad 0))]) hx hb dX8_parseGroup_21 rfl hl (by decide) rfl (fun ls hl => ?_)
  refine lv_aload_n hx hb dX8_parseGroup_22 rfl (lv_at hl 3 rfl) ?_
  refine lv_iconst (v := 1) hx hb dX8_parseGroup_23 (by decide) ?_
  refine lv_iconst (v := 4) hx hb dX8_parseGroup_24 (by decide) ?_
  obtain ⟨r8, I9, w10, hc_25, hf⟩ := qf_bd3_e hf
  refine qw_cV (rest := []) (st1 := [.int r8]) S0 V hl 0 gM_0 rfl (c_X8_readInteger l hc_25) kg_X8_138 rfl ⟨rfl, rfl⟩ kd_X8_readInteger ⟨Nat.le_of_ble_eq_true rfl, Nat.le_of_ble_eq_true rfl⟩ rfl rfl (Nat.le_of_ble_eq_true rfl) ⟨Nat.zero_le _, Nat.zero_le _⟩ rfl dX8_parseGroup_25 (fun H locs V => ?_)
  refine lv_istore (lv' := [(4, .int r8), (3, .int r5), (2, .int r2), (1, .int x1), (0, .ref (ad 0))]) hx hb dX8_parseGroup_28 hl (by decide) rfl (fun ls hl => ?_)
  refine lv_aload_n hx hb dX8_parseGroup_30 rfl (lv_at hl 4 rfl) ?_
  refine lv_iconst (v := 0) hx hb dX8_parseGroup_31 (by decide) ?_
  refine lv_bipush (v := 100) hx hb dX8_parseGroup_32 (by decide) ?_
  obtain ⟨r11, I12, w13, hc_34, hf⟩ := qf_bd3_e hf
  refine qw_cV (rest := []) (st1 := [.int r11]) S0 V hl 0 gM_0 rfl (c_X8_readInteger l hc_34) kg_X8_138 rfl ⟨rfl, rfl⟩ kd_X8_readInteger ⟨Nat.le_of_ble_eq_true rfl, Nat.le_of_ble_eq_true rfl⟩ rfl rfl (Nat.le_of_ble_eq_true rfl) ⟨Nat.zero_le _, Nat.zero_le _⟩ rfl dX8_parseGroup_34 (fun H locs V => ?_)
  refine lv_istore (lv' := [(5, .int r11), (4, .int r8), (3, .int r5), (2, .int r2), (1, .int x1), (0, .ref (ad 0))]) hx hb dX8_parseGroup_37 hl (by decide) rfl (fun ls hl => ?_)
  refine lv_aload_n hx hb dX8_parseGroup_39 rfl (lv_at hl 5 rfl) ?_
  refine gfM_0_15 S0 V kl_X8_91 dX8_parseGroup_40 ?_
  refine lv_if_eq (tgt := 47) hx hb dX8_parseGroup_43 (by decide) (fun c_43 => ?_) (fun c_43 => ?_)
  · replace hf := qf_t c_43 hf
    refine lv_aload_n hx hb dX8_parseGroup_47 rfl (lv_at hl 5 rfl) ?_
    refine gfM_0_1 S0 V kl_X8_13 dX8_parseGroup_48 ?_
    refine lv_iconst (v := 3) hx hb dX8_parseGroup_51 (by decide) ?_
    refine lv_iload_n hx hb dX8_parseGroup_52 rfl (lv_at hl 4 rfl) ?_
    refine lv_iadd hx hb dX8_parseGroup_53 ?_
    refine lv_iload_n hx hb dX8_parseGroup_54 rfl (lv_at hl 2 rfl) ?_
    have h_55 := qf_st_in hf
    replace hf := qf_st_e hf
    refine asM_2 S0 V h_55 dX8_parseGroup_55 (fun H locs A14 e_A14 V => ?_)
    replace hf := qf_let_e e_A14 hf
    refine lv_aload_n hx hb dX8_parseGroup_56 rfl (lv_at hl 5 rfl) ?_
    refine gfM_0_6 S0 V kl_X8_22 dX8_parseGroup_57 ?_
    refine lv_iconst (v := 4) hx hb dX8_parseGroup_60 (by decide) ?_
    refine lv_iload_n hx hb dX8_parseGroup_61 rfl (lv_at hl 4 rfl) ?_
    refine lv_iadd hx hb dX8_parseGroup_62 ?_
    refine lv_iload hx hb dX8_parseGroup_63 (lv_at hl 1 rfl) ?_
    have h_65 := qf_st_in hf
    replace hf := qf_st_e hf
    refine asM_5 S0 V h_65 dX8_parseGroup_65 (fun H locs A16 e_A16 V => ?_)
    replace hf := qf_let_e e_A16 hf
    refine lv_aload_n hx hb dX8_parseGroup_66 rfl (lv_at hl 5 rfl) ?_
    refine gfM_0_6 S0 V kl_X8_22 dX8_parseGroup_67 ?_
    refine lv_bipush (v := 8) hx hb dX8_parseGroup_70 (by decide) ?_
    refine lv_iload_n hx hb dX8_parseGroup_72 rfl (lv_at hl 4 rfl) ?_
    refine lv_iadd hx hb dX8_parseGroup_73 ?_
    refine lv_iload hx hb dX8_parseGroup_74 (lv_at hl 0 rfl) ?_
    have h_76 := qf_st_in hf
    replace hf := qf_st_e hf
    refine asM_5 S0 V h_76 dX8_parseGroup_76 (fun H locs A18 e_A18 V => ?_)
    replace hf := qf_let_e e_A18 hf
    refine lv_aload_n hx hb dX8_parseGroup_77 rfl (lv_at hl 5 rfl) ?_
    refine lv_iconst (v := 0) hx hb dX8_parseGroup_78 (by decide) ?_
    refine lv_iload_n hx hb dX8_parseGroup_79 rfl (lv_at hl 3 rfl) ?_
    obtain ⟨A20, hc_80, hf⟩ := qf_bd_e hf
    refine qw_cV (rest := []) (st1 := []) S0 V hl 0 gM_0 rfl (c_X8_declare l hc_80) kg_X8_141 rfl ⟨rfl, rfl⟩ kd_X8_declare ⟨Nat.le_of_ble_eq_true rfl, Nat.le_of_ble_eq_true rfl⟩ rfl rfl (Nat.le_of_ble_eq_true rfl) ⟨Nat.zero_le _, Nat.zero_le _⟩ rfl dX8_parseGroup_80 (fun H locs V => ?_)
    have hE := Option.some.inj hf
    obtain ⟨e0, hE⟩ := qf_pr hE
    obtain ⟨e1, hE⟩ := qf_pr hE
    exact qw_vreti S0 hr hlocks hQ (by rw [e0, e1, hE]) V dX8_parseGroup_83
  · replace hf := qf_f c_43 hf
    have hE := Option.some.inj hf
    obtain ⟨e0, hE⟩ := qf_pr hE
    obtain ⟨e1, hE⟩ := qf_pr hE
    exact qw_vreti S0 hr hlocks hQ (by rw [e0, e1, hE]) V dX8_parseGroup_46
theorem kd_X8_parseSwap : yX8_parseSwap.cls = RX8 ∧ yX8_parseSwap.cls ≠ "java/lang/invoke/MethodHandle" ∧ yX8_parseSwap.cls ≠ "java/lang/invoke/VarHandle" ∧ (parseMethodDescriptor yX8_parseSwap.desc).map (fun d => d.parameters.length) = some 0 := by decide +kernel
def f_X8_parseSwap_j58 (A : Nat → Nat → Int32)  (I : Nat → Int32) (w : Int64) (y1 : Int32) (y2 : Int32) (s0 : Int32) : Option ((Nat → Int32) × (Nat → Nat → Int32) × (Int64)) :=
  qf_bd (f_X8_check I s0 (-14 : Int32)) fun I11 =>
  qf_bd2 (f_X8_advanceIfGood A I11 w) fun I12 w13 =>
  qf_bd3 (f_X8_readInteger A I12 w13 (1 : Int32) (9 : Int32)) fun r14 I15 w16 =>
  if (I15 8) = 0 then (qf_st 62 ((12 : Int32) + y1) fun i18 =>
    qf_let (qf_up A 4 (upd (A 4) i18 y2)) fun A17 =>
    qf_st 62 ((16 : Int32) + y1) fun i20 =>
    qf_let (qf_up A17 4 (upd (A17 4) i20 r14)) fun A19 =>
    some (I15, A19, w16)) else (some (I15, A, w16))
def f_X8_parseSwap_j32 (A : Nat → Nat → Int32)  (I : Nat → Int32) (w : Int64) (y1 : Int32) (s0 : Int32) : Option ((Nat → Int32) × (Nat → Nat → Int32) × (Int64)) :=
  qf_bd (f_X8_check I s0 (-14 : Int32)) fun I6 =>
  qf_bd2 (f_X8_advanceIfGood A I6 w) fun I7 w8 =>
  qf_bd2 (f_X8_readOldName A w8 I7 (0 : Int32)) fun r9 I10 =>
  if r9 = y1 then (f_X8_parseSwap_j58 A I10 w8 y1 r9 (0 : Int32)) else (f_X8_parseSwap_j58 A I10 w8 y1 r9 (1 : Int32))
def f_X8_parseSwap_j27 (A : Nat → Nat → Int32)  (I : Nat → Int32) (w : Int64) (y1 : Int32) : Option ((Nat → Int32) × (Nat → Nat → Int32) × (Int64)) :=
  f_X8_parseSwap_j32 A I w y1 (1 : Int32)
def f_X8_parseSwap (I : Nat → Int32) (A : Nat → Nat → Int32) (w : Int64) : Option ((Nat → Int32) × (Nat → Nat → Int32) × (Int64)) :=
  qf_bd2 (f_X8_advance A I w) fun I1 w2 =>
  qf_bd2 (f_X8_readOldName A w2 I1 (0 : Int32)) fun r3 I4 =>
  if r3 < 0 then (f_X8_parseSwap_j27 A I4 w2 r3) else (qf_ld 62 (A 4) ((12 : Int32) + r3) fun x5 =>
    if 0 ≤ x5 then (f_X8_parseSwap_j32 A I4 w2 r3 (0 : Int32)) else (f_X8_parseSwap_j27 A I4 w2 r3))
abbrev wz_X8_parseSwap : List Cond := Cond.code yX8_parseSwap cX8_parseSwap 4 none :: qw_big
def rm_X8_parseSwap : Room := { frames := 4, cells := 0, slots := 0, locals := 86 }
set_option maxHeartbeats 4000000 in
set_option maxRecDepth 100000 in
theorem c_X8_parseSwap (l : Launch) {D : va_G} {cy : Nat → ClassId} {ad : Nat → Nat} {I : Nat → Int32} {A : Nat → Nat → Int32} {w : Int64}  {I9 : Nat → Int32} {A9 : Nat → Nat → Int32} {w9 : Int64} {sz : Nat} (hf : f_X8_parseSwap I A w = some (I9, A9, w9)) : Met l yX8_parseSwap wz_X8_parseSwap rm_X8_parseSwap (va_Pc [.ref (ad 0)] (qw_Pre D cy (Wm cy ad I A w) sz)) (qw_Q none D (Wm cy ad I9 A9 w9) (va_A (Wm cy ad I A w) sz)) 0 0 (va_A (Wm cy ad I A w) sz) := by
  refine qw_of (cc := cX8_parseSwap) (maxL := 4) (ret := none) (by decide) (Nat.le_of_ble_eq_true rfl) ?_
  intro p e s m args below meth c ls S0 hr hlocks hsz V hl
  have S0 : CallFix p m c cX8_parseSwap 4 s args qw_big RX8 := S0
  have hx := S0.1; have hb := S0.2.1; have hown := S0.2.2.2.1; have hts := S0.2.2.2.2
  have hl : lv_has ls 4 [(0, .ref (ad 0))] := hl
  generalize va_A (Wm cy ad I A w) sz = Z9 at V ⊢
  obtain ⟨Q9, hQ⟩ : ∃ q, q = MQ below (qw_Q none D (Wm cy ad I9 A9 w9) Z9) args s 0 0 Z9 := ⟨_, rfl⟩
  rw [← hQ]
  clear hsz
  have J_58 : ∀  {I : Nat → Int32} {w : Int64} {y1 : Int32} {y2 : Int32} {s0 : Int32} {H : Heap} {locs : List Loc} {ls : Array Slot}, f_X8_parseSwap_j58 A I w y1 y2 s0 = some (I9, A9, w9) → qw_V D cy Z9 s (Wm cy ad I A w) H locs → lv_has ls 4 [(0, .ref (ad 0)), (1, .int y1), (2, .int y2)] → W p l e rm_X8_parseSwap s m args below meth c H locs 0 0 Q9 (F0 m 58 ls [.int s0, .ref (ad 0)]) := by
    intro I w y1 y2 s0 H locs ls hf V hl
    unfold f_X8_parseSwap_j58 at hf
    refine lv_bipush (v := -14) hx hb dX8_parseSwap_58 (by decide) ?_
    obtain ⟨I11, hc_60, hf⟩ := qf_bd_e hf
    refine qw_cV (rest := []) (st1 := []) S0 V hl 0 gM_0 rfl (c_X8_check l hc_60) kg_X8_97 rfl ⟨rfl, rfl⟩ kd_X8_check ⟨Nat.le_of_ble_eq_true rfl, Nat.le_of_ble_eq_true rfl⟩ rfl rfl (Nat.le_of_ble_eq_true rfl) ⟨Nat.zero_le _, Nat.zero_le _⟩ rfl dX8_parseSwap_60 (fun H locs V => ?_)
    refine lv_aload_n hx hb dX8_parseSwap_63 rfl (lv_at hl 0 rfl) ?_
    obtain ⟨I12, w13, hc_64, hf⟩ := qf_bd2_e hf
    refine qw_cV (rest := []) (st1 := []) S0 V hl 0 gM_0 rfl (c_X8_advanceIfGood l hc_64) kg_X8_101 rfl ⟨rfl, rfl⟩ kd_X8_advanceIfGood ⟨Nat.le_of_ble_eq_true rfl, Nat.le_of_ble_eq_true rfl⟩ rfl rfl (Nat.le_of_ble_eq_true rfl) ⟨Nat.zero_le _, Nat.zero_le _⟩ rfl dX8_parseSwap_64 (fun H locs V => ?_)
    refine lv_aload_n hx hb dX8_parseSwap_67 rfl (lv_at hl 0 rfl) ?_
    refine lv_iconst (v := 1) hx hb dX8_parseSwap_68 (by decide) ?_
    refine lv_bipush (v := 9) hx hb dX8_parseSwap_69 (by decide) ?_
    obtain ⟨r14, I15, w16, hc_71, hf⟩ := qf_bd3_e hf
    refine qw_cV (rest := []) (st1 := [.int r14]) S0 V hl 0 gM_0 rfl (c_X8_readInteger l hc_71) kg_X8_138 rfl ⟨rfl, rfl⟩ kd_X8_readInteger ⟨Nat.le_of_ble_eq_true rfl, Nat.le_of_ble_eq_true rfl⟩ rfl rfl (Nat.le_of_ble_eq_true rfl) ⟨Nat.zero_le _, Nat.zero_le _⟩ rfl dX8_parseSwap_71 (fun H locs V => ?_)
    refine lv_istore_n (lv' := [(3, .int r14), (0, .ref (ad 0)), (1, .int y1), (2, .int y2)]) hx hb dX8_parseSwap_74 rfl hl (by decide) rfl (fun ls hl => ?_)
    refine lv_aload_n hx hb dX8_parseSwap_75 rfl (lv_at hl 1 rfl) ?_
    refine gfM_0_15 S0 V kl_X8_91 dX8_parseSwap_76 ?_
    refine lv_if_eq (tgt := 83) hx hb dX8_parseSwap_79 (by decide) (fun c_79 => ?_) (fun c_79 => ?_)
    · replace hf := qf_t c_79 hf
      refine lv_aload_n hx hb dX8_parseSwap_83 rfl (lv_at hl 1 rfl) ?_
      refine gfM_0_6 S0 V kl_X8_22 dX8_parseSwap_84 ?_
      refine lv_bipush (v := 12) hx hb dX8_parseSwap_87 (by decide) ?_
      refine lv_iload_n hx hb dX8_parseSwap_89 rfl (lv_at hl 2 rfl) ?_
      refine lv_iadd hx hb dX8_parseSwap_90 ?_
      refine lv_iload_n hx hb dX8_parseSwap_91 rfl (lv_at hl 3 rfl) ?_
      have h_92 := qf_st_in hf
      replace hf := qf_st_e hf
      refine asM_5 S0 V h_92 dX8_parseSwap_92 (fun H locs A17 e_A17 V => ?_)
      replace hf := qf_let_e e_A17 hf
      refine lv_aload_n hx hb dX8_parseSwap_93 rfl (lv_at hl 1 rfl) ?_
      refine gfM_0_6 S0 V kl_X8_22 dX8_parseSwap_94 ?_
      refine lv_bipush (v := 16) hx hb dX8_parseSwap_97 (by decide) ?_
      refine lv_iload_n hx hb dX8_parseSwap_99 rfl (lv_at hl 2 rfl) ?_
      refine lv_iadd hx hb dX8_parseSwap_100 ?_
      refine lv_iload_n hx hb dX8_parseSwap_101 rfl (lv_at hl 0 rfl) ?_
      have h_102 := qf_st_in hf
      replace hf := qf_st_e hf
      refine asM_5 S0 V h_102 dX8_parseSwap_102 (fun H locs A19 e_A19 V => ?_)
      replace hf := qf_let_e e_A19 hf
      have hE := Option.some.inj hf
      obtain ⟨e0, hE⟩ := qf_pr hE
      obtain ⟨e1, hE⟩ := qf_pr hE
      exact qw_vreti S0 hr hlocks hQ (by rw [e0, e1, hE]) V dX8_parseSwap_103
    · replace hf := qf_f c_79 hf
      have hE := Option.some.inj hf
      obtain ⟨e0, hE⟩ := qf_pr hE
      obtain ⟨e1, hE⟩ := qf_pr hE
      exact qw_vreti S0 hr hlocks hQ (by rw [e0, e1, hE]) V dX8_parseSwap_82
  have J_32 : ∀  {I : Nat → Int32} {w : Int64} {y1 : Int32} {s0 : Int32} {H : Heap} {locs : List Loc} {ls : Array Slot}, f_X8_parseSwap_j32 A I w y1 s0 = some (I9, A9, w9) → qw_V D cy Z9 s (Wm cy ad I A w) H locs → lv_has ls 4 [(0, .ref (ad 0)), (1, .int y1)] → W p l e rm_X8_parseSwap s m args below meth c H locs 0 0 Q9 (F0 m 32 ls [.int s0, .ref (ad 0)]) := by
    intro I w y1 s0 H locs ls hf V hl
    unfold f_X8_parseSwap_j32 at hf
    refine lv_bipush (v := -14) hx hb dX8_parseSwap_32 (by decide) ?_
    obtain ⟨I6, hc_34, hf⟩ := qf_bd_e hf
    refine qw_cV (rest := []) (st1 := []) S0 V hl 0 gM_0 rfl (c_X8_check l hc_34) kg_X8_97 rfl ⟨rfl, rfl⟩ kd_X8_check ⟨Nat.le_of_ble_eq_true rfl, Nat.le_of_ble_eq_true rfl⟩ rfl rfl (Nat.le_of_ble_eq_true rfl) ⟨Nat.zero_le _, Nat.zero_le _⟩ rfl dX8_parseSwap_34 (fun H locs V => ?_)
    refine lv_aload_n hx hb dX8_parseSwap_37 rfl (lv_at hl 0 rfl) ?_
    obtain ⟨I7, w8, hc_38, hf⟩ := qf_bd2_e hf
    refine qw_cV (rest := []) (st1 := []) S0 V hl 0 gM_0 rfl (c_X8_advanceIfGood l hc_38) kg_X8_101 rfl ⟨rfl, rfl⟩ kd_X8_advanceIfGood ⟨Nat.le_of_ble_eq_true rfl, Nat.le_of_ble_eq_true rfl⟩ rfl rfl (Nat.le_of_ble_eq_true rfl) ⟨Nat.zero_le _, Nat.zero_le _⟩ rfl dX8_parseSwap_38 (fun H locs V => ?_)
    refine lv_aload_n hx hb dX8_parseSwap_41 rfl (lv_at hl 0 rfl) ?_
    refine lv_iconst (v := 0) hx hb dX8_parseSwap_42 (by decide) ?_
    obtain ⟨r9, I10, hc_43, hf⟩ := qf_bd2_e hf
    refine qw_cV (rest := []) (st1 := [.int r9]) S0 V hl 0 gM_0 rfl (c_X8_readOldName l hc_43) kg_X8_145 rfl ⟨rfl, rfl⟩ kd_X8_readOldName ⟨Nat.le_of_ble_eq_true rfl, Nat.le_of_ble_eq_true rfl⟩ rfl rfl (Nat.le_of_ble_eq_true rfl) ⟨Nat.zero_le _, Nat.zero_le _⟩ rfl dX8_parseSwap_43 (fun H locs V => ?_)
    refine lv_istore_n (lv' := [(2, .int r9), (0, .ref (ad 0)), (1, .int y1)]) hx hb dX8_parseSwap_46 rfl hl (by decide) rfl (fun ls hl => ?_)
    refine lv_aload_n hx hb dX8_parseSwap_47 rfl (lv_at hl 1 rfl) ?_
    refine lv_iload_n hx hb dX8_parseSwap_48 rfl (lv_at hl 0 rfl) ?_
    refine lv_iload_n hx hb dX8_parseSwap_49 rfl (lv_at hl 2 rfl) ?_
    refine lv_icmp_eq (tgt := 57) hx hb dX8_parseSwap_50 (by decide) (fun c_50 => ?_) (fun c_50 => ?_)
    · replace hf := qf_t c_50 hf
      refine lv_iconst (v := 0) hx hb dX8_parseSwap_57 (by decide) ?_
      exact J_58 hf V (lv_sub hl [1, 2, 0] rfl)
    · replace hf := qf_f c_50 hf
      refine lv_iconst (v := 1) hx hb dX8_parseSwap_53 (by decide) ?_
      refine lv_goto (tgt := 58) hx hb dX8_parseSwap_54 (by decide) ?_
      exact J_58 hf V (lv_sub hl [1, 2, 0] rfl)
  have J_27 : ∀  {I : Nat → Int32} {w : Int64} {y1 : Int32} {H : Heap} {locs : List Loc} {ls : Array Slot}, f_X8_parseSwap_j27 A I w y1 = some (I9, A9, w9) → qw_V D cy Z9 s (Wm cy ad I A w) H locs → lv_has ls 4 [(0, .ref (ad 0)), (1, .int y1)] → W p l e rm_X8_parseSwap s m args below meth c H locs 0 0 Q9 (F0 m 27 ls [.ref (ad 0)]) := by
    intro I w y1 H locs ls hf V hl
    unfold f_X8_parseSwap_j27 at hf
    refine lv_iconst (v := 1) hx hb dX8_parseSwap_27 (by decide) ?_
    refine lv_goto (tgt := 32) hx hb dX8_parseSwap_28 (by decide) ?_
    exact J_32 hf V (lv_sub hl [0, 1] rfl)
  unfold f_X8_parseSwap at hf
  refine lv_aload_n hx hb dX8_parseSwap_0 rfl (lv_at hl 0 rfl) ?_
  obtain ⟨I1, w2, hc_1, hf⟩ := qf_bd2_e hf
  refine qw_cV (rest := []) (st1 := []) S0 V hl 0 gM_0 rfl (c_X8_advance l hc_1) kg_X8_94 rfl ⟨rfl, rfl⟩ kd_X8_advance ⟨Nat.le_of_ble_eq_true rfl, Nat.le_of_ble_eq_true rfl⟩ rfl rfl (Nat.le_of_ble_eq_true rfl) ⟨Nat.zero_le _, Nat.zero_le _⟩ rfl dX8_parseSwap_1 (fun H locs V => ?_)
  refine lv_aload_n hx hb dX8_parseSwap_4 rfl (lv_at hl 0 rfl) ?_
  refine lv_iconst (v := 0) hx hb dX8_parseSwap_5 (by decide) ?_
  obtain ⟨r3, I4, hc_6, hf⟩ := qf_bd2_e hf
  refine qw_cV (rest := []) (st1 := [.int r3]) S0 V hl 0 gM_0 rfl (c_X8_readOldName l hc_6) kg_X8_145 rfl ⟨rfl, rfl⟩ kd_X8_readOldName ⟨Nat.le_of_ble_eq_true rfl, Nat.le_of_ble_eq_true rfl⟩ rfl rfl (Nat.le_of_ble_eq_true rfl) ⟨Nat.zero_le _, Nat.zero_le _⟩ rfl dX8_parseSwap_6 (fun H locs V => ?_)
  refine lv_istore_n (lv' := [(1, .int r3), (0, .ref (ad 0))]) hx hb dX8_parseSwap_9 rfl hl (by decide) rfl (fun ls hl => ?_)
  refine lv_aload_n hx hb dX8_parseSwap_10 rfl (lv_at hl 1 rfl) ?_
  refine lv_iload_n hx hb dX8_parseSwap_11 rfl (lv_at hl 0 rfl) ?_
  refine lv_if_lt (tgt := 27) hx hb dX8_parseSwap_12 (by decide) (fun c_12 => ?_) (fun c_12 => ?_)
  · replace hf := qf_t c_12 hf
    exact J_27 hf V (lv_sub hl [1, 0] rfl)
  · replace hf := qf_f c_12 hf
    refine lv_aload_n hx hb dX8_parseSwap_15 rfl (lv_at hl 1 rfl) ?_
    refine gfM_0_6 S0 V kl_X8_22 dX8_parseSwap_16 ?_
    refine lv_bipush (v := 12) hx hb dX8_parseSwap_19 (by decide) ?_
    refine lv_iload_n hx hb dX8_parseSwap_21 rfl (lv_at hl 0 rfl) ?_
    refine lv_iadd hx hb dX8_parseSwap_22 ?_
    have h_23 := qf_ld_in hf
    refine alM_5 S0 V h_23 dX8_parseSwap_23 ?_
    refine lv_topi (fun x5 e_x5 => ?_)
    replace hf := qf_ld_e e_x5 hf
    refine lv_if_ge (tgt := 31) hx hb dX8_parseSwap_24 (by decide) (fun c_24 => ?_) (fun c_24 => ?_)
    · replace hf := qf_t c_24 hf
      refine lv_iconst (v := 0) hx hb dX8_parseSwap_31 (by decide) ?_
      exact J_32 hf V (lv_sub hl [1, 0] rfl)
    · replace hf := qf_f c_24 hf
      exact J_27 hf V (lv_sub hl [1, 0] rfl)
theorem kd_X8_parseGood : yX8_parseGood.cls = RX8 ∧ yX8_parseGood.cls ≠ "java/lang/invoke/MethodHandle" ∧ yX8_parseGood.cls ≠ "java/lang/invoke/VarHandle" ∧ (parseMethodDescriptor yX8_parseGood.desc).map (fun d => d.parameters.length) = some 0 := by decide +kernel
def f_X8_parseGood (I : Nat → Int32) (A : Nat → Nat → Int32) (w : Int64) : Option ((Nat → Int32) × (Nat → Nat → Int32) × (Int64)) :=
  qf_ld 62 (A 4) (1 : Int32) fun x1 =>
  qf_bd3 (f_X8_begin A I w (1 : Int32) (6 : Int32)) fun r2 I3 w4 =>
  qf_bd2 (f_X8_readOldName A w4 I3 (0 : Int32)) fun r5 I6 =>
  qf_bd2 (f_X8_advanceIfGood A I6 w4) fun I7 w8 =>
  qf_bd3 (f_X8_readInteger A I7 w8 (1 : Int32) (20 : Int32)) fun r9 I10 w11 =>
  qf_bd3 (f_X8_readInteger A I10 w11 (0 : Int32) (99 : Int32)) fun r12 I13 w14 =>
  if (I13 8) = 0 then (qf_st 62 ((20 : Int32) + x1) fun i16 =>
    qf_let (qf_up A 4 (upd (A 4) i16 r5)) fun A15 =>
    qf_st 62 ((26 : Int32) + x1) fun i18 =>
    qf_let (qf_up A15 4 (upd (A15 4) i18 r9)) fun A17 =>
    qf_st 62 ((32 : Int32) + x1) fun i20 =>
    qf_let (qf_up A17 4 (upd (A17 4) i20 r12)) fun A19 =>
    qf_bd (f_X8_declare I13 A19 (1 : Int32) r2) fun A21 =>
    some (I13, A21, w14)) else (some (I13, A, w14))
abbrev wz_X8_parseGood : List Cond := Cond.code yX8_parseGood cX8_parseGood 6 none :: qw_big
def rm_X8_parseGood : Room := { frames := 5, cells := 0, slots := 0, locals := 107 }
set_option maxHeartbeats 4000000 in
set_option maxRecDepth 100000 in
theorem c_X8_parseGood (l : Launch) {D : va_G} {cy : Nat → ClassId} {ad : Nat → Nat} {I : Nat → Int32} {A : Nat → Nat → Int32} {w : Int64}  {I9 : Nat → Int32} {A9 : Nat → Nat → Int32} {w9 : Int64} {sz : Nat} (hf : f_X8_parseGood I A w = some (I9, A9, w9)) : Met l yX8_parseGood wz_X8_parseGood rm_X8_parseGood (va_Pc [.ref (ad 0)] (qw_Pre D cy (Wm cy ad I A w) sz)) (qw_Q none D (Wm cy ad I9 A9 w9) (va_A (Wm cy ad I A w) sz)) 0 0 (va_A (Wm cy ad I A w) sz) := by
  refine qw_of (cc := cX8_parseGood) (maxL := 6) (ret := none) (by decide) (Nat.le_of_ble_eq_true rfl) ?_
  intro p e s m args below meth c ls S0 hr hlocks hsz V hl
  have S0 : CallFix p m c cX8_parseGood 6 s args qw_big RX8 := S0
  have hx := S0.1; have hb := S0.2.1; have hown := S0.2.2.2.1; have hts := S0.2.2.2.2
  have hl : lv_has ls 6 [(0, .ref (ad 0))] := hl
  generalize va_A (Wm cy ad I A w) sz = Z9 at V ⊢
  obtain ⟨Q9, hQ⟩ : ∃ q, q = MQ below (qw_Q none D (Wm cy ad I9 A9 w9) Z9) args s 0 0 Z9 := ⟨_, rfl⟩
  rw [← hQ]
  clear hsz
  unfold f_X8_parseGood at hf
  refine lv_aload_n hx hb dX8_parseGood_0 rfl (lv_at hl 0 rfl) ?_
  refine gfM_0_6 S0 V kl_X8_22 dX8_parseGood_1 ?_
  refine lv_iconst (v := 1) hx hb dX8_parseGood_4 (by decide) ?_
  have h_5 := qf_ld_in hf
  refine alM_5 S0 V h_5 dX8_parseGood_5 ?_
  refine lv_topi (fun x1 e_x1 => ?_)
  replace hf := qf_ld_e e_x1 hf
  refine lv_istore_n (lv' := [(1, .int x1), (0, .ref (ad 0))]) hx hb dX8_parseGood_6 rfl hl (by decide) rfl (fun ls hl => ?_)
  refine lv_aload_n hx hb dX8_parseGood_7 rfl (lv_at hl 1 rfl) ?_
  refine lv_iconst (v := 1) hx hb dX8_parseGood_8 (by decide) ?_
  refine lv_bipush (v := 6) hx hb dX8_parseGood_9 (by decide) ?_
  obtain ⟨r2, I3, w4, hc_11, hf⟩ := qf_bd3_e hf
  refine qw_cV (rest := []) (st1 := [.int r2]) S0 V hl 0 gM_0 rfl (c_X8_begin l hc_11) kg_X8_134 rfl ⟨rfl, rfl⟩ kd_X8_begin ⟨Nat.le_of_ble_eq_true rfl, Nat.le_of_ble_eq_true rfl⟩ rfl rfl (Nat.le_of_ble_eq_true rfl) ⟨Nat.zero_le _, Nat.zero_le _⟩ rfl dX8_parseGood_11 (fun H locs V => ?_)
  refine lv_istore_n (lv' := [(2, .int r2), (1, .int x1), (0, .ref (ad 0))]) hx hb dX8_parseGood_14 rfl hl (by decide) rfl (fun ls hl => ?_)
  refine lv_aload_n hx hb dX8_parseGood_15 rfl (lv_at hl 2 rfl) ?_
  refine lv_iconst (v := 0) hx hb dX8_parseGood_16 (by decide) ?_
  obtain ⟨r5, I6, hc_17, hf⟩ := qf_bd2_e hf
  refine qw_cV (rest := []) (st1 := [.int r5]) S0 V hl 0 gM_0 rfl (c_X8_readOldName l hc_17) kg_X8_145 rfl ⟨rfl, rfl⟩ kd_X8_readOldName ⟨Nat.le_of_ble_eq_true rfl, Nat.le_of_ble_eq_true rfl⟩ rfl rfl (Nat.le_of_ble_eq_true rfl) ⟨Nat.zero_le _, Nat.zero_le _⟩ rfl dX8_parseGood_17 (fun H locs V => ?_)
  refine lv_istore_n (lv' := [(3, .int r5), (2, .int r2), (1, .int x1), (0, .ref (ad 0))]) hx hb dX8_parseGood_20 rfl hl (by decide) rfl (fun ls hl => ?_)
  refine lv_aload_n hx hb dX8_parseGood_21 rfl (lv_at hl 3 rfl) ?_
  obtain ⟨I7, w8, hc_22, hf⟩ := qf_bd2_e hf
  refine qw_cV (rest := []) (st1 := []) S0 V hl 0 gM_0 rfl (c_X8_advanceIfGood l hc_22) kg_X8_101 rfl ⟨rfl, rfl⟩ kd_X8_advanceIfGood ⟨Nat.le_of_ble_eq_true rfl, Nat.le_of_ble_eq_true rfl⟩ rfl rfl (Nat.le_of_ble_eq_true rfl) ⟨Nat.zero_le _, Nat.zero_le _⟩ rfl dX8_parseGood_22 (fun H locs V => ?_)
  refine lv_aload_n hx hb dX8_parseGood_25 rfl (lv_at hl 3 rfl) ?_
  refine lv_iconst (v := 1) hx hb dX8_parseGood_26 (by decide) ?_
  refine lv_bipush (v := 20) hx hb dX8_parseGood_27 (by decide) ?_
  obtain ⟨r9, I10, w11, hc_29, hf⟩ := qf_bd3_e hf
  refine qw_cV (rest := []) (st1 := [.int r9]) S0 V hl 0 gM_0 rfl (c_X8_readInteger l hc_29) kg_X8_138 rfl ⟨rfl, rfl⟩ kd_X8_readInteger ⟨Nat.le_of_ble_eq_true rfl, Nat.le_of_ble_eq_true rfl⟩ rfl rfl (Nat.le_of_ble_eq_true rfl) ⟨Nat.zero_le _, Nat.zero_le _⟩ rfl dX8_parseGood_29 (fun H locs V => ?_)
  refine lv_istore (lv' := [(4, .int r9), (3, .int r5), (2, .int r2), (1, .int x1), (0, .ref (ad 0))]) hx hb dX8_parseGood_32 hl (by decide) rfl (fun ls hl => ?_)
  refine lv_aload_n hx hb dX8_parseGood_34 rfl (lv_at hl 4 rfl) ?_
  refine lv_iconst (v := 0) hx hb dX8_parseGood_35 (by decide) ?_
  refine lv_bipush (v := 99) hx hb dX8_parseGood_36 (by decide) ?_
  obtain ⟨r12, I13, w14, hc_38, hf⟩ := qf_bd3_e hf
  refine qw_cV (rest := []) (st1 := [.int r12]) S0 V hl 0 gM_0 rfl (c_X8_readInteger l hc_38) kg_X8_138 rfl ⟨rfl, rfl⟩ kd_X8_readInteger ⟨Nat.le_of_ble_eq_true rfl, Nat.le_of_ble_eq_true rfl⟩ rfl rfl (Nat.le_of_ble_eq_true rfl) ⟨Nat.zero_le _, Nat.zero_le _⟩ rfl dX8_parseGood_38 (fun H locs V => ?_)
  refine lv_istore (lv' := [(5, .int r12), (4, .int r9), (3, .int r5), (2, .int r2), (1, .int x1), (0, .ref (ad 0))]) hx hb dX8_parseGood_41 hl (by decide) rfl (fun ls hl => ?_)
  refine lv_aload_n hx hb dX8_parseGood_43 rfl (lv_at hl 5 rfl) ?_
  refine gfM_0_15 S0 V kl_X8_91 dX8_parseGood_44 ?_
  refine lv_if_eq (tgt := 51) hx hb dX8_parseGood_47 (by decide) (fun c_47 => ?_) (fun c_47 => ?_)
  · replace hf := qf_t c_47 hf
    refine lv_aload_n hx hb dX8_parseGood_51 rfl (lv_at hl 5 rfl) ?_
    refine gfM_0_6 S0 V kl_X8_22 dX8_parseGood_52 ?_
    refine lv_bipush (v := 20) hx hb dX8_parseGood_55 (by decide) ?_
    refine lv_iload_n hx hb dX8_parseGood_57 rfl (lv_at hl 4 rfl) ?_
    refine lv_iadd hx hb dX8_parseGood_58 ?_
    refine lv_iload_n hx hb dX8_parseGood_59 rfl (lv_at hl 2 rfl) ?_
    have h_60 := qf_st_in hf
    replace hf := qf_st_e hf
    refine asM_5 S0 V h_60 dX8_parseGood_60 (fun H locs A15 e_A15 V => ?_)
    replace hf := qf_let_e e_A15 hf
    refine lv_aload_n hx hb dX8_parseGood_61 rfl (lv_at hl 5 rfl) ?_
    refine gfM_0_6 S0 V kl_X8_22 dX8_parseGood_62 ?_
    refine lv_bipush (v := 26) hx hb dX8_parseGood_65 (by decide) ?_
    refine lv_iload_n hx hb dX8_parseGood_67 rfl (lv_at hl 4 rfl) ?_
    refine lv_iadd hx hb dX8_parseGood_68 ?_
    refine lv_iload hx hb dX8_parseGood_69 (lv_at hl 1 rfl) ?_
    have h_71 := qf_st_in hf
    replace hf := qf_st_e hf
    refine asM_5 S0 V h_71 dX8_parseGood_71 (fun H locs A17 e_A17 V => ?_)
    replace hf := qf_let_e e_A17 hf
    refine lv_aload_n hx hb dX8_parseGood_72 rfl (lv_at hl 5 rfl) ?_
    refine gfM_0_6 S0 V kl_X8_22 dX8_parseGood_73 ?_
    refine lv_bipush (v := 32) hx hb dX8_parseGood_76 (by decide) ?_
    refine lv_iload_n hx hb dX8_parseGood_78 rfl (lv_at hl 4 rfl) ?_
    refine lv_iadd hx hb dX8_parseGood_79 ?_
    refine lv_iload hx hb dX8_parseGood_80 (lv_at hl 0 rfl) ?_
    have h_82 := qf_st_in hf
    replace hf := qf_st_e hf
    refine asM_5 S0 V h_82 dX8_parseGood_82 (fun H locs A19 e_A19 V => ?_)
    replace hf := qf_let_e e_A19 hf
    refine lv_aload_n hx hb dX8_parseGood_83 rfl (lv_at hl 5 rfl) ?_
    refine lv_iconst (v := 1) hx hb dX8_parseGood_84 (by decide) ?_
    refine lv_iload_n hx hb dX8_parseGood_85 rfl (lv_at hl 3 rfl) ?_
    obtain ⟨A21, hc_86, hf⟩ := qf_bd_e hf
    refine qw_cV (rest := []) (st1 := []) S0 V hl 0 gM_0 rfl (c_X8_declare l hc_86) kg_X8_141 rfl ⟨rfl, rfl⟩ kd_X8_declare ⟨Nat.le_of_ble_eq_true rfl, Nat.le_of_ble_eq_true rfl⟩ rfl rfl (Nat.le_of_ble_eq_true rfl) ⟨Nat.zero_le _, Nat.zero_le _⟩ rfl dX8_parseGood_86 (fun H locs V => ?_)
    have hE := Option.some.inj hf
    obtain ⟨e0, hE⟩ := qf_pr hE
    obtain ⟨e1, hE⟩ := qf_pr hE
    exact qw_vreti S0 hr hlocks hQ (by rw [e0, e1, hE]) V dX8_parseGood_89
  · replace hf := qf_f c_47 hf
    have hE := Option.some.inj hf
    obtain ⟨e0, hE⟩ := qf_pr hE
    obtain ⟨e1, hE⟩ := qf_pr hE
    exact qw_vreti S0 hr hlocks hQ (by rw [e0, e1, hE]) V dX8_parseGood_50
theorem kd_X8_parseHouse : yX8_parseHouse.cls = RX8 ∧ yX8_parseHouse.cls ≠ "java/lang/invoke/MethodHandle" ∧ yX8_parseHouse.cls ≠ "java/lang/invoke/VarHandle" ∧ (parseMethodDescriptor yX8_parseHouse.desc).map (fun d => d.parameters.length) = some 0 := by decide +kernel
def f_X8_parseHouse_j40   (I : Nat → Int32) (A : Nat → Nat → Int32) (w : Int64) (y2 : Int32) : Option ((Nat → Int32) × (Nat → Nat → Int32) × (Int64)) :=
  qf_bd (f_X8_declare I A (2 : Int32) y2) fun A10 =>
  some (I, A10, w)
def f_X8_parseHouse (I : Nat → Int32) (A : Nat → Nat → Int32) (w : Int64) : Option ((Nat → Int32) × (Nat → Nat → Int32) × (Int64)) :=
  qf_ld 62 (A 4) (2 : Int32) fun x1 =>
  qf_bd3 (f_X8_begin A I w (2 : Int32) (6 : Int32)) fun r2 I3 w4 =>
  qf_bd3 (f_X8_readInteger A I3 w4 (1 : Int32) (9 : Int32)) fun r5 I6 w7 =>
  if (I6 8) = 0 then (qf_st 250 ((7 : Int32) + x1) fun i9 =>
    qf_let (qf_up A 1 (upd (A 1) i9 r5)) fun A8 =>
    f_X8_parseHouse_j40 I6 A8 w7 r2) else (f_X8_parseHouse_j40 I6 A w7 r2)
abbrev wz_X8_parseHouse : List Cond := Cond.code yX8_parseHouse cX8_parseHouse 4 none :: qw_big
def rm_X8_parseHouse : Room := { frames := 5, cells := 0, slots := 0, locals := 107 }
set_option maxHeartbeats 4000000 in
set_option maxRecDepth 100000 in
theorem c_X8_parseHouse (l : Launch) {D : va_G} {cy : Nat → ClassId} {ad : Nat → Nat} {I : Nat → Int32} {A : Nat → Nat → Int32} {w : Int64}  {I9 : Nat → Int32} {A9 : Nat → Nat → Int32} {w9 : Int64} {sz : Nat} (hf : f_X8_parseHouse I A w = some (I9, A9, w9)) : Met l yX8_parseHouse wz_X8_parseHouse rm_X8_parseHouse (va_Pc [.ref (ad 0)] (qw_Pre D cy (Wm cy ad I A w) sz)) (qw_Q none D (Wm cy ad I9 A9 w9) (va_A (Wm cy ad I A w) sz)) 0 0 (va_A (Wm cy ad I A w) sz) := by
  refine qw_of (cc := cX8_parseHouse) (maxL := 4) (ret := none) (by decide) (Nat.le_of_ble_eq_true rfl) ?_
  intro p e s m args below meth c ls S0 hr hlocks hsz V hl
  have S0 : CallFix p m c cX8_parseHouse 4 s args qw_big RX8 := S0
  have hx := S0.1; have hb := S0.2.1; have hown := S0.2.2.2.1; have hts := S0.2.2.2.2
  have hl : lv_has ls 4 [(0, .ref (ad 0))] := hl
  generalize va_A (Wm cy ad I A w) sz = Z9 at V ⊢
  obtain ⟨Q9, hQ⟩ : ∃ q, q = MQ below (qw_Q none D (Wm cy ad I9 A9 w9) Z9) args s 0 0 Z9 := ⟨_, rfl⟩
  rw [← hQ]
  clear hsz
  have J_40 : ∀  {I : Nat → Int32} {A : Nat → Nat → Int32} {w : Int64} {y2 : Int32} {H : Heap} {locs : List Loc} {ls : Array Slot}, f_X8_parseHouse_j40 I A w y2 = some (I9, A9, w9) → qw_V D cy Z9 s (Wm cy ad I A w) H locs → lv_has ls 4 [(0, .ref (ad 0)), (2, .int y2)] → W p l e rm_X8_parseHouse s m args below meth c H locs 0 0 Q9 (F0 m 40 ls []) := by
    intro I A w y2 H locs ls hf V hl
    unfold f_X8_parseHouse_j40 at hf
    refine lv_aload_n hx hb dX8_parseHouse_40 rfl (lv_at hl 0 rfl) ?_
    refine lv_iconst (v := 2) hx hb dX8_parseHouse_41 (by decide) ?_
    refine lv_iload_n hx hb dX8_parseHouse_42 rfl (lv_at hl 1 rfl) ?_
    obtain ⟨A10, hc_43, hf⟩ := qf_bd_e hf
    refine qw_cV (rest := []) (st1 := []) S0 V hl 0 gM_0 rfl (c_X8_declare l hc_43) kg_X8_141 rfl ⟨rfl, rfl⟩ kd_X8_declare ⟨Nat.le_of_ble_eq_true rfl, Nat.le_of_ble_eq_true rfl⟩ rfl rfl (Nat.le_of_ble_eq_true rfl) ⟨Nat.zero_le _, Nat.zero_le _⟩ rfl dX8_parseHouse_43 (fun H locs V => ?_)
    have hE := Option.some.inj hf
    obtain ⟨e0, hE⟩ := qf_pr hE
    obtain ⟨e1, hE⟩ := qf_pr hE
    exact qw_vreti S0 hr hlocks hQ (by rw [e0, e1, hE]) V dX8_parseHouse_46
  unfold f_X8_parseHouse at hf
  refine lv_aload_n hx hb dX8_parseHouse_0 rfl (lv_at hl 0 rfl) ?_
  refine gfM_0_6 S0 V kl_X8_22 dX8_parseHouse_1 ?_
  refine lv_iconst (v := 2) hx hb dX8_parseHouse_4 (by decide) ?_
  have h_5 := qf_ld_in hf
  refine alM_5 S0 V h_5 dX8_parseHouse_5 ?_
  refine lv_topi (fun x1 e_x1 => ?_)
  replace hf := qf_ld_e e_x1 hf
  refine lv_istore_n (lv' := [(1, .int x1), (0, .ref (ad 0))]) hx hb dX8_parseHouse_6 rfl hl (by decide) rfl (fun ls hl => ?_)
  refine lv_aload_n hx hb dX8_parseHouse_7 rfl (lv_at hl 1 rfl) ?_
  refine lv_iconst (v := 2) hx hb dX8_parseHouse_8 (by decide) ?_
  refine lv_bipush (v := 6) hx hb dX8_parseHouse_9 (by decide) ?_
  obtain ⟨r2, I3, w4, hc_11, hf⟩ := qf_bd3_e hf
  refine qw_cV (rest := []) (st1 := [.int r2]) S0 V hl 0 gM_0 rfl (c_X8_begin l hc_11) kg_X8_134 rfl ⟨rfl, rfl⟩ kd_X8_begin ⟨Nat.le_of_ble_eq_true rfl, Nat.le_of_ble_eq_true rfl⟩ rfl rfl (Nat.le_of_ble_eq_true rfl) ⟨Nat.zero_le _, Nat.zero_le _⟩ rfl dX8_parseHouse_11 (fun H locs V => ?_)
  refine lv_istore_n (lv' := [(2, .int r2), (1, .int x1), (0, .ref (ad 0))]) hx hb dX8_parseHouse_14 rfl hl (by decide) rfl (fun ls hl => ?_)
  refine lv_aload_n hx hb dX8_parseHouse_15 rfl (lv_at hl 2 rfl) ?_
  refine lv_iconst (v := 1) hx hb dX8_parseHouse_16 (by decide) ?_
  refine lv_bipush (v := 9) hx hb dX8_parseHouse_17 (by decide) ?_
  obtain ⟨r5, I6, w7, hc_19, hf⟩ := qf_bd3_e hf
  refine qw_cV (rest := []) (st1 := [.int r5]) S0 V hl 0 gM_0 rfl (c_X8_readInteger l hc_19) kg_X8_138 rfl ⟨rfl, rfl⟩ kd_X8_readInteger ⟨Nat.le_of_ble_eq_true rfl, Nat.le_of_ble_eq_true rfl⟩ rfl rfl (Nat.le_of_ble_eq_true rfl) ⟨Nat.zero_le _, Nat.zero_le _⟩ rfl dX8_parseHouse_19 (fun H locs V => ?_)
  refine lv_istore_n (lv' := [(3, .int r5), (2, .int r2), (1, .int x1), (0, .ref (ad 0))]) hx hb dX8_parseHouse_22 rfl hl (by decide) rfl (fun ls hl => ?_)
  refine lv_aload_n hx hb dX8_parseHouse_23 rfl (lv_at hl 3 rfl) ?_
  refine gfM_0_15 S0 V kl_X8_91 dX8_parseHouse_24 ?_
  refine lv_if_ne (tgt := 40) hx hb dX8_parseHouse_27 (by decide) (fun c_27 => ?_) (fun c_27 => ?_)
  · replace hf := qf_f c_27 hf
    exact J_40 hf V (lv_sub hl [3, 1] rfl)
  · replace hf := qf_t c_27 hf
    refine lv_aload_n hx hb dX8_parseHouse_30 rfl (lv_at hl 3 rfl) ?_
    refine gfM_0_1 S0 V kl_X8_13 dX8_parseHouse_31 ?_
    refine lv_bipush (v := 7) hx hb dX8_parseHouse_34 (by decide) ?_
    refine lv_iload_n hx hb dX8_parseHouse_36 rfl (lv_at hl 2 rfl) ?_
    refine lv_iadd hx hb dX8_parseHouse_37 ?_
    refine lv_iload_n hx hb dX8_parseHouse_38 rfl (lv_at hl 0 rfl) ?_
    have h_39 := qf_st_in hf
    replace hf := qf_st_e hf
    refine asM_2 S0 V h_39 dX8_parseHouse_39 (fun H locs A8 e_A8 V => ?_)
    replace hf := qf_let_e e_A8 hf
    exact J_40 hf V (lv_sub hl [3, 1] rfl)
theorem kd_X8_parseShop : yX8_parseShop.cls = RX8 ∧ yX8_parseShop.cls ≠ "java/lang/invoke/MethodHandle" ∧ yX8_parseShop.cls ≠ "java/lang/invoke/VarHandle" ∧ (parseMethodDescriptor yX8_parseShop.desc).map (fun d => d.parameters.length) = some 0 := by decide +kernel
def f_X8_parseShop_j113   (I : Nat → Int32) (A : Nat → Nat → Int32) (w : Int64) (y2 : Int32) : Option ((Nat → Int32) × (Nat → Nat → Int32) × (Int64)) :=
  qf_bd (f_X8_declare I A (3 : Int32) y2) fun A7 =>
  some (I, A7, w)
def f_X8_parseShop_j58  (K16 : (Nat → Int32) → (Nat → Nat → Int32) → (Int64) → Int32 → Option ((Nat → Int32) × (Nat → Nat → Int32) × (Int64))) (I : Nat → Int32) (A : Nat → Nat → Int32) (w : Int64) (y1 : Int32) (y2 : Int32) (y3 : Int32) (y4 : Int32) (s0 : Int32) : Option ((Nat → Int32) × (Nat → Nat → Int32) × (Int64)) :=
  qf_bd (f_X8_check I s0 (-14 : Int32)) fun I8 =>
  qf_bd2 (f_X8_advanceIfGood A I8 w) fun I9 w10 =>
  qf_bd3 (f_X8_readInteger A I9 w10 (0 : Int32) (9999 : Int32)) fun r11 I12 w13 =>
  if (I12 8) = 0 then (qf_let ((y3 ||| ((1 : Int32) <<< (y4 &&& 31)))) fun x14 =>
    qf_st 250 (((145 : Int32) + ((6 : Int32) * y1)) + y4) fun i16 =>
    qf_let (qf_up A 1 (upd (A 1) i16 r11)) fun A15 =>
    K16 I12 A15 w13 x14) else (some (I12, A, w13))
def f_X8_parseShop_j53  (K16 : (Nat → Int32) → (Nat → Nat → Int32) → (Int64) → Int32 → Option ((Nat → Int32) × (Nat → Nat → Int32) × (Int64))) (I : Nat → Int32) (A : Nat → Nat → Int32) (w : Int64) (y1 : Int32) (y2 : Int32) (y3 : Int32) (y4 : Int32) : Option ((Nat → Int32) × (Nat → Nat → Int32) × (Int64)) :=
  f_X8_parseShop_j58 K16 I A w y1 y2 y3 y4 (1 : Int32)
def f_X8_parseShop_l16   (y1 : Int32) (y2 : Int32) : Nat → (Nat → Int32) → (Nat → Nat → Int32) → (Int64) → Int32 → Option ((Nat → Int32) × (Nat → Nat → Int32) × (Int64))
  | 0, _, _, _, _ => none
  | n + 1, I, A, w, y3 =>
  if (I 8) = 0 then (if (I 6) = (1 : Int32) then (qf_bd2 (f_X8_readOldName A w I (1 : Int32)) fun r5 I6 =>
      if r5 < 0 then (f_X8_parseShop_j53 (fun z0 z1 z2 z3 => f_X8_parseShop_l16 y1 y2 n z0 z1 z2 z3) I6 A w y1 y2 y3 r5) else (if ((y3 >>> (r5 &&& 31)) &&& (1 : Int32)) = 0 then (f_X8_parseShop_j53 (fun z0 z1 z2 z3 => f_X8_parseShop_l16 y1 y2 n z0 z1 z2 z3) I6 A w y1 y2 y3 r5) else (f_X8_parseShop_j58 (fun z0 z1 z2 z3 => f_X8_parseShop_l16 y1 y2 n z0 z1 z2 z3) I6 A w y1 y2 y3 r5 (0 : Int32)))) else (f_X8_parseShop_j113 I A w y2)) else (f_X8_parseShop_j113 I A w y2)
def f_X8_parseShop (I : Nat → Int32) (A : Nat → Nat → Int32) (w : Int64) : Option ((Nat → Int32) × (Nat → Nat → Int32) × (Int64)) :=
  qf_ld 62 (A 4) (3 : Int32) fun x1 =>
  qf_bd3 (f_X8_begin A I w (3 : Int32) (4 : Int32)) fun r2 I3 w4 =>
  f_X8_parseShop_l16 x1 r2 100000 I3 A w4 (0 : Int32)
abbrev wz_X8_parseShop : List Cond := Cond.code yX8_parseShop cX8_parseShop 6 none :: qw_big
def rm_X8_parseShop : Room := { frames := 5, cells := 0, slots := 0, locals := 107 }
set_option maxHeartbeats 4000000 in
set_option maxRecDepth 100000 in
theorem c_X8_parseShop (l : Launch) {D : va_G} {cy : Nat → ClassId} {ad : Nat → Nat} {I : Nat → Int32} {A : Nat → Nat → Int32} {w : Int64}  {I9 : Nat → Int32} {A9 : Nat → Nat → Int32} {w9 : Int64} {sz : Nat} (hf : f_X8_parseShop I A w = some (I9, A9, w9)) : Met l yX8_parseShop wz_X8_parseShop rm_X8_parseShop (va_Pc [.ref (ad 0)] (qw_Pre D cy (Wm cy ad I A w) sz)) (qw_Q none D (Wm cy ad I9 A9 w9) (va_A (Wm cy ad I A w) sz)) 0 0 (va_A (Wm cy ad I A w) sz) := by
  refine qw_of (cc := cX8_parseShop) (maxL := 6) (ret := none) (by decide) (Nat.le_of_ble_eq_true rfl) ?_
  intro p e s m args below meth c ls S0 hr hlocks hsz V hl
  have S0 : CallFix p m c cX8_parseShop 6 s args qw_big RX8 := S0
  have hx := S0.1; have hb := S0.2.1; have hown := S0.2.2.2.1; have hts := S0.2.2.2.2
  have hl : lv_has ls 6 [(0, .ref (ad 0))] := hl
  generalize va_A (Wm cy ad I A w) sz = Z9 at V ⊢
  obtain ⟨Q9, hQ⟩ : ∃ q, q = MQ below (qw_Q none D (Wm cy ad I9 A9 w9) Z9) args s 0 0 Z9 := ⟨_, rfl⟩
  rw [← hQ]
  clear hsz
  have J_113 : ∀  {I : Nat → Int32} {A : Nat → Nat → Int32} {w : Int64} {y2 : Int32} {H : Heap} {locs : List Loc} {ls : Array Slot}, f_X8_parseShop_j113 I A w y2 = some (I9, A9, w9) → qw_V D cy Z9 s (Wm cy ad I A w) H locs → lv_has ls 6 [(0, .ref (ad 0)), (2, .int y2)] → W p l e rm_X8_parseShop s m args below meth c H locs 0 0 Q9 (F0 m 113 ls []) := by
    intro I A w y2 H locs ls hf V hl
    unfold f_X8_parseShop_j113 at hf
    refine lv_aload_n hx hb dX8_parseShop_113 rfl (lv_at hl 0 rfl) ?_
    refine lv_iconst (v := 3) hx hb dX8_parseShop_114 (by decide) ?_
    refine lv_iload_n hx hb dX8_parseShop_115 rfl (lv_at hl 1 rfl) ?_
    obtain ⟨A7, hc_116, hf⟩ := qf_bd_e hf
    refine qw_cV (rest := []) (st1 := []) S0 V hl 0 gM_0 rfl (c_X8_declare l hc_116) kg_X8_141 rfl ⟨rfl, rfl⟩ kd_X8_declare ⟨Nat.le_of_ble_eq_true rfl, Nat.le_of_ble_eq_true rfl⟩ rfl rfl (Nat.le_of_ble_eq_true rfl) ⟨Nat.zero_le _, Nat.zero_le _⟩ rfl dX8_parseShop_116 (fun H locs V => ?_)
    have hE := Option.some.inj hf
    obtain ⟨e0, hE⟩ := qf_pr hE
    obtain ⟨e1, hE⟩ := qf_pr hE
    exact qw_vreti S0 hr hlocks hQ (by rw [e0, e1, hE]) V dX8_parseShop_119
  have J_58 : ∀ {K16 : (Nat → Int32) → (Nat → Nat → Int32) → (Int64) → Int32 → Option ((Nat → Int32) × (Nat → Nat → Int32) × (Int64))} {y1 : Int32} {y2 : Int32}  (hK16 : ∀ {I : Nat → Int32} {A : Nat → Nat → Int32} {w : Int64} {y3 : Int32} {H : Heap} {locs : List Loc} {ls : Array Slot}, K16 I A w y3 = some (I9, A9, w9) → qw_V D cy Z9 s (Wm cy ad I A w) H locs → lv_has ls 6 [(0, .ref (ad 0)), (1, .int y1), (2, .int y2), (3, .int y3)] → W p l e rm_X8_parseShop s m args below meth c H locs 0 0 Q9 (F0 m 16 ls [])) {I : Nat → Int32} {A : Nat → Nat → Int32} {w : Int64} {y3 : Int32} {y4 : Int32} {s0 : Int32} {H : Heap} {locs : List Loc} {ls : Array Slot}, f_X8_parseShop_j58 K16 I A w y1 y2 y3 y4 s0 = some (I9, A9, w9) → qw_V D cy Z9 s (Wm cy ad I A w) H locs → lv_has ls 6 [(0, .ref (ad 0)), (1, .int y1), (2, .int y2), (3, .int y3), (4, .int y4)] → W p l e rm_X8_parseShop s m args below meth c H locs 0 0 Q9 (F0 m 58 ls [.int s0, .ref (ad 0)]) := by
    intro K16 y1 y2 hK16 I A w y3 y4 s0 H locs ls hf V hl
    unfold f_X8_parseShop_j58 at hf
    refine lv_bipush (v := -14) hx hb dX8_parseShop_58 (by decide) ?_
    obtain ⟨I8, hc_60, hf⟩ := qf_bd_e hf
    refine qw_cV (rest := []) (st1 := []) S0 V hl 0 gM_0 rfl (c_X8_check l hc_60) kg_X8_97 rfl ⟨rfl, rfl⟩ kd_X8_check ⟨Nat.le_of_ble_eq_true rfl, Nat.le_of_ble_eq_true rfl⟩ rfl rfl (Nat.le_of_ble_eq_true rfl) ⟨Nat.zero_le _, Nat.zero_le _⟩ rfl dX8_parseShop_60 (fun H locs V => ?_)
    refine lv_aload_n hx hb dX8_parseShop_63 rfl (lv_at hl 0 rfl) ?_
    obtain ⟨I9, w10, hc_64, hf⟩ := qf_bd2_e hf
    refine qw_cV (rest := []) (st1 := []) S0 V hl 0 gM_0 rfl (c_X8_advanceIfGood l hc_64) kg_X8_101 rfl ⟨rfl, rfl⟩ kd_X8_advanceIfGood ⟨Nat.le_of_ble_eq_true rfl, Nat.le_of_ble_eq_true rfl⟩ rfl rfl (Nat.le_of_ble_eq_true rfl) ⟨Nat.zero_le _, Nat.zero_le _⟩ rfl dX8_parseShop_64 (fun H locs V => ?_)
    refine lv_aload_n hx hb dX8_parseShop_67 rfl (lv_at hl 0 rfl) ?_
    refine lv_iconst (v := 0) hx hb dX8_parseShop_68 (by decide) ?_
    refine lv_sipush (v := 9999) hx hb dX8_parseShop_69 (by decide) ?_
    obtain ⟨r11, I12, w13, hc_72, hf⟩ := qf_bd3_e hf
    refine qw_cV (rest := []) (st1 := [.int r11]) S0 V hl 0 gM_0 rfl (c_X8_readInteger l hc_72) kg_X8_138 rfl ⟨rfl, rfl⟩ kd_X8_readInteger ⟨Nat.le_of_ble_eq_true rfl, Nat.le_of_ble_eq_true rfl⟩ rfl rfl (Nat.le_of_ble_eq_true rfl) ⟨Nat.zero_le _, Nat.zero_le _⟩ rfl dX8_parseShop_72 (fun H locs V => ?_)
    refine lv_istore (lv' := [(5, .int r11), (0, .ref (ad 0)), (1, .int y1), (2, .int y2), (3, .int y3), (4, .int y4)]) hx hb dX8_parseShop_75 hl (by decide) rfl (fun ls hl => ?_)
    refine lv_aload_n hx hb dX8_parseShop_77 rfl (lv_at hl 1 rfl) ?_
    refine gfM_0_15 S0 V kl_X8_91 dX8_parseShop_78 ?_
    refine lv_if_eq (tgt := 85) hx hb dX8_parseShop_81 (by decide) (fun c_81 => ?_) (fun c_81 => ?_)
    · replace hf := qf_t c_81 hf
      refine lv_iload_n hx hb dX8_parseShop_85 rfl (lv_at hl 4 rfl) ?_
      refine lv_iconst (v := 1) hx hb dX8_parseShop_86 (by decide) ?_
      refine lv_iload hx hb dX8_parseShop_87 (lv_at hl 5 rfl) ?_
      refine lv_ishl hx hb dX8_parseShop_89 ?_
      refine lv_ior hx hb dX8_parseShop_90 ?_
      refine lv_topi (fun x14 e_x14 => ?_)
      replace hf := qf_let_e e_x14 hf
      refine lv_istore_n (lv' := [(3, .int x14), (5, .int r11), (0, .ref (ad 0)), (1, .int y1), (2, .int y2), (4, .int y4)]) hx hb dX8_parseShop_91 rfl hl (by decide) rfl (fun ls hl => ?_)
      refine lv_aload_n hx hb dX8_parseShop_92 rfl (lv_at hl 2 rfl) ?_
      refine gfM_0_1 S0 V kl_X8_13 dX8_parseShop_93 ?_
      refine lv_sipush (v := 145) hx hb dX8_parseShop_96 (by decide) ?_
      refine lv_bipush (v := 6) hx hb dX8_parseShop_99 (by decide) ?_
      refine lv_iload_n hx hb dX8_parseShop_101 rfl (lv_at hl 3 rfl) ?_
      refine lv_imul hx hb dX8_parseShop_102 ?_
      refine lv_iadd hx hb dX8_parseShop_103 ?_
      refine lv_iload hx hb dX8_parseShop_104 (lv_at hl 5 rfl) ?_
      refine lv_iadd hx hb dX8_parseShop_106 ?_
      refine lv_iload hx hb dX8_parseShop_107 (lv_at hl 1 rfl) ?_
      have h_109 := qf_st_in hf
      replace hf := qf_st_e hf
      refine asM_2 S0 V h_109 dX8_parseShop_109 (fun H locs A15 e_A15 V => ?_)
      replace hf := qf_let_e e_A15 hf
      refine lv_goto (tgt := 16) hx hb dX8_parseShop_110 (by decide) ?_
      exact hK16 hf V (lv_sub hl [2, 3, 4, 0] rfl)
    · replace hf := qf_f c_81 hf
      have hE := Option.some.inj hf
      obtain ⟨e0, hE⟩ := qf_pr hE
      obtain ⟨e1, hE⟩ := qf_pr hE
      exact qw_vreti S0 hr hlocks hQ (by rw [e0, e1, hE]) V dX8_parseShop_84
  have J_53 : ∀ {K16 : (Nat → Int32) → (Nat → Nat → Int32) → (Int64) → Int32 → Option ((Nat → Int32) × (Nat → Nat → Int32) × (Int64))} {y1 : Int32} {y2 : Int32}  (hK16 : ∀ {I : Nat → Int32} {A : Nat → Nat → Int32} {w : Int64} {y3 : Int32} {H : Heap} {locs : List Loc} {ls : Array Slot}, K16 I A w y3 = some (I9, A9, w9) → qw_V D cy Z9 s (Wm cy ad I A w) H locs → lv_has ls 6 [(0, .ref (ad 0)), (1, .int y1), (2, .int y2), (3, .int y3)] → W p l e rm_X8_parseShop s m args below meth c H locs 0 0 Q9 (F0 m 16 ls [])) {I : Nat → Int32} {A : Nat → Nat → Int32} {w : Int64} {y3 : Int32} {y4 : Int32} {H : Heap} {locs : List Loc} {ls : Array Slot}, f_X8_parseShop_j53 K16 I A w y1 y2 y3 y4 = some (I9, A9, w9) → qw_V D cy Z9 s (Wm cy ad I A w) H locs → lv_has ls 6 [(0, .ref (ad 0)), (1, .int y1), (2, .int y2), (3, .int y3), (4, .int y4)] → W p l e rm_X8_parseShop s m args below meth c H locs 0 0 Q9 (F0 m 53 ls [.ref (ad 0)]) := by
    intro K16 y1 y2 hK16 I A w y3 y4 H locs ls hf V hl
    unfold f_X8_parseShop_j53 at hf
    refine lv_iconst (v := 1) hx hb dX8_parseShop_53 (by decide) ?_
    refine lv_goto (tgt := 58) hx hb dX8_parseShop_54 (by decide) ?_
    exact J_58 hK16 hf V (lv_sub hl [0, 1, 2, 3, 4] rfl)
  have L_16 : ∀  {y1 : Int32} {y2 : Int32} {n : Nat} {I : Nat → Int32} {A : Nat → Nat → Int32} {w : Int64} {y3 : Int32} {H : Heap} {locs : List Loc} {ls : Array Slot}, f_X8_parseShop_l16 y1 y2 n I A w y3 = some (I9, A9, w9) → qw_V D cy Z9 s (Wm cy ad I A w) H locs → lv_has ls 6 [(0, .ref (ad 0)), (1, .int y1), (2, .int y2), (3, .int y3)] → W p l e rm_X8_parseShop s m args below meth c H locs 0 0 Q9 (F0 m 16 ls []) := by
    intro y1 y2 n
    induction n with
    | zero => intro I A w y3 H locs ls hf V hl; exact qf_no hf
    | succ n ih =>
      intro I A w y3 H locs ls hf V hl
      rw [f_X8_parseShop_l16] at hf
      refine lv_aload_n hx hb dX8_parseShop_16 rfl (lv_at hl 0 rfl) ?_
      refine gfM_0_15 S0 V kl_X8_91 dX8_parseShop_17 ?_
      refine lv_if_ne (tgt := 113) hx hb dX8_parseShop_20 (by decide) (fun c_20 => ?_) (fun c_20 => ?_)
      · replace hf := qf_f c_20 hf
        exact J_113 hf V (lv_sub hl [0, 2] rfl)
      · replace hf := qf_t c_20 hf
        refine lv_aload_n hx hb dX8_parseShop_23 rfl (lv_at hl 0 rfl) ?_
        refine gfM_0_12 S0 V kl_X8_82 dX8_parseShop_24 ?_
        refine lv_iconst (v := 1) hx hb dX8_parseShop_27 (by decide) ?_
        refine lv_icmp_ne (tgt := 113) hx hb dX8_parseShop_28 (by decide) (fun c_28 => ?_) (fun c_28 => ?_)
        · replace hf := qf_f c_28 hf
          exact J_113 hf V (lv_sub hl [0, 2] rfl)
        · replace hf := qf_t c_28 hf
          refine lv_aload_n hx hb dX8_parseShop_31 rfl (lv_at hl 0 rfl) ?_
          refine lv_iconst (v := 1) hx hb dX8_parseShop_32 (by decide) ?_
          obtain ⟨r5, I6, hc_33, hf⟩ := qf_bd2_e hf
          refine qw_cV (rest := []) (st1 := [.int r5]) S0 V hl 0 gM_0 rfl (c_X8_readOldName l hc_33) kg_X8_145 rfl ⟨rfl, rfl⟩ kd_X8_readOldName ⟨Nat.le_of_ble_eq_true rfl, Nat.le_of_ble_eq_true rfl⟩ rfl rfl (Nat.le_of_ble_eq_true rfl) ⟨Nat.zero_le _, Nat.zero_le _⟩ rfl dX8_parseShop_33 (fun H locs V => ?_)
          refine lv_istore (lv' := [(4, .int r5), (0, .ref (ad 0)), (1, .int y1), (2, .int y2), (3, .int y3)]) hx hb dX8_parseShop_36 hl (by decide) rfl (fun ls hl => ?_)
          refine lv_aload_n hx hb dX8_parseShop_38 rfl (lv_at hl 1 rfl) ?_
          refine lv_iload hx hb dX8_parseShop_39 (lv_at hl 0 rfl) ?_
          refine lv_if_lt (tgt := 53) hx hb dX8_parseShop_41 (by decide) (fun c_41 => ?_) (fun c_41 => ?_)
          · replace hf := qf_t c_41 hf
            exact J_53 (fun hf V hl => ih hf V hl) hf V (lv_sub hl [1, 2, 3, 4, 0] rfl)
          · replace hf := qf_f c_41 hf
            refine lv_iload_n hx hb dX8_parseShop_44 rfl (lv_at hl 4 rfl) ?_
            refine lv_iload hx hb dX8_parseShop_45 (lv_at hl 0 rfl) ?_
            refine lv_ishr hx hb dX8_parseShop_47 ?_
            refine lv_iconst (v := 1) hx hb dX8_parseShop_48 (by decide) ?_
            refine lv_iand hx hb dX8_parseShop_49 ?_
            refine lv_if_ne (tgt := 57) hx hb dX8_parseShop_50 (by decide) (fun c_50 => ?_) (fun c_50 => ?_)
            · replace hf := qf_f c_50 hf
              refine lv_iconst (v := 0) hx hb dX8_parseShop_57 (by decide) ?_
              exact J_58 (fun hf V hl => ih hf V hl) hf V (lv_sub hl [1, 2, 3, 4, 0] rfl)
            · replace hf := qf_t c_50 hf
              exact J_53 (fun hf V hl => ih hf V hl) hf V (lv_sub hl [1, 2, 3, 4, 0] rfl)
  unfold f_X8_parseShop at hf
  refine lv_aload_n hx hb dX8_parseShop_0 rfl (lv_at hl 0 rfl) ?_
  refine gfM_0_6 S0 V kl_X8_22 dX8_parseShop_1 ?_
  refine lv_iconst (v := 3) hx hb dX8_parseShop_4 (by decide) ?_
  have h_5 := qf_ld_in hf
  refine alM_5 S0 V h_5 dX8_parseShop_5 ?_
  refine lv_topi (fun x1 e_x1 => ?_)
  replace hf := qf_ld_e e_x1 hf
  refine lv_istore_n (lv' := [(1, .int x1), (0, .ref (ad 0))]) hx hb dX8_parseShop_6 rfl hl (by decide) rfl (fun ls hl => ?_)
  refine lv_aload_n hx hb dX8_parseShop_7 rfl (lv_at hl 1 rfl) ?_
  refine lv_iconst (v := 3) hx hb dX8_parseShop_8 (by decide) ?_
  refine lv_iconst (v := 4) hx hb dX8_parseShop_9 (by decide) ?_
  obtain ⟨r2, I3, w4, hc_10, hf⟩ := qf_bd3_e hf
  refine qw_cV (rest := []) (st1 := [.int r2]) S0 V hl 0 gM_0 rfl (c_X8_begin l hc_10) kg_X8_134 rfl ⟨rfl, rfl⟩ kd_X8_begin ⟨Nat.le_of_ble_eq_true rfl, Nat.le_of_ble_eq_true rfl⟩ rfl rfl (Nat.le_of_ble_eq_true rfl) ⟨Nat.zero_le _, Nat.zero_le _⟩ rfl dX8_parseShop_10 (fun H locs V => ?_)
  refine lv_istore_n (lv' := [(2, .int r2), (1, .int x1), (0, .ref (ad 0))]) hx hb dX8_parseShop_13 rfl hl (by decide) rfl (fun ls hl => ?_)
  refine lv_iconst (v := 0) hx hb dX8_parseShop_14 (by decide) ?_
  refine lv_istore_n (lv' := [(3, .int (0 : Int32)), (2, .int r2), (1, .int x1), (0, .ref (ad 0))]) hx hb dX8_parseShop_15 rfl hl (by decide) rfl (fun ls hl => ?_)
  exact L_16 hf V (lv_sub hl [3, 2, 1, 0] rfl)
theorem kd_X8_settingHere : yX8_settingHere.cls = RX8 ∧ yX8_settingHere.cls ≠ "java/lang/invoke/MethodHandle" ∧ yX8_settingHere.cls ≠ "java/lang/invoke/VarHandle" ∧ (parseMethodDescriptor yX8_settingHere.desc).map (fun d => d.parameters.length) = some 0 := by decide +kernel
def f_X8_settingHere (I : Nat → Int32) (w : Int64) : Option (Int32) :=
  qf_bd (f_X8_isWord I w (239301 : Int64)) fun r1 =>
  if r1 = 0 then (qf_bd (f_X8_isWord I w (656741 : Int64)) fun r2 =>
    if r2 = 0 then (qf_bd (f_X8_isWord I w (22518700226661 : Int64)) fun r3 =>
      if r3 = 0 then (some ((-1 : Int32))) else (some ((2 : Int32)))) else (some ((1 : Int32)))) else (some ((0 : Int32)))
abbrev wz_X8_settingHere : List Cond := Cond.code yX8_settingHere cX8_settingHere 1 (some .int) :: qw_big
def rm_X8_settingHere : Room := { frames := 1, cells := 0, slots := 0, locals := 22 }
set_option maxHeartbeats 4000000 in
set_option maxRecDepth 100000 in
theorem c_X8_settingHere (l : Launch) {D : va_G} {cy : Nat → ClassId} {ad : Nat → Nat} {I : Nat → Int32} {A : Nat → Nat → Int32} {w : Int64}  {rv : Int32} {sz : Nat} (hf : f_X8_settingHere I w = some (rv)) : Met l yX8_settingHere wz_X8_settingHere rm_X8_settingHere (va_Pc [.ref (ad 0)] (qw_Pre D cy (Wm cy ad I A w) sz)) (qw_R (some (.int rv))) 0 0 (fun _ => False) := by
  refine qw_of (cc := cX8_settingHere) (maxL := 1) (ret := (some .int)) (by decide) (Nat.le_of_ble_eq_true rfl) ?_
  intro p e s m args below meth c ls S0 hr hlocks hsz V hl
  have S0 : CallFix p m c cX8_settingHere 1 s args qw_big RX8 := S0
  have hx := S0.1; have hb := S0.2.1; have hown := S0.2.2.2.1; have hts := S0.2.2.2.2
  have hl : lv_has ls 1 [(0, .ref (ad 0))] := hl
  obtain ⟨Q9, hQ⟩ : ∃ q, q = MQ below (qw_R (some (.int rv))) args s 0 0 (fun _ => False) := ⟨_, rfl⟩
  rw [← hQ]
  generalize va_A (Wm cy ad I A w) sz = Z9 at V
  unfold f_X8_settingHere at hf
  refine lv_aload_n hx hb dX8_settingHere_0 rfl (lv_at hl 0 rfl) ?_
  refine lv_ldc2 (v := 239301) hx hb hown (hts _ kct_X8_116) dX8_settingHere_1 ?_
  obtain ⟨r1, hc_4, hf⟩ := qf_bd_e hf
  refine qw_cVR (rest := []) (st1 := [.int r1]) S0 V hl 0 gM_0 rfl (c_X8_isWord l hc_4) kg_X8_149 rfl ⟨rfl, rfl⟩ kd_X8_isWord ⟨Nat.le_of_ble_eq_true rfl, Nat.le_of_ble_eq_true rfl⟩ rfl rfl (Nat.le_of_ble_eq_true rfl) ⟨Nat.zero_le _, Nat.zero_le _⟩ rfl dX8_settingHere_4 ?_
  refine lv_if_eq (tgt := 12) hx hb dX8_settingHere_7 (by decide) (fun c_7 => ?_) (fun c_7 => ?_)
  · replace hf := qf_t c_7 hf
    refine lv_aload_n hx hb dX8_settingHere_12 rfl (lv_at hl 0 rfl) ?_
    refine lv_ldc2 (v := 656741) hx hb hown (hts _ kct_X8_118) dX8_settingHere_13 ?_
    obtain ⟨r2, hc_16, hf⟩ := qf_bd_e hf
    refine qw_cVR (rest := []) (st1 := [.int r2]) S0 V hl 0 gM_0 rfl (c_X8_isWord l hc_16) kg_X8_149 rfl ⟨rfl, rfl⟩ kd_X8_isWord ⟨Nat.le_of_ble_eq_true rfl, Nat.le_of_ble_eq_true rfl⟩ rfl rfl (Nat.le_of_ble_eq_true rfl) ⟨Nat.zero_le _, Nat.zero_le _⟩ rfl dX8_settingHere_16 ?_
    refine lv_if_eq (tgt := 24) hx hb dX8_settingHere_19 (by decide) (fun c_19 => ?_) (fun c_19 => ?_)
    · replace hf := qf_t c_19 hf
      refine lv_aload_n hx hb dX8_settingHere_24 rfl (lv_at hl 0 rfl) ?_
      refine lv_ldc2 (v := 22518700226661) hx hb hown (hts _ kct_X8_153) dX8_settingHere_25 ?_
      obtain ⟨r3, hc_28, hf⟩ := qf_bd_e hf
      refine qw_cVR (rest := []) (st1 := [.int r3]) S0 V hl 0 gM_0 rfl (c_X8_isWord l hc_28) kg_X8_149 rfl ⟨rfl, rfl⟩ kd_X8_isWord ⟨Nat.le_of_ble_eq_true rfl, Nat.le_of_ble_eq_true rfl⟩ rfl rfl (Nat.le_of_ble_eq_true rfl) ⟨Nat.zero_le _, Nat.zero_le _⟩ rfl dX8_settingHere_28 ?_
      refine lv_if_eq (tgt := 38) hx hb dX8_settingHere_31 (by decide) (fun c_31 => ?_) (fun c_31 => ?_)
      · replace hf := qf_t c_31 hf
        refine lv_iconst (v := -1) hx hb dX8_settingHere_38 (by decide) ?_
        have hE := Option.some.inj hf
        exact qw_iretR S0 hr hlocks hQ hE dX8_settingHere_39
      · replace hf := qf_f c_31 hf
        refine lv_iconst (v := 2) hx hb dX8_settingHere_34 (by decide) ?_
        refine lv_goto (tgt := 39) hx hb dX8_settingHere_35 (by decide) ?_
        have hE := Option.some.inj hf
        exact qw_iretR S0 hr hlocks hQ hE dX8_settingHere_39
    · replace hf := qf_f c_19 hf
      refine lv_iconst (v := 1) hx hb dX8_settingHere_22 (by decide) ?_
      have hE := Option.some.inj hf
      exact qw_iretR S0 hr hlocks hQ hE dX8_settingHere_23
  · replace hf := qf_f c_7 hf
    refine lv_iconst (v := 0) hx hb dX8_settingHere_10 (by decide) ?_
    have hE := Option.some.inj hf
    exact qw_iretR S0 hr hlocks hQ hE dX8_settingHere_11
theorem kd_X8_parseSetting : yX8_parseSetting.cls = RX8 ∧ yX8_parseSetting.cls ≠ "java/lang/invoke/MethodHandle" ∧ yX8_parseSetting.cls ≠ "java/lang/invoke/VarHandle" ∧ (parseMethodDescriptor yX8_parseSetting.desc).map (fun d => d.parameters.length) = some 0 := by decide +kernel
def f_X8_parseSetting_j49 (A : Nat → Nat → Int32)  (I : Nat → Int32) (w : Int64) (y1 : Int32) (s0 : Int32) : Option ((Nat → Int32) × (Nat → Nat → Int32) × (Int64)) :=
  qf_bd (f_X8_check I s0 (-14 : Int32)) fun I5 =>
  qf_let (upd I5 10 ((I5 10) ||| ((1 : Int32) <<< (y1 &&& 31)))) fun I6 =>
  qf_bd2 (f_X8_advanceIfGood A I6 w) fun I7 w8 =>
  if (I7 8) = 0 then (qf_bd (f_X8_mostOf y1) fun r9 =>
    qf_bd3 (f_X8_readInteger A I7 w8 (0 : Int32) r9) fun r10 I11 w12 =>
    qf_st 250 y1 fun i14 =>
    qf_let (qf_up A 1 (upd (A 1) i14 r10)) fun A13 =>
    some (I11, A13, w12)) else (some (I7, A, w8))
def f_X8_parseSetting_j19 (A : Nat → Nat → Int32)  (I : Nat → Int32) (w : Int64) (y1 : Int32) (s0 : Int32) : Option ((Nat → Int32) × (Nat → Nat → Int32) × (Int64)) :=
  qf_bd (f_X8_check I s0 (-11 : Int32)) fun I4 =>
  if (I4 8) = 0 then (if (((I4 10) >>> (y1 &&& 31)) &&& (1 : Int32)) = 0 then (f_X8_parseSetting_j49 A I4 w y1 (1 : Int32)) else (f_X8_parseSetting_j49 A I4 w y1 (0 : Int32))) else (some (I4, A, w))
def f_X8_parseSetting (I : Nat → Int32) (A : Nat → Nat → Int32) (w : Int64) : Option ((Nat → Int32) × (Nat → Nat → Int32) × (Int64)) :=
  qf_bd2 (f_X8_advance A I w) fun I1 w2 =>
  qf_bd (f_X8_settingHere I1 w2) fun r3 =>
  if r3 < 0 then (f_X8_parseSetting_j19 A I1 w2 r3 (0 : Int32)) else (f_X8_parseSetting_j19 A I1 w2 r3 (1 : Int32))
abbrev wz_X8_parseSetting : List Cond := Cond.code yX8_parseSetting cX8_parseSetting 2 none :: qw_big
def rm_X8_parseSetting : Room := { frames := 4, cells := 0, slots := 0, locals := 86 }
set_option maxHeartbeats 4000000 in
set_option maxRecDepth 100000 in
theorem c_X8_parseSetting (l : Launch) {D : va_G} {cy : Nat → ClassId} {ad : Nat → Nat} {I : Nat → Int32} {A : Nat → Nat → Int32} {w : Int64}  {I9 : Nat → Int32} {A9 : Nat → Nat → Int32} {w9 : Int64} {sz : Nat} (hf : f_X8_parseSetting I A w = some (I9, A9, w9)) : Met l yX8_parseSetting wz_X8_parseSetting rm_X8_parseSetting (va_Pc [.ref (ad 0)] (qw_Pre D cy (Wm cy ad I A w) sz)) (qw_Q none D (Wm cy ad I9 A9 w9) (va_A (Wm cy ad I A w) sz)) 0 0 (va_A (Wm cy ad I A w) sz) := by
  refine qw_of (cc := cX8_parseSetting) (maxL := 2) (ret := none) (by decide) (Nat.le_of_ble_eq_true rfl) ?_
  intro p e s m args below meth c ls S0 hr hlocks hsz V hl
  have S0 : CallFix p m c cX8_parseSetting 2 s args qw_big RX8 := S0
  have hx := S0.1; have hb := S0.2.1; have hown := S0.2.2.2.1; have hts := S0.2.2.2.2
  have hl : lv_has ls 2 [(0, .ref (ad 0))] := hl
  generalize va_A (Wm cy ad I A w) sz = Z9 at V ⊢
  obtain ⟨Q9, hQ⟩ : ∃ q, q = MQ below (qw_Q none D (Wm cy ad I9 A9 w9) Z9) args s 0 0 Z9 := ⟨_, rfl⟩
  rw [← hQ]
  clear hsz
  have J_49 : ∀  {I : Nat → Int32} {w : Int64} {y1 : Int32} {s0 : Int32} {H : Heap} {locs : List Loc} {ls : Array Slot}, f_X8_parseSetting_j49 A I w y1 s0 = some (I9, A9, w9) → qw_V D cy Z9 s (Wm cy ad I A w) H locs → lv_has ls 2 [(0, .ref (ad 0)), (1, .int y1)] → W p l e rm_X8_parseSetting s m args below meth c H locs 0 0 Q9 (F0 m 49 ls [.int s0, .ref (ad 0)]) := by
    intro I w y1 s0 H locs ls hf V hl
    unfold f_X8_parseSetting_j49 at hf
    refine lv_bipush (v := -14) hx hb dX8_parseSetting_49 (by decide) ?_
    obtain ⟨I5, hc_51, hf⟩ := qf_bd_e hf
    refine qw_cV (rest := []) (st1 := []) S0 V hl 0 gM_0 rfl (c_X8_check l hc_51) kg_X8_97 rfl ⟨rfl, rfl⟩ kd_X8_check ⟨Nat.le_of_ble_eq_true rfl, Nat.le_of_ble_eq_true rfl⟩ rfl rfl (Nat.le_of_ble_eq_true rfl) ⟨Nat.zero_le _, Nat.zero_le _⟩ rfl dX8_parseSetting_51 (fun H locs V => ?_)
    refine lv_aload_n hx hb dX8_parseSetting_54 rfl (lv_at hl 0 rfl) ?_
    refine lv_dup hx hb dX8_parseSetting_55 rfl ?_
    refine gfM_0_17 S0 V kl_X8_158 dX8_parseSetting_56 ?_
    refine lv_iconst (v := 1) hx hb dX8_parseSetting_59 (by decide) ?_
    refine lv_iload_n hx hb dX8_parseSetting_60 rfl (lv_at hl 1 rfl) ?_
    refine lv_ishl hx hb dX8_parseSetting_61 ?_
    refine lv_ior hx hb dX8_parseSetting_62 ?_
    refine pfM_0_17 S0 V kl_X8_158 dX8_parseSetting_63 (fun H locs I6 e_I6 V => ?_)
    replace hf := qf_let_e e_I6 hf
    refine lv_aload_n hx hb dX8_parseSetting_66 rfl (lv_at hl 0 rfl) ?_
    obtain ⟨I7, w8, hc_67, hf⟩ := qf_bd2_e hf
    refine qw_cV (rest := []) (st1 := []) S0 V hl 0 gM_0 rfl (c_X8_advanceIfGood l hc_67) kg_X8_101 rfl ⟨rfl, rfl⟩ kd_X8_advanceIfGood ⟨Nat.le_of_ble_eq_true rfl, Nat.le_of_ble_eq_true rfl⟩ rfl rfl (Nat.le_of_ble_eq_true rfl) ⟨Nat.zero_le _, Nat.zero_le _⟩ rfl dX8_parseSetting_67 (fun H locs V => ?_)
    refine lv_aload_n hx hb dX8_parseSetting_70 rfl (lv_at hl 0 rfl) ?_
    refine gfM_0_15 S0 V kl_X8_91 dX8_parseSetting_71 ?_
    refine lv_if_ne (tgt := 92) hx hb dX8_parseSetting_74 (by decide) (fun c_74 => ?_) (fun c_74 => ?_)
    · replace hf := qf_f c_74 hf
      have hE := Option.some.inj hf
      obtain ⟨e0, hE⟩ := qf_pr hE
      obtain ⟨e1, hE⟩ := qf_pr hE
      exact qw_vreti S0 hr hlocks hQ (by rw [e0, e1, hE]) V dX8_parseSetting_92
    · replace hf := qf_t c_74 hf
      refine lv_aload_n hx hb dX8_parseSetting_77 rfl (lv_at hl 0 rfl) ?_
      refine gfM_0_1 S0 V kl_X8_13 dX8_parseSetting_78 ?_
      refine lv_iload_n hx hb dX8_parseSetting_81 rfl (lv_at hl 1 rfl) ?_
      refine lv_aload_n hx hb dX8_parseSetting_82 rfl (lv_at hl 0 rfl) ?_
      refine lv_iconst (v := 0) hx hb dX8_parseSetting_83 (by decide) ?_
      refine lv_iload_n hx hb dX8_parseSetting_84 rfl (lv_at hl 1 rfl) ?_
      obtain ⟨r9, hc_85, hf⟩ := qf_bd_e hf
      refine qw_cSR (rest := [.int (0 : Int32), .ref (ad 0), .int y1, .ref (ad 2)]) (st1 := [.int r9, .int (0 : Int32), .ref (ad 0), .int y1, .ref (ad 2)]) S0 V hl (c_X8_mostOf l hc_85) kg_X8_161 rfl ⟨rfl, rfl⟩ kd_X8_mostOf ⟨Nat.le_of_ble_eq_true rfl, Nat.le_of_ble_eq_true rfl⟩ rfl rfl (Nat.le_of_ble_eq_true rfl) ⟨Nat.zero_le _, Nat.zero_le _⟩ rfl dX8_parseSetting_85 ?_
      obtain ⟨r10, I11, w12, hc_88, hf⟩ := qf_bd3_e hf
      refine qw_cV (rest := [.int y1, .ref (ad 2)]) (st1 := [.int r10, .int y1, .ref (ad 2)]) S0 V hl 0 gM_0 rfl (c_X8_readInteger l hc_88) kg_X8_138 rfl ⟨rfl, rfl⟩ kd_X8_readInteger ⟨Nat.le_of_ble_eq_true rfl, Nat.le_of_ble_eq_true rfl⟩ rfl rfl (Nat.le_of_ble_eq_true rfl) ⟨Nat.zero_le _, Nat.zero_le _⟩ rfl dX8_parseSetting_88 (fun H locs V => ?_)
      have h_91 := qf_st_in hf
      replace hf := qf_st_e hf
      refine asM_2 S0 V h_91 dX8_parseSetting_91 (fun H locs A13 e_A13 V => ?_)
      replace hf := qf_let_e e_A13 hf
      have hE := Option.some.inj hf
      obtain ⟨e0, hE⟩ := qf_pr hE
      obtain ⟨e1, hE⟩ := qf_pr hE
      exact qw_vreti S0 hr hlocks hQ (by rw [e0, e1, hE]) V dX8_parseSetting_92
  have J_19 : ∀  {I : Nat → Int32} {w : Int64} {y1 : Int32} {s0 : Int32} {H : Heap} {locs : List Loc} {ls : Array Slot}, f_X8_parseSetting_j19 A I w y1 s0 = some (I9, A9, w9) → qw_V D cy Z9 s (Wm cy ad I A w) H locs → lv_has ls 2 [(0, .ref (ad 0)), (1, .int y1)] → W p l e rm_X8_parseSetting s m args below meth c H locs 0 0 Q9 (F0 m 19 ls [.int s0, .ref (ad 0)]) := by
    intro I w y1 s0 H locs ls hf V hl
    unfold f_X8_parseSetting_j19 at hf
    refine lv_bipush (v := -11) hx hb dX8_parseSetting_19 (by decide) ?_
    obtain ⟨I4, hc_21, hf⟩ := qf_bd_e hf
    refine qw_cV (rest := []) (st1 := []) S0 V hl 0 gM_0 rfl (c_X8_check l hc_21) kg_X8_97 rfl ⟨rfl, rfl⟩ kd_X8_check ⟨Nat.le_of_ble_eq_true rfl, Nat.le_of_ble_eq_true rfl⟩ rfl rfl (Nat.le_of_ble_eq_true rfl) ⟨Nat.zero_le _, Nat.zero_le _⟩ rfl dX8_parseSetting_21 (fun H locs V => ?_)
    refine lv_aload_n hx hb dX8_parseSetting_24 rfl (lv_at hl 0 rfl) ?_
    refine gfM_0_15 S0 V kl_X8_91 dX8_parseSetting_25 ?_
    refine lv_if_eq (tgt := 32) hx hb dX8_parseSetting_28 (by decide) (fun c_28 => ?_) (fun c_28 => ?_)
    · replace hf := qf_t c_28 hf
      refine lv_aload_n hx hb dX8_parseSetting_32 rfl (lv_at hl 0 rfl) ?_
      refine lv_aload_n hx hb dX8_parseSetting_33 rfl (lv_at hl 0 rfl) ?_
      refine gfM_0_17 S0 V kl_X8_158 dX8_parseSetting_34 ?_
      refine lv_iload_n hx hb dX8_parseSetting_37 rfl (lv_at hl 1 rfl) ?_
      refine lv_ishr hx hb dX8_parseSetting_38 ?_
      refine lv_iconst (v := 1) hx hb dX8_parseSetting_39 (by decide) ?_
      refine lv_iand hx hb dX8_parseSetting_40 ?_
      refine lv_if_ne (tgt := 48) hx hb dX8_parseSetting_41 (by decide) (fun c_41 => ?_) (fun c_41 => ?_)
      · replace hf := qf_f c_41 hf
        refine lv_iconst (v := 0) hx hb dX8_parseSetting_48 (by decide) ?_
        exact J_49 hf V (lv_sub hl [0, 1] rfl)
      · replace hf := qf_t c_41 hf
        refine lv_iconst (v := 1) hx hb dX8_parseSetting_44 (by decide) ?_
        refine lv_goto (tgt := 49) hx hb dX8_parseSetting_45 (by decide) ?_
        exact J_49 hf V (lv_sub hl [0, 1] rfl)
    · replace hf := qf_f c_28 hf
      have hE := Option.some.inj hf
      obtain ⟨e0, hE⟩ := qf_pr hE
      obtain ⟨e1, hE⟩ := qf_pr hE
      exact qw_vreti S0 hr hlocks hQ (by rw [e0, e1, hE]) V dX8_parseSetting_31
  unfold f_X8_parseSetting at hf
  refine lv_aload_n hx hb dX8_parseSetting_0 rfl (lv_at hl 0 rfl) ?_
  obtain ⟨I1, w2, hc_1, hf⟩ := qf_bd2_e hf
  refine qw_cV (rest := []) (st1 := []) S0 V hl 0 gM_0 rfl (c_X8_advance l hc_1) kg_X8_94 rfl ⟨rfl, rfl⟩ kd_X8_advance ⟨Nat.le_of_ble_eq_true rfl, Nat.le_of_ble_eq_true rfl⟩ rfl rfl (Nat.le_of_ble_eq_true rfl) ⟨Nat.zero_le _, Nat.zero_le _⟩ rfl dX8_parseSetting_1 (fun H locs V => ?_)
  refine lv_aload_n hx hb dX8_parseSetting_4 rfl (lv_at hl 0 rfl) ?_
  obtain ⟨r3, hc_5, hf⟩ := qf_bd_e hf
  refine qw_cVR (rest := []) (st1 := [.int r3]) S0 V hl 0 gM_0 rfl (c_X8_settingHere l hc_5) kg_X8_155 rfl ⟨rfl, rfl⟩ kd_X8_settingHere ⟨Nat.le_of_ble_eq_true rfl, Nat.le_of_ble_eq_true rfl⟩ rfl rfl (Nat.le_of_ble_eq_true rfl) ⟨Nat.zero_le _, Nat.zero_le _⟩ rfl dX8_parseSetting_5 ?_
  refine lv_istore_n (lv' := [(1, .int r3), (0, .ref (ad 0))]) hx hb dX8_parseSetting_8 rfl hl (by decide) rfl (fun ls hl => ?_)
  refine lv_aload_n hx hb dX8_parseSetting_9 rfl (lv_at hl 1 rfl) ?_
  refine lv_iload_n hx hb dX8_parseSetting_10 rfl (lv_at hl 0 rfl) ?_
  refine lv_if_lt (tgt := 18) hx hb dX8_parseSetting_11 (by decide) (fun c_11 => ?_) (fun c_11 => ?_)
  · replace hf := qf_t c_11 hf
    refine lv_iconst (v := 0) hx hb dX8_parseSetting_18 (by decide) ?_
    exact J_19 hf V (lv_sub hl [1, 0] rfl)
  · replace hf := qf_f c_11 hf
    refine lv_iconst (v := 1) hx hb dX8_parseSetting_14 (by decide) ?_
    refine lv_goto (tgt := 19) hx hb dX8_parseSetting_15 (by decide) ?_
    exact J_19 hf V (lv_sub hl [1, 0] rfl)
theorem kd_X8_parseStatement : yX8_parseStatement.cls = RX8 ∧ yX8_parseStatement.cls ≠ "java/lang/invoke/MethodHandle" ∧ yX8_parseStatement.cls ≠ "java/lang/invoke/VarHandle" ∧ (parseMethodDescriptor yX8_parseStatement.desc).map (fun d => d.parameters.length) = some 0 := by decide +kernel
def f_X8_parseStatement (I : Nat → Int32) (A : Nat → Nat → Int32) (w : Int64) : Option ((Nat → Int32) × (Nat → Nat → Int32) × (Int64)) :=
  qf_bd (f_X8_isWord I w (7945904 : Int64)) fun r1 =>
  if r1 = 0 then (qf_bd (f_X8_isWord I w (646192 : Int64)) fun r2 =>
    if r2 = 0 then (qf_bd (f_X8_isWord I w (245220 : Int64)) fun r3 =>
      if r3 = 0 then (qf_bd (f_X8_isWord I w (8902245 : Int64)) fun r4 =>
        if r4 = 0 then (qf_bd (f_X8_isWord I w (631280 : Int64)) fun r5 =>
          if r5 = 0 then (qf_bd (f_X8_isWord I w (19636 : Int64)) fun r6 =>
            if r6 = 0 then (qf_bd (f_X8_check I (0 : Int32) (-11 : Int32)) fun I7 =>
              some (I7, A, w)) else (qf_bd3 (f_X8_parseSetting I A w) fun I8 A9 w10 =>
              some (I8, A9, w10))) else (qf_bd3 (f_X8_parseShop I A w) fun I11 A12 w13 =>
            some (I11, A12, w13))) else (qf_bd3 (f_X8_parseHouse I A w) fun I14 A15 w16 =>
          some (I14, A15, w16))) else (qf_bd3 (f_X8_parseGood I A w) fun I17 A18 w19 =>
        some (I17, A18, w19))) else (qf_bd3 (f_X8_parseSwap I A w) fun I20 A21 w22 =>
      some (I20, A21, w22))) else (qf_bd3 (f_X8_parseGroup I A w) fun I23 A24 w25 =>
    some (I23, A24, w25))
abbrev wz_X8_parseStatement : List Cond := Cond.code yX8_parseStatement cX8_parseStatement 1 none :: qw_big
def rm_X8_parseStatement : Room := { frames := 6, cells := 0, slots := 0, locals := 132 }
set_option maxHeartbeats 4000000 in
set_option maxRecDepth 100000 in
theorem c_X8_parseStatement (l : Launch) {D : va_G} {cy : Nat → ClassId} {ad : Nat → Nat} {I : Nat → Int32} {A : Nat → Nat → Int32} {w : Int64}  {I9 : Nat → Int32} {A9 : Nat → Nat → Int32} {w9 : Int64} {sz : Nat} (hf : f_X8_parseStatement I A w = some (I9, A9, w9)) : Met l yX8_parseStatement wz_X8_parseStatement rm_X8_parseStatement (va_Pc [.ref (ad 0)] (qw_Pre D cy (Wm cy ad I A w) sz)) (qw_Q none D (Wm cy ad I9 A9 w9) (va_A (Wm cy ad I A w) sz)) 0 0 (va_A (Wm cy ad I A w) sz) := by
  refine qw_of (cc := cX8_parseStatement) (maxL := 1) (ret := none) (by decide) (Nat.le_of_ble_eq_true rfl) ?_
  intro p e s m args below meth c ls S0 hr hlocks hsz V hl
  have S0 : CallFix p m c cX8_parseStatement 1 s args qw_big RX8 := S0
  have hx := S0.1; have hb := S0.2.1; have hown := S0.2.2.2.1; have hts := S0.2.2.2.2
  have hl : lv_has ls 1 [(0, .ref (ad 0))] := hl
  generalize va_A (Wm cy ad I A w) sz = Z9 at V ⊢
  obtain ⟨Q9, hQ⟩ : ∃ q, q = MQ below (qw_Q none D (Wm cy ad I9 A9 w9) Z9) args s 0 0 Z9 := ⟨_, rfl⟩
  rw [← hQ]
  clear hsz
  unfold f_X8_parseStatement at hf
  refine lv_aload_n hx hb dX8_parseStatement_0 rfl (lv_at hl 0 rfl) ?_
  refine lv_ldc2 (v := 7945904) hx hb hown (hts _ kct_X8_104) dX8_parseStatement_1 ?_
  obtain ⟨r1, hc_4, hf⟩ := qf_bd_e hf
  refine qw_cVR (rest := []) (st1 := [.int r1]) S0 V hl 0 gM_0 rfl (c_X8_isWord l hc_4) kg_X8_149 rfl ⟨rfl, rfl⟩ kd_X8_isWord ⟨Nat.le_of_ble_eq_true rfl, Nat.le_of_ble_eq_true rfl⟩ rfl rfl (Nat.le_of_ble_eq_true rfl) ⟨Nat.zero_le _, Nat.zero_le _⟩ rfl dX8_parseStatement_4 ?_
  refine lv_if_eq (tgt := 17) hx hb dX8_parseStatement_7 (by decide) (fun c_7 => ?_) (fun c_7 => ?_)
  · replace hf := qf_t c_7 hf
    refine lv_aload_n hx hb dX8_parseStatement_17 rfl (lv_at hl 0 rfl) ?_
    refine lv_ldc2 (v := 646192) hx hb hown (hts _ kct_X8_106) dX8_parseStatement_18 ?_
    obtain ⟨r2, hc_21, hf⟩ := qf_bd_e hf
    refine qw_cVR (rest := []) (st1 := [.int r2]) S0 V hl 0 gM_0 rfl (c_X8_isWord l hc_21) kg_X8_149 rfl ⟨rfl, rfl⟩ kd_X8_isWord ⟨Nat.le_of_ble_eq_true rfl, Nat.le_of_ble_eq_true rfl⟩ rfl rfl (Nat.le_of_ble_eq_true rfl) ⟨Nat.zero_le _, Nat.zero_le _⟩ rfl dX8_parseStatement_21 ?_
    refine lv_if_eq (tgt := 34) hx hb dX8_parseStatement_24 (by decide) (fun c_24 => ?_) (fun c_24 => ?_)
    · replace hf := qf_t c_24 hf
      refine lv_aload_n hx hb dX8_parseStatement_34 rfl (lv_at hl 0 rfl) ?_
      refine lv_ldc2 (v := 245220) hx hb hown (hts _ kct_X8_108) dX8_parseStatement_35 ?_
      obtain ⟨r3, hc_38, hf⟩ := qf_bd_e hf
      refine qw_cVR (rest := []) (st1 := [.int r3]) S0 V hl 0 gM_0 rfl (c_X8_isWord l hc_38) kg_X8_149 rfl ⟨rfl, rfl⟩ kd_X8_isWord ⟨Nat.le_of_ble_eq_true rfl, Nat.le_of_ble_eq_true rfl⟩ rfl rfl (Nat.le_of_ble_eq_true rfl) ⟨Nat.zero_le _, Nat.zero_le _⟩ rfl dX8_parseStatement_38 ?_
      refine lv_if_eq (tgt := 51) hx hb dX8_parseStatement_41 (by decide) (fun c_41 => ?_) (fun c_41 => ?_)
      · replace hf := qf_t c_41 hf
        refine lv_aload_n hx hb dX8_parseStatement_51 rfl (lv_at hl 0 rfl) ?_
        refine lv_ldc2 (v := 8902245) hx hb hown (hts _ kct_X8_110) dX8_parseStatement_52 ?_
        obtain ⟨r4, hc_55, hf⟩ := qf_bd_e hf
        refine qw_cVR (rest := []) (st1 := [.int r4]) S0 V hl 0 gM_0 rfl (c_X8_isWord l hc_55) kg_X8_149 rfl ⟨rfl, rfl⟩ kd_X8_isWord ⟨Nat.le_of_ble_eq_true rfl, Nat.le_of_ble_eq_true rfl⟩ rfl rfl (Nat.le_of_ble_eq_true rfl) ⟨Nat.zero_le _, Nat.zero_le _⟩ rfl dX8_parseStatement_55 ?_
        refine lv_if_eq (tgt := 68) hx hb dX8_parseStatement_58 (by decide) (fun c_58 => ?_) (fun c_58 => ?_)
        · replace hf := qf_t c_58 hf
          refine lv_aload_n hx hb dX8_parseStatement_68 rfl (lv_at hl 0 rfl) ?_
          refine lv_ldc2 (v := 631280) hx hb hown (hts _ kct_X8_112) dX8_parseStatement_69 ?_
          obtain ⟨r5, hc_72, hf⟩ := qf_bd_e hf
          refine qw_cVR (rest := []) (st1 := [.int r5]) S0 V hl 0 gM_0 rfl (c_X8_isWord l hc_72) kg_X8_149 rfl ⟨rfl, rfl⟩ kd_X8_isWord ⟨Nat.le_of_ble_eq_true rfl, Nat.le_of_ble_eq_true rfl⟩ rfl rfl (Nat.le_of_ble_eq_true rfl) ⟨Nat.zero_le _, Nat.zero_le _⟩ rfl dX8_parseStatement_72 ?_
          refine lv_if_eq (tgt := 85) hx hb dX8_parseStatement_75 (by decide) (fun c_75 => ?_) (fun c_75 => ?_)
          · replace hf := qf_t c_75 hf
            refine lv_aload_n hx hb dX8_parseStatement_85 rfl (lv_at hl 0 rfl) ?_
            refine lv_ldc2 (v := 19636) hx hb hown (hts _ kct_X8_114) dX8_parseStatement_86 ?_
            obtain ⟨r6, hc_89, hf⟩ := qf_bd_e hf
            refine qw_cVR (rest := []) (st1 := [.int r6]) S0 V hl 0 gM_0 rfl (c_X8_isWord l hc_89) kg_X8_149 rfl ⟨rfl, rfl⟩ kd_X8_isWord ⟨Nat.le_of_ble_eq_true rfl, Nat.le_of_ble_eq_true rfl⟩ rfl rfl (Nat.le_of_ble_eq_true rfl) ⟨Nat.zero_le _, Nat.zero_le _⟩ rfl dX8_parseStatement_89 ?_
            refine lv_if_eq (tgt := 102) hx hb dX8_parseStatement_92 (by decide) (fun c_92 => ?_) (fun c_92 => ?_)
            · replace hf := qf_t c_92 hf
              refine lv_aload_n hx hb dX8_parseStatement_102 rfl (lv_at hl 0 rfl) ?_
              refine lv_iconst (v := 0) hx hb dX8_parseStatement_103 (by decide) ?_
              refine lv_bipush (v := -11) hx hb dX8_parseStatement_104 (by decide) ?_
              obtain ⟨I7, hc_106, hf⟩ := qf_bd_e hf
              refine qw_cV (rest := []) (st1 := []) S0 V hl 0 gM_0 rfl (c_X8_check l hc_106) kg_X8_97 rfl ⟨rfl, rfl⟩ kd_X8_check ⟨Nat.le_of_ble_eq_true rfl, Nat.le_of_ble_eq_true rfl⟩ rfl rfl (Nat.le_of_ble_eq_true rfl) ⟨Nat.zero_le _, Nat.zero_le _⟩ rfl dX8_parseStatement_106 (fun H locs V => ?_)
              have hE := Option.some.inj hf
              obtain ⟨e0, hE⟩ := qf_pr hE
              obtain ⟨e1, hE⟩ := qf_pr hE
              exact qw_vreti S0 hr hlocks hQ (by rw [e0, e1, hE]) V dX8_parseStatement_109
            · replace hf := qf_f c_92 hf
              refine lv_aload_n hx hb dX8_parseStatement_95 rfl (lv_at hl 0 rfl) ?_
              obtain ⟨I8, A9, w10, hc_96, hf⟩ := qf_bd3_e hf
              refine qw_cV (rest := []) (st1 := []) S0 V hl 0 gM_0 rfl (c_X8_parseSetting l hc_96) kg_X8_179 rfl ⟨rfl, rfl⟩ kd_X8_parseSetting ⟨Nat.le_of_ble_eq_true rfl, Nat.le_of_ble_eq_true rfl⟩ rfl rfl (Nat.le_of_ble_eq_true rfl) ⟨Nat.zero_le _, Nat.zero_le _⟩ rfl dX8_parseStatement_96 (fun H locs V => ?_)
              refine lv_goto (tgt := 109) hx hb dX8_parseStatement_99 (by decide) ?_
              have hE := Option.some.inj hf
              obtain ⟨e0, hE⟩ := qf_pr hE
              obtain ⟨e1, hE⟩ := qf_pr hE
              exact qw_vreti S0 hr hlocks hQ (by rw [e0, e1, hE]) V dX8_parseStatement_109
          · replace hf := qf_f c_75 hf
            refine lv_aload_n hx hb dX8_parseStatement_78 rfl (lv_at hl 0 rfl) ?_
            obtain ⟨I11, A12, w13, hc_79, hf⟩ := qf_bd3_e hf
            refine qw_cV (rest := []) (st1 := []) S0 V hl 0 gM_0 rfl (c_X8_parseShop l hc_79) kg_X8_176 rfl ⟨rfl, rfl⟩ kd_X8_parseShop ⟨Nat.le_of_ble_eq_true rfl, Nat.le_of_ble_eq_true rfl⟩ rfl rfl (Nat.le_of_ble_eq_true rfl) ⟨Nat.zero_le _, Nat.zero_le _⟩ rfl dX8_parseStatement_79 (fun H locs V => ?_)
            refine lv_goto (tgt := 109) hx hb dX8_parseStatement_82 (by decide) ?_
            have hE := Option.some.inj hf
            obtain ⟨e0, hE⟩ := qf_pr hE
            obtain ⟨e1, hE⟩ := qf_pr hE
            exact qw_vreti S0 hr hlocks hQ (by rw [e0, e1, hE]) V dX8_parseStatement_109
        · replace hf := qf_f c_58 hf
          refine lv_aload_n hx hb dX8_parseStatement_61 rfl (lv_at hl 0 rfl) ?_
          obtain ⟨I14, A15, w16, hc_62, hf⟩ := qf_bd3_e hf
          refine qw_cV (rest := []) (st1 := []) S0 V hl 0 gM_0 rfl (c_X8_parseHouse l hc_62) kg_X8_173 rfl ⟨rfl, rfl⟩ kd_X8_parseHouse ⟨Nat.le_of_ble_eq_true rfl, Nat.le_of_ble_eq_true rfl⟩ rfl rfl (Nat.le_of_ble_eq_true rfl) ⟨Nat.zero_le _, Nat.zero_le _⟩ rfl dX8_parseStatement_62 (fun H locs V => ?_)
          refine lv_goto (tgt := 109) hx hb dX8_parseStatement_65 (by decide) ?_
          have hE := Option.some.inj hf
          obtain ⟨e0, hE⟩ := qf_pr hE
          obtain ⟨e1, hE⟩ := qf_pr hE
          exact qw_vreti S0 hr hlocks hQ (by rw [e0, e1, hE]) V dX8_parseStatement_109
      · replace hf := qf_f c_41 hf
        refine lv_aload_n hx hb dX8_parseStatement_44 rfl (lv_at hl 0 rfl) ?_
        obtain ⟨I17, A18, w19, hc_45, hf⟩ := qf_bd3_e hf
        refine qw_cV (rest := []) (st1 := []) S0 V hl 0 gM_0 rfl (c_X8_parseGood l hc_45) kg_X8_170 rfl ⟨rfl, rfl⟩ kd_X8_parseGood ⟨Nat.le_of_ble_eq_true rfl, Nat.le_of_ble_eq_true rfl⟩ rfl rfl (Nat.le_of_ble_eq_true rfl) ⟨Nat.zero_le _, Nat.zero_le _⟩ rfl dX8_parseStatement_45 (fun H locs V => ?_)
        refine lv_goto (tgt := 109) hx hb dX8_parseStatement_48 (by decide) ?_
        have hE := Option.some.inj hf
        obtain ⟨e0, hE⟩ := qf_pr hE
        obtain ⟨e1, hE⟩ := qf_pr hE
        exact qw_vreti S0 hr hlocks hQ (by rw [e0, e1, hE]) V dX8_parseStatement_109
    · replace hf := qf_f c_24 hf
      refine lv_aload_n hx hb dX8_parseStatement_27 rfl (lv_at hl 0 rfl) ?_
      obtain ⟨I20, A21, w22, hc_28, hf⟩ := qf_bd3_e hf
      refine qw_cV (rest := []) (st1 := []) S0 V hl 0 gM_0 rfl (c_X8_parseSwap l hc_28) kg_X8_167 rfl ⟨rfl, rfl⟩ kd_X8_parseSwap ⟨Nat.le_of_ble_eq_true rfl, Nat.le_of_ble_eq_true rfl⟩ rfl rfl (Nat.le_of_ble_eq_true rfl) ⟨Nat.zero_le _, Nat.zero_le _⟩ rfl dX8_parseStatement_28 (fun H locs V => ?_)
      refine lv_goto (tgt := 109) hx hb dX8_parseStatement_31 (by decide) ?_
      have hE := Option.some.inj hf
      obtain ⟨e0, hE⟩ := qf_pr hE
      obtain ⟨e1, hE⟩ := qf_pr hE
      exact qw_vreti S0 hr hlocks hQ (by rw [e0, e1, hE]) V dX8_parseStatement_109
  · replace hf := qf_f c_7 hf
    refine lv_aload_n hx hb dX8_parseStatement_10 rfl (lv_at hl 0 rfl) ?_
    obtain ⟨I23, A24, w25, hc_11, hf⟩ := qf_bd3_e hf
    refine qw_cV (rest := []) (st1 := []) S0 V hl 0 gM_0 rfl (c_X8_parseGroup l hc_11) kg_X8_164 rfl ⟨rfl, rfl⟩ kd_X8_parseGroup ⟨Nat.le_of_ble_eq_true rfl, Nat.le_of_ble_eq_true rfl⟩ rfl rfl (Nat.le_of_ble_eq_true rfl) ⟨Nat.zero_le _, Nat.zero_le _⟩ rfl dX8_parseStatement_11 (fun H locs V => ?_)
    refine lv_goto (tgt := 109) hx hb dX8_parseStatement_14 (by decide) ?_
    have hE := Option.some.inj hf
    obtain ⟨e0, hE⟩ := qf_pr hE
    obtain ⟨e1, hE⟩ := qf_pr hE
    exact qw_vreti S0 hr hlocks hQ (by rw [e0, e1, hE]) V dX8_parseStatement_109
theorem kd_X8_at : yX8_at.cls ≠ "java/lang/invoke/MethodHandle" ∧ yX8_at.cls ≠ "java/lang/invoke/VarHandle" ∧ (parseMethodDescriptor yX8_at.desc).map (fun d => d.parameters.length) = some 2 := by decide +kernel
def f_X8_at (p1 : Int32) (p2 : Int32) : Option (Int32) :=
  some (((13 : Int32) + ((5 : Int32) * (((4 : Int32) * p1) + p2))))
abbrev wz_X8_at : List Cond := Cond.code yX8_at cX8_at 2 (some .int) :: qw_big
def rm_X8_at : Room := { frames := 0, cells := 0, slots := 0, locals := 0 }
set_option maxHeartbeats 4000000 in
set_option maxRecDepth 100000 in
theorem c_X8_at (l : Launch) {D : va_G} {cy : Nat → ClassId} {ws : va_W} {p1 : Int32} {p2 : Int32} {rv : Int32} {sz : Nat} (hf : f_X8_at p1 p2 = some (rv)) : Met l yX8_at wz_X8_at rm_X8_at (va_Pc [.int p1, .int p2] (qw_Pre D cy ws sz)) (qw_R (some (.int rv))) 0 0 (fun _ => False) := by
  refine qw_of (cc := cX8_at) (maxL := 2) (ret := (some .int)) (by decide) (Nat.le_of_ble_eq_true rfl) ?_
  intro p e s m args below meth c ls S0 hr hlocks hsz V hl
  have S0 : CallFix p m c cX8_at 2 s args qw_big RX8 := S0
  have hx := S0.1; have hb := S0.2.1; have hown := S0.2.2.2.1; have hts := S0.2.2.2.2
  have hl : lv_has ls 2 [(0, .int p1), (1, .int p2)] := hl
  obtain ⟨Q9, hQ⟩ : ∃ q, q = MQ below (qw_R (some (.int rv))) args s 0 0 (fun _ => False) := ⟨_, rfl⟩
  rw [← hQ]
  generalize va_A ws sz = Z9 at V
  unfold f_X8_at at hf
  refine lv_bipush (v := 13) hx hb dX8_at_0 (by decide) ?_
  refine lv_iconst (v := 5) hx hb dX8_at_2 (by decide) ?_
  refine lv_iconst (v := 4) hx hb dX8_at_3 (by decide) ?_
  refine lv_iload_n hx hb dX8_at_4 rfl (lv_at hl 0 rfl) ?_
  refine lv_imul hx hb dX8_at_5 ?_
  refine lv_iload_n hx hb dX8_at_6 rfl (lv_at hl 1 rfl) ?_
  refine lv_iadd hx hb dX8_at_7 ?_
  refine lv_imul hx hb dX8_at_8 ?_
  refine lv_iadd hx hb dX8_at_9 ?_
  have hE := Option.some.inj hf
  exact qw_iretR S0 hr hlocks hQ hE dX8_at_10
theorem kd_X8_issueOf : yX8_issueOf.cls = RX8 ∧ yX8_issueOf.cls ≠ "java/lang/invoke/MethodHandle" ∧ yX8_issueOf.cls ≠ "java/lang/invoke/VarHandle" ∧ (parseMethodDescriptor yX8_issueOf.desc).map (fun d => d.parameters.length) = some 2 := by decide +kernel
def f_X8_issueOf (A : Nat → Nat → Int32) (p1 : Int32) (p2 : Int32) : Option (Int32) :=
  qf_ld 250 (A 0) ((7 : Int32) + p1) fun x1 =>
  qf_ld 250 (A 0) ((3 : Int32) + p2) fun x2 =>
  some ((x1 * x2))
abbrev wz_X8_issueOf : List Cond := Cond.code yX8_issueOf cX8_issueOf 3 (some .int) :: qw_big
def rm_X8_issueOf : Room := { frames := 0, cells := 0, slots := 0, locals := 0 }
set_option maxHeartbeats 4000000 in
set_option maxRecDepth 100000 in
theorem c_X8_issueOf (l : Launch) {D : va_G} {cy : Nat → ClassId} {ad : Nat → Nat} {I : Nat → Int32} {A : Nat → Nat → Int32} {w : Int64} {p1 : Int32} {p2 : Int32} {rv : Int32} {sz : Nat} (hf : f_X8_issueOf A p1 p2 = some (rv)) : Met l yX8_issueOf wz_X8_issueOf rm_X8_issueOf (va_Pc [.ref (ad 0), .int p1, .int p2] (qw_Pre D cy (Wm cy ad I A w) sz)) (qw_R (some (.int rv))) 0 0 (fun _ => False) := by
  refine qw_of (cc := cX8_issueOf) (maxL := 3) (ret := (some .int)) (by decide) (Nat.le_of_ble_eq_true rfl) ?_
  intro p e s m args below meth c ls S0 hr hlocks hsz V hl
  have S0 : CallFix p m c cX8_issueOf 3 s args qw_big RX8 := S0
  have hx := S0.1; have hb := S0.2.1; have hown := S0.2.2.2.1; have hts := S0.2.2.2.2
  have hl : lv_has ls 3 [(0, .ref (ad 0)), (1, .int p1), (2, .int p2)] := hl
  obtain ⟨Q9, hQ⟩ : ∃ q, q = MQ below (qw_R (some (.int rv))) args s 0 0 (fun _ => False) := ⟨_, rfl⟩
  rw [← hQ]
  generalize va_A (Wm cy ad I A w) sz = Z9 at V
  unfold f_X8_issueOf at hf
  refine lv_aload_n hx hb dX8_issueOf_0 rfl (lv_at hl 0 rfl) ?_
  refine gfM_0_0 S0 V kl_X8_7 dX8_issueOf_1 ?_
  refine lv_bipush (v := 7) hx hb dX8_issueOf_4 (by decide) ?_
  refine lv_iload_n hx hb dX8_issueOf_6 rfl (lv_at hl 1 rfl) ?_
  refine lv_iadd hx hb dX8_issueOf_7 ?_
  have h_8 := qf_ld_in hf
  refine alM_1 S0 V h_8 dX8_issueOf_8 ?_
  refine lv_topi (fun x1 e_x1 => ?_)
  replace hf := qf_ld_e e_x1 hf
  refine lv_aload_n hx hb dX8_issueOf_9 rfl (lv_at hl 0 rfl) ?_
  refine gfM_0_0 S0 V kl_X8_7 dX8_issueOf_10 ?_
  refine lv_iconst (v := 3) hx hb dX8_issueOf_13 (by decide) ?_
  refine lv_iload_n hx hb dX8_issueOf_14 rfl (lv_at hl 2 rfl) ?_
  refine lv_iadd hx hb dX8_issueOf_15 ?_
  have h_16 := qf_ld_in hf
  refine alM_1 S0 V h_16 dX8_issueOf_16 ?_
  refine lv_topi (fun x2 e_x2 => ?_)
  replace hf := qf_ld_e e_x2 hf
  refine lv_imul hx hb dX8_issueOf_17 ?_
  have hE := Option.some.inj hf
  exact qw_iretR S0 hr hlocks hQ hE dX8_issueOf_18
theorem kd_X8_issue : yX8_issue.cls = RX8 ∧ yX8_issue.cls ≠ "java/lang/invoke/MethodHandle" ∧ yX8_issue.cls ≠ "java/lang/invoke/VarHandle" ∧ (parseMethodDescriptor yX8_issue.desc).map (fun d => d.parameters.length) = some 0 := by decide +kernel
def f_X8_issue_l14  (K2 : (Nat → Nat → Int32) → Int32 → Option ((Nat → Nat → Int32))) (y1 : Int32) : Nat → (Nat → Nat → Int32) → Int32 → Option ((Nat → Nat → Int32))
  | 0, _, _ => none
  | n + 1, A, y2 =>
  qf_ld 62 (A 3) (0 : Int32) fun x2 =>
  if x2 ≤ y2 then (qf_let (y1 + (1 : Int32)) fun x3 =>
    K2 A x3) else (qf_bd (f_X8_at y1 y2) fun r4 =>
    qf_ld 62 (A 3) ((4 : Int32) + y2) fun x5 =>
    qf_ld 250 (A 0) (r4 + x5) fun x6 =>
    qf_bd (f_X8_issueOf A y1 y2) fun r7 =>
    qf_st 250 (r4 + x5) fun i9 =>
    qf_let (qf_up A 0 (upd (A 0) i9 (x6 + r7))) fun A8 =>
    qf_ld 250 (A8 0) ((237 : Int32) + y2) fun x10 =>
    qf_bd (f_X8_issueOf A8 y1 y2) fun r11 =>
    qf_st 250 ((237 : Int32) + y2) fun i13 =>
    qf_let (qf_up A8 0 (upd (A8 0) i13 (x10 + r11))) fun A12 =>
    qf_let (y2 + (1 : Int32)) fun x14 =>
    f_X8_issue_l14 K2 y1 n A12 x14)
def f_X8_issue_l2    : Nat → (Nat → Nat → Int32) → Int32 → Option ((Nat → Nat → Int32))
  | 0, _, _ => none
  | n + 1, A, y1 =>
  qf_ld 62 (A 3) (2 : Int32) fun x1 =>
  if x1 ≤ y1 then (some (A)) else (f_X8_issue_l14 (fun z0 z1 => f_X8_issue_l2  n z0 z1) y1 100000 A (0 : Int32))
def f_X8_issue (A : Nat → Nat → Int32) : Option ((Nat → Nat → Int32)) :=
  f_X8_issue_l2  100000 A (0 : Int32)
abbrev wz_X8_issue : List Cond := Cond.code yX8_issue cX8_issue 3 none :: qw_big
def rm_X8_issue : Room := { frames := 1, cells := 0, slots := 0, locals := 22 }
set_option maxHeartbeats 4000000 in
set_option maxRecDepth 100000 in
theorem c_X8_issue (l : Launch) {D : va_G} {cy : Nat → ClassId} {ad : Nat → Nat} {I : Nat → Int32} {A : Nat → Nat → Int32} {w : Int64}  {A9 : Nat → Nat → Int32} {sz : Nat} (hf : f_X8_issue A = some (A9)) : Met l yX8_issue wz_X8_issue rm_X8_issue (va_Pc [.ref (ad 0)] (qw_Pre D cy (Wm cy ad I A w) sz)) (qw_Q none D (Wm cy ad I A9 w) (va_A (Wm cy ad I A w) sz)) 0 0 (va_A (Wm cy ad I A w) sz) := by
  refine qw_of (cc := cX8_issue) (maxL := 3) (ret := none) (by decide) (Nat.le_of_ble_eq_true rfl) ?_
  intro p e s m args below meth c ls S0 hr hlocks hsz V hl
  have S0 : CallFix p m c cX8_issue 3 s args qw_big RX8 := S0
  have hx := S0.1; have hb := S0.2.1; have hown := S0.2.2.2.1; have hts := S0.2.2.2.2
  have hl : lv_has ls 3 [(0, .ref (ad 0))] := hl
  generalize va_A (Wm cy ad I A w) sz = Z9 at V ⊢
  obtain ⟨Q9, hQ⟩ : ∃ q, q = MQ below (qw_Q none D (Wm cy ad I A9 w) Z9) args s 0 0 Z9 := ⟨_, rfl⟩
  rw [← hQ]
  clear hsz
  have L_14 : ∀ {K2 : (Nat → Nat → Int32) → Int32 → Option ((Nat → Nat → Int32))}  (hK2 : ∀ {A : Nat → Nat → Int32} {y1 : Int32} {H : Heap} {locs : List Loc} {ls : Array Slot}, K2 A y1 = some (A9) → qw_V D cy Z9 s (Wm cy ad I A w) H locs → lv_has ls 3 [(0, .ref (ad 0)), (1, .int y1)] → W p l e rm_X8_issue s m args below meth c H locs 0 0 Q9 (F0 m 2 ls [])) {y1 : Int32} {n : Nat} {A : Nat → Nat → Int32} {y2 : Int32} {H : Heap} {locs : List Loc} {ls : Array Slot}, f_X8_issue_l14 K2 y1 n A y2 = some (A9) → qw_V D cy Z9 s (Wm cy ad I A w) H locs → lv_has ls 3 [(0, .ref (ad 0)), (1, .int y1), (2, .int y2)] → W p l e rm_X8_issue s m args below meth c H locs 0 0 Q9 (F0 m 14 ls []) := by
    intro K2 hK2 y1 n
    induction n with
    | zero => intro A y2 H locs ls hf V hl; exact qf_no hf
    | succ n ih =>
      intro A y2 H locs ls hf V hl
      rw [f_X8_issue_l14] at hf
      refine lv_iload_n hx hb dX8_issue_14 rfl (lv_at hl 2 rfl) ?_
      refine lv_aload_n hx hb dX8_issue_15 rfl (lv_at hl 0 rfl) ?_
      refine gfM_0_5 S0 V kl_X8_19 dX8_issue_16 ?_
      refine lv_iconst (v := 0) hx hb dX8_issue_19 (by decide) ?_
      have h_20 := qf_ld_in hf
      refine alM_4 S0 V h_20 dX8_issue_20 ?_
      refine lv_topi (fun x2 e_x2 => ?_)
      replace hf := qf_ld_e e_x2 hf
      refine lv_icmp_ge (tgt := 77) hx hb dX8_issue_21 (by decide) (fun c_21 => ?_) (fun c_21 => ?_)
      · replace hf := qf_t c_21 hf
        obtain ⟨x3, e_x3⟩ : ∃ y : Int32, y = y1 + (1 : Int32) := ⟨_, rfl⟩
        refine lv_iinc (v := x3) (lv' := [(1, .int x3), (0, .ref (ad 0)), (2, .int y2)]) hx hb dX8_issue_77 hl (k := 1) rfl (by rw [e_x3]; rfl) (by decide) rfl (fun ls hl => ?_)
        replace hf := qf_let_e e_x3 hf
        refine lv_goto (tgt := 2) hx hb dX8_issue_80 (by decide) ?_
        exact hK2 hf V (lv_sub hl [1, 0] rfl)
      · replace hf := qf_f c_21 hf
        refine lv_aload_n hx hb dX8_issue_24 rfl (lv_at hl 0 rfl) ?_
        refine gfM_0_0 S0 V kl_X8_7 dX8_issue_25 ?_
        refine lv_iload_n hx hb dX8_issue_28 rfl (lv_at hl 1 rfl) ?_
        refine lv_iload_n hx hb dX8_issue_29 rfl (lv_at hl 2 rfl) ?_
        obtain ⟨r4, hc_30, hf⟩ := qf_bd_e hf
        refine qw_cSR (rest := [.ref (ad 1)]) (st1 := [.int r4, .ref (ad 1)]) S0 V hl (c_X8_at l hc_30) kg_X8_211 rfl ⟨rfl, rfl⟩ kd_X8_at ⟨Nat.le_of_ble_eq_true rfl, Nat.le_of_ble_eq_true rfl⟩ rfl rfl (Nat.le_of_ble_eq_true rfl) ⟨Nat.zero_le _, Nat.zero_le _⟩ rfl dX8_issue_30 ?_
        refine lv_aload_n hx hb dX8_issue_33 rfl (lv_at hl 0 rfl) ?_
        refine gfM_0_5 S0 V kl_X8_19 dX8_issue_34 ?_
        refine lv_iconst (v := 4) hx hb dX8_issue_37 (by decide) ?_
        refine lv_iload_n hx hb dX8_issue_38 rfl (lv_at hl 2 rfl) ?_
        refine lv_iadd hx hb dX8_issue_39 ?_
        have h_40 := qf_ld_in hf
        refine alM_4 S0 V h_40 dX8_issue_40 ?_
        refine lv_topi (fun x5 e_x5 => ?_)
        replace hf := qf_ld_e e_x5 hf
        refine lv_iadd hx hb dX8_issue_41 ?_
        refine lv_dup2_11 hx hb dX8_issue_42 rfl rfl ?_
        have h_43 := qf_ld_in hf
        refine alM_1 S0 V h_43 dX8_issue_43 ?_
        refine lv_topi (fun x6 e_x6 => ?_)
        replace hf := qf_ld_e e_x6 hf
        refine lv_aload_n hx hb dX8_issue_44 rfl (lv_at hl 0 rfl) ?_
        refine lv_iload_n hx hb dX8_issue_45 rfl (lv_at hl 1 rfl) ?_
        refine lv_iload_n hx hb dX8_issue_46 rfl (lv_at hl 2 rfl) ?_
        obtain ⟨r7, hc_47, hf⟩ := qf_bd_e hf
        refine qw_cVR (rest := [.int x6, .int (r4 + x5), .ref (ad 1)]) (st1 := [.int r7, .int x6, .int (r4 + x5), .ref (ad 1)]) S0 V hl 0 gM_0 rfl (c_X8_issueOf l hc_47) kg_X8_220 rfl ⟨rfl, rfl⟩ kd_X8_issueOf ⟨Nat.le_of_ble_eq_true rfl, Nat.le_of_ble_eq_true rfl⟩ rfl rfl (Nat.le_of_ble_eq_true rfl) ⟨Nat.zero_le _, Nat.zero_le _⟩ rfl dX8_issue_47 ?_
        refine lv_iadd hx hb dX8_issue_50 ?_
        have h_51 := qf_st_in hf
        replace hf := qf_st_e hf
        refine asM_1 S0 V h_51 dX8_issue_51 (fun H locs A8 e_A8 V => ?_)
        replace hf := qf_let_e e_A8 hf
        refine lv_aload_n hx hb dX8_issue_52 rfl (lv_at hl 0 rfl) ?_
        refine gfM_0_0 S0 V kl_X8_7 dX8_issue_53 ?_
        refine lv_sipush (v := 237) hx hb dX8_issue_56 (by decide) ?_
        refine lv_iload_n hx hb dX8_issue_59 rfl (lv_at hl 2 rfl) ?_
        refine lv_iadd hx hb dX8_issue_60 ?_
        refine lv_dup2_11 hx hb dX8_issue_61 rfl rfl ?_
        have h_62 := qf_ld_in hf
        refine alM_1 S0 V h_62 dX8_issue_62 ?_
        refine lv_topi (fun x10 e_x10 => ?_)
        replace hf := qf_ld_e e_x10 hf
        refine lv_aload_n hx hb dX8_issue_63 rfl (lv_at hl 0 rfl) ?_
        refine lv_iload_n hx hb dX8_issue_64 rfl (lv_at hl 1 rfl) ?_
        refine lv_iload_n hx hb dX8_issue_65 rfl (lv_at hl 2 rfl) ?_
        obtain ⟨r11, hc_66, hf⟩ := qf_bd_e hf
        refine qw_cVR (rest := [.int x10, .int ((237 : Int32) + y2), .ref (ad 1)]) (st1 := [.int r11, .int x10, .int ((237 : Int32) + y2), .ref (ad 1)]) S0 V hl 0 gM_0 rfl (c_X8_issueOf l hc_66) kg_X8_220 rfl ⟨rfl, rfl⟩ kd_X8_issueOf ⟨Nat.le_of_ble_eq_true rfl, Nat.le_of_ble_eq_true rfl⟩ rfl rfl (Nat.le_of_ble_eq_true rfl) ⟨Nat.zero_le _, Nat.zero_le _⟩ rfl dX8_issue_66 ?_
        refine lv_iadd hx hb dX8_issue_69 ?_
        have h_70 := qf_st_in hf
        replace hf := qf_st_e hf
        refine asM_1 S0 V h_70 dX8_issue_70 (fun H locs A12 e_A12 V => ?_)
        replace hf := qf_let_e e_A12 hf
        obtain ⟨x14, e_x14⟩ : ∃ y : Int32, y = y2 + (1 : Int32) := ⟨_, rfl⟩
        refine lv_iinc (v := x14) (lv' := [(2, .int x14), (0, .ref (ad 0)), (1, .int y1)]) hx hb dX8_issue_71 hl (k := 2) rfl (by rw [e_x14]; rfl) (by decide) rfl (fun ls hl => ?_)
        replace hf := qf_let_e e_x14 hf
        refine lv_goto (tgt := 14) hx hb dX8_issue_74 (by decide) ?_
        exact ih hf V (lv_sub hl [1, 2, 0] rfl)
  have L_2 : ∀   {n : Nat} {A : Nat → Nat → Int32} {y1 : Int32} {H : Heap} {locs : List Loc} {ls : Array Slot}, f_X8_issue_l2 n A y1 = some (A9) → qw_V D cy Z9 s (Wm cy ad I A w) H locs → lv_has ls 3 [(0, .ref (ad 0)), (1, .int y1)] → W p l e rm_X8_issue s m args below meth c H locs 0 0 Q9 (F0 m 2 ls []) := by
    intro n
    induction n with
    | zero => intro A y1 H locs ls hf V hl; exact qf_no hf
    | succ n ih =>
      intro A y1 H locs ls hf V hl
      rw [f_X8_issue_l2] at hf
      refine lv_iload_n hx hb dX8_issue_2 rfl (lv_at hl 1 rfl) ?_
      refine lv_aload_n hx hb dX8_issue_3 rfl (lv_at hl 0 rfl) ?_
      refine gfM_0_5 S0 V kl_X8_19 dX8_issue_4 ?_
      refine lv_iconst (v := 2) hx hb dX8_issue_7 (by decide) ?_
      have h_8 := qf_ld_in hf
      refine alM_4 S0 V h_8 dX8_issue_8 ?_
      refine lv_topi (fun x1 e_x1 => ?_)
      replace hf := qf_ld_e e_x1 hf
      refine lv_icmp_ge (tgt := 83) hx hb dX8_issue_9 (by decide) (fun c_9 => ?_) (fun c_9 => ?_)
      · replace hf := qf_t c_9 hf
        have hE := Option.some.inj hf
        exact qw_vreti S0 hr hlocks hQ (by rw [hE]) V dX8_issue_83
      · replace hf := qf_f c_9 hf
        refine lv_iconst (v := 0) hx hb dX8_issue_12 (by decide) ?_
        refine lv_istore_n (lv' := [(2, .int (0 : Int32)), (0, .ref (ad 0)), (1, .int y1)]) hx hb dX8_issue_13 rfl hl (by decide) rfl (fun ls hl => ?_)
        exact L_14 (fun hf V hl => ih hf V hl) hf V (lv_sub hl [1, 2, 0] rfl)
  unfold f_X8_issue at hf
  refine lv_iconst (v := 0) hx hb dX8_issue_0 (by decide) ?_
  refine lv_istore_n (lv' := [(1, .int (0 : Int32)), (0, .ref (ad 0))]) hx hb dX8_issue_1 rfl hl (by decide) rfl (fun ls hl => ?_)
  exact L_2 hf V (lv_sub hl [1, 0] rfl)
theorem kd_X8_load : yX8_load.cls = RX8 ∧ yX8_load.cls ≠ "java/lang/invoke/MethodHandle" ∧ yX8_load.cls ≠ "java/lang/invoke/VarHandle" ∧ (parseMethodDescriptor yX8_load.desc).map (fun d => d.parameters.length) = some 1 := by decide +kernel
def f_X8_load_j100  (K68 : (Nat → Int32) → (Nat → Nat → Int32) → (Int64) → Option (Int32 × (Nat → Int32) × (Nat → Nat → Int32) × (Int64))) (I : Nat → Int32) (A : Nat → Nat → Int32) (w : Int64) (s0 : Int32) : Option (Int32 × (Nat → Int32) × (Nat → Nat → Int32) × (Int64)) :=
  qf_bd (f_X8_check I s0 (-11 : Int32)) fun I19 =>
  qf_bd2 (f_X8_advanceIfGood A I19 w) fun I20 w21 =>
  qf_let (upd I20 11 ((I20 11) + (1 : Int32))) fun I22 =>
  K68 I22 A w21
def f_X8_load_l168    : Nat → (Nat → Int32) → (Nat → Nat → Int32) → (Int64) → Int32 → Option (Int32 × (Nat → Int32) × (Nat → Nat → Int32) × (Int64))
  | 0, _, _, _, _ => none
  | n + 1, I, A, w, y2 =>
  if (62 : Int32) ≤ y2 then (qf_let (upd I 0 (0 : Int32)) fun I27 =>
    qf_bd (f_X8_issue A) fun A28 =>
    some ((I27 11), I27, A28, w)) else (qf_ld 62 (A 4) y2 fun x29 =>
    qf_st 62 y2 fun i31 =>
    qf_let (qf_up A 3 (upd (A 3) i31 x29)) fun A30 =>
    qf_let (y2 + (1 : Int32)) fun x32 =>
    f_X8_load_l168  n I A30 w x32)
def f_X8_load_l141    : Nat → (Nat → Int32) → (Nat → Nat → Int32) → (Int64) → Int32 → Option (Int32 × (Nat → Int32) × (Nat → Nat → Int32) × (Int64))
  | 0, _, _, _, _ => none
  | n + 1, I, A, w, y2 =>
  if (250 : Int32) ≤ y2 then (f_X8_load_l168  100000 I A w (0 : Int32)) else (qf_ld 250 (A 1) y2 fun x23 =>
    qf_st 250 y2 fun i25 =>
    qf_let (qf_up A 0 (upd (A 0) i25 x23)) fun A24 =>
    qf_let (y2 + (1 : Int32)) fun x26 =>
    f_X8_load_l141  n I A24 w x26)
def f_X8_load_j122   (I : Nat → Int32) (A : Nat → Nat → Int32) (w : Int64) : Option (Int32 × (Nat → Int32) × (Nat → Nat → Int32) × (Int64)) :=
  qf_let (upd I 2 (0 : Int32)) fun I18 =>
  if (I18 8) = 0 then (f_X8_load_l141  100000 I18 A w (0 : Int32)) else (some ((I18 8), I18, A, w))
def f_X8_load_l68    : Nat → (Nat → Int32) → (Nat → Nat → Int32) → (Int64) → Option (Int32 × (Nat → Int32) × (Nat → Nat → Int32) × (Int64))
  | 0, _, _, _ => none
  | n + 1, I, A, w =>
  if (I 8) = 0 then (if (I 6) = 0 then (f_X8_load_j122 I A w) else (qf_bd3 (f_X8_parseStatement I A w) fun I15 A16 w17 =>
      if (I15 6) = (3 : Int32) then (f_X8_load_j100 (fun z0 z1 z2 => f_X8_load_l68  n z0 z1 z2) I15 A16 w17 (1 : Int32)) else (f_X8_load_j100 (fun z0 z1 z2 => f_X8_load_l68  n z0 z1 z2) I15 A16 w17 (0 : Int32)))) else (f_X8_load_j122 I A w)
def f_X8_load (I : Nat → Int32) (A : Nat → Nat → Int32) (w : Int64) (p1 : Int32) : Option (Int32 × (Nat → Int32) × (Nat → Nat → Int32) × (Int64)) :=
  qf_let (upd I 1 (0 : Int32)) fun I1 =>
  qf_bd (f_X8_inRange p1 (0 : Int32) (I1 2)) fun r2 =>
  if r2 = 0 then (some ((-2 : Int32), I1, A, w)) else (qf_let (upd I1 3 p1) fun I3 =>
    qf_let (upd I3 4 (0 : Int32)) fun I4 =>
    qf_let (upd I4 8 (0 : Int32)) fun I5 =>
    qf_let (upd I5 9 (-1 : Int32)) fun I6 =>
    qf_let (upd I6 10 (0 : Int32)) fun I7 =>
    qf_let (upd I7 11 (0 : Int32)) fun I8 =>
    qf_bd (f_X8_reset 250 (A 1)) fun f9 =>
    qf_let (qf_up A 1 f9) fun A10 =>
    qf_bd (f_X8_clear 62 (A10 4)) fun f11 =>
    qf_let (qf_up A10 4 f11) fun A12 =>
    qf_bd2 (f_X8_advance A12 I8 w) fun I13 w14 =>
    f_X8_load_l68  100000 I13 A12 w14)
abbrev wz_X8_load : List Cond := Cond.code yX8_load cX8_load 3 (some .int) :: qw_big
def rm_X8_load : Room := { frames := 7, cells := 0, slots := 0, locals := 152 }
set_option maxHeartbeats 4000000 in
set_option maxRecDepth 100000 in
theorem c_X8_load (l : Launch) {D : va_G} {cy : Nat → ClassId} {ad : Nat → Nat} {I : Nat → Int32} {A : Nat → Nat → Int32} {w : Int64} {p1 : Int32} {rv : Int32} {I9 : Nat → Int32} {A9 : Nat → Nat → Int32} {w9 : Int64} {sz : Nat} (hf : f_X8_load I A w p1 = some (rv, I9, A9, w9)) : Met l yX8_load wz_X8_load rm_X8_load (va_Pc [.ref (ad 0), .int p1] (qw_Pre D cy (Wm cy ad I A w) sz)) (qw_Q (some (.int rv)) D (Wm cy ad I9 A9 w9) (va_A (Wm cy ad I A w) sz)) 0 0 (va_A (Wm cy ad I A w) sz) := by
  refine qw_of (cc := cX8_load) (maxL := 3) (ret := (some .int)) (by decide) (Nat.le_of_ble_eq_true rfl) ?_
  intro p e s m args below meth c ls S0 hr hlocks hsz V hl
  have S0 : CallFix p m c cX8_load 3 s args qw_big RX8 := S0
  have hx := S0.1; have hb := S0.2.1; have hown := S0.2.2.2.1; have hts := S0.2.2.2.2
  have hl : lv_has ls 3 [(0, .ref (ad 0)), (1, .int p1)] := hl
  generalize va_A (Wm cy ad I A w) sz = Z9 at V ⊢
  obtain ⟨Q9, hQ⟩ : ∃ q, q = MQ below (qw_Q (some (.int rv)) D (Wm cy ad I9 A9 w9) Z9) args s 0 0 Z9 := ⟨_, rfl⟩
  rw [← hQ]
  clear hsz
  have J_100 : ∀ {K68 : (Nat → Int32) → (Nat → Nat → Int32) → (Int64) → Option (Int32 × (Nat → Int32) × (Nat → Nat → Int32) × (Int64))}  (hK68 : ∀ {I : Nat → Int32} {A : Nat → Nat → Int32} {w : Int64}  {H : Heap} {locs : List Loc} {ls : Array Slot}, K68 I A w = some (rv, I9, A9, w9) → qw_V D cy Z9 s (Wm cy ad I A w) H locs → lv_has ls 3 [(0, .ref (ad 0))] → W p l e rm_X8_load s m args below meth c H locs 0 0 Q9 (F0 m 68 ls [])) {I : Nat → Int32} {A : Nat → Nat → Int32} {w : Int64} {s0 : Int32} {H : Heap} {locs : List Loc} {ls : Array Slot}, f_X8_load_j100 K68 I A w s0 = some (rv, I9, A9, w9) → qw_V D cy Z9 s (Wm cy ad I A w) H locs → lv_has ls 3 [(0, .ref (ad 0))] → W p l e rm_X8_load s m args below meth c H locs 0 0 Q9 (F0 m 100 ls [.int s0, .ref (ad 0)]) := by
    intro K68 hK68 I A w s0 H locs ls hf V hl
    unfold f_X8_load_j100 at hf
    refine lv_bipush (v := -11) hx hb dX8_load_100 (by decide) ?_
    obtain ⟨I19, hc_102, hf⟩ := qf_bd_e hf
    refine qw_cV (rest := []) (st1 := []) S0 V hl 0 gM_0 rfl (c_X8_check l hc_102) kg_X8_97 rfl ⟨rfl, rfl⟩ kd_X8_check ⟨Nat.le_of_ble_eq_true rfl, Nat.le_of_ble_eq_true rfl⟩ rfl rfl (Nat.le_of_ble_eq_true rfl) ⟨Nat.zero_le _, Nat.zero_le _⟩ rfl dX8_load_102 (fun H locs V => ?_)
    refine lv_aload_n hx hb dX8_load_105 rfl (lv_at hl 0 rfl) ?_
    obtain ⟨I20, w21, hc_106, hf⟩ := qf_bd2_e hf
    refine qw_cV (rest := []) (st1 := []) S0 V hl 0 gM_0 rfl (c_X8_advanceIfGood l hc_106) kg_X8_101 rfl ⟨rfl, rfl⟩ kd_X8_advanceIfGood ⟨Nat.le_of_ble_eq_true rfl, Nat.le_of_ble_eq_true rfl⟩ rfl rfl (Nat.le_of_ble_eq_true rfl) ⟨Nat.zero_le _, Nat.zero_le _⟩ rfl dX8_load_106 (fun H locs V => ?_)
    refine lv_aload_n hx hb dX8_load_109 rfl (lv_at hl 0 rfl) ?_
    refine lv_dup hx hb dX8_load_110 rfl ?_
    refine gfM_0_18 S0 V kl_X8_182 dX8_load_111 ?_
    refine lv_iconst (v := 1) hx hb dX8_load_114 (by decide) ?_
    refine lv_iadd hx hb dX8_load_115 ?_
    refine pfM_0_18 S0 V kl_X8_182 dX8_load_116 (fun H locs I22 e_I22 V => ?_)
    replace hf := qf_let_e e_I22 hf
    refine lv_goto (tgt := 68) hx hb dX8_load_119 (by decide) ?_
    exact hK68 hf V (lv_sub hl [0] rfl)
  have L_168 : ∀   {n : Nat} {I : Nat → Int32} {A : Nat → Nat → Int32} {w : Int64} {y2 : Int32} {H : Heap} {locs : List Loc} {ls : Array Slot}, f_X8_load_l168 n I A w y2 = some (rv, I9, A9, w9) → qw_V D cy Z9 s (Wm cy ad I A w) H locs → lv_has ls 3 [(0, .ref (ad 0)), (2, .int y2)] → W p l e rm_X8_load s m args below meth c H locs 0 0 Q9 (F0 m 168 ls []) := by
    intro n
    induction n with
    | zero => intro I A w y2 H locs ls hf V hl; exact qf_no hf
    | succ n ih =>
      intro I A w y2 H locs ls hf V hl
      rw [f_X8_load_l168] at hf
      refine lv_iload_n hx hb dX8_load_168 rfl (lv_at hl 1 rfl) ?_
      refine lv_bipush (v := 62) hx hb dX8_load_169 (by decide) ?_
      refine lv_icmp_ge (tgt := 192) hx hb dX8_load_171 (by decide) (fun c_171 => ?_) (fun c_171 => ?_)
      · replace hf := qf_t c_171 hf
        refine lv_aload_n hx hb dX8_load_192 rfl (lv_at hl 0 rfl) ?_
        refine lv_iconst (v := 0) hx hb dX8_load_193 (by decide) ?_
        refine pfM_0_3 S0 V kl_X8_52 dX8_load_194 (fun H locs I27 e_I27 V => ?_)
        replace hf := qf_let_e e_I27 hf
        refine lv_aload_n hx hb dX8_load_197 rfl (lv_at hl 0 rfl) ?_
        obtain ⟨A28, hc_198, hf⟩ := qf_bd_e hf
        refine qw_cV (rest := []) (st1 := []) S0 V hl 0 gM_0 rfl (c_X8_issue l hc_198) kg_X8_188 rfl ⟨rfl, rfl⟩ kd_X8_issue ⟨Nat.le_of_ble_eq_true rfl, Nat.le_of_ble_eq_true rfl⟩ rfl rfl (Nat.le_of_ble_eq_true rfl) ⟨Nat.zero_le _, Nat.zero_le _⟩ rfl dX8_load_198 (fun H locs V => ?_)
        refine lv_aload_n hx hb dX8_load_201 rfl (lv_at hl 0 rfl) ?_
        refine gfM_0_18 S0 V kl_X8_182 dX8_load_202 ?_
        have hE := Option.some.inj hf
        obtain ⟨e0, hE⟩ := qf_pr hE
        obtain ⟨e1, hE⟩ := qf_pr hE
        obtain ⟨e2, hE⟩ := qf_pr hE
        exact qw_ireti S0 hr hlocks hQ e0 (by rw [e1, e2, hE]) V dX8_load_205
      · replace hf := qf_f c_171 hf
        refine lv_aload_n hx hb dX8_load_174 rfl (lv_at hl 0 rfl) ?_
        refine gfM_0_5 S0 V kl_X8_19 dX8_load_175 ?_
        refine lv_iload_n hx hb dX8_load_178 rfl (lv_at hl 1 rfl) ?_
        refine lv_aload_n hx hb dX8_load_179 rfl (lv_at hl 0 rfl) ?_
        refine gfM_0_6 S0 V kl_X8_22 dX8_load_180 ?_
        refine lv_iload_n hx hb dX8_load_183 rfl (lv_at hl 1 rfl) ?_
        have h_184 := qf_ld_in hf
        refine alM_5 S0 V h_184 dX8_load_184 ?_
        refine lv_topi (fun x29 e_x29 => ?_)
        replace hf := qf_ld_e e_x29 hf
        have h_185 := qf_st_in hf
        replace hf := qf_st_e hf
        refine asM_4 S0 V h_185 dX8_load_185 (fun H locs A30 e_A30 V => ?_)
        replace hf := qf_let_e e_A30 hf
        obtain ⟨x32, e_x32⟩ : ∃ y : Int32, y = y2 + (1 : Int32) := ⟨_, rfl⟩
        refine lv_iinc (v := x32) (lv' := [(2, .int x32), (0, .ref (ad 0))]) hx hb dX8_load_186 hl (k := 1) rfl (by rw [e_x32]; rfl) (by decide) rfl (fun ls hl => ?_)
        replace hf := qf_let_e e_x32 hf
        refine lv_goto (tgt := 168) hx hb dX8_load_189 (by decide) ?_
        exact ih hf V (lv_sub hl [1, 0] rfl)
  have L_141 : ∀   {n : Nat} {I : Nat → Int32} {A : Nat → Nat → Int32} {w : Int64} {y2 : Int32} {H : Heap} {locs : List Loc} {ls : Array Slot}, f_X8_load_l141 n I A w y2 = some (rv, I9, A9, w9) → qw_V D cy Z9 s (Wm cy ad I A w) H locs → lv_has ls 3 [(0, .ref (ad 0)), (2, .int y2)] → W p l e rm_X8_load s m args below meth c H locs 0 0 Q9 (F0 m 141 ls []) := by
    intro n
    induction n with
    | zero => intro I A w y2 H locs ls hf V hl; exact qf_no hf
    | succ n ih =>
      intro I A w y2 H locs ls hf V hl
      rw [f_X8_load_l141] at hf
      refine lv_iload_n hx hb dX8_load_141 rfl (lv_at hl 1 rfl) ?_
      refine lv_sipush (v := 250) hx hb dX8_load_142 (by decide) ?_
      refine lv_icmp_ge (tgt := 166) hx hb dX8_load_145 (by decide) (fun c_145 => ?_) (fun c_145 => ?_)
      · replace hf := qf_t c_145 hf
        refine lv_iconst (v := 0) hx hb dX8_load_166 (by decide) ?_
        refine lv_istore_n (lv' := [(2, .int (0 : Int32)), (0, .ref (ad 0))]) hx hb dX8_load_167 rfl hl (by decide) rfl (fun ls hl => ?_)
        exact L_168 hf V (lv_sub hl [1, 0] rfl)
      · replace hf := qf_f c_145 hf
        refine lv_aload_n hx hb dX8_load_148 rfl (lv_at hl 0 rfl) ?_
        refine gfM_0_0 S0 V kl_X8_7 dX8_load_149 ?_
        refine lv_iload_n hx hb dX8_load_152 rfl (lv_at hl 1 rfl) ?_
        refine lv_aload_n hx hb dX8_load_153 rfl (lv_at hl 0 rfl) ?_
        refine gfM_0_1 S0 V kl_X8_13 dX8_load_154 ?_
        refine lv_iload_n hx hb dX8_load_157 rfl (lv_at hl 1 rfl) ?_
        have h_158 := qf_ld_in hf
        refine alM_2 S0 V h_158 dX8_load_158 ?_
        refine lv_topi (fun x23 e_x23 => ?_)
        replace hf := qf_ld_e e_x23 hf
        have h_159 := qf_st_in hf
        replace hf := qf_st_e hf
        refine asM_1 S0 V h_159 dX8_load_159 (fun H locs A24 e_A24 V => ?_)
        replace hf := qf_let_e e_A24 hf
        obtain ⟨x26, e_x26⟩ : ∃ y : Int32, y = y2 + (1 : Int32) := ⟨_, rfl⟩
        refine lv_iinc (v := x26) (lv' := [(2, .int x26), (0, .ref (ad 0))]) hx hb dX8_load_160 hl (k := 1) rfl (by rw [e_x26]; rfl) (by decide) rfl (fun ls hl => ?_)
        replace hf := qf_let_e e_x26 hf
        refine lv_goto (tgt := 141) hx hb dX8_load_163 (by decide) ?_
        exact ih hf V (lv_sub hl [1, 0] rfl)
  have J_122 : ∀  {I : Nat → Int32} {A : Nat → Nat → Int32} {w : Int64}  {H : Heap} {locs : List Loc} {ls : Array Slot}, f_X8_load_j122 I A w = some (rv, I9, A9, w9) → qw_V D cy Z9 s (Wm cy ad I A w) H locs → lv_has ls 3 [(0, .ref (ad 0))] → W p l e rm_X8_load s m args below meth c H locs 0 0 Q9 (F0 m 122 ls []) := by
    intro I A w H locs ls hf V hl
    unfold f_X8_load_j122 at hf
    refine lv_aload_n hx hb dX8_load_122 rfl (lv_at hl 0 rfl) ?_
    refine lv_iconst (v := 0) hx hb dX8_load_123 (by decide) ?_
    refine pfM_0_8 S0 V kl_X8_55 dX8_load_124 (fun H locs I18 e_I18 V => ?_)
    replace hf := qf_let_e e_I18 hf
    refine lv_aload_n hx hb dX8_load_127 rfl (lv_at hl 0 rfl) ?_
    refine gfM_0_15 S0 V kl_X8_91 dX8_load_128 ?_
    refine lv_if_eq (tgt := 139) hx hb dX8_load_131 (by decide) (fun c_131 => ?_) (fun c_131 => ?_)
    · replace hf := qf_t c_131 hf
      refine lv_iconst (v := 0) hx hb dX8_load_139 (by decide) ?_
      refine lv_istore_n (lv' := [(2, .int (0 : Int32)), (0, .ref (ad 0))]) hx hb dX8_load_140 rfl hl (by decide) rfl (fun ls hl => ?_)
      exact L_141 hf V (lv_sub hl [1, 0] rfl)
    · replace hf := qf_f c_131 hf
      refine lv_aload_n hx hb dX8_load_134 rfl (lv_at hl 0 rfl) ?_
      refine gfM_0_15 S0 V kl_X8_91 dX8_load_135 ?_
      have hE := Option.some.inj hf
      obtain ⟨e0, hE⟩ := qf_pr hE
      obtain ⟨e1, hE⟩ := qf_pr hE
      obtain ⟨e2, hE⟩ := qf_pr hE
      exact qw_ireti S0 hr hlocks hQ e0 (by rw [e1, e2, hE]) V dX8_load_138
  have L_68 : ∀   {n : Nat} {I : Nat → Int32} {A : Nat → Nat → Int32} {w : Int64}  {H : Heap} {locs : List Loc} {ls : Array Slot}, f_X8_load_l68 n I A w = some (rv, I9, A9, w9) → qw_V D cy Z9 s (Wm cy ad I A w) H locs → lv_has ls 3 [(0, .ref (ad 0))] → W p l e rm_X8_load s m args below meth c H locs 0 0 Q9 (F0 m 68 ls []) := by
    intro n
    induction n with
    | zero => intro I A w H locs ls hf V hl; exact qf_no hf
    | succ n ih =>
      intro I A w H locs ls hf V hl
      rw [f_X8_load_l68] at hf
      refine lv_aload_n hx hb dX8_load_68 rfl (lv_at hl 0 rfl) ?_
      refine gfM_0_15 S0 V kl_X8_91 dX8_load_69 ?_
      refine lv_if_ne (tgt := 122) hx hb dX8_load_72 (by decide) (fun c_72 => ?_) (fun c_72 => ?_)
      · replace hf := qf_f c_72 hf
        exact J_122 hf V (lv_sub hl [0] rfl)
      · replace hf := qf_t c_72 hf
        refine lv_aload_n hx hb dX8_load_75 rfl (lv_at hl 0 rfl) ?_
        refine gfM_0_12 S0 V kl_X8_82 dX8_load_76 ?_
        refine lv_if_eq (tgt := 122) hx hb dX8_load_79 (by decide) (fun c_79 => ?_) (fun c_79 => ?_)
        · replace hf := qf_t c_79 hf
          exact J_122 hf V (lv_sub hl [0] rfl)
        · replace hf := qf_f c_79 hf
          refine lv_aload_n hx hb dX8_load_82 rfl (lv_at hl 0 rfl) ?_
          obtain ⟨I15, A16, w17, hc_83, hf⟩ := qf_bd3_e hf
          refine qw_cV (rest := []) (st1 := []) S0 V hl 0 gM_0 rfl (c_X8_parseStatement l hc_83) kg_X8_185 rfl ⟨rfl, rfl⟩ kd_X8_parseStatement ⟨Nat.le_of_ble_eq_true rfl, Nat.le_of_ble_eq_true rfl⟩ rfl rfl (Nat.le_of_ble_eq_true rfl) ⟨Nat.zero_le _, Nat.zero_le _⟩ rfl dX8_load_83 (fun H locs V => ?_)
          refine lv_aload_n hx hb dX8_load_86 rfl (lv_at hl 0 rfl) ?_
          refine lv_aload_n hx hb dX8_load_87 rfl (lv_at hl 0 rfl) ?_
          refine gfM_0_12 S0 V kl_X8_82 dX8_load_88 ?_
          refine lv_iconst (v := 3) hx hb dX8_load_91 (by decide) ?_
          refine lv_icmp_ne (tgt := 99) hx hb dX8_load_92 (by decide) (fun c_92 => ?_) (fun c_92 => ?_)
          · replace hf := qf_f c_92 hf
            refine lv_iconst (v := 0) hx hb dX8_load_99 (by decide) ?_
            exact J_100 (fun hf V hl => ih hf V hl) hf V (lv_sub hl [0] rfl)
          · replace hf := qf_t c_92 hf
            refine lv_iconst (v := 1) hx hb dX8_load_95 (by decide) ?_
            refine lv_goto (tgt := 100) hx hb dX8_load_96 (by decide) ?_
            exact J_100 (fun hf V hl => ih hf V hl) hf V (lv_sub hl [0] rfl)
  unfold f_X8_load at hf
  refine lv_aload_n hx hb dX8_load_0 rfl (lv_at hl 0 rfl) ?_
  refine lv_iconst (v := 0) hx hb dX8_load_1 (by decide) ?_
  refine pfM_0_4 S0 V kl_X8_49 dX8_load_2 (fun H locs I1 e_I1 V => ?_)
  replace hf := qf_let_e e_I1 hf
  refine lv_iload_n hx hb dX8_load_5 rfl (lv_at hl 1 rfl) ?_
  refine lv_iconst (v := 0) hx hb dX8_load_6 (by decide) ?_
  refine lv_aload_n hx hb dX8_load_7 rfl (lv_at hl 0 rfl) ?_
  refine gfM_0_8 S0 V kl_X8_55 dX8_load_8 ?_
  obtain ⟨r2, hc_11, hf⟩ := qf_bd_e hf
  refine qw_cSR (rest := []) (st1 := [.int r2]) S0 V hl (c_X8_inRange l hc_11) kg_X8_85 rfl ⟨rfl, rfl⟩ kd_X8_inRange ⟨Nat.le_of_ble_eq_true rfl, Nat.le_of_ble_eq_true rfl⟩ rfl rfl (Nat.le_of_ble_eq_true rfl) ⟨Nat.zero_le _, Nat.zero_le _⟩ rfl dX8_load_11 ?_
  refine lv_if_ne (tgt := 20) hx hb dX8_load_14 (by decide) (fun c_14 => ?_) (fun c_14 => ?_)
  · replace hf := qf_f c_14 hf
    refine lv_aload_n hx hb dX8_load_20 rfl (lv_at hl 0 rfl) ?_
    refine lv_iload_n hx hb dX8_load_21 rfl (lv_at hl 1 rfl) ?_
    refine pfM_0_9 S0 V kl_X8_65 dX8_load_22 (fun H locs I3 e_I3 V => ?_)
    replace hf := qf_let_e e_I3 hf
    refine lv_aload_n hx hb dX8_load_25 rfl (lv_at hl 0 rfl) ?_
    refine lv_iconst (v := 0) hx hb dX8_load_26 (by decide) ?_
    refine pfM_0_10 S0 V kl_X8_62 dX8_load_27 (fun H locs I4 e_I4 V => ?_)
    replace hf := qf_let_e e_I4 hf
    refine lv_aload_n hx hb dX8_load_30 rfl (lv_at hl 0 rfl) ?_
    refine lv_iconst (v := 0) hx hb dX8_load_31 (by decide) ?_
    refine pfM_0_15 S0 V kl_X8_91 dX8_load_32 (fun H locs I5 e_I5 V => ?_)
    replace hf := qf_let_e e_I5 hf
    refine lv_aload_n hx hb dX8_load_35 rfl (lv_at hl 0 rfl) ?_
    refine lv_iconst (v := -1) hx hb dX8_load_36 (by decide) ?_
    refine pfM_0_16 S0 V kl_X8_29 dX8_load_37 (fun H locs I6 e_I6 V => ?_)
    replace hf := qf_let_e e_I6 hf
    refine lv_aload_n hx hb dX8_load_40 rfl (lv_at hl 0 rfl) ?_
    refine lv_iconst (v := 0) hx hb dX8_load_41 (by decide) ?_
    refine pfM_0_17 S0 V kl_X8_158 dX8_load_42 (fun H locs I7 e_I7 V => ?_)
    replace hf := qf_let_e e_I7 hf
    refine lv_aload_n hx hb dX8_load_45 rfl (lv_at hl 0 rfl) ?_
    refine lv_iconst (v := 0) hx hb dX8_load_46 (by decide) ?_
    refine pfM_0_18 S0 V kl_X8_182 dX8_load_47 (fun H locs I8 e_I8 V => ?_)
    replace hf := qf_let_e e_I8 hf
    refine lv_aload_n hx hb dX8_load_50 rfl (lv_at hl 0 rfl) ?_
    refine gfM_0_1 S0 V kl_X8_13 dX8_load_51 ?_
    obtain ⟨f9, hc_54, hf⟩ := qf_bd_e hf
    obtain ⟨A10, e_A10⟩ : ∃ y : Nat → Nat → Int32, y = qf_up A 1 f9 := ⟨_, rfl⟩
    replace hf := qf_let_e e_A10 hf
    refine qw_cS (rest := []) (st1 := []) S0 V hl (c_X8_reset l (hs := (sM_2 e_A10)) (q0 := 2) gM_2 hc_54) kg_X8_42 rfl ⟨rfl, rfl⟩ kd_X8_reset ⟨Nat.le_of_ble_eq_true rfl, Nat.le_of_ble_eq_true rfl⟩ rfl rfl (Nat.le_of_ble_eq_true rfl) ⟨Nat.zero_le _, Nat.zero_le _⟩ rfl dX8_load_54 (fun H locs V => ?_)
    refine lv_aload_n hx hb dX8_load_57 rfl (lv_at hl 0 rfl) ?_
    refine gfM_0_6 S0 V kl_X8_22 dX8_load_58 ?_
    obtain ⟨f11, hc_61, hf⟩ := qf_bd_e hf
    obtain ⟨A12, e_A12⟩ : ∃ y : Nat → Nat → Int32, y = qf_up A10 4 f11 := ⟨_, rfl⟩
    replace hf := qf_let_e e_A12 hf
    refine qw_cS (rest := []) (st1 := []) S0 V hl (c_X8_clear l (hs := (sM_5 e_A12)) (q0 := 5) gM_5 hc_61) kg_X8_46 rfl ⟨rfl, rfl⟩ kd_X8_clear ⟨Nat.le_of_ble_eq_true rfl, Nat.le_of_ble_eq_true rfl⟩ rfl rfl (Nat.le_of_ble_eq_true rfl) ⟨Nat.zero_le _, Nat.zero_le _⟩ rfl dX8_load_61 (fun H locs V => ?_)
    refine lv_aload_n hx hb dX8_load_64 rfl (lv_at hl 0 rfl) ?_
    obtain ⟨I13, w14, hc_65, hf⟩ := qf_bd2_e hf
    refine qw_cV (rest := []) (st1 := []) S0 V hl 0 gM_0 rfl (c_X8_advance l hc_65) kg_X8_94 rfl ⟨rfl, rfl⟩ kd_X8_advance ⟨Nat.le_of_ble_eq_true rfl, Nat.le_of_ble_eq_true rfl⟩ rfl rfl (Nat.le_of_ble_eq_true rfl) ⟨Nat.zero_le _, Nat.zero_le _⟩ rfl dX8_load_65 (fun H locs V => ?_)
    exact L_68 hf V (lv_sub hl [0] rfl)
  · replace hf := qf_t c_14 hf
    refine lv_bipush (v := -2) hx hb dX8_load_17 (by decide) ?_
    have hE := Option.some.inj hf
    obtain ⟨e0, hE⟩ := qf_pr hE
    obtain ⟨e1, hE⟩ := qf_pr hE
    obtain ⟨e2, hE⟩ := qf_pr hE
    exact qw_ireti S0 hr hlocks hQ e0 (by rw [e1, e2, hE]) V dX8_load_19
theorem kd_X8_isGroup : yX8_isGroup.cls = RX8 ∧ yX8_isGroup.cls ≠ "java/lang/invoke/MethodHandle" ∧ yX8_isGroup.cls ≠ "java/lang/invoke/VarHandle" ∧ (parseMethodDescriptor yX8_isGroup.desc).map (fun d => d.parameters.length) = some 1 := by decide +kernel
def f_X8_isGroup (A : Nat → Nat → Int32) (p1 : Int32) : Option (Int32) :=
  qf_ld 62 (A 3) (0 : Int32) fun x1 =>
  qf_bd (f_X8_inRange p1 (0 : Int32) (x1 - (1 : Int32))) fun r2 =>
  qf_ck (r2 = 0 ∨ r2 = 1) <|
  some (r2)
abbrev wz_X8_isGroup : List Cond := Cond.code yX8_isGroup cX8_isGroup 2 (some .boolean) :: qw_big
def rm_X8_isGroup : Room := { frames := 1, cells := 0, slots := 0, locals := 22 }
set_option maxHeartbeats 4000000 in
set_option maxRecDepth 100000 in
theorem c_X8_isGroup (l : Launch) {D : va_G} {cy : Nat → ClassId} {ad : Nat → Nat} {I : Nat → Int32} {A : Nat → Nat → Int32} {w : Int64} {p1 : Int32} {rv : Int32} {sz : Nat} (hf : f_X8_isGroup A p1 = some (rv)) : Met l yX8_isGroup wz_X8_isGroup rm_X8_isGroup (va_Pc [.ref (ad 0), .int p1] (qw_Pre D cy (Wm cy ad I A w) sz)) (qw_R (some (.int rv))) 0 0 (fun _ => False) := by
  refine qw_of (cc := cX8_isGroup) (maxL := 2) (ret := (some .boolean)) (by decide) (Nat.le_of_ble_eq_true rfl) ?_
  intro p e s m args below meth c ls S0 hr hlocks hsz V hl
  have S0 : CallFix p m c cX8_isGroup 2 s args qw_big RX8 := S0
  have hx := S0.1; have hb := S0.2.1; have hown := S0.2.2.2.1; have hts := S0.2.2.2.2
  have hl : lv_has ls 2 [(0, .ref (ad 0)), (1, .int p1)] := hl
  obtain ⟨Q9, hQ⟩ : ∃ q, q = MQ below (qw_R (some (.int rv))) args s 0 0 (fun _ => False) := ⟨_, rfl⟩
  rw [← hQ]
  generalize va_A (Wm cy ad I A w) sz = Z9 at V
  unfold f_X8_isGroup at hf
  refine lv_iload_n hx hb dX8_isGroup_0 rfl (lv_at hl 1 rfl) ?_
  refine lv_iconst (v := 0) hx hb dX8_isGroup_1 (by decide) ?_
  refine lv_aload_n hx hb dX8_isGroup_2 rfl (lv_at hl 0 rfl) ?_
  refine gfM_0_5 S0 V kl_X8_19 dX8_isGroup_3 ?_
  refine lv_iconst (v := 0) hx hb dX8_isGroup_6 (by decide) ?_
  have h_7 := qf_ld_in hf
  refine alM_4 S0 V h_7 dX8_isGroup_7 ?_
  refine lv_topi (fun x1 e_x1 => ?_)
  replace hf := qf_ld_e e_x1 hf
  refine lv_iconst (v := 1) hx hb dX8_isGroup_8 (by decide) ?_
  refine lv_isub hx hb dX8_isGroup_9 ?_
  obtain ⟨r2, hc_10, hf⟩ := qf_bd_e hf
  refine qw_cSR (rest := []) (st1 := [.int r2]) S0 V hl (c_X8_inRange l hc_10) kg_X8_85 rfl ⟨rfl, rfl⟩ kd_X8_inRange ⟨Nat.le_of_ble_eq_true rfl, Nat.le_of_ble_eq_true rfl⟩ rfl rfl (Nat.le_of_ble_eq_true rfl) ⟨Nat.zero_le _, Nat.zero_le _⟩ rfl dX8_isGroup_10 ?_
  obtain ⟨h_z, hf⟩ := qf_ck_e hf
  have hE := Option.some.inj hf
  exact qw_zretR S0 hr hlocks hQ (qw_nz h_z) hE dX8_isGroup_13
theorem kd_X8_isGood : yX8_isGood.cls = RX8 ∧ yX8_isGood.cls ≠ "java/lang/invoke/MethodHandle" ∧ yX8_isGood.cls ≠ "java/lang/invoke/VarHandle" ∧ (parseMethodDescriptor yX8_isGood.desc).map (fun d => d.parameters.length) = some 1 := by decide +kernel
def f_X8_isGood (A : Nat → Nat → Int32) (p1 : Int32) : Option (Int32) :=
  qf_ld 62 (A 3) (1 : Int32) fun x1 =>
  qf_bd (f_X8_inRange p1 (0 : Int32) (x1 - (1 : Int32))) fun r2 =>
  qf_ck (r2 = 0 ∨ r2 = 1) <|
  some (r2)
abbrev wz_X8_isGood : List Cond := Cond.code yX8_isGood cX8_isGood 2 (some .boolean) :: qw_big
def rm_X8_isGood : Room := { frames := 1, cells := 0, slots := 0, locals := 22 }
set_option maxHeartbeats 4000000 in
set_option maxRecDepth 100000 in
theorem c_X8_isGood (l : Launch) {D : va_G} {cy : Nat → ClassId} {ad : Nat → Nat} {I : Nat → Int32} {A : Nat → Nat → Int32} {w : Int64} {p1 : Int32} {rv : Int32} {sz : Nat} (hf : f_X8_isGood A p1 = some (rv)) : Met l yX8_isGood wz_X8_isGood rm_X8_isGood (va_Pc [.ref (ad 0), .int p1] (qw_Pre D cy (Wm cy ad I A w) sz)) (qw_R (some (.int rv))) 0 0 (fun _ => False) := by
  refine qw_of (cc := cX8_isGood) (maxL := 2) (ret := (some .boolean)) (by decide) (Nat.le_of_ble_eq_true rfl) ?_
  intro p e s m args below meth c ls S0 hr hlocks hsz V hl
  have S0 : CallFix p m c cX8_isGood 2 s args qw_big RX8 := S0
  have hx := S0.1; have hb := S0.2.1; have hown := S0.2.2.2.1; have hts := S0.2.2.2.2
  have hl : lv_has ls 2 [(0, .ref (ad 0)), (1, .int p1)] := hl
  obtain ⟨Q9, hQ⟩ : ∃ q, q = MQ below (qw_R (some (.int rv))) args s 0 0 (fun _ => False) := ⟨_, rfl⟩
  rw [← hQ]
  generalize va_A (Wm cy ad I A w) sz = Z9 at V
  unfold f_X8_isGood at hf
  refine lv_iload_n hx hb dX8_isGood_0 rfl (lv_at hl 1 rfl) ?_
  refine lv_iconst (v := 0) hx hb dX8_isGood_1 (by decide) ?_
  refine lv_aload_n hx hb dX8_isGood_2 rfl (lv_at hl 0 rfl) ?_
  refine gfM_0_5 S0 V kl_X8_19 dX8_isGood_3 ?_
  refine lv_iconst (v := 1) hx hb dX8_isGood_6 (by decide) ?_
  have h_7 := qf_ld_in hf
  refine alM_4 S0 V h_7 dX8_isGood_7 ?_
  refine lv_topi (fun x1 e_x1 => ?_)
  replace hf := qf_ld_e e_x1 hf
  refine lv_iconst (v := 1) hx hb dX8_isGood_8 (by decide) ?_
  refine lv_isub hx hb dX8_isGood_9 ?_
  obtain ⟨r2, hc_10, hf⟩ := qf_bd_e hf
  refine qw_cSR (rest := []) (st1 := [.int r2]) S0 V hl (c_X8_inRange l hc_10) kg_X8_85 rfl ⟨rfl, rfl⟩ kd_X8_inRange ⟨Nat.le_of_ble_eq_true rfl, Nat.le_of_ble_eq_true rfl⟩ rfl rfl (Nat.le_of_ble_eq_true rfl) ⟨Nat.zero_le _, Nat.zero_le _⟩ rfl dX8_isGood_10 ?_
  obtain ⟨h_z, hf⟩ := qf_ck_e hf
  have hE := Option.some.inj hf
  exact qw_zretR S0 hr hlocks hQ (qw_nz h_z) hE dX8_isGood_13
theorem kd_X8_isHouse : yX8_isHouse.cls = RX8 ∧ yX8_isHouse.cls ≠ "java/lang/invoke/MethodHandle" ∧ yX8_isHouse.cls ≠ "java/lang/invoke/VarHandle" ∧ (parseMethodDescriptor yX8_isHouse.desc).map (fun d => d.parameters.length) = some 1 := by decide +kernel
def f_X8_isHouse (A : Nat → Nat → Int32) (p1 : Int32) : Option (Int32) :=
  qf_ld 62 (A 3) (2 : Int32) fun x1 =>
  qf_bd (f_X8_inRange p1 (0 : Int32) (x1 - (1 : Int32))) fun r2 =>
  qf_ck (r2 = 0 ∨ r2 = 1) <|
  some (r2)
abbrev wz_X8_isHouse : List Cond := Cond.code yX8_isHouse cX8_isHouse 2 (some .boolean) :: qw_big
def rm_X8_isHouse : Room := { frames := 1, cells := 0, slots := 0, locals := 22 }
set_option maxHeartbeats 4000000 in
set_option maxRecDepth 100000 in
theorem c_X8_isHouse (l : Launch) {D : va_G} {cy : Nat → ClassId} {ad : Nat → Nat} {I : Nat → Int32} {A : Nat → Nat → Int32} {w : Int64} {p1 : Int32} {rv : Int32} {sz : Nat} (hf : f_X8_isHouse A p1 = some (rv)) : Met l yX8_isHouse wz_X8_isHouse rm_X8_isHouse (va_Pc [.ref (ad 0), .int p1] (qw_Pre D cy (Wm cy ad I A w) sz)) (qw_R (some (.int rv))) 0 0 (fun _ => False) := by
  refine qw_of (cc := cX8_isHouse) (maxL := 2) (ret := (some .boolean)) (by decide) (Nat.le_of_ble_eq_true rfl) ?_
  intro p e s m args below meth c ls S0 hr hlocks hsz V hl
  have S0 : CallFix p m c cX8_isHouse 2 s args qw_big RX8 := S0
  have hx := S0.1; have hb := S0.2.1; have hown := S0.2.2.2.1; have hts := S0.2.2.2.2
  have hl : lv_has ls 2 [(0, .ref (ad 0)), (1, .int p1)] := hl
  obtain ⟨Q9, hQ⟩ : ∃ q, q = MQ below (qw_R (some (.int rv))) args s 0 0 (fun _ => False) := ⟨_, rfl⟩
  rw [← hQ]
  generalize va_A (Wm cy ad I A w) sz = Z9 at V
  unfold f_X8_isHouse at hf
  refine lv_iload_n hx hb dX8_isHouse_0 rfl (lv_at hl 1 rfl) ?_
  refine lv_iconst (v := 0) hx hb dX8_isHouse_1 (by decide) ?_
  refine lv_aload_n hx hb dX8_isHouse_2 rfl (lv_at hl 0 rfl) ?_
  refine gfM_0_5 S0 V kl_X8_19 dX8_isHouse_3 ?_
  refine lv_iconst (v := 2) hx hb dX8_isHouse_6 (by decide) ?_
  have h_7 := qf_ld_in hf
  refine alM_4 S0 V h_7 dX8_isHouse_7 ?_
  refine lv_topi (fun x1 e_x1 => ?_)
  replace hf := qf_ld_e e_x1 hf
  refine lv_iconst (v := 1) hx hb dX8_isHouse_8 (by decide) ?_
  refine lv_isub hx hb dX8_isHouse_9 ?_
  obtain ⟨r2, hc_10, hf⟩ := qf_bd_e hf
  refine qw_cSR (rest := []) (st1 := [.int r2]) S0 V hl (c_X8_inRange l hc_10) kg_X8_85 rfl ⟨rfl, rfl⟩ kd_X8_inRange ⟨Nat.le_of_ble_eq_true rfl, Nat.le_of_ble_eq_true rfl⟩ rfl rfl (Nat.le_of_ble_eq_true rfl) ⟨Nat.zero_le _, Nat.zero_le _⟩ rfl dX8_isHouse_10 ?_
  obtain ⟨h_z, hf⟩ := qf_ck_e hf
  have hE := Option.some.inj hf
  exact qw_zretR S0 hr hlocks hQ (qw_nz h_z) hE dX8_isHouse_13
theorem kd_X8_isShop : yX8_isShop.cls = RX8 ∧ yX8_isShop.cls ≠ "java/lang/invoke/MethodHandle" ∧ yX8_isShop.cls ≠ "java/lang/invoke/VarHandle" ∧ (parseMethodDescriptor yX8_isShop.desc).map (fun d => d.parameters.length) = some 1 := by decide +kernel
def f_X8_isShop (A : Nat → Nat → Int32) (p1 : Int32) : Option (Int32) :=
  qf_ld 62 (A 3) (3 : Int32) fun x1 =>
  qf_bd (f_X8_inRange p1 (0 : Int32) (x1 - (1 : Int32))) fun r2 =>
  qf_ck (r2 = 0 ∨ r2 = 1) <|
  some (r2)
abbrev wz_X8_isShop : List Cond := Cond.code yX8_isShop cX8_isShop 2 (some .boolean) :: qw_big
def rm_X8_isShop : Room := { frames := 1, cells := 0, slots := 0, locals := 22 }
set_option maxHeartbeats 4000000 in
set_option maxRecDepth 100000 in
theorem c_X8_isShop (l : Launch) {D : va_G} {cy : Nat → ClassId} {ad : Nat → Nat} {I : Nat → Int32} {A : Nat → Nat → Int32} {w : Int64} {p1 : Int32} {rv : Int32} {sz : Nat} (hf : f_X8_isShop A p1 = some (rv)) : Met l yX8_isShop wz_X8_isShop rm_X8_isShop (va_Pc [.ref (ad 0), .int p1] (qw_Pre D cy (Wm cy ad I A w) sz)) (qw_R (some (.int rv))) 0 0 (fun _ => False) := by
  refine qw_of (cc := cX8_isShop) (maxL := 2) (ret := (some .boolean)) (by decide) (Nat.le_of_ble_eq_true rfl) ?_
  intro p e s m args below meth c ls S0 hr hlocks hsz V hl
  have S0 : CallFix p m c cX8_isShop 2 s args qw_big RX8 := S0
  have hx := S0.1; have hb := S0.2.1; have hown := S0.2.2.2.1; have hts := S0.2.2.2.2
  have hl : lv_has ls 2 [(0, .ref (ad 0)), (1, .int p1)] := hl
  obtain ⟨Q9, hQ⟩ : ∃ q, q = MQ below (qw_R (some (.int rv))) args s 0 0 (fun _ => False) := ⟨_, rfl⟩
  rw [← hQ]
  generalize va_A (Wm cy ad I A w) sz = Z9 at V
  unfold f_X8_isShop at hf
  refine lv_iload_n hx hb dX8_isShop_0 rfl (lv_at hl 1 rfl) ?_
  refine lv_iconst (v := 0) hx hb dX8_isShop_1 (by decide) ?_
  refine lv_aload_n hx hb dX8_isShop_2 rfl (lv_at hl 0 rfl) ?_
  refine gfM_0_5 S0 V kl_X8_19 dX8_isShop_3 ?_
  refine lv_iconst (v := 3) hx hb dX8_isShop_6 (by decide) ?_
  have h_7 := qf_ld_in hf
  refine alM_4 S0 V h_7 dX8_isShop_7 ?_
  refine lv_topi (fun x1 e_x1 => ?_)
  replace hf := qf_ld_e e_x1 hf
  refine lv_iconst (v := 1) hx hb dX8_isShop_8 (by decide) ?_
  refine lv_isub hx hb dX8_isShop_9 ?_
  obtain ⟨r2, hc_10, hf⟩ := qf_bd_e hf
  refine qw_cSR (rest := []) (st1 := [.int r2]) S0 V hl (c_X8_inRange l hc_10) kg_X8_85 rfl ⟨rfl, rfl⟩ kd_X8_inRange ⟨Nat.le_of_ble_eq_true rfl, Nat.le_of_ble_eq_true rfl⟩ rfl rfl (Nat.le_of_ble_eq_true rfl) ⟨Nat.zero_le _, Nat.zero_le _⟩ rfl dX8_isShop_10 ?_
  obtain ⟨h_z, hf⟩ := qf_ck_e hf
  have hE := Option.some.inj hf
  exact qw_zretR S0 hr hlocks hQ (qw_nz h_z) hE dX8_isShop_13
theorem kd_X8_isUnits : yX8_isUnits.cls ≠ "java/lang/invoke/MethodHandle" ∧ yX8_isUnits.cls ≠ "java/lang/invoke/VarHandle" ∧ (parseMethodDescriptor yX8_isUnits.desc).map (fun d => d.parameters.length) = some 1 := by decide +kernel
def f_X8_isUnits (p1 : Int32) : Option (Int32) :=
  qf_bd (f_X8_inRange p1 (1 : Int32) (9999 : Int32)) fun r1 =>
  qf_ck (r1 = 0 ∨ r1 = 1) <|
  some (r1)
abbrev wz_X8_isUnits : List Cond := Cond.code yX8_isUnits cX8_isUnits 1 (some .boolean) :: qw_big
def rm_X8_isUnits : Room := { frames := 1, cells := 0, slots := 0, locals := 22 }
set_option maxHeartbeats 4000000 in
set_option maxRecDepth 100000 in
theorem c_X8_isUnits (l : Launch) {D : va_G} {cy : Nat → ClassId} {ws : va_W} {p1 : Int32} {rv : Int32} {sz : Nat} (hf : f_X8_isUnits p1 = some (rv)) : Met l yX8_isUnits wz_X8_isUnits rm_X8_isUnits (va_Pc [.int p1] (qw_Pre D cy ws sz)) (qw_R (some (.int rv))) 0 0 (fun _ => False) := by
  refine qw_of (cc := cX8_isUnits) (maxL := 1) (ret := (some .boolean)) (by decide) (Nat.le_of_ble_eq_true rfl) ?_
  intro p e s m args below meth c ls S0 hr hlocks hsz V hl
  have S0 : CallFix p m c cX8_isUnits 1 s args qw_big RX8 := S0
  have hx := S0.1; have hb := S0.2.1; have hown := S0.2.2.2.1; have hts := S0.2.2.2.2
  have hl : lv_has ls 1 [(0, .int p1)] := hl
  obtain ⟨Q9, hQ⟩ : ∃ q, q = MQ below (qw_R (some (.int rv))) args s 0 0 (fun _ => False) := ⟨_, rfl⟩
  rw [← hQ]
  generalize va_A ws sz = Z9 at V
  unfold f_X8_isUnits at hf
  refine lv_iload_n hx hb dX8_isUnits_0 rfl (lv_at hl 0 rfl) ?_
  refine lv_iconst (v := 1) hx hb dX8_isUnits_1 (by decide) ?_
  refine lv_sipush (v := 9999) hx hb dX8_isUnits_2 (by decide) ?_
  obtain ⟨r1, hc_5, hf⟩ := qf_bd_e hf
  refine qw_cSR (rest := []) (st1 := [.int r1]) S0 V hl (c_X8_inRange l hc_5) kg_X8_85 rfl ⟨rfl, rfl⟩ kd_X8_inRange ⟨Nat.le_of_ble_eq_true rfl, Nat.le_of_ble_eq_true rfl⟩ rfl rfl (Nat.le_of_ble_eq_true rfl) ⟨Nat.zero_le _, Nat.zero_le _⟩ rfl dX8_isUnits_5 ?_
  obtain ⟨h_z, hf⟩ := qf_ck_e hf
  have hE := Option.some.inj hf
  exact qw_zretR S0 hr hlocks hQ (qw_nz h_z) hE dX8_isUnits_8
theorem kd_X8_countOf : yX8_countOf.cls = RX8 ∧ yX8_countOf.cls ≠ "java/lang/invoke/MethodHandle" ∧ yX8_countOf.cls ≠ "java/lang/invoke/VarHandle" ∧ (parseMethodDescriptor yX8_countOf.desc).map (fun d => d.parameters.length) = some 1 := by decide +kernel
def f_X8_countOf (A : Nat → Nat → Int32) (I : Nat → Int32) (p1 : Int32) : Option (Int32 × (Nat → Int32)) :=
  qf_let (upd I 1 (0 : Int32)) fun I1 =>
  qf_ld 62 (A 3) ((0 : Int32) + p1) fun x2 =>
  some (x2, I1)
abbrev wz_X8_countOf : List Cond := Cond.code yX8_countOf cX8_countOf 2 (some .int) :: qw_big
def rm_X8_countOf : Room := { frames := 0, cells := 0, slots := 0, locals := 0 }
set_option maxHeartbeats 4000000 in
set_option maxRecDepth 100000 in
theorem c_X8_countOf (l : Launch) {D : va_G} {cy : Nat → ClassId} {ad : Nat → Nat} {I : Nat → Int32} {A : Nat → Nat → Int32} {w : Int64} {p1 : Int32} {rv : Int32} {I9 : Nat → Int32} {sz : Nat} (hf : f_X8_countOf A I p1 = some (rv, I9)) : Met l yX8_countOf wz_X8_countOf rm_X8_countOf (va_Pc [.ref (ad 0), .int p1] (qw_Pre D cy (Wm cy ad I A w) sz)) (qw_Q (some (.int rv)) D (Wm cy ad I9 A w) (va_A (Wm cy ad I A w) sz)) 0 0 (va_A (Wm cy ad I A w) sz) := by
  refine qw_of (cc := cX8_countOf) (maxL := 2) (ret := (some .int)) (by decide) (Nat.le_of_ble_eq_true rfl) ?_
  intro p e s m args below meth c ls S0 hr hlocks hsz V hl
  have S0 : CallFix p m c cX8_countOf 2 s args qw_big RX8 := S0
  have hx := S0.1; have hb := S0.2.1; have hown := S0.2.2.2.1; have hts := S0.2.2.2.2
  have hl : lv_has ls 2 [(0, .ref (ad 0)), (1, .int p1)] := hl
  generalize va_A (Wm cy ad I A w) sz = Z9 at V ⊢
  obtain ⟨Q9, hQ⟩ : ∃ q, q = MQ below (qw_Q (some (.int rv)) D (Wm cy ad I9 A w) Z9) args s 0 0 Z9 := ⟨_, rfl⟩
  rw [← hQ]
  clear hsz
  unfold f_X8_countOf at hf
  refine lv_aload_n hx hb dX8_countOf_0 rfl (lv_at hl 0 rfl) ?_
  refine lv_iconst (v := 0) hx hb dX8_countOf_1 (by decide) ?_
  refine pfM_0_4 S0 V kl_X8_49 dX8_countOf_2 (fun H locs I1 e_I1 V => ?_)
  replace hf := qf_let_e e_I1 hf
  refine lv_aload_n hx hb dX8_countOf_5 rfl (lv_at hl 0 rfl) ?_
  refine gfM_0_5 S0 V kl_X8_19 dX8_countOf_6 ?_
  refine lv_iconst (v := 0) hx hb dX8_countOf_9 (by decide) ?_
  refine lv_iload_n hx hb dX8_countOf_10 rfl (lv_at hl 1 rfl) ?_
  refine lv_iadd hx hb dX8_countOf_11 ?_
  have h_12 := qf_ld_in hf
  refine alM_4 S0 V h_12 dX8_countOf_12 ?_
  refine lv_topi (fun x2 e_x2 => ?_)
  replace hf := qf_ld_e e_x2 hf
  have hE := Option.some.inj hf
  obtain ⟨e0, hE⟩ := qf_pr hE
  exact qw_ireti S0 hr hlocks hQ e0 (by rw [hE]) V dX8_countOf_13
theorem kd_X8_groupCount : yX8_groupCount.cls = RX8 ∧ yX8_groupCount.cls ≠ "java/lang/invoke/MethodHandle" ∧ yX8_groupCount.cls ≠ "java/lang/invoke/VarHandle" ∧ (parseMethodDescriptor yX8_groupCount.desc).map (fun d => d.parameters.length) = some 0 := by decide +kernel
def f_X8_groupCount (A : Nat → Nat → Int32) (I : Nat → Int32) : Option (Int32 × (Nat → Int32)) :=
  qf_bd2 (f_X8_countOf A I (0 : Int32)) fun r1 I2 =>
  some (r1, I2)
abbrev wz_X8_groupCount : List Cond := Cond.code yX8_groupCount cX8_groupCount 1 (some .int) :: qw_big
def rm_X8_groupCount : Room := { frames := 1, cells := 0, slots := 0, locals := 21 }
set_option maxHeartbeats 4000000 in
set_option maxRecDepth 100000 in
theorem c_X8_groupCount (l : Launch) {D : va_G} {cy : Nat → ClassId} {ad : Nat → Nat} {I : Nat → Int32} {A : Nat → Nat → Int32} {w : Int64}  {rv : Int32} {I9 : Nat → Int32} {sz : Nat} (hf : f_X8_groupCount A I = some (rv, I9)) : Met l yX8_groupCount wz_X8_groupCount rm_X8_groupCount (va_Pc [.ref (ad 0)] (qw_Pre D cy (Wm cy ad I A w) sz)) (qw_Q (some (.int rv)) D (Wm cy ad I9 A w) (va_A (Wm cy ad I A w) sz)) 0 0 (va_A (Wm cy ad I A w) sz) := by
  refine qw_of (cc := cX8_groupCount) (maxL := 1) (ret := (some .int)) (by decide) (Nat.le_of_ble_eq_true rfl) ?_
  intro p e s m args below meth c ls S0 hr hlocks hsz V hl
  have S0 : CallFix p m c cX8_groupCount 1 s args qw_big RX8 := S0
  have hx := S0.1; have hb := S0.2.1; have hown := S0.2.2.2.1; have hts := S0.2.2.2.2
  have hl : lv_has ls 1 [(0, .ref (ad 0))] := hl
  generalize va_A (Wm cy ad I A w) sz = Z9 at V ⊢
  obtain ⟨Q9, hQ⟩ : ∃ q, q = MQ below (qw_Q (some (.int rv)) D (Wm cy ad I9 A w) Z9) args s 0 0 Z9 := ⟨_, rfl⟩
  rw [← hQ]
  clear hsz
  unfold f_X8_groupCount at hf
  refine lv_aload_n hx hb dX8_groupCount_0 rfl (lv_at hl 0 rfl) ?_
  refine lv_iconst (v := 0) hx hb dX8_groupCount_1 (by decide) ?_
  obtain ⟨r1, I2, hc_2, hf⟩ := qf_bd2_e hf
  refine qw_cV (rest := []) (st1 := [.int r1]) S0 V hl 0 gM_0 rfl (c_X8_countOf l hc_2) kg_X8_191 rfl ⟨rfl, rfl⟩ kd_X8_countOf ⟨Nat.le_of_ble_eq_true rfl, Nat.le_of_ble_eq_true rfl⟩ rfl rfl (Nat.le_of_ble_eq_true rfl) ⟨Nat.zero_le _, Nat.zero_le _⟩ rfl dX8_groupCount_2 (fun H locs V => ?_)
  have hE := Option.some.inj hf
  obtain ⟨e0, hE⟩ := qf_pr hE
  exact qw_ireti S0 hr hlocks hQ e0 (by rw [hE]) V dX8_groupCount_5
theorem kd_X8_goodCount : yX8_goodCount.cls = RX8 ∧ yX8_goodCount.cls ≠ "java/lang/invoke/MethodHandle" ∧ yX8_goodCount.cls ≠ "java/lang/invoke/VarHandle" ∧ (parseMethodDescriptor yX8_goodCount.desc).map (fun d => d.parameters.length) = some 0 := by decide +kernel
def f_X8_goodCount (A : Nat → Nat → Int32) (I : Nat → Int32) : Option (Int32 × (Nat → Int32)) :=
  qf_bd2 (f_X8_countOf A I (1 : Int32)) fun r1 I2 =>
  some (r1, I2)
abbrev wz_X8_goodCount : List Cond := Cond.code yX8_goodCount cX8_goodCount 1 (some .int) :: qw_big
def rm_X8_goodCount : Room := { frames := 1, cells := 0, slots := 0, locals := 21 }
set_option maxHeartbeats 4000000 in
set_option maxRecDepth 100000 in
theorem c_X8_goodCount (l : Launch) {D : va_G} {cy : Nat → ClassId} {ad : Nat → Nat} {I : Nat → Int32} {A : Nat → Nat → Int32} {w : Int64}  {rv : Int32} {I9 : Nat → Int32} {sz : Nat} (hf : f_X8_goodCount A I = some (rv, I9)) : Met l yX8_goodCount wz_X8_goodCount rm_X8_goodCount (va_Pc [.ref (ad 0)] (qw_Pre D cy (Wm cy ad I A w) sz)) (qw_Q (some (.int rv)) D (Wm cy ad I9 A w) (va_A (Wm cy ad I A w) sz)) 0 0 (va_A (Wm cy ad I A w) sz) := by
  refine qw_of (cc := cX8_goodCount) (maxL := 1) (ret := (some .int)) (by decide) (Nat.le_of_ble_eq_true rfl) ?_
  intro p e s m args below meth c ls S0 hr hlocks hsz V hl
  have S0 : CallFix p m c cX8_goodCount 1 s args qw_big RX8 := S0
  have hx := S0.1; have hb := S0.2.1; have hown := S0.2.2.2.1; have hts := S0.2.2.2.2
  have hl : lv_has ls 1 [(0, .ref (ad 0))] := hl
  generalize va_A (Wm cy ad I A w) sz = Z9 at V ⊢
  obtain ⟨Q9, hQ⟩ : ∃ q, q = MQ below (qw_Q (some (.int rv)) D (Wm cy ad I9 A w) Z9) args s 0 0 Z9 := ⟨_, rfl⟩
  rw [← hQ]
  clear hsz
  unfold f_X8_goodCount at hf
  refine lv_aload_n hx hb dX8_goodCount_0 rfl (lv_at hl 0 rfl) ?_
  refine lv_iconst (v := 1) hx hb dX8_goodCount_1 (by decide) ?_
  obtain ⟨r1, I2, hc_2, hf⟩ := qf_bd2_e hf
  refine qw_cV (rest := []) (st1 := [.int r1]) S0 V hl 0 gM_0 rfl (c_X8_countOf l hc_2) kg_X8_191 rfl ⟨rfl, rfl⟩ kd_X8_countOf ⟨Nat.le_of_ble_eq_true rfl, Nat.le_of_ble_eq_true rfl⟩ rfl rfl (Nat.le_of_ble_eq_true rfl) ⟨Nat.zero_le _, Nat.zero_le _⟩ rfl dX8_goodCount_2 (fun H locs V => ?_)
  have hE := Option.some.inj hf
  obtain ⟨e0, hE⟩ := qf_pr hE
  exact qw_ireti S0 hr hlocks hQ e0 (by rw [hE]) V dX8_goodCount_5
theorem kd_X8_houseCount : yX8_houseCount.cls = RX8 ∧ yX8_houseCount.cls ≠ "java/lang/invoke/MethodHandle" ∧ yX8_houseCount.cls ≠ "java/lang/invoke/VarHandle" ∧ (parseMethodDescriptor yX8_houseCount.desc).map (fun d => d.parameters.length) = some 0 := by decide +kernel
def f_X8_houseCount (A : Nat → Nat → Int32) (I : Nat → Int32) : Option (Int32 × (Nat → Int32)) :=
  qf_bd2 (f_X8_countOf A I (2 : Int32)) fun r1 I2 =>
  some (r1, I2)
abbrev wz_X8_houseCount : List Cond := Cond.code yX8_houseCount cX8_houseCount 1 (some .int) :: qw_big
def rm_X8_houseCount : Room := { frames := 1, cells := 0, slots := 0, locals := 21 }
set_option maxHeartbeats 4000000 in
set_option maxRecDepth 100000 in
theorem c_X8_houseCount (l : Launch) {D : va_G} {cy : Nat → ClassId} {ad : Nat → Nat} {I : Nat → Int32} {A : Nat → Nat → Int32} {w : Int64}  {rv : Int32} {I9 : Nat → Int32} {sz : Nat} (hf : f_X8_houseCount A I = some (rv, I9)) : Met l yX8_houseCount wz_X8_houseCount rm_X8_houseCount (va_Pc [.ref (ad 0)] (qw_Pre D cy (Wm cy ad I A w) sz)) (qw_Q (some (.int rv)) D (Wm cy ad I9 A w) (va_A (Wm cy ad I A w) sz)) 0 0 (va_A (Wm cy ad I A w) sz) := by
  refine qw_of (cc := cX8_houseCount) (maxL := 1) (ret := (some .int)) (by decide) (Nat.le_of_ble_eq_true rfl) ?_
  intro p e s m args below meth c ls S0 hr hlocks hsz V hl
  have S0 : CallFix p m c cX8_houseCount 1 s args qw_big RX8 := S0
  have hx := S0.1; have hb := S0.2.1; have hown := S0.2.2.2.1; have hts := S0.2.2.2.2
  have hl : lv_has ls 1 [(0, .ref (ad 0))] := hl
  generalize va_A (Wm cy ad I A w) sz = Z9 at V ⊢
  obtain ⟨Q9, hQ⟩ : ∃ q, q = MQ below (qw_Q (some (.int rv)) D (Wm cy ad I9 A w) Z9) args s 0 0 Z9 := ⟨_, rfl⟩
  rw [← hQ]
  clear hsz
  unfold f_X8_houseCount at hf
  refine lv_aload_n hx hb dX8_houseCount_0 rfl (lv_at hl 0 rfl) ?_
  refine lv_iconst (v := 2) hx hb dX8_houseCount_1 (by decide) ?_
  obtain ⟨r1, I2, hc_2, hf⟩ := qf_bd2_e hf
  refine qw_cV (rest := []) (st1 := [.int r1]) S0 V hl 0 gM_0 rfl (c_X8_countOf l hc_2) kg_X8_191 rfl ⟨rfl, rfl⟩ kd_X8_countOf ⟨Nat.le_of_ble_eq_true rfl, Nat.le_of_ble_eq_true rfl⟩ rfl rfl (Nat.le_of_ble_eq_true rfl) ⟨Nat.zero_le _, Nat.zero_le _⟩ rfl dX8_houseCount_2 (fun H locs V => ?_)
  have hE := Option.some.inj hf
  obtain ⟨e0, hE⟩ := qf_pr hE
  exact qw_ireti S0 hr hlocks hQ e0 (by rw [hE]) V dX8_houseCount_5
theorem kd_X8_shopCount : yX8_shopCount.cls = RX8 ∧ yX8_shopCount.cls ≠ "java/lang/invoke/MethodHandle" ∧ yX8_shopCount.cls ≠ "java/lang/invoke/VarHandle" ∧ (parseMethodDescriptor yX8_shopCount.desc).map (fun d => d.parameters.length) = some 0 := by decide +kernel
def f_X8_shopCount (A : Nat → Nat → Int32) (I : Nat → Int32) : Option (Int32 × (Nat → Int32)) :=
  qf_bd2 (f_X8_countOf A I (3 : Int32)) fun r1 I2 =>
  some (r1, I2)
abbrev wz_X8_shopCount : List Cond := Cond.code yX8_shopCount cX8_shopCount 1 (some .int) :: qw_big
def rm_X8_shopCount : Room := { frames := 1, cells := 0, slots := 0, locals := 21 }
set_option maxHeartbeats 4000000 in
set_option maxRecDepth 100000 in
theorem c_X8_shopCount (l : Launch) {D : va_G} {cy : Nat → ClassId} {ad : Nat → Nat} {I : Nat → Int32} {A : Nat → Nat → Int32} {w : Int64}  {rv : Int32} {I9 : Nat → Int32} {sz : Nat} (hf : f_X8_shopCount A I = some (rv, I9)) : Met l yX8_shopCount wz_X8_shopCount rm_X8_shopCount (va_Pc [.ref (ad 0)] (qw_Pre D cy (Wm cy ad I A w) sz)) (qw_Q (some (.int rv)) D (Wm cy ad I9 A w) (va_A (Wm cy ad I A w) sz)) 0 0 (va_A (Wm cy ad I A w) sz) := by
  refine qw_of (cc := cX8_shopCount) (maxL := 1) (ret := (some .int)) (by decide) (Nat.le_of_ble_eq_true rfl) ?_
  intro p e s m args below meth c ls S0 hr hlocks hsz V hl
  have S0 : CallFix p m c cX8_shopCount 1 s args qw_big RX8 := S0
  have hx := S0.1; have hb := S0.2.1; have hown := S0.2.2.2.1; have hts := S0.2.2.2.2
  have hl : lv_has ls 1 [(0, .ref (ad 0))] := hl
  generalize va_A (Wm cy ad I A w) sz = Z9 at V ⊢
  obtain ⟨Q9, hQ⟩ : ∃ q, q = MQ below (qw_Q (some (.int rv)) D (Wm cy ad I9 A w) Z9) args s 0 0 Z9 := ⟨_, rfl⟩
  rw [← hQ]
  clear hsz
  unfold f_X8_shopCount at hf
  refine lv_aload_n hx hb dX8_shopCount_0 rfl (lv_at hl 0 rfl) ?_
  refine lv_iconst (v := 3) hx hb dX8_shopCount_1 (by decide) ?_
  obtain ⟨r1, I2, hc_2, hf⟩ := qf_bd2_e hf
  refine qw_cV (rest := []) (st1 := [.int r1]) S0 V hl 0 gM_0 rfl (c_X8_countOf l hc_2) kg_X8_191 rfl ⟨rfl, rfl⟩ kd_X8_countOf ⟨Nat.le_of_ble_eq_true rfl, Nat.le_of_ble_eq_true rfl⟩ rfl rfl (Nat.le_of_ble_eq_true rfl) ⟨Nat.zero_le _, Nat.zero_le _⟩ rfl dX8_shopCount_2 (fun H locs V => ?_)
  have hE := Option.some.inj hf
  obtain ⟨e0, hE⟩ := qf_pr hE
  exact qw_ireti S0 hr hlocks hQ e0 (by rw [hE]) V dX8_shopCount_5
theorem kd_X8_period : yX8_period.cls = RX8 ∧ yX8_period.cls ≠ "java/lang/invoke/MethodHandle" ∧ yX8_period.cls ≠ "java/lang/invoke/VarHandle" ∧ (parseMethodDescriptor yX8_period.desc).map (fun d => d.parameters.length) = some 0 := by decide +kernel
def f_X8_period (A : Nat → Nat → Int32) (I : Nat → Int32) : Option (Int32 × (Nat → Int32)) :=
  qf_let (upd I 1 (0 : Int32)) fun I1 =>
  qf_ld 250 (A 0) (249 : Int32) fun x2 =>
  some (x2, I1)
abbrev wz_X8_period : List Cond := Cond.code yX8_period cX8_period 1 (some .int) :: qw_big
def rm_X8_period : Room := { frames := 0, cells := 0, slots := 0, locals := 0 }
set_option maxHeartbeats 4000000 in
set_option maxRecDepth 100000 in
theorem c_X8_period (l : Launch) {D : va_G} {cy : Nat → ClassId} {ad : Nat → Nat} {I : Nat → Int32} {A : Nat → Nat → Int32} {w : Int64}  {rv : Int32} {I9 : Nat → Int32} {sz : Nat} (hf : f_X8_period A I = some (rv, I9)) : Met l yX8_period wz_X8_period rm_X8_period (va_Pc [.ref (ad 0)] (qw_Pre D cy (Wm cy ad I A w) sz)) (qw_Q (some (.int rv)) D (Wm cy ad I9 A w) (va_A (Wm cy ad I A w) sz)) 0 0 (va_A (Wm cy ad I A w) sz) := by
  refine qw_of (cc := cX8_period) (maxL := 1) (ret := (some .int)) (by decide) (Nat.le_of_ble_eq_true rfl) ?_
  intro p e s m args below meth c ls S0 hr hlocks hsz V hl
  have S0 : CallFix p m c cX8_period 1 s args qw_big RX8 := S0
  have hx := S0.1; have hb := S0.2.1; have hown := S0.2.2.2.1; have hts := S0.2.2.2.2
  have hl : lv_has ls 1 [(0, .ref (ad 0))] := hl
  generalize va_A (Wm cy ad I A w) sz = Z9 at V ⊢
  obtain ⟨Q9, hQ⟩ : ∃ q, q = MQ below (qw_Q (some (.int rv)) D (Wm cy ad I9 A w) Z9) args s 0 0 Z9 := ⟨_, rfl⟩
  rw [← hQ]
  clear hsz
  unfold f_X8_period at hf
  refine lv_aload_n hx hb dX8_period_0 rfl (lv_at hl 0 rfl) ?_
  refine lv_iconst (v := 0) hx hb dX8_period_1 (by decide) ?_
  refine pfM_0_4 S0 V kl_X8_49 dX8_period_2 (fun H locs I1 e_I1 V => ?_)
  replace hf := qf_let_e e_I1 hf
  refine lv_aload_n hx hb dX8_period_5 rfl (lv_at hl 0 rfl) ?_
  refine gfM_0_0 S0 V kl_X8_7 dX8_period_6 ?_
  refine lv_sipush (v := 249) hx hb dX8_period_9 (by decide) ?_
  have h_12 := qf_ld_in hf
  refine alM_1 S0 V h_12 dX8_period_12 ?_
  refine lv_topi (fun x2 e_x2 => ?_)
  replace hf := qf_ld_e e_x2 hf
  have hE := Option.some.inj hf
  obtain ⟨e0, hE⟩ := qf_pr hE
  exact qw_ireti S0 hr hlocks hQ e0 (by rw [hE]) V dX8_period_13
theorem kd_X8_find : yX8_find.cls = RX8 ∧ yX8_find.cls ≠ "java/lang/invoke/MethodHandle" ∧ yX8_find.cls ≠ "java/lang/invoke/VarHandle" ∧ (parseMethodDescriptor yX8_find.desc).map (fun d => d.parameters.length) = some 2 := by decide +kernel
def f_X8_find (A : Nat → Nat → Int32) (I : Nat → Int32) (p1 : Int32) (p2 : Int32) : Option (Int32 × (Nat → Int32)) :=
  qf_let (upd I 1 (0 : Int32)) fun I1 =>
  qf_bd (f_X8_indexOf 62 (A 3) p1 p2) fun r2 =>
  some (r2, I1)
abbrev wz_X8_find : List Cond := Cond.code yX8_find cX8_find 3 (some .int) :: qw_big
def rm_X8_find : Room := { frames := 1, cells := 0, slots := 0, locals := 23 }
set_option maxHeartbeats 4000000 in
set_option maxRecDepth 100000 in
theorem c_X8_find (l : Launch) {D : va_G} {cy : Nat → ClassId} {ad : Nat → Nat} {I : Nat → Int32} {A : Nat → Nat → Int32} {w : Int64} {p1 : Int32} {p2 : Int32} {rv : Int32} {I9 : Nat → Int32} {sz : Nat} (hf : f_X8_find A I p1 p2 = some (rv, I9)) : Met l yX8_find wz_X8_find rm_X8_find (va_Pc [.ref (ad 0), .int p1, .int p2] (qw_Pre D cy (Wm cy ad I A w) sz)) (qw_Q (some (.int rv)) D (Wm cy ad I9 A w) (va_A (Wm cy ad I A w) sz)) 0 0 (va_A (Wm cy ad I A w) sz) := by
  refine qw_of (cc := cX8_find) (maxL := 3) (ret := (some .int)) (by decide) (Nat.le_of_ble_eq_true rfl) ?_
  intro p e s m args below meth c ls S0 hr hlocks hsz V hl
  have S0 : CallFix p m c cX8_find 3 s args qw_big RX8 := S0
  have hx := S0.1; have hb := S0.2.1; have hown := S0.2.2.2.1; have hts := S0.2.2.2.2
  have hl : lv_has ls 3 [(0, .ref (ad 0)), (1, .int p1), (2, .int p2)] := hl
  generalize va_A (Wm cy ad I A w) sz = Z9 at V ⊢
  obtain ⟨Q9, hQ⟩ : ∃ q, q = MQ below (qw_Q (some (.int rv)) D (Wm cy ad I9 A w) Z9) args s 0 0 Z9 := ⟨_, rfl⟩
  rw [← hQ]
  clear hsz
  unfold f_X8_find at hf
  refine lv_aload_n hx hb dX8_find_0 rfl (lv_at hl 0 rfl) ?_
  refine lv_iconst (v := 0) hx hb dX8_find_1 (by decide) ?_
  refine pfM_0_4 S0 V kl_X8_49 dX8_find_2 (fun H locs I1 e_I1 V => ?_)
  replace hf := qf_let_e e_I1 hf
  refine lv_aload_n hx hb dX8_find_5 rfl (lv_at hl 0 rfl) ?_
  refine gfM_0_5 S0 V kl_X8_19 dX8_find_6 ?_
  refine lv_iload_n hx hb dX8_find_9 rfl (lv_at hl 1 rfl) ?_
  refine lv_iload_n hx hb dX8_find_10 rfl (lv_at hl 2 rfl) ?_
  obtain ⟨r2, hc_11, hf⟩ := qf_bd_e hf
  refine qw_cSR (rest := []) (st1 := [.int r2]) S0 V hl (c_X8_indexOf l (q0 := 4) gM_4 hc_11) kg_X8_127 rfl ⟨rfl, rfl⟩ kd_X8_indexOf ⟨Nat.le_of_ble_eq_true rfl, Nat.le_of_ble_eq_true rfl⟩ rfl rfl (Nat.le_of_ble_eq_true rfl) ⟨Nat.zero_le _, Nat.zero_le _⟩ rfl dX8_find_11 ?_
  have hE := Option.some.inj hf
  obtain ⟨e0, hE⟩ := qf_pr hE
  exact qw_ireti S0 hr hlocks hQ e0 (by rw [hE]) V dX8_find_14
theorem kd_X8_groupNamed : yX8_groupNamed.cls = RX8 ∧ yX8_groupNamed.cls ≠ "java/lang/invoke/MethodHandle" ∧ yX8_groupNamed.cls ≠ "java/lang/invoke/VarHandle" ∧ (parseMethodDescriptor yX8_groupNamed.desc).map (fun d => d.parameters.length) = some 1 := by decide +kernel
def f_X8_groupNamed (A : Nat → Nat → Int32) (I : Nat → Int32) (p1 : Int32) : Option (Int32 × (Nat → Int32)) :=
  qf_bd2 (f_X8_find A I (0 : Int32) p1) fun r1 I2 =>
  some (r1, I2)
abbrev wz_X8_groupNamed : List Cond := Cond.code yX8_groupNamed cX8_groupNamed 2 (some .int) :: qw_big
def rm_X8_groupNamed : Room := { frames := 2, cells := 0, slots := 0, locals := 45 }
set_option maxHeartbeats 4000000 in
set_option maxRecDepth 100000 in
theorem c_X8_groupNamed (l : Launch) {D : va_G} {cy : Nat → ClassId} {ad : Nat → Nat} {I : Nat → Int32} {A : Nat → Nat → Int32} {w : Int64} {p1 : Int32} {rv : Int32} {I9 : Nat → Int32} {sz : Nat} (hf : f_X8_groupNamed A I p1 = some (rv, I9)) : Met l yX8_groupNamed wz_X8_groupNamed rm_X8_groupNamed (va_Pc [.ref (ad 0), .int p1] (qw_Pre D cy (Wm cy ad I A w) sz)) (qw_Q (some (.int rv)) D (Wm cy ad I9 A w) (va_A (Wm cy ad I A w) sz)) 0 0 (va_A (Wm cy ad I A w) sz) := by
  refine qw_of (cc := cX8_groupNamed) (maxL := 2) (ret := (some .int)) (by decide) (Nat.le_of_ble_eq_true rfl) ?_
  intro p e s m args below meth c ls S0 hr hlocks hsz V hl
  have S0 : CallFix p m c cX8_groupNamed 2 s args qw_big RX8 := S0
  have hx := S0.1; have hb := S0.2.1; have hown := S0.2.2.2.1; have hts := S0.2.2.2.2
  have hl : lv_has ls 2 [(0, .ref (ad 0)), (1, .int p1)] := hl
  generalize va_A (Wm cy ad I A w) sz = Z9 at V ⊢
  obtain ⟨Q9, hQ⟩ : ∃ q, q = MQ below (qw_Q (some (.int rv)) D (Wm cy ad I9 A w) Z9) args s 0 0 Z9 := ⟨_, rfl⟩
  rw [← hQ]
  clear hsz
  unfold f_X8_groupNamed at hf
  refine lv_aload_n hx hb dX8_groupNamed_0 rfl (lv_at hl 0 rfl) ?_
  refine lv_iconst (v := 0) hx hb dX8_groupNamed_1 (by decide) ?_
  refine lv_iload_n hx hb dX8_groupNamed_2 rfl (lv_at hl 1 rfl) ?_
  obtain ⟨r1, I2, hc_3, hf⟩ := qf_bd2_e hf
  refine qw_cV (rest := []) (st1 := [.int r1]) S0 V hl 0 gM_0 rfl (c_X8_find l hc_3) kg_X8_194 rfl ⟨rfl, rfl⟩ kd_X8_find ⟨Nat.le_of_ble_eq_true rfl, Nat.le_of_ble_eq_true rfl⟩ rfl rfl (Nat.le_of_ble_eq_true rfl) ⟨Nat.zero_le _, Nat.zero_le _⟩ rfl dX8_groupNamed_3 (fun H locs V => ?_)
  have hE := Option.some.inj hf
  obtain ⟨e0, hE⟩ := qf_pr hE
  exact qw_ireti S0 hr hlocks hQ e0 (by rw [hE]) V dX8_groupNamed_6
theorem kd_X8_goodNamed : yX8_goodNamed.cls = RX8 ∧ yX8_goodNamed.cls ≠ "java/lang/invoke/MethodHandle" ∧ yX8_goodNamed.cls ≠ "java/lang/invoke/VarHandle" ∧ (parseMethodDescriptor yX8_goodNamed.desc).map (fun d => d.parameters.length) = some 1 := by decide +kernel
def f_X8_goodNamed (A : Nat → Nat → Int32) (I : Nat → Int32) (p1 : Int32) : Option (Int32 × (Nat → Int32)) :=
  qf_bd2 (f_X8_find A I (1 : Int32) p1) fun r1 I2 =>
  some (r1, I2)
abbrev wz_X8_goodNamed : List Cond := Cond.code yX8_goodNamed cX8_goodNamed 2 (some .int) :: qw_big
def rm_X8_goodNamed : Room := { frames := 2, cells := 0, slots := 0, locals := 45 }
set_option maxHeartbeats 4000000 in
set_option maxRecDepth 100000 in
theorem c_X8_goodNamed (l : Launch) {D : va_G} {cy : Nat → ClassId} {ad : Nat → Nat} {I : Nat → Int32} {A : Nat → Nat → Int32} {w : Int64} {p1 : Int32} {rv : Int32} {I9 : Nat → Int32} {sz : Nat} (hf : f_X8_goodNamed A I p1 = some (rv, I9)) : Met l yX8_goodNamed wz_X8_goodNamed rm_X8_goodNamed (va_Pc [.ref (ad 0), .int p1] (qw_Pre D cy (Wm cy ad I A w) sz)) (qw_Q (some (.int rv)) D (Wm cy ad I9 A w) (va_A (Wm cy ad I A w) sz)) 0 0 (va_A (Wm cy ad I A w) sz) := by
  refine qw_of (cc := cX8_goodNamed) (maxL := 2) (ret := (some .int)) (by decide) (Nat.le_of_ble_eq_true rfl) ?_
  intro p e s m args below meth c ls S0 hr hlocks hsz V hl
  have S0 : CallFix p m c cX8_goodNamed 2 s args qw_big RX8 := S0
  have hx := S0.1; have hb := S0.2.1; have hown := S0.2.2.2.1; have hts := S0.2.2.2.2
  have hl : lv_has ls 2 [(0, .ref (ad 0)), (1, .int p1)] := hl
  generalize va_A (Wm cy ad I A w) sz = Z9 at V ⊢
  obtain ⟨Q9, hQ⟩ : ∃ q, q = MQ below (qw_Q (some (.int rv)) D (Wm cy ad I9 A w) Z9) args s 0 0 Z9 := ⟨_, rfl⟩
  rw [← hQ]
  clear hsz
  unfold f_X8_goodNamed at hf
  refine lv_aload_n hx hb dX8_goodNamed_0 rfl (lv_at hl 0 rfl) ?_
  refine lv_iconst (v := 1) hx hb dX8_goodNamed_1 (by decide) ?_
  refine lv_iload_n hx hb dX8_goodNamed_2 rfl (lv_at hl 1 rfl) ?_
  obtain ⟨r1, I2, hc_3, hf⟩ := qf_bd2_e hf
  refine qw_cV (rest := []) (st1 := [.int r1]) S0 V hl 0 gM_0 rfl (c_X8_find l hc_3) kg_X8_194 rfl ⟨rfl, rfl⟩ kd_X8_find ⟨Nat.le_of_ble_eq_true rfl, Nat.le_of_ble_eq_true rfl⟩ rfl rfl (Nat.le_of_ble_eq_true rfl) ⟨Nat.zero_le _, Nat.zero_le _⟩ rfl dX8_goodNamed_3 (fun H locs V => ?_)
  have hE := Option.some.inj hf
  obtain ⟨e0, hE⟩ := qf_pr hE
  exact qw_ireti S0 hr hlocks hQ e0 (by rw [hE]) V dX8_goodNamed_6
theorem kd_X8_houseNamed : yX8_houseNamed.cls = RX8 ∧ yX8_houseNamed.cls ≠ "java/lang/invoke/MethodHandle" ∧ yX8_houseNamed.cls ≠ "java/lang/invoke/VarHandle" ∧ (parseMethodDescriptor yX8_houseNamed.desc).map (fun d => d.parameters.length) = some 1 := by decide +kernel
def f_X8_houseNamed (A : Nat → Nat → Int32) (I : Nat → Int32) (p1 : Int32) : Option (Int32 × (Nat → Int32)) :=
  qf_bd2 (f_X8_find A I (2 : Int32) p1) fun r1 I2 =>
  some (r1, I2)
abbrev wz_X8_houseNamed : List Cond := Cond.code yX8_houseNamed cX8_houseNamed 2 (some .int) :: qw_big
def rm_X8_houseNamed : Room := { frames := 2, cells := 0, slots := 0, locals := 45 }
set_option maxHeartbeats 4000000 in
set_option maxRecDepth 100000 in
theorem c_X8_houseNamed (l : Launch) {D : va_G} {cy : Nat → ClassId} {ad : Nat → Nat} {I : Nat → Int32} {A : Nat → Nat → Int32} {w : Int64} {p1 : Int32} {rv : Int32} {I9 : Nat → Int32} {sz : Nat} (hf : f_X8_houseNamed A I p1 = some (rv, I9)) : Met l yX8_houseNamed wz_X8_houseNamed rm_X8_houseNamed (va_Pc [.ref (ad 0), .int p1] (qw_Pre D cy (Wm cy ad I A w) sz)) (qw_Q (some (.int rv)) D (Wm cy ad I9 A w) (va_A (Wm cy ad I A w) sz)) 0 0 (va_A (Wm cy ad I A w) sz) := by
  refine qw_of (cc := cX8_houseNamed) (maxL := 2) (ret := (some .int)) (by decide) (Nat.le_of_ble_eq_true rfl) ?_
  intro p e s m args below meth c ls S0 hr hlocks hsz V hl
  have S0 : CallFix p m c cX8_houseNamed 2 s args qw_big RX8 := S0
  have hx := S0.1; have hb := S0.2.1; have hown := S0.2.2.2.1; have hts := S0.2.2.2.2
  have hl : lv_has ls 2 [(0, .ref (ad 0)), (1, .int p1)] := hl
  generalize va_A (Wm cy ad I A w) sz = Z9 at V ⊢
  obtain ⟨Q9, hQ⟩ : ∃ q, q = MQ below (qw_Q (some (.int rv)) D (Wm cy ad I9 A w) Z9) args s 0 0 Z9 := ⟨_, rfl⟩
  rw [← hQ]
  clear hsz
  unfold f_X8_houseNamed at hf
  refine lv_aload_n hx hb dX8_houseNamed_0 rfl (lv_at hl 0 rfl) ?_
  refine lv_iconst (v := 2) hx hb dX8_houseNamed_1 (by decide) ?_
  refine lv_iload_n hx hb dX8_houseNamed_2 rfl (lv_at hl 1 rfl) ?_
  obtain ⟨r1, I2, hc_3, hf⟩ := qf_bd2_e hf
  refine qw_cV (rest := []) (st1 := [.int r1]) S0 V hl 0 gM_0 rfl (c_X8_find l hc_3) kg_X8_194 rfl ⟨rfl, rfl⟩ kd_X8_find ⟨Nat.le_of_ble_eq_true rfl, Nat.le_of_ble_eq_true rfl⟩ rfl rfl (Nat.le_of_ble_eq_true rfl) ⟨Nat.zero_le _, Nat.zero_le _⟩ rfl dX8_houseNamed_3 (fun H locs V => ?_)
  have hE := Option.some.inj hf
  obtain ⟨e0, hE⟩ := qf_pr hE
  exact qw_ireti S0 hr hlocks hQ e0 (by rw [hE]) V dX8_houseNamed_6
theorem kd_X8_shopNamed : yX8_shopNamed.cls = RX8 ∧ yX8_shopNamed.cls ≠ "java/lang/invoke/MethodHandle" ∧ yX8_shopNamed.cls ≠ "java/lang/invoke/VarHandle" ∧ (parseMethodDescriptor yX8_shopNamed.desc).map (fun d => d.parameters.length) = some 1 := by decide +kernel
def f_X8_shopNamed (A : Nat → Nat → Int32) (I : Nat → Int32) (p1 : Int32) : Option (Int32 × (Nat → Int32)) :=
  qf_bd2 (f_X8_find A I (3 : Int32) p1) fun r1 I2 =>
  some (r1, I2)
abbrev wz_X8_shopNamed : List Cond := Cond.code yX8_shopNamed cX8_shopNamed 2 (some .int) :: qw_big
def rm_X8_shopNamed : Room := { frames := 2, cells := 0, slots := 0, locals := 45 }
set_option maxHeartbeats 4000000 in
set_option maxRecDepth 100000 in
theorem c_X8_shopNamed (l : Launch) {D : va_G} {cy : Nat → ClassId} {ad : Nat → Nat} {I : Nat → Int32} {A : Nat → Nat → Int32} {w : Int64} {p1 : Int32} {rv : Int32} {I9 : Nat → Int32} {sz : Nat} (hf : f_X8_shopNamed A I p1 = some (rv, I9)) : Met l yX8_shopNamed wz_X8_shopNamed rm_X8_shopNamed (va_Pc [.ref (ad 0), .int p1] (qw_Pre D cy (Wm cy ad I A w) sz)) (qw_Q (some (.int rv)) D (Wm cy ad I9 A w) (va_A (Wm cy ad I A w) sz)) 0 0 (va_A (Wm cy ad I A w) sz) := by
  refine qw_of (cc := cX8_shopNamed) (maxL := 2) (ret := (some .int)) (by decide) (Nat.le_of_ble_eq_true rfl) ?_
  intro p e s m args below meth c ls S0 hr hlocks hsz V hl
  have S0 : CallFix p m c cX8_shopNamed 2 s args qw_big RX8 := S0
  have hx := S0.1; have hb := S0.2.1; have hown := S0.2.2.2.1; have hts := S0.2.2.2.2
  have hl : lv_has ls 2 [(0, .ref (ad 0)), (1, .int p1)] := hl
  generalize va_A (Wm cy ad I A w) sz = Z9 at V ⊢
  obtain ⟨Q9, hQ⟩ : ∃ q, q = MQ below (qw_Q (some (.int rv)) D (Wm cy ad I9 A w) Z9) args s 0 0 Z9 := ⟨_, rfl⟩
  rw [← hQ]
  clear hsz
  unfold f_X8_shopNamed at hf
  refine lv_aload_n hx hb dX8_shopNamed_0 rfl (lv_at hl 0 rfl) ?_
  refine lv_iconst (v := 3) hx hb dX8_shopNamed_1 (by decide) ?_
  refine lv_iload_n hx hb dX8_shopNamed_2 rfl (lv_at hl 1 rfl) ?_
  obtain ⟨r1, I2, hc_3, hf⟩ := qf_bd2_e hf
  refine qw_cV (rest := []) (st1 := [.int r1]) S0 V hl 0 gM_0 rfl (c_X8_find l hc_3) kg_X8_194 rfl ⟨rfl, rfl⟩ kd_X8_find ⟨Nat.le_of_ble_eq_true rfl, Nat.le_of_ble_eq_true rfl⟩ rfl rfl (Nat.le_of_ble_eq_true rfl) ⟨Nat.zero_le _, Nat.zero_le _⟩ rfl dX8_shopNamed_3 (fun H locs V => ?_)
  have hE := Option.some.inj hf
  obtain ⟨e0, hE⟩ := qf_pr hE
  exact qw_ireti S0 hr hlocks hQ e0 (by rw [hE]) V dX8_shopNamed_6
theorem kd_X8_groupProperty : yX8_groupProperty.cls = RX8 ∧ yX8_groupProperty.cls ≠ "java/lang/invoke/MethodHandle" ∧ yX8_groupProperty.cls ≠ "java/lang/invoke/VarHandle" ∧ (parseMethodDescriptor yX8_groupProperty.desc).map (fun d => d.parameters.length) = some 2 := by decide +kernel
def f_X8_groupProperty (A : Nat → Nat → Int32) (I : Nat → Int32) (p1 : Int32) (p2 : Int32) : Option (Int32 × (Nat → Int32)) :=
  qf_bd (f_X8_isGroup A p1) fun r1 =>
  qf_bd2 (f_X8_fails I r1) fun r2 I3 =>
  if r2 = 0 then (if p2 = 0 then (qf_ld 250 (A 0) ((3 : Int32) + p1) fun x4 =>
    some (x4, I3)) else if p2 = 1 then (qf_ld 62 (A 3) ((4 : Int32) + p1) fun x5 =>
    some (x5, I3)) else if p2 = 2 then (qf_ld 62 (A 3) ((8 : Int32) + p1) fun x6 =>
    some (x6, I3)) else if p2 = 3 then (qf_ld 62 (A 3) ((12 : Int32) + p1) fun x7 =>
    some (x7, I3)) else if p2 = 4 then (qf_ld 62 (A 3) ((16 : Int32) + p1) fun x8 =>
    some (x8, I3)) else (some ((-2 : Int32), I3))) else (some ((0 : Int32), I3))
abbrev wz_X8_groupProperty : List Cond := Cond.code yX8_groupProperty cX8_groupProperty 3 (some .int) :: qw_big
def rm_X8_groupProperty : Room := { frames := 2, cells := 0, slots := 0, locals := 43 }
set_option maxHeartbeats 4000000 in
set_option maxRecDepth 100000 in
theorem c_X8_groupProperty (l : Launch) {D : va_G} {cy : Nat → ClassId} {ad : Nat → Nat} {I : Nat → Int32} {A : Nat → Nat → Int32} {w : Int64} {p1 : Int32} {p2 : Int32} {rv : Int32} {I9 : Nat → Int32} {sz : Nat} (hf : f_X8_groupProperty A I p1 p2 = some (rv, I9)) : Met l yX8_groupProperty wz_X8_groupProperty rm_X8_groupProperty (va_Pc [.ref (ad 0), .int p1, .int p2] (qw_Pre D cy (Wm cy ad I A w) sz)) (qw_Q (some (.int rv)) D (Wm cy ad I9 A w) (va_A (Wm cy ad I A w) sz)) 0 0 (va_A (Wm cy ad I A w) sz) := by
  refine qw_of (cc := cX8_groupProperty) (maxL := 3) (ret := (some .int)) (by decide) (Nat.le_of_ble_eq_true rfl) ?_
  intro p e s m args below meth c ls S0 hr hlocks hsz V hl
  have S0 : CallFix p m c cX8_groupProperty 3 s args qw_big RX8 := S0
  have hx := S0.1; have hb := S0.2.1; have hown := S0.2.2.2.1; have hts := S0.2.2.2.2
  have hl : lv_has ls 3 [(0, .ref (ad 0)), (1, .int p1), (2, .int p2)] := hl
  generalize va_A (Wm cy ad I A w) sz = Z9 at V ⊢
  obtain ⟨Q9, hQ⟩ : ∃ q, q = MQ below (qw_Q (some (.int rv)) D (Wm cy ad I9 A w) Z9) args s 0 0 Z9 := ⟨_, rfl⟩
  rw [← hQ]
  clear hsz
  unfold f_X8_groupProperty at hf
  refine lv_aload_n hx hb dX8_groupProperty_0 rfl (lv_at hl 0 rfl) ?_
  refine lv_aload_n hx hb dX8_groupProperty_1 rfl (lv_at hl 0 rfl) ?_
  refine lv_iload_n hx hb dX8_groupProperty_2 rfl (lv_at hl 1 rfl) ?_
  obtain ⟨r1, hc_3, hf⟩ := qf_bd_e hf
  refine qw_cVR (rest := [.ref (ad 0)]) (st1 := [.int r1, .ref (ad 0)]) S0 V hl 0 gM_0 rfl (c_X8_isGroup l hc_3) kg_X8_197 rfl ⟨rfl, rfl⟩ kd_X8_isGroup ⟨Nat.le_of_ble_eq_true rfl, Nat.le_of_ble_eq_true rfl⟩ rfl rfl (Nat.le_of_ble_eq_true rfl) ⟨Nat.zero_le _, Nat.zero_le _⟩ rfl dX8_groupProperty_3 ?_
  obtain ⟨r2, I3, hc_6, hf⟩ := qf_bd2_e hf
  refine qw_cV (rest := []) (st1 := [.int r2]) S0 V hl 0 gM_0 rfl (c_X8_fails l hc_6) kg_X8_201 rfl ⟨rfl, rfl⟩ kd_X8_fails ⟨Nat.le_of_ble_eq_true rfl, Nat.le_of_ble_eq_true rfl⟩ rfl rfl (Nat.le_of_ble_eq_true rfl) ⟨Nat.zero_le _, Nat.zero_le _⟩ rfl dX8_groupProperty_6 (fun H locs V => ?_)
  refine lv_if_eq (tgt := 14) hx hb dX8_groupProperty_9 (by decide) (fun c_9 => ?_) (fun c_9 => ?_)
  · replace hf := qf_t c_9 hf
    refine lv_iload_n hx hb dX8_groupProperty_14 rfl (lv_at hl 2 rfl) ?_
    by_cases c_15_0 : p2 = 0
    · replace hf := qf_t c_15_0 hf
      refine lv_tableIn (tgt := 48) hx hb dX8_groupProperty_15 (by rw [c_15_0]; decide) (by rw [c_15_0]; decide) (by rw [c_15_0]; rfl) (by decide) ?_
      refine lv_aload_n hx hb dX8_groupProperty_48 rfl (lv_at hl 0 rfl) ?_
      refine gfM_0_0 S0 V kl_X8_7 dX8_groupProperty_49 ?_
      refine lv_iconst (v := 3) hx hb dX8_groupProperty_52 (by decide) ?_
      refine lv_iload_n hx hb dX8_groupProperty_53 rfl (lv_at hl 1 rfl) ?_
      refine lv_iadd hx hb dX8_groupProperty_54 ?_
      have h_55 := qf_ld_in hf
      refine alM_1 S0 V h_55 dX8_groupProperty_55 ?_
      refine lv_topi (fun x4 e_x4 => ?_)
      replace hf := qf_ld_e e_x4 hf
      have hE := Option.some.inj hf
      obtain ⟨e0, hE⟩ := qf_pr hE
      exact qw_ireti S0 hr hlocks hQ e0 (by rw [hE]) V dX8_groupProperty_56
    replace hf := qf_f c_15_0 hf
    by_cases c_15_1 : p2 = 1
    · replace hf := qf_t c_15_1 hf
      refine lv_tableIn (tgt := 57) hx hb dX8_groupProperty_15 (by rw [c_15_1]; decide) (by rw [c_15_1]; decide) (by rw [c_15_1]; rfl) (by decide) ?_
      refine lv_aload_n hx hb dX8_groupProperty_57 rfl (lv_at hl 0 rfl) ?_
      refine gfM_0_5 S0 V kl_X8_19 dX8_groupProperty_58 ?_
      refine lv_iconst (v := 4) hx hb dX8_groupProperty_61 (by decide) ?_
      refine lv_iload_n hx hb dX8_groupProperty_62 rfl (lv_at hl 1 rfl) ?_
      refine lv_iadd hx hb dX8_groupProperty_63 ?_
      have h_64 := qf_ld_in hf
      refine alM_4 S0 V h_64 dX8_groupProperty_64 ?_
      refine lv_topi (fun x5 e_x5 => ?_)
      replace hf := qf_ld_e e_x5 hf
      have hE := Option.some.inj hf
      obtain ⟨e0, hE⟩ := qf_pr hE
      exact qw_ireti S0 hr hlocks hQ e0 (by rw [hE]) V dX8_groupProperty_65
    replace hf := qf_f c_15_1 hf
    by_cases c_15_2 : p2 = 2
    · replace hf := qf_t c_15_2 hf
      refine lv_tableIn (tgt := 66) hx hb dX8_groupProperty_15 (by rw [c_15_2]; decide) (by rw [c_15_2]; decide) (by rw [c_15_2]; rfl) (by decide) ?_
      refine lv_aload_n hx hb dX8_groupProperty_66 rfl (lv_at hl 0 rfl) ?_
      refine gfM_0_5 S0 V kl_X8_19 dX8_groupProperty_67 ?_
      refine lv_bipush (v := 8) hx hb dX8_groupProperty_70 (by decide) ?_
      refine lv_iload_n hx hb dX8_groupProperty_72 rfl (lv_at hl 1 rfl) ?_
      refine lv_iadd hx hb dX8_groupProperty_73 ?_
      have h_74 := qf_ld_in hf
      refine alM_4 S0 V h_74 dX8_groupProperty_74 ?_
      refine lv_topi (fun x6 e_x6 => ?_)
      replace hf := qf_ld_e e_x6 hf
      have hE := Option.some.inj hf
      obtain ⟨e0, hE⟩ := qf_pr hE
      exact qw_ireti S0 hr hlocks hQ e0 (by rw [hE]) V dX8_groupProperty_75
    replace hf := qf_f c_15_2 hf
    by_cases c_15_3 : p2 = 3
    · replace hf := qf_t c_15_3 hf
      refine lv_tableIn (tgt := 76) hx hb dX8_groupProperty_15 (by rw [c_15_3]; decide) (by rw [c_15_3]; decide) (by rw [c_15_3]; rfl) (by decide) ?_
      refine lv_aload_n hx hb dX8_groupProperty_76 rfl (lv_at hl 0 rfl) ?_
      refine gfM_0_5 S0 V kl_X8_19 dX8_groupProperty_77 ?_
      refine lv_bipush (v := 12) hx hb dX8_groupProperty_80 (by decide) ?_
      refine lv_iload_n hx hb dX8_groupProperty_82 rfl (lv_at hl 1 rfl) ?_
      refine lv_iadd hx hb dX8_groupProperty_83 ?_
      have h_84 := qf_ld_in hf
      refine alM_4 S0 V h_84 dX8_groupProperty_84 ?_
      refine lv_topi (fun x7 e_x7 => ?_)
      replace hf := qf_ld_e e_x7 hf
      have hE := Option.some.inj hf
      obtain ⟨e0, hE⟩ := qf_pr hE
      exact qw_ireti S0 hr hlocks hQ e0 (by rw [hE]) V dX8_groupProperty_85
    replace hf := qf_f c_15_3 hf
    by_cases c_15_4 : p2 = 4
    · replace hf := qf_t c_15_4 hf
      refine lv_tableIn (tgt := 86) hx hb dX8_groupProperty_15 (by rw [c_15_4]; decide) (by rw [c_15_4]; decide) (by rw [c_15_4]; rfl) (by decide) ?_
      refine lv_aload_n hx hb dX8_groupProperty_86 rfl (lv_at hl 0 rfl) ?_
      refine gfM_0_5 S0 V kl_X8_19 dX8_groupProperty_87 ?_
      refine lv_bipush (v := 16) hx hb dX8_groupProperty_90 (by decide) ?_
      refine lv_iload_n hx hb dX8_groupProperty_92 rfl (lv_at hl 1 rfl) ?_
      refine lv_iadd hx hb dX8_groupProperty_93 ?_
      have h_94 := qf_ld_in hf
      refine alM_4 S0 V h_94 dX8_groupProperty_94 ?_
      refine lv_topi (fun x8 e_x8 => ?_)
      replace hf := qf_ld_e e_x8 hf
      have hE := Option.some.inj hf
      obtain ⟨e0, hE⟩ := qf_pr hE
      exact qw_ireti S0 hr hlocks hQ e0 (by rw [hE]) V dX8_groupProperty_95
    replace hf := qf_f c_15_4 hf
    refine lv_tableOut (tgt := 96) hx hb dX8_groupProperty_15 (qw_tab 4 (by intro k hk; rcases (show k = 0 ∨ k = 1 ∨ k = 2 ∨ k = 3 ∨ k = 4 by omega) with rfl | rfl | rfl | rfl | rfl <;> assumption)) (by decide) ?_
    refine lv_bipush (v := -2) hx hb dX8_groupProperty_96 (by decide) ?_
    have hE := Option.some.inj hf
    obtain ⟨e0, hE⟩ := qf_pr hE
    exact qw_ireti S0 hr hlocks hQ e0 (by rw [hE]) V dX8_groupProperty_98
  · replace hf := qf_f c_9 hf
    refine lv_iconst (v := 0) hx hb dX8_groupProperty_12 (by decide) ?_
    have hE := Option.some.inj hf
    obtain ⟨e0, hE⟩ := qf_pr hE
    exact qw_ireti S0 hr hlocks hQ e0 (by rw [hE]) V dX8_groupProperty_13
theorem kd_X8_goodProperty : yX8_goodProperty.cls = RX8 ∧ yX8_goodProperty.cls ≠ "java/lang/invoke/MethodHandle" ∧ yX8_goodProperty.cls ≠ "java/lang/invoke/VarHandle" ∧ (parseMethodDescriptor yX8_goodProperty.desc).map (fun d => d.parameters.length) = some 2 := by decide +kernel
def f_X8_goodProperty (A : Nat → Nat → Int32) (I : Nat → Int32) (p1 : Int32) (p2 : Int32) : Option (Int32 × (Nat → Int32)) :=
  qf_bd (f_X8_isGood A p1) fun r1 =>
  qf_bd2 (f_X8_fails I r1) fun r2 I3 =>
  if r2 = 0 then (if p2 = 0 then (qf_ld 62 (A 3) ((20 : Int32) + p1) fun x6 =>
      some (x6, I3)) else (if p2 = (1 : Int32) then (qf_ld 62 (A 3) ((26 : Int32) + p1) fun x5 =>
        some (x5, I3)) else (if p2 = (2 : Int32) then (qf_ld 62 (A 3) ((32 : Int32) + p1) fun x4 =>
          some (x4, I3)) else (some ((-2 : Int32), I3))))) else (some ((0 : Int32), I3))
abbrev wz_X8_goodProperty : List Cond := Cond.code yX8_goodProperty cX8_goodProperty 3 (some .int) :: qw_big
def rm_X8_goodProperty : Room := { frames := 2, cells := 0, slots := 0, locals := 43 }
set_option maxHeartbeats 4000000 in
set_option maxRecDepth 100000 in
theorem c_X8_goodProperty (l : Launch) {D : va_G} {cy : Nat → ClassId} {ad : Nat → Nat} {I : Nat → Int32} {A : Nat → Nat → Int32} {w : Int64} {p1 : Int32} {p2 : Int32} {rv : Int32} {I9 : Nat → Int32} {sz : Nat} (hf : f_X8_goodProperty A I p1 p2 = some (rv, I9)) : Met l yX8_goodProperty wz_X8_goodProperty rm_X8_goodProperty (va_Pc [.ref (ad 0), .int p1, .int p2] (qw_Pre D cy (Wm cy ad I A w) sz)) (qw_Q (some (.int rv)) D (Wm cy ad I9 A w) (va_A (Wm cy ad I A w) sz)) 0 0 (va_A (Wm cy ad I A w) sz) := by
  refine qw_of (cc := cX8_goodProperty) (maxL := 3) (ret := (some .int)) (by decide) (Nat.le_of_ble_eq_true rfl) ?_
  intro p e s m args below meth c ls S0 hr hlocks hsz V hl
  have S0 : CallFix p m c cX8_goodProperty 3 s args qw_big RX8 := S0
  have hx := S0.1; have hb := S0.2.1; have hown := S0.2.2.2.1; have hts := S0.2.2.2.2
  have hl : lv_has ls 3 [(0, .ref (ad 0)), (1, .int p1), (2, .int p2)] := hl
  generalize va_A (Wm cy ad I A w) sz = Z9 at V ⊢
  obtain ⟨Q9, hQ⟩ : ∃ q, q = MQ below (qw_Q (some (.int rv)) D (Wm cy ad I9 A w) Z9) args s 0 0 Z9 := ⟨_, rfl⟩
  rw [← hQ]
  clear hsz
  unfold f_X8_goodProperty at hf
  refine lv_aload_n hx hb dX8_goodProperty_0 rfl (lv_at hl 0 rfl) ?_
  refine lv_aload_n hx hb dX8_goodProperty_1 rfl (lv_at hl 0 rfl) ?_
  refine lv_iload_n hx hb dX8_goodProperty_2 rfl (lv_at hl 1 rfl) ?_
  obtain ⟨r1, hc_3, hf⟩ := qf_bd_e hf
  refine qw_cVR (rest := [.ref (ad 0)]) (st1 := [.int r1, .ref (ad 0)]) S0 V hl 0 gM_0 rfl (c_X8_isGood l hc_3) kg_X8_205 rfl ⟨rfl, rfl⟩ kd_X8_isGood ⟨Nat.le_of_ble_eq_true rfl, Nat.le_of_ble_eq_true rfl⟩ rfl rfl (Nat.le_of_ble_eq_true rfl) ⟨Nat.zero_le _, Nat.zero_le _⟩ rfl dX8_goodProperty_3 ?_
  obtain ⟨r2, I3, hc_6, hf⟩ := qf_bd2_e hf
  refine qw_cV (rest := []) (st1 := [.int r2]) S0 V hl 0 gM_0 rfl (c_X8_fails l hc_6) kg_X8_201 rfl ⟨rfl, rfl⟩ kd_X8_fails ⟨Nat.le_of_ble_eq_true rfl, Nat.le_of_ble_eq_true rfl⟩ rfl rfl (Nat.le_of_ble_eq_true rfl) ⟨Nat.zero_le _, Nat.zero_le _⟩ rfl dX8_goodProperty_6 (fun H locs V => ?_)
  refine lv_if_eq (tgt := 14) hx hb dX8_goodProperty_9 (by decide) (fun c_9 => ?_) (fun c_9 => ?_)
  · replace hf := qf_t c_9 hf
    refine lv_iload_n hx hb dX8_goodProperty_14 rfl (lv_at hl 2 rfl) ?_
    refine lv_if_ne (tgt := 30) hx hb dX8_goodProperty_15 (by decide) (fun c_15 => ?_) (fun c_15 => ?_)
    · replace hf := qf_f c_15 hf
      refine lv_iload_n hx hb dX8_goodProperty_30 rfl (lv_at hl 2 rfl) ?_
      refine lv_iconst (v := 1) hx hb dX8_goodProperty_31 (by decide) ?_
      refine lv_icmp_ne (tgt := 47) hx hb dX8_goodProperty_32 (by decide) (fun c_32 => ?_) (fun c_32 => ?_)
      · replace hf := qf_f c_32 hf
        refine lv_iload_n hx hb dX8_goodProperty_47 rfl (lv_at hl 2 rfl) ?_
        refine lv_iconst (v := 2) hx hb dX8_goodProperty_48 (by decide) ?_
        refine lv_icmp_ne (tgt := 64) hx hb dX8_goodProperty_49 (by decide) (fun c_49 => ?_) (fun c_49 => ?_)
        · replace hf := qf_f c_49 hf
          refine lv_bipush (v := -2) hx hb dX8_goodProperty_64 (by decide) ?_
          have hE := Option.some.inj hf
          obtain ⟨e0, hE⟩ := qf_pr hE
          exact qw_ireti S0 hr hlocks hQ e0 (by rw [hE]) V dX8_goodProperty_66
        · replace hf := qf_t c_49 hf
          refine lv_aload_n hx hb dX8_goodProperty_52 rfl (lv_at hl 0 rfl) ?_
          refine gfM_0_5 S0 V kl_X8_19 dX8_goodProperty_53 ?_
          refine lv_bipush (v := 32) hx hb dX8_goodProperty_56 (by decide) ?_
          refine lv_iload_n hx hb dX8_goodProperty_58 rfl (lv_at hl 1 rfl) ?_
          refine lv_iadd hx hb dX8_goodProperty_59 ?_
          have h_60 := qf_ld_in hf
          refine alM_4 S0 V h_60 dX8_goodProperty_60 ?_
          refine lv_topi (fun x4 e_x4 => ?_)
          replace hf := qf_ld_e e_x4 hf
          refine lv_goto (tgt := 66) hx hb dX8_goodProperty_61 (by decide) ?_
          have hE := Option.some.inj hf
          obtain ⟨e0, hE⟩ := qf_pr hE
          exact qw_ireti S0 hr hlocks hQ e0 (by rw [hE]) V dX8_goodProperty_66
      · replace hf := qf_t c_32 hf
        refine lv_aload_n hx hb dX8_goodProperty_35 rfl (lv_at hl 0 rfl) ?_
        refine gfM_0_5 S0 V kl_X8_19 dX8_goodProperty_36 ?_
        refine lv_bipush (v := 26) hx hb dX8_goodProperty_39 (by decide) ?_
        refine lv_iload_n hx hb dX8_goodProperty_41 rfl (lv_at hl 1 rfl) ?_
        refine lv_iadd hx hb dX8_goodProperty_42 ?_
        have h_43 := qf_ld_in hf
        refine alM_4 S0 V h_43 dX8_goodProperty_43 ?_
        refine lv_topi (fun x5 e_x5 => ?_)
        replace hf := qf_ld_e e_x5 hf
        refine lv_goto (tgt := 66) hx hb dX8_goodProperty_44 (by decide) ?_
        have hE := Option.some.inj hf
        obtain ⟨e0, hE⟩ := qf_pr hE
        exact qw_ireti S0 hr hlocks hQ e0 (by rw [hE]) V dX8_goodProperty_66
    · replace hf := qf_t c_15 hf
      refine lv_aload_n hx hb dX8_goodProperty_18 rfl (lv_at hl 0 rfl) ?_
      refine gfM_0_5 S0 V kl_X8_19 dX8_goodProperty_19 ?_
      refine lv_bipush (v := 20) hx hb dX8_goodProperty_22 (by decide) ?_
      refine lv_iload_n hx hb dX8_goodProperty_24 rfl (lv_at hl 1 rfl) ?_
      refine lv_iadd hx hb dX8_goodProperty_25 ?_
      have h_26 := qf_ld_in hf
      refine alM_4 S0 V h_26 dX8_goodProperty_26 ?_
      refine lv_topi (fun x6 e_x6 => ?_)
      replace hf := qf_ld_e e_x6 hf
      refine lv_goto (tgt := 66) hx hb dX8_goodProperty_27 (by decide) ?_
      have hE := Option.some.inj hf
      obtain ⟨e0, hE⟩ := qf_pr hE
      exact qw_ireti S0 hr hlocks hQ e0 (by rw [hE]) V dX8_goodProperty_66
  · replace hf := qf_f c_9 hf
    refine lv_iconst (v := 0) hx hb dX8_goodProperty_12 (by decide) ?_
    have hE := Option.some.inj hf
    obtain ⟨e0, hE⟩ := qf_pr hE
    exact qw_ireti S0 hr hlocks hQ e0 (by rw [hE]) V dX8_goodProperty_13
theorem kd_X8_sizeOf : yX8_sizeOf.cls = RX8 ∧ yX8_sizeOf.cls ≠ "java/lang/invoke/MethodHandle" ∧ yX8_sizeOf.cls ≠ "java/lang/invoke/VarHandle" ∧ (parseMethodDescriptor yX8_sizeOf.desc).map (fun d => d.parameters.length) = some 1 := by decide +kernel
def f_X8_sizeOf (A : Nat → Nat → Int32) (I : Nat → Int32) (p1 : Int32) : Option (Int32 × (Nat → Int32)) :=
  qf_bd (f_X8_isHouse A p1) fun r1 =>
  qf_bd2 (f_X8_fails I r1) fun r2 I3 =>
  if r2 = 0 then (qf_ld 250 (A 0) ((7 : Int32) + p1) fun x4 =>
    some (x4, I3)) else (some ((0 : Int32), I3))
abbrev wz_X8_sizeOf : List Cond := Cond.code yX8_sizeOf cX8_sizeOf 2 (some .int) :: qw_big
def rm_X8_sizeOf : Room := { frames := 2, cells := 0, slots := 0, locals := 43 }
set_option maxHeartbeats 4000000 in
set_option maxRecDepth 100000 in
theorem c_X8_sizeOf (l : Launch) {D : va_G} {cy : Nat → ClassId} {ad : Nat → Nat} {I : Nat → Int32} {A : Nat → Nat → Int32} {w : Int64} {p1 : Int32} {rv : Int32} {I9 : Nat → Int32} {sz : Nat} (hf : f_X8_sizeOf A I p1 = some (rv, I9)) : Met l yX8_sizeOf wz_X8_sizeOf rm_X8_sizeOf (va_Pc [.ref (ad 0), .int p1] (qw_Pre D cy (Wm cy ad I A w) sz)) (qw_Q (some (.int rv)) D (Wm cy ad I9 A w) (va_A (Wm cy ad I A w) sz)) 0 0 (va_A (Wm cy ad I A w) sz) := by
  refine qw_of (cc := cX8_sizeOf) (maxL := 2) (ret := (some .int)) (by decide) (Nat.le_of_ble_eq_true rfl) ?_
  intro p e s m args below meth c ls S0 hr hlocks hsz V hl
  have S0 : CallFix p m c cX8_sizeOf 2 s args qw_big RX8 := S0
  have hx := S0.1; have hb := S0.2.1; have hown := S0.2.2.2.1; have hts := S0.2.2.2.2
  have hl : lv_has ls 2 [(0, .ref (ad 0)), (1, .int p1)] := hl
  generalize va_A (Wm cy ad I A w) sz = Z9 at V ⊢
  obtain ⟨Q9, hQ⟩ : ∃ q, q = MQ below (qw_Q (some (.int rv)) D (Wm cy ad I9 A w) Z9) args s 0 0 Z9 := ⟨_, rfl⟩
  rw [← hQ]
  clear hsz
  unfold f_X8_sizeOf at hf
  refine lv_aload_n hx hb dX8_sizeOf_0 rfl (lv_at hl 0 rfl) ?_
  refine lv_aload_n hx hb dX8_sizeOf_1 rfl (lv_at hl 0 rfl) ?_
  refine lv_iload_n hx hb dX8_sizeOf_2 rfl (lv_at hl 1 rfl) ?_
  obtain ⟨r1, hc_3, hf⟩ := qf_bd_e hf
  refine qw_cVR (rest := [.ref (ad 0)]) (st1 := [.int r1, .ref (ad 0)]) S0 V hl 0 gM_0 rfl (c_X8_isHouse l hc_3) kg_X8_208 rfl ⟨rfl, rfl⟩ kd_X8_isHouse ⟨Nat.le_of_ble_eq_true rfl, Nat.le_of_ble_eq_true rfl⟩ rfl rfl (Nat.le_of_ble_eq_true rfl) ⟨Nat.zero_le _, Nat.zero_le _⟩ rfl dX8_sizeOf_3 ?_
  obtain ⟨r2, I3, hc_6, hf⟩ := qf_bd2_e hf
  refine qw_cV (rest := []) (st1 := [.int r2]) S0 V hl 0 gM_0 rfl (c_X8_fails l hc_6) kg_X8_201 rfl ⟨rfl, rfl⟩ kd_X8_fails ⟨Nat.le_of_ble_eq_true rfl, Nat.le_of_ble_eq_true rfl⟩ rfl rfl (Nat.le_of_ble_eq_true rfl) ⟨Nat.zero_le _, Nat.zero_le _⟩ rfl dX8_sizeOf_6 (fun H locs V => ?_)
  refine lv_if_eq (tgt := 16) hx hb dX8_sizeOf_9 (by decide) (fun c_9 => ?_) (fun c_9 => ?_)
  · replace hf := qf_t c_9 hf
    refine lv_aload_n hx hb dX8_sizeOf_16 rfl (lv_at hl 0 rfl) ?_
    refine gfM_0_0 S0 V kl_X8_7 dX8_sizeOf_17 ?_
    refine lv_bipush (v := 7) hx hb dX8_sizeOf_20 (by decide) ?_
    refine lv_iload_n hx hb dX8_sizeOf_22 rfl (lv_at hl 1 rfl) ?_
    refine lv_iadd hx hb dX8_sizeOf_23 ?_
    have h_24 := qf_ld_in hf
    refine alM_1 S0 V h_24 dX8_sizeOf_24 ?_
    refine lv_topi (fun x4 e_x4 => ?_)
    replace hf := qf_ld_e e_x4 hf
    have hE := Option.some.inj hf
    obtain ⟨e0, hE⟩ := qf_pr hE
    exact qw_ireti S0 hr hlocks hQ e0 (by rw [hE]) V dX8_sizeOf_25
  · replace hf := qf_f c_9 hf
    refine lv_iconst (v := 0) hx hb dX8_sizeOf_12 (by decide) ?_
    refine lv_goto (tgt := 25) hx hb dX8_sizeOf_13 (by decide) ?_
    have hE := Option.some.inj hf
    obtain ⟨e0, hE⟩ := qf_pr hE
    exact qw_ireti S0 hr hlocks hQ e0 (by rw [hE]) V dX8_sizeOf_25
theorem kd_X8_getSetting : yX8_getSetting.cls = RX8 ∧ yX8_getSetting.cls ≠ "java/lang/invoke/MethodHandle" ∧ yX8_getSetting.cls ≠ "java/lang/invoke/VarHandle" ∧ (parseMethodDescriptor yX8_getSetting.desc).map (fun d => d.parameters.length) = some 1 := by decide +kernel
def f_X8_getSetting (A : Nat → Nat → Int32) (I : Nat → Int32) (p1 : Int32) : Option (Int32 × (Nat → Int32)) :=
  qf_let (upd I 1 (0 : Int32)) fun I1 =>
  qf_bd (f_X8_inRange p1 (0 : Int32) (2 : Int32)) fun r2 =>
  if r2 = 0 then (some ((-2 : Int32), I1)) else (qf_ld 250 (A 0) p1 fun x3 =>
    some (x3, I1))
abbrev wz_X8_getSetting : List Cond := Cond.code yX8_getSetting cX8_getSetting 2 (some .int) :: qw_big
def rm_X8_getSetting : Room := { frames := 1, cells := 0, slots := 0, locals := 22 }
set_option maxHeartbeats 4000000 in
set_option maxRecDepth 100000 in
theorem c_X8_getSetting (l : Launch) {D : va_G} {cy : Nat → ClassId} {ad : Nat → Nat} {I : Nat → Int32} {A : Nat → Nat → Int32} {w : Int64} {p1 : Int32} {rv : Int32} {I9 : Nat → Int32} {sz : Nat} (hf : f_X8_getSetting A I p1 = some (rv, I9)) : Met l yX8_getSetting wz_X8_getSetting rm_X8_getSetting (va_Pc [.ref (ad 0), .int p1] (qw_Pre D cy (Wm cy ad I A w) sz)) (qw_Q (some (.int rv)) D (Wm cy ad I9 A w) (va_A (Wm cy ad I A w) sz)) 0 0 (va_A (Wm cy ad I A w) sz) := by
  refine qw_of (cc := cX8_getSetting) (maxL := 2) (ret := (some .int)) (by decide) (Nat.le_of_ble_eq_true rfl) ?_
  intro p e s m args below meth c ls S0 hr hlocks hsz V hl
  have S0 : CallFix p m c cX8_getSetting 2 s args qw_big RX8 := S0
  have hx := S0.1; have hb := S0.2.1; have hown := S0.2.2.2.1; have hts := S0.2.2.2.2
  have hl : lv_has ls 2 [(0, .ref (ad 0)), (1, .int p1)] := hl
  generalize va_A (Wm cy ad I A w) sz = Z9 at V ⊢
  obtain ⟨Q9, hQ⟩ : ∃ q, q = MQ below (qw_Q (some (.int rv)) D (Wm cy ad I9 A w) Z9) args s 0 0 Z9 := ⟨_, rfl⟩
  rw [← hQ]
  clear hsz
  unfold f_X8_getSetting at hf
  refine lv_aload_n hx hb dX8_getSetting_0 rfl (lv_at hl 0 rfl) ?_
  refine lv_iconst (v := 0) hx hb dX8_getSetting_1 (by decide) ?_
  refine pfM_0_4 S0 V kl_X8_49 dX8_getSetting_2 (fun H locs I1 e_I1 V => ?_)
  replace hf := qf_let_e e_I1 hf
  refine lv_iload_n hx hb dX8_getSetting_5 rfl (lv_at hl 1 rfl) ?_
  refine lv_iconst (v := 0) hx hb dX8_getSetting_6 (by decide) ?_
  refine lv_iconst (v := 2) hx hb dX8_getSetting_7 (by decide) ?_
  obtain ⟨r2, hc_8, hf⟩ := qf_bd_e hf
  refine qw_cSR (rest := []) (st1 := [.int r2]) S0 V hl (c_X8_inRange l hc_8) kg_X8_85 rfl ⟨rfl, rfl⟩ kd_X8_inRange ⟨Nat.le_of_ble_eq_true rfl, Nat.le_of_ble_eq_true rfl⟩ rfl rfl (Nat.le_of_ble_eq_true rfl) ⟨Nat.zero_le _, Nat.zero_le _⟩ rfl dX8_getSetting_8 ?_
  refine lv_if_eq (tgt := 23) hx hb dX8_getSetting_11 (by decide) (fun c_11 => ?_) (fun c_11 => ?_)
  · replace hf := qf_t c_11 hf
    refine lv_bipush (v := -2) hx hb dX8_getSetting_23 (by decide) ?_
    have hE := Option.some.inj hf
    obtain ⟨e0, hE⟩ := qf_pr hE
    exact qw_ireti S0 hr hlocks hQ e0 (by rw [hE]) V dX8_getSetting_25
  · replace hf := qf_f c_11 hf
    refine lv_aload_n hx hb dX8_getSetting_14 rfl (lv_at hl 0 rfl) ?_
    refine gfM_0_0 S0 V kl_X8_7 dX8_getSetting_15 ?_
    refine lv_iload_n hx hb dX8_getSetting_18 rfl (lv_at hl 1 rfl) ?_
    have h_19 := qf_ld_in hf
    refine alM_1 S0 V h_19 dX8_getSetting_19 ?_
    refine lv_topi (fun x3 e_x3 => ?_)
    replace hf := qf_ld_e e_x3 hf
    refine lv_goto (tgt := 25) hx hb dX8_getSetting_20 (by decide) ?_
    have hE := Option.some.inj hf
    obtain ⟨e0, hE⟩ := qf_pr hE
    exact qw_ireti S0 hr hlocks hQ e0 (by rw [hE]) V dX8_getSetting_25
theorem kd_X8_couponsOf : yX8_couponsOf.cls = RX8 ∧ yX8_couponsOf.cls ≠ "java/lang/invoke/MethodHandle" ∧ yX8_couponsOf.cls ≠ "java/lang/invoke/VarHandle" ∧ (parseMethodDescriptor yX8_couponsOf.desc).map (fun d => d.parameters.length) = some 2 := by decide +kernel
def f_X8_couponsOf_l5 (A : Nat → Nat → Int32)  (y1 : Int32) (y2 : Int32) : Nat → Int32 → Int32 → Option (Int32)
  | 0, _, _ => none
  | n + 1, y3, y4 =>
  if (5 : Int32) ≤ y4 then (some (y3)) else (qf_bd (f_X8_at y1 y2) fun r1 =>
    qf_ld 250 (A 0) (r1 + y4) fun x2 =>
    qf_let ((y3 + x2)) fun x3 =>
    qf_let (y4 + (1 : Int32)) fun x4 =>
    f_X8_couponsOf_l5 A y1 y2 n x3 x4)
def f_X8_couponsOf (A : Nat → Nat → Int32) (p1 : Int32) (p2 : Int32) : Option (Int32) :=
  f_X8_couponsOf_l5 A p1 p2 100000 (0 : Int32) (0 : Int32)
abbrev wz_X8_couponsOf : List Cond := Cond.code yX8_couponsOf cX8_couponsOf 5 (some .int) :: qw_big
def rm_X8_couponsOf : Room := { frames := 1, cells := 0, slots := 0, locals := 21 }
set_option maxHeartbeats 4000000 in
set_option maxRecDepth 100000 in
theorem c_X8_couponsOf (l : Launch) {D : va_G} {cy : Nat → ClassId} {ad : Nat → Nat} {I : Nat → Int32} {A : Nat → Nat → Int32} {w : Int64} {p1 : Int32} {p2 : Int32} {rv : Int32} {sz : Nat} (hf : f_X8_couponsOf A p1 p2 = some (rv)) : Met l yX8_couponsOf wz_X8_couponsOf rm_X8_couponsOf (va_Pc [.ref (ad 0), .int p1, .int p2] (qw_Pre D cy (Wm cy ad I A w) sz)) (qw_R (some (.int rv))) 0 0 (fun _ => False) := by
  refine qw_of (cc := cX8_couponsOf) (maxL := 5) (ret := (some .int)) (by decide) (Nat.le_of_ble_eq_true rfl) ?_
  intro p e s m args below meth c ls S0 hr hlocks hsz V hl
  have S0 : CallFix p m c cX8_couponsOf 5 s args qw_big RX8 := S0
  have hx := S0.1; have hb := S0.2.1; have hown := S0.2.2.2.1; have hts := S0.2.2.2.2
  have hl : lv_has ls 5 [(0, .ref (ad 0)), (1, .int p1), (2, .int p2)] := hl
  obtain ⟨Q9, hQ⟩ : ∃ q, q = MQ below (qw_R (some (.int rv))) args s 0 0 (fun _ => False) := ⟨_, rfl⟩
  rw [← hQ]
  generalize va_A (Wm cy ad I A w) sz = Z9 at V
  have L_5 : ∀  {y1 : Int32} {y2 : Int32} {n : Nat}  {y3 : Int32} {y4 : Int32} {ls : Array Slot}, f_X8_couponsOf_l5 A y1 y2 n y3 y4 = some (rv) → lv_has ls 5 [(0, .ref (ad 0)), (1, .int y1), (2, .int y2), (3, .int y3), (4, .int y4)] → W p l e rm_X8_couponsOf s m args below meth c s.heap [] 0 0 Q9 (F0 m 5 ls []) := by
    intro y1 y2 n
    induction n with
    | zero => intro y3 y4 ls hf hl; exact qf_no hf
    | succ n ih =>
      intro y3 y4 ls hf hl
      rw [f_X8_couponsOf_l5] at hf
      refine lv_iload hx hb dX8_couponsOf_5 (lv_at hl 4 rfl) ?_
      refine lv_iconst (v := 5) hx hb dX8_couponsOf_7 (by decide) ?_
      refine lv_icmp_ge (tgt := 33) hx hb dX8_couponsOf_8 (by decide) (fun c_8 => ?_) (fun c_8 => ?_)
      · replace hf := qf_t c_8 hf
        refine lv_iload_n hx hb dX8_couponsOf_33 rfl (lv_at hl 3 rfl) ?_
        have hE := Option.some.inj hf
        exact qw_iretR S0 hr hlocks hQ hE dX8_couponsOf_34
      · replace hf := qf_f c_8 hf
        refine lv_iload_n hx hb dX8_couponsOf_11 rfl (lv_at hl 3 rfl) ?_
        refine lv_aload_n hx hb dX8_couponsOf_12 rfl (lv_at hl 0 rfl) ?_
        refine gfM_0_0 S0 V kl_X8_7 dX8_couponsOf_13 ?_
        refine lv_iload_n hx hb dX8_couponsOf_16 rfl (lv_at hl 1 rfl) ?_
        refine lv_iload_n hx hb dX8_couponsOf_17 rfl (lv_at hl 2 rfl) ?_
        obtain ⟨r1, hc_18, hf⟩ := qf_bd_e hf
        refine qw_cSR (rest := [.ref (ad 1), .int y3]) (st1 := [.int r1, .ref (ad 1), .int y3]) S0 V hl (c_X8_at l hc_18) kg_X8_211 rfl ⟨rfl, rfl⟩ kd_X8_at ⟨Nat.le_of_ble_eq_true rfl, Nat.le_of_ble_eq_true rfl⟩ rfl rfl (Nat.le_of_ble_eq_true rfl) ⟨Nat.zero_le _, Nat.zero_le _⟩ rfl dX8_couponsOf_18 ?_
        refine lv_iload hx hb dX8_couponsOf_21 (lv_at hl 4 rfl) ?_
        refine lv_iadd hx hb dX8_couponsOf_23 ?_
        have h_24 := qf_ld_in hf
        refine alM_1 S0 V h_24 dX8_couponsOf_24 ?_
        refine lv_topi (fun x2 e_x2 => ?_)
        replace hf := qf_ld_e e_x2 hf
        refine lv_iadd hx hb dX8_couponsOf_25 ?_
        refine lv_topi (fun x3 e_x3 => ?_)
        replace hf := qf_let_e e_x3 hf
        refine lv_istore_n (lv' := [(3, .int x3), (0, .ref (ad 0)), (1, .int y1), (2, .int y2), (4, .int y4)]) hx hb dX8_couponsOf_26 rfl hl (by decide) rfl (fun ls hl => ?_)
        obtain ⟨x4, e_x4⟩ : ∃ y : Int32, y = y4 + (1 : Int32) := ⟨_, rfl⟩
        refine lv_iinc (v := x4) (lv' := [(4, .int x4), (3, .int x3), (0, .ref (ad 0)), (1, .int y1), (2, .int y2)]) hx hb dX8_couponsOf_27 hl (k := 4) rfl (by rw [e_x4]; rfl) (by decide) rfl (fun ls hl => ?_)
        replace hf := qf_let_e e_x4 hf
        refine lv_goto (tgt := 5) hx hb dX8_couponsOf_30 (by decide) ?_
        exact ih hf (lv_sub hl [2, 3, 4, 1, 0] rfl)
  unfold f_X8_couponsOf at hf
  refine lv_iconst (v := 0) hx hb dX8_couponsOf_0 (by decide) ?_
  refine lv_istore_n (lv' := [(3, .int (0 : Int32)), (0, .ref (ad 0)), (1, .int p1), (2, .int p2)]) hx hb dX8_couponsOf_1 rfl hl (by decide) rfl (fun ls hl => ?_)
  refine lv_iconst (v := 0) hx hb dX8_couponsOf_2 (by decide) ?_
  refine lv_istore (lv' := [(4, .int (0 : Int32)), (3, .int (0 : Int32)), (0, .ref (ad 0)), (1, .int p1), (2, .int p2)]) hx hb dX8_couponsOf_3 hl (by decide) rfl (fun ls hl => ?_)
  exact L_5 hf (lv_sub hl [2, 3, 4, 1, 0] rfl)
theorem kd_X8_coupons : yX8_coupons.cls = RX8 ∧ yX8_coupons.cls ≠ "java/lang/invoke/MethodHandle" ∧ yX8_coupons.cls ≠ "java/lang/invoke/VarHandle" ∧ (parseMethodDescriptor yX8_coupons.desc).map (fun d => d.parameters.length) = some 2 := by decide +kernel
def f_X8_coupons_j22 (I : Nat → Int32) (A : Nat → Nat → Int32)  (y1 : Int32) (y2 : Int32) (s0 : Int32) : Option (Int32 × (Nat → Int32)) :=
  qf_bd2 (f_X8_fails I s0) fun r3 I4 =>
  if r3 = 0 then (qf_bd (f_X8_couponsOf A y1 y2) fun r5 =>
    some (r5, I4)) else (some ((0 : Int32), I4))
def f_X8_coupons_j21 (I : Nat → Int32) (A : Nat → Nat → Int32)  (y1 : Int32) (y2 : Int32) : Option (Int32 × (Nat → Int32)) :=
  f_X8_coupons_j22 I A y1 y2 (0 : Int32)
def f_X8_coupons (A : Nat → Nat → Int32) (I : Nat → Int32) (p1 : Int32) (p2 : Int32) : Option (Int32 × (Nat → Int32)) :=
  qf_bd (f_X8_isHouse A p1) fun r1 =>
  if r1 = 0 then (f_X8_coupons_j21 I A p1 p2) else (qf_bd (f_X8_isGroup A p2) fun r2 =>
    if r2 = 0 then (f_X8_coupons_j21 I A p1 p2) else (f_X8_coupons_j22 I A p1 p2 (1 : Int32)))
abbrev wz_X8_coupons : List Cond := Cond.code yX8_coupons cX8_coupons 3 (some .int) :: qw_big
def rm_X8_coupons : Room := { frames := 2, cells := 0, slots := 0, locals := 45 }
set_option maxHeartbeats 4000000 in
set_option maxRecDepth 100000 in
theorem c_X8_coupons (l : Launch) {D : va_G} {cy : Nat → ClassId} {ad : Nat → Nat} {I : Nat → Int32} {A : Nat → Nat → Int32} {w : Int64} {p1 : Int32} {p2 : Int32} {rv : Int32} {I9 : Nat → Int32} {sz : Nat} (hf : f_X8_coupons A I p1 p2 = some (rv, I9)) : Met l yX8_coupons wz_X8_coupons rm_X8_coupons (va_Pc [.ref (ad 0), .int p1, .int p2] (qw_Pre D cy (Wm cy ad I A w) sz)) (qw_Q (some (.int rv)) D (Wm cy ad I9 A w) (va_A (Wm cy ad I A w) sz)) 0 0 (va_A (Wm cy ad I A w) sz) := by
  refine qw_of (cc := cX8_coupons) (maxL := 3) (ret := (some .int)) (by decide) (Nat.le_of_ble_eq_true rfl) ?_
  intro p e s m args below meth c ls S0 hr hlocks hsz V hl
  have S0 : CallFix p m c cX8_coupons 3 s args qw_big RX8 := S0
  have hx := S0.1; have hb := S0.2.1; have hown := S0.2.2.2.1; have hts := S0.2.2.2.2
  have hl : lv_has ls 3 [(0, .ref (ad 0)), (1, .int p1), (2, .int p2)] := hl
  generalize va_A (Wm cy ad I A w) sz = Z9 at V ⊢
  obtain ⟨Q9, hQ⟩ : ∃ q, q = MQ below (qw_Q (some (.int rv)) D (Wm cy ad I9 A w) Z9) args s 0 0 Z9 := ⟨_, rfl⟩
  rw [← hQ]
  clear hsz
  have J_22 : ∀   {y1 : Int32} {y2 : Int32} {s0 : Int32} {H : Heap} {locs : List Loc} {ls : Array Slot}, f_X8_coupons_j22 I A y1 y2 s0 = some (rv, I9) → qw_V D cy Z9 s (Wm cy ad I A w) H locs → lv_has ls 3 [(0, .ref (ad 0)), (1, .int y1), (2, .int y2)] → W p l e rm_X8_coupons s m args below meth c H locs 0 0 Q9 (F0 m 22 ls [.int s0, .ref (ad 0)]) := by
    intro y1 y2 s0 H locs ls hf V hl
    unfold f_X8_coupons_j22 at hf
    obtain ⟨r3, I4, hc_22, hf⟩ := qf_bd2_e hf
    refine qw_cV (rest := []) (st1 := [.int r3]) S0 V hl 0 gM_0 rfl (c_X8_fails l hc_22) kg_X8_201 rfl ⟨rfl, rfl⟩ kd_X8_fails ⟨Nat.le_of_ble_eq_true rfl, Nat.le_of_ble_eq_true rfl⟩ rfl rfl (Nat.le_of_ble_eq_true rfl) ⟨Nat.zero_le _, Nat.zero_le _⟩ rfl dX8_coupons_22 (fun H locs V => ?_)
    refine lv_if_eq (tgt := 32) hx hb dX8_coupons_25 (by decide) (fun c_25 => ?_) (fun c_25 => ?_)
    · replace hf := qf_t c_25 hf
      refine lv_aload_n hx hb dX8_coupons_32 rfl (lv_at hl 0 rfl) ?_
      refine lv_iload_n hx hb dX8_coupons_33 rfl (lv_at hl 1 rfl) ?_
      refine lv_iload_n hx hb dX8_coupons_34 rfl (lv_at hl 2 rfl) ?_
      obtain ⟨r5, hc_35, hf⟩ := qf_bd_e hf
      refine qw_cVR (rest := []) (st1 := [.int r5]) S0 V hl 0 gM_0 rfl (c_X8_couponsOf l hc_35) kg_X8_214 rfl ⟨rfl, rfl⟩ kd_X8_couponsOf ⟨Nat.le_of_ble_eq_true rfl, Nat.le_of_ble_eq_true rfl⟩ rfl rfl (Nat.le_of_ble_eq_true rfl) ⟨Nat.zero_le _, Nat.zero_le _⟩ rfl dX8_coupons_35 ?_
      have hE := Option.some.inj hf
      obtain ⟨e0, hE⟩ := qf_pr hE
      exact qw_ireti S0 hr hlocks hQ e0 (by rw [hE]) V dX8_coupons_38
    · replace hf := qf_f c_25 hf
      refine lv_iconst (v := 0) hx hb dX8_coupons_28 (by decide) ?_
      refine lv_goto (tgt := 38) hx hb dX8_coupons_29 (by decide) ?_
      have hE := Option.some.inj hf
      obtain ⟨e0, hE⟩ := qf_pr hE
      exact qw_ireti S0 hr hlocks hQ e0 (by rw [hE]) V dX8_coupons_38
  have J_21 : ∀   {y1 : Int32} {y2 : Int32} {H : Heap} {locs : List Loc} {ls : Array Slot}, f_X8_coupons_j21 I A y1 y2 = some (rv, I9) → qw_V D cy Z9 s (Wm cy ad I A w) H locs → lv_has ls 3 [(0, .ref (ad 0)), (1, .int y1), (2, .int y2)] → W p l e rm_X8_coupons s m args below meth c H locs 0 0 Q9 (F0 m 21 ls [.ref (ad 0)]) := by
    intro y1 y2 H locs ls hf V hl
    unfold f_X8_coupons_j21 at hf
    refine lv_iconst (v := 0) hx hb dX8_coupons_21 (by decide) ?_
    exact J_22 hf V (lv_sub hl [0, 1, 2] rfl)
  unfold f_X8_coupons at hf
  refine lv_aload_n hx hb dX8_coupons_0 rfl (lv_at hl 0 rfl) ?_
  refine lv_aload_n hx hb dX8_coupons_1 rfl (lv_at hl 0 rfl) ?_
  refine lv_iload_n hx hb dX8_coupons_2 rfl (lv_at hl 1 rfl) ?_
  obtain ⟨r1, hc_3, hf⟩ := qf_bd_e hf
  refine qw_cVR (rest := [.ref (ad 0)]) (st1 := [.int r1, .ref (ad 0)]) S0 V hl 0 gM_0 rfl (c_X8_isHouse l hc_3) kg_X8_208 rfl ⟨rfl, rfl⟩ kd_X8_isHouse ⟨Nat.le_of_ble_eq_true rfl, Nat.le_of_ble_eq_true rfl⟩ rfl rfl (Nat.le_of_ble_eq_true rfl) ⟨Nat.zero_le _, Nat.zero_le _⟩ rfl dX8_coupons_3 ?_
  refine lv_if_eq (tgt := 21) hx hb dX8_coupons_6 (by decide) (fun c_6 => ?_) (fun c_6 => ?_)
  · replace hf := qf_t c_6 hf
    exact J_21 hf V (lv_sub hl [0, 1, 2] rfl)
  · replace hf := qf_f c_6 hf
    refine lv_aload_n hx hb dX8_coupons_9 rfl (lv_at hl 0 rfl) ?_
    refine lv_iload_n hx hb dX8_coupons_10 rfl (lv_at hl 2 rfl) ?_
    obtain ⟨r2, hc_11, hf⟩ := qf_bd_e hf
    refine qw_cVR (rest := [.ref (ad 0)]) (st1 := [.int r2, .ref (ad 0)]) S0 V hl 0 gM_0 rfl (c_X8_isGroup l hc_11) kg_X8_197 rfl ⟨rfl, rfl⟩ kd_X8_isGroup ⟨Nat.le_of_ble_eq_true rfl, Nat.le_of_ble_eq_true rfl⟩ rfl rfl (Nat.le_of_ble_eq_true rfl) ⟨Nat.zero_le _, Nat.zero_le _⟩ rfl dX8_coupons_11 ?_
    refine lv_if_eq (tgt := 21) hx hb dX8_coupons_14 (by decide) (fun c_14 => ?_) (fun c_14 => ?_)
    · replace hf := qf_t c_14 hf
      exact J_21 hf V (lv_sub hl [0, 1, 2] rfl)
    · replace hf := qf_f c_14 hf
      refine lv_iconst (v := 1) hx hb dX8_coupons_17 (by decide) ?_
      refine lv_goto (tgt := 22) hx hb dX8_coupons_18 (by decide) ?_
      exact J_22 hf V (lv_sub hl [0, 1, 2] rfl)
theorem kd_X8_couponsWith : yX8_couponsWith.cls = RX8 ∧ yX8_couponsWith.cls ≠ "java/lang/invoke/MethodHandle" ∧ yX8_couponsWith.cls ≠ "java/lang/invoke/VarHandle" ∧ (parseMethodDescriptor yX8_couponsWith.desc).map (fun d => d.parameters.length) = some 3 := by decide +kernel
def f_X8_couponsWith_j22 (I : Nat → Int32) (A : Nat → Nat → Int32)  (y1 : Int32) (y2 : Int32) (y3 : Int32) (s0 : Int32) : Option (Int32 × (Nat → Int32)) :=
  qf_bd2 (f_X8_fails I s0) fun r3 I4 =>
  if r3 = 0 then (qf_bd (f_X8_inRange y3 (0 : Int32) (4 : Int32)) fun r5 =>
    if r5 = 0 then (some ((-2 : Int32), I4)) else (qf_bd (f_X8_at y1 y2) fun r6 =>
      qf_ld 250 (A 0) (r6 + y3) fun x7 =>
      some (x7, I4))) else (some ((0 : Int32), I4))
def f_X8_couponsWith_j21 (I : Nat → Int32) (A : Nat → Nat → Int32)  (y1 : Int32) (y2 : Int32) (y3 : Int32) : Option (Int32 × (Nat → Int32)) :=
  f_X8_couponsWith_j22 I A y1 y2 y3 (0 : Int32)
def f_X8_couponsWith (A : Nat → Nat → Int32) (I : Nat → Int32) (p1 : Int32) (p2 : Int32) (p3 : Int32) : Option (Int32 × (Nat → Int32)) :=
  qf_bd (f_X8_isHouse A p1) fun r1 =>
  if r1 = 0 then (f_X8_couponsWith_j21 I A p1 p2 p3) else (qf_bd (f_X8_isGroup A p2) fun r2 =>
    if r2 = 0 then (f_X8_couponsWith_j21 I A p1 p2 p3) else (f_X8_couponsWith_j22 I A p1 p2 p3 (1 : Int32)))
abbrev wz_X8_couponsWith : List Cond := Cond.code yX8_couponsWith cX8_couponsWith 4 (some .int) :: qw_big
def rm_X8_couponsWith : Room := { frames := 2, cells := 0, slots := 0, locals := 43 }
set_option maxHeartbeats 4000000 in
set_option maxRecDepth 100000 in
theorem c_X8_couponsWith (l : Launch) {D : va_G} {cy : Nat → ClassId} {ad : Nat → Nat} {I : Nat → Int32} {A : Nat → Nat → Int32} {w : Int64} {p1 : Int32} {p2 : Int32} {p3 : Int32} {rv : Int32} {I9 : Nat → Int32} {sz : Nat} (hf : f_X8_couponsWith A I p1 p2 p3 = some (rv, I9)) : Met l yX8_couponsWith wz_X8_couponsWith rm_X8_couponsWith (va_Pc [.ref (ad 0), .int p1, .int p2, .int p3] (qw_Pre D cy (Wm cy ad I A w) sz)) (qw_Q (some (.int rv)) D (Wm cy ad I9 A w) (va_A (Wm cy ad I A w) sz)) 0 0 (va_A (Wm cy ad I A w) sz) := by
  refine qw_of (cc := cX8_couponsWith) (maxL := 4) (ret := (some .int)) (by decide) (Nat.le_of_ble_eq_true rfl) ?_
  intro p e s m args below meth c ls S0 hr hlocks hsz V hl
  have S0 : CallFix p m c cX8_couponsWith 4 s args qw_big RX8 := S0
  have hx := S0.1; have hb := S0.2.1; have hown := S0.2.2.2.1; have hts := S0.2.2.2.2
  have hl : lv_has ls 4 [(0, .ref (ad 0)), (1, .int p1), (2, .int p2), (3, .int p3)] := hl
  generalize va_A (Wm cy ad I A w) sz = Z9 at V ⊢
  obtain ⟨Q9, hQ⟩ : ∃ q, q = MQ below (qw_Q (some (.int rv)) D (Wm cy ad I9 A w) Z9) args s 0 0 Z9 := ⟨_, rfl⟩
  rw [← hQ]
  clear hsz
  have J_22 : ∀   {y1 : Int32} {y2 : Int32} {y3 : Int32} {s0 : Int32} {H : Heap} {locs : List Loc} {ls : Array Slot}, f_X8_couponsWith_j22 I A y1 y2 y3 s0 = some (rv, I9) → qw_V D cy Z9 s (Wm cy ad I A w) H locs → lv_has ls 4 [(0, .ref (ad 0)), (1, .int y1), (2, .int y2), (3, .int y3)] → W p l e rm_X8_couponsWith s m args below meth c H locs 0 0 Q9 (F0 m 22 ls [.int s0, .ref (ad 0)]) := by
    intro y1 y2 y3 s0 H locs ls hf V hl
    unfold f_X8_couponsWith_j22 at hf
    obtain ⟨r3, I4, hc_22, hf⟩ := qf_bd2_e hf
    refine qw_cV (rest := []) (st1 := [.int r3]) S0 V hl 0 gM_0 rfl (c_X8_fails l hc_22) kg_X8_201 rfl ⟨rfl, rfl⟩ kd_X8_fails ⟨Nat.le_of_ble_eq_true rfl, Nat.le_of_ble_eq_true rfl⟩ rfl rfl (Nat.le_of_ble_eq_true rfl) ⟨Nat.zero_le _, Nat.zero_le _⟩ rfl dX8_couponsWith_22 (fun H locs V => ?_)
    refine lv_if_eq (tgt := 30) hx hb dX8_couponsWith_25 (by decide) (fun c_25 => ?_) (fun c_25 => ?_)
    · replace hf := qf_t c_25 hf
      refine lv_iload_n hx hb dX8_couponsWith_30 rfl (lv_at hl 3 rfl) ?_
      refine lv_iconst (v := 0) hx hb dX8_couponsWith_31 (by decide) ?_
      refine lv_iconst (v := 4) hx hb dX8_couponsWith_32 (by decide) ?_
      obtain ⟨r5, hc_33, hf⟩ := qf_bd_e hf
      refine qw_cSR (rest := []) (st1 := [.int r5]) S0 V hl (c_X8_inRange l hc_33) kg_X8_85 rfl ⟨rfl, rfl⟩ kd_X8_inRange ⟨Nat.le_of_ble_eq_true rfl, Nat.le_of_ble_eq_true rfl⟩ rfl rfl (Nat.le_of_ble_eq_true rfl) ⟨Nat.zero_le _, Nat.zero_le _⟩ rfl dX8_couponsWith_33 ?_
      refine lv_if_eq (tgt := 54) hx hb dX8_couponsWith_36 (by decide) (fun c_36 => ?_) (fun c_36 => ?_)
      · replace hf := qf_t c_36 hf
        refine lv_bipush (v := -2) hx hb dX8_couponsWith_54 (by decide) ?_
        have hE := Option.some.inj hf
        obtain ⟨e0, hE⟩ := qf_pr hE
        exact qw_ireti S0 hr hlocks hQ e0 (by rw [hE]) V dX8_couponsWith_56
      · replace hf := qf_f c_36 hf
        refine lv_aload_n hx hb dX8_couponsWith_39 rfl (lv_at hl 0 rfl) ?_
        refine gfM_0_0 S0 V kl_X8_7 dX8_couponsWith_40 ?_
        refine lv_iload_n hx hb dX8_couponsWith_43 rfl (lv_at hl 1 rfl) ?_
        refine lv_iload_n hx hb dX8_couponsWith_44 rfl (lv_at hl 2 rfl) ?_
        obtain ⟨r6, hc_45, hf⟩ := qf_bd_e hf
        refine qw_cSR (rest := [.ref (ad 1)]) (st1 := [.int r6, .ref (ad 1)]) S0 V hl (c_X8_at l hc_45) kg_X8_211 rfl ⟨rfl, rfl⟩ kd_X8_at ⟨Nat.le_of_ble_eq_true rfl, Nat.le_of_ble_eq_true rfl⟩ rfl rfl (Nat.le_of_ble_eq_true rfl) ⟨Nat.zero_le _, Nat.zero_le _⟩ rfl dX8_couponsWith_45 ?_
        refine lv_iload_n hx hb dX8_couponsWith_48 rfl (lv_at hl 3 rfl) ?_
        refine lv_iadd hx hb dX8_couponsWith_49 ?_
        have h_50 := qf_ld_in hf
        refine alM_1 S0 V h_50 dX8_couponsWith_50 ?_
        refine lv_topi (fun x7 e_x7 => ?_)
        replace hf := qf_ld_e e_x7 hf
        refine lv_goto (tgt := 56) hx hb dX8_couponsWith_51 (by decide) ?_
        have hE := Option.some.inj hf
        obtain ⟨e0, hE⟩ := qf_pr hE
        exact qw_ireti S0 hr hlocks hQ e0 (by rw [hE]) V dX8_couponsWith_56
    · replace hf := qf_f c_25 hf
      refine lv_iconst (v := 0) hx hb dX8_couponsWith_28 (by decide) ?_
      have hE := Option.some.inj hf
      obtain ⟨e0, hE⟩ := qf_pr hE
      exact qw_ireti S0 hr hlocks hQ e0 (by rw [hE]) V dX8_couponsWith_29
  have J_21 : ∀   {y1 : Int32} {y2 : Int32} {y3 : Int32} {H : Heap} {locs : List Loc} {ls : Array Slot}, f_X8_couponsWith_j21 I A y1 y2 y3 = some (rv, I9) → qw_V D cy Z9 s (Wm cy ad I A w) H locs → lv_has ls 4 [(0, .ref (ad 0)), (1, .int y1), (2, .int y2), (3, .int y3)] → W p l e rm_X8_couponsWith s m args below meth c H locs 0 0 Q9 (F0 m 21 ls [.ref (ad 0)]) := by
    intro y1 y2 y3 H locs ls hf V hl
    unfold f_X8_couponsWith_j21 at hf
    refine lv_iconst (v := 0) hx hb dX8_couponsWith_21 (by decide) ?_
    exact J_22 hf V (lv_sub hl [0, 1, 2, 3] rfl)
  unfold f_X8_couponsWith at hf
  refine lv_aload_n hx hb dX8_couponsWith_0 rfl (lv_at hl 0 rfl) ?_
  refine lv_aload_n hx hb dX8_couponsWith_1 rfl (lv_at hl 0 rfl) ?_
  refine lv_iload_n hx hb dX8_couponsWith_2 rfl (lv_at hl 1 rfl) ?_
  obtain ⟨r1, hc_3, hf⟩ := qf_bd_e hf
  refine qw_cVR (rest := [.ref (ad 0)]) (st1 := [.int r1, .ref (ad 0)]) S0 V hl 0 gM_0 rfl (c_X8_isHouse l hc_3) kg_X8_208 rfl ⟨rfl, rfl⟩ kd_X8_isHouse ⟨Nat.le_of_ble_eq_true rfl, Nat.le_of_ble_eq_true rfl⟩ rfl rfl (Nat.le_of_ble_eq_true rfl) ⟨Nat.zero_le _, Nat.zero_le _⟩ rfl dX8_couponsWith_3 ?_
  refine lv_if_eq (tgt := 21) hx hb dX8_couponsWith_6 (by decide) (fun c_6 => ?_) (fun c_6 => ?_)
  · replace hf := qf_t c_6 hf
    exact J_21 hf V (lv_sub hl [0, 1, 2, 3] rfl)
  · replace hf := qf_f c_6 hf
    refine lv_aload_n hx hb dX8_couponsWith_9 rfl (lv_at hl 0 rfl) ?_
    refine lv_iload_n hx hb dX8_couponsWith_10 rfl (lv_at hl 2 rfl) ?_
    obtain ⟨r2, hc_11, hf⟩ := qf_bd_e hf
    refine qw_cVR (rest := [.ref (ad 0)]) (st1 := [.int r2, .ref (ad 0)]) S0 V hl 0 gM_0 rfl (c_X8_isGroup l hc_11) kg_X8_197 rfl ⟨rfl, rfl⟩ kd_X8_isGroup ⟨Nat.le_of_ble_eq_true rfl, Nat.le_of_ble_eq_true rfl⟩ rfl rfl (Nat.le_of_ble_eq_true rfl) ⟨Nat.zero_le _, Nat.zero_le _⟩ rfl dX8_couponsWith_11 ?_
    refine lv_if_eq (tgt := 21) hx hb dX8_couponsWith_14 (by decide) (fun c_14 => ?_) (fun c_14 => ?_)
    · replace hf := qf_t c_14 hf
      exact J_21 hf V (lv_sub hl [0, 1, 2, 3] rfl)
    · replace hf := qf_f c_14 hf
      refine lv_iconst (v := 1) hx hb dX8_couponsWith_17 (by decide) ?_
      refine lv_goto (tgt := 22) hx hb dX8_couponsWith_18 (by decide) ?_
      exact J_22 hf V (lv_sub hl [0, 1, 2, 3] rfl)
theorem kd_X8_carriedOf : yX8_carriedOf.cls = RX8 ∧ yX8_carriedOf.cls ≠ "java/lang/invoke/MethodHandle" ∧ yX8_carriedOf.cls ≠ "java/lang/invoke/VarHandle" ∧ (parseMethodDescriptor yX8_carriedOf.desc).map (fun d => d.parameters.length) = some 2 := by decide +kernel
def f_X8_carriedOf (A : Nat → Nat → Int32) (p1 : Int32) (p2 : Int32) : Option (Int32) :=
  qf_ld 62 (A 3) ((8 : Int32) + p1) fun x1 =>
  some (((p2 * x1) / (100 : Int32)))
abbrev wz_X8_carriedOf : List Cond := Cond.code yX8_carriedOf cX8_carriedOf 3 (some .int) :: qw_big
def rm_X8_carriedOf : Room := { frames := 0, cells := 0, slots := 0, locals := 0 }
set_option maxHeartbeats 4000000 in
set_option maxRecDepth 100000 in
theorem c_X8_carriedOf (l : Launch) {D : va_G} {cy : Nat → ClassId} {ad : Nat → Nat} {I : Nat → Int32} {A : Nat → Nat → Int32} {w : Int64} {p1 : Int32} {p2 : Int32} {rv : Int32} {sz : Nat} (hf : f_X8_carriedOf A p1 p2 = some (rv)) : Met l yX8_carriedOf wz_X8_carriedOf rm_X8_carriedOf (va_Pc [.ref (ad 0), .int p1, .int p2] (qw_Pre D cy (Wm cy ad I A w) sz)) (qw_R (some (.int rv))) 0 0 (fun _ => False) := by
  refine qw_of (cc := cX8_carriedOf) (maxL := 3) (ret := (some .int)) (by decide) (Nat.le_of_ble_eq_true rfl) ?_
  intro p e s m args below meth c ls S0 hr hlocks hsz V hl
  have S0 : CallFix p m c cX8_carriedOf 3 s args qw_big RX8 := S0
  have hx := S0.1; have hb := S0.2.1; have hown := S0.2.2.2.1; have hts := S0.2.2.2.2
  have hl : lv_has ls 3 [(0, .ref (ad 0)), (1, .int p1), (2, .int p2)] := hl
  obtain ⟨Q9, hQ⟩ : ∃ q, q = MQ below (qw_R (some (.int rv))) args s 0 0 (fun _ => False) := ⟨_, rfl⟩
  rw [← hQ]
  generalize va_A (Wm cy ad I A w) sz = Z9 at V
  unfold f_X8_carriedOf at hf
  refine lv_iload_n hx hb dX8_carriedOf_0 rfl (lv_at hl 2 rfl) ?_
  refine lv_aload_n hx hb dX8_carriedOf_1 rfl (lv_at hl 0 rfl) ?_
  refine gfM_0_5 S0 V kl_X8_19 dX8_carriedOf_2 ?_
  refine lv_bipush (v := 8) hx hb dX8_carriedOf_5 (by decide) ?_
  refine lv_iload_n hx hb dX8_carriedOf_7 rfl (lv_at hl 1 rfl) ?_
  refine lv_iadd hx hb dX8_carriedOf_8 ?_
  have h_9 := qf_ld_in hf
  refine alM_4 S0 V h_9 dX8_carriedOf_9 ?_
  refine lv_topi (fun x1 e_x1 => ?_)
  replace hf := qf_ld_e e_x1 hf
  refine lv_imul hx hb dX8_carriedOf_10 ?_
  refine lv_bipush (v := 100) hx hb dX8_carriedOf_11 (by decide) ?_
  refine lv_idiv hx hb dX8_carriedOf_13 (by decide) ?_
  have hE := Option.some.inj hf
  exact qw_iretR S0 hr hlocks hQ hE dX8_carriedOf_14
theorem kd_X8_lapsing : yX8_lapsing.cls = RX8 ∧ yX8_lapsing.cls ≠ "java/lang/invoke/MethodHandle" ∧ yX8_lapsing.cls ≠ "java/lang/invoke/VarHandle" ∧ (parseMethodDescriptor yX8_lapsing.desc).map (fun d => d.parameters.length) = some 2 := by decide +kernel
def f_X8_lapsing_j22 (I : Nat → Int32) (A : Nat → Nat → Int32)  (y1 : Int32) (y2 : Int32) (s0 : Int32) : Option (Int32 × (Nat → Int32)) :=
  qf_bd2 (f_X8_fails I s0) fun r3 I4 =>
  if r3 = 0 then (qf_bd (f_X8_at y1 y2) fun r5 =>
    qf_ld 250 (A 0) (r5 + (1 : Int32)) fun x6 =>
    qf_bd (f_X8_at y1 y2) fun r7 =>
    qf_ld 250 (A 0) r7 fun x8 =>
    qf_bd (f_X8_carriedOf A y2 x6) fun r9 =>
    some (((x8 + x6) - r9), I4)) else (some ((0 : Int32), I4))
def f_X8_lapsing_j21 (I : Nat → Int32) (A : Nat → Nat → Int32)  (y1 : Int32) (y2 : Int32) : Option (Int32 × (Nat → Int32)) :=
  f_X8_lapsing_j22 I A y1 y2 (0 : Int32)
def f_X8_lapsing (A : Nat → Nat → Int32) (I : Nat → Int32) (p1 : Int32) (p2 : Int32) : Option (Int32 × (Nat → Int32)) :=
  qf_bd (f_X8_isHouse A p1) fun r1 =>
  if r1 = 0 then (f_X8_lapsing_j21 I A p1 p2) else (qf_bd (f_X8_isGroup A p2) fun r2 =>
    if r2 = 0 then (f_X8_lapsing_j21 I A p1 p2) else (f_X8_lapsing_j22 I A p1 p2 (1 : Int32)))
abbrev wz_X8_lapsing : List Cond := Cond.code yX8_lapsing cX8_lapsing 4 (some .int) :: qw_big
def rm_X8_lapsing : Room := { frames := 2, cells := 0, slots := 0, locals := 43 }
set_option maxHeartbeats 4000000 in
set_option maxRecDepth 100000 in
theorem c_X8_lapsing (l : Launch) {D : va_G} {cy : Nat → ClassId} {ad : Nat → Nat} {I : Nat → Int32} {A : Nat → Nat → Int32} {w : Int64} {p1 : Int32} {p2 : Int32} {rv : Int32} {I9 : Nat → Int32} {sz : Nat} (hf : f_X8_lapsing A I p1 p2 = some (rv, I9)) : Met l yX8_lapsing wz_X8_lapsing rm_X8_lapsing (va_Pc [.ref (ad 0), .int p1, .int p2] (qw_Pre D cy (Wm cy ad I A w) sz)) (qw_Q (some (.int rv)) D (Wm cy ad I9 A w) (va_A (Wm cy ad I A w) sz)) 0 0 (va_A (Wm cy ad I A w) sz) := by
  refine qw_of (cc := cX8_lapsing) (maxL := 4) (ret := (some .int)) (by decide) (Nat.le_of_ble_eq_true rfl) ?_
  intro p e s m args below meth c ls S0 hr hlocks hsz V hl
  have S0 : CallFix p m c cX8_lapsing 4 s args qw_big RX8 := S0
  have hx := S0.1; have hb := S0.2.1; have hown := S0.2.2.2.1; have hts := S0.2.2.2.2
  have hl : lv_has ls 4 [(0, .ref (ad 0)), (1, .int p1), (2, .int p2)] := hl
  generalize va_A (Wm cy ad I A w) sz = Z9 at V ⊢
  obtain ⟨Q9, hQ⟩ : ∃ q, q = MQ below (qw_Q (some (.int rv)) D (Wm cy ad I9 A w) Z9) args s 0 0 Z9 := ⟨_, rfl⟩
  rw [← hQ]
  clear hsz
  have J_22 : ∀   {y1 : Int32} {y2 : Int32} {s0 : Int32} {H : Heap} {locs : List Loc} {ls : Array Slot}, f_X8_lapsing_j22 I A y1 y2 s0 = some (rv, I9) → qw_V D cy Z9 s (Wm cy ad I A w) H locs → lv_has ls 4 [(0, .ref (ad 0)), (1, .int y1), (2, .int y2)] → W p l e rm_X8_lapsing s m args below meth c H locs 0 0 Q9 (F0 m 22 ls [.int s0, .ref (ad 0)]) := by
    intro y1 y2 s0 H locs ls hf V hl
    unfold f_X8_lapsing_j22 at hf
    obtain ⟨r3, I4, hc_22, hf⟩ := qf_bd2_e hf
    refine qw_cV (rest := []) (st1 := [.int r3]) S0 V hl 0 gM_0 rfl (c_X8_fails l hc_22) kg_X8_201 rfl ⟨rfl, rfl⟩ kd_X8_fails ⟨Nat.le_of_ble_eq_true rfl, Nat.le_of_ble_eq_true rfl⟩ rfl rfl (Nat.le_of_ble_eq_true rfl) ⟨Nat.zero_le _, Nat.zero_le _⟩ rfl dX8_lapsing_22 (fun H locs V => ?_)
    refine lv_if_eq (tgt := 30) hx hb dX8_lapsing_25 (by decide) (fun c_25 => ?_) (fun c_25 => ?_)
    · replace hf := qf_t c_25 hf
      refine lv_aload_n hx hb dX8_lapsing_30 rfl (lv_at hl 0 rfl) ?_
      refine gfM_0_0 S0 V kl_X8_7 dX8_lapsing_31 ?_
      refine lv_iload_n hx hb dX8_lapsing_34 rfl (lv_at hl 1 rfl) ?_
      refine lv_iload_n hx hb dX8_lapsing_35 rfl (lv_at hl 2 rfl) ?_
      obtain ⟨r5, hc_36, hf⟩ := qf_bd_e hf
      refine qw_cSR (rest := [.ref (ad 1)]) (st1 := [.int r5, .ref (ad 1)]) S0 V hl (c_X8_at l hc_36) kg_X8_211 rfl ⟨rfl, rfl⟩ kd_X8_at ⟨Nat.le_of_ble_eq_true rfl, Nat.le_of_ble_eq_true rfl⟩ rfl rfl (Nat.le_of_ble_eq_true rfl) ⟨Nat.zero_le _, Nat.zero_le _⟩ rfl dX8_lapsing_36 ?_
      refine lv_iconst (v := 1) hx hb dX8_lapsing_39 (by decide) ?_
      refine lv_iadd hx hb dX8_lapsing_40 ?_
      have h_41 := qf_ld_in hf
      refine alM_1 S0 V h_41 dX8_lapsing_41 ?_
      refine lv_topi (fun x6 e_x6 => ?_)
      replace hf := qf_ld_e e_x6 hf
      refine lv_istore_n (lv' := [(3, .int x6), (0, .ref (ad 0)), (1, .int y1), (2, .int y2)]) hx hb dX8_lapsing_42 rfl hl (by decide) rfl (fun ls hl => ?_)
      refine lv_aload_n hx hb dX8_lapsing_43 rfl (lv_at hl 1 rfl) ?_
      refine gfM_0_0 S0 V kl_X8_7 dX8_lapsing_44 ?_
      refine lv_iload_n hx hb dX8_lapsing_47 rfl (lv_at hl 2 rfl) ?_
      refine lv_iload_n hx hb dX8_lapsing_48 rfl (lv_at hl 3 rfl) ?_
      obtain ⟨r7, hc_49, hf⟩ := qf_bd_e hf
      refine qw_cSR (rest := [.ref (ad 1)]) (st1 := [.int r7, .ref (ad 1)]) S0 V hl (c_X8_at l hc_49) kg_X8_211 rfl ⟨rfl, rfl⟩ kd_X8_at ⟨Nat.le_of_ble_eq_true rfl, Nat.le_of_ble_eq_true rfl⟩ rfl rfl (Nat.le_of_ble_eq_true rfl) ⟨Nat.zero_le _, Nat.zero_le _⟩ rfl dX8_lapsing_49 ?_
      have h_52 := qf_ld_in hf
      refine alM_1 S0 V h_52 dX8_lapsing_52 ?_
      refine lv_topi (fun x8 e_x8 => ?_)
      replace hf := qf_ld_e e_x8 hf
      refine lv_iload_n hx hb dX8_lapsing_53 rfl (lv_at hl 0 rfl) ?_
      refine lv_iadd hx hb dX8_lapsing_54 ?_
      refine lv_aload_n hx hb dX8_lapsing_55 rfl (lv_at hl 1 rfl) ?_
      refine lv_iload_n hx hb dX8_lapsing_56 rfl (lv_at hl 3 rfl) ?_
      refine lv_iload_n hx hb dX8_lapsing_57 rfl (lv_at hl 0 rfl) ?_
      obtain ⟨r9, hc_58, hf⟩ := qf_bd_e hf
      refine qw_cVR (rest := [.int (x8 + x6)]) (st1 := [.int r9, .int (x8 + x6)]) S0 V hl 0 gM_0 rfl (c_X8_carriedOf l hc_58) kg_X8_217 rfl ⟨rfl, rfl⟩ kd_X8_carriedOf ⟨Nat.le_of_ble_eq_true rfl, Nat.le_of_ble_eq_true rfl⟩ rfl rfl (Nat.le_of_ble_eq_true rfl) ⟨Nat.zero_le _, Nat.zero_le _⟩ rfl dX8_lapsing_58 ?_
      refine lv_isub hx hb dX8_lapsing_61 ?_
      have hE := Option.some.inj hf
      obtain ⟨e0, hE⟩ := qf_pr hE
      exact qw_ireti S0 hr hlocks hQ e0 (by rw [hE]) V dX8_lapsing_62
    · replace hf := qf_f c_25 hf
      refine lv_iconst (v := 0) hx hb dX8_lapsing_28 (by decide) ?_
      have hE := Option.some.inj hf
      obtain ⟨e0, hE⟩ := qf_pr hE
      exact qw_ireti S0 hr hlocks hQ e0 (by rw [hE]) V dX8_lapsing_29
  have J_21 : ∀   {y1 : Int32} {y2 : Int32} {H : Heap} {locs : List Loc} {ls : Array Slot}, f_X8_lapsing_j21 I A y1 y2 = some (rv, I9) → qw_V D cy Z9 s (Wm cy ad I A w) H locs → lv_has ls 4 [(0, .ref (ad 0)), (1, .int y1), (2, .int y2)] → W p l e rm_X8_lapsing s m args below meth c H locs 0 0 Q9 (F0 m 21 ls [.ref (ad 0)]) := by
    intro y1 y2 H locs ls hf V hl
    unfold f_X8_lapsing_j21 at hf
    refine lv_iconst (v := 0) hx hb dX8_lapsing_21 (by decide) ?_
    exact J_22 hf V (lv_sub hl [0, 1, 2] rfl)
  unfold f_X8_lapsing at hf
  refine lv_aload_n hx hb dX8_lapsing_0 rfl (lv_at hl 0 rfl) ?_
  refine lv_aload_n hx hb dX8_lapsing_1 rfl (lv_at hl 0 rfl) ?_
  refine lv_iload_n hx hb dX8_lapsing_2 rfl (lv_at hl 1 rfl) ?_
  obtain ⟨r1, hc_3, hf⟩ := qf_bd_e hf
  refine qw_cVR (rest := [.ref (ad 0)]) (st1 := [.int r1, .ref (ad 0)]) S0 V hl 0 gM_0 rfl (c_X8_isHouse l hc_3) kg_X8_208 rfl ⟨rfl, rfl⟩ kd_X8_isHouse ⟨Nat.le_of_ble_eq_true rfl, Nat.le_of_ble_eq_true rfl⟩ rfl rfl (Nat.le_of_ble_eq_true rfl) ⟨Nat.zero_le _, Nat.zero_le _⟩ rfl dX8_lapsing_3 ?_
  refine lv_if_eq (tgt := 21) hx hb dX8_lapsing_6 (by decide) (fun c_6 => ?_) (fun c_6 => ?_)
  · replace hf := qf_t c_6 hf
    exact J_21 hf V (lv_sub hl [0, 1, 2] rfl)
  · replace hf := qf_f c_6 hf
    refine lv_aload_n hx hb dX8_lapsing_9 rfl (lv_at hl 0 rfl) ?_
    refine lv_iload_n hx hb dX8_lapsing_10 rfl (lv_at hl 2 rfl) ?_
    obtain ⟨r2, hc_11, hf⟩ := qf_bd_e hf
    refine qw_cVR (rest := [.ref (ad 0)]) (st1 := [.int r2, .ref (ad 0)]) S0 V hl 0 gM_0 rfl (c_X8_isGroup l hc_11) kg_X8_197 rfl ⟨rfl, rfl⟩ kd_X8_isGroup ⟨Nat.le_of_ble_eq_true rfl, Nat.le_of_ble_eq_true rfl⟩ rfl rfl (Nat.le_of_ble_eq_true rfl) ⟨Nat.zero_le _, Nat.zero_le _⟩ rfl dX8_lapsing_11 ?_
    refine lv_if_eq (tgt := 21) hx hb dX8_lapsing_14 (by decide) (fun c_14 => ?_) (fun c_14 => ?_)
    · replace hf := qf_t c_14 hf
      exact J_21 hf V (lv_sub hl [0, 1, 2] rfl)
    · replace hf := qf_f c_14 hf
      refine lv_iconst (v := 1) hx hb dX8_lapsing_17 (by decide) ?_
      refine lv_goto (tgt := 22) hx hb dX8_lapsing_18 (by decide) ?_
      exact J_22 hf V (lv_sub hl [0, 1, 2] rfl)
theorem kd_X8_layLater : yX8_layLater.cls = RX8 ∧ yX8_layLater.cls ≠ "java/lang/invoke/MethodHandle" ∧ yX8_layLater.cls ≠ "java/lang/invoke/VarHandle" ∧ (parseMethodDescriptor yX8_layLater.desc).map (fun d => d.parameters.length) = some 2 := by decide +kernel
def f_X8_layLater_l2   (y1 : Int32) (y2 : Int32) : Nat → (Nat → Nat → Int32) → Int32 → Option ((Nat → Nat → Int32))
  | 0, _, _ => none
  | n + 1, A, y3 =>
  if (5 : Int32) ≤ y3 then (some (A)) else (qf_bd (f_X8_at y1 y2) fun r1 =>
    qf_ld 250 (A 0) (r1 + y3) fun x2 =>
    qf_st 5 y3 fun i4 =>
    qf_let (qf_up A 6 (upd (A 6) i4 x2)) fun A3 =>
    qf_let (y3 + (1 : Int32)) fun x5 =>
    f_X8_layLater_l2 y1 y2 n A3 x5)
def f_X8_layLater (A : Nat → Nat → Int32) (p1 : Int32) (p2 : Int32) : Option ((Nat → Nat → Int32)) :=
  f_X8_layLater_l2 p1 p2 100000 A (0 : Int32)
abbrev wz_X8_layLater : List Cond := Cond.code yX8_layLater cX8_layLater 4 none :: qw_big
def rm_X8_layLater : Room := { frames := 1, cells := 0, slots := 0, locals := 21 }
set_option maxHeartbeats 4000000 in
set_option maxRecDepth 100000 in
theorem c_X8_layLater (l : Launch) {D : va_G} {cy : Nat → ClassId} {ad : Nat → Nat} {I : Nat → Int32} {A : Nat → Nat → Int32} {w : Int64} {p1 : Int32} {p2 : Int32} {A9 : Nat → Nat → Int32} {sz : Nat} (hf : f_X8_layLater A p1 p2 = some (A9)) : Met l yX8_layLater wz_X8_layLater rm_X8_layLater (va_Pc [.ref (ad 0), .int p1, .int p2] (qw_Pre D cy (Wm cy ad I A w) sz)) (qw_Q none D (Wm cy ad I A9 w) (va_A (Wm cy ad I A w) sz)) 0 0 (va_A (Wm cy ad I A w) sz) := by
  refine qw_of (cc := cX8_layLater) (maxL := 4) (ret := none) (by decide) (Nat.le_of_ble_eq_true rfl) ?_
  intro p e s m args below meth c ls S0 hr hlocks hsz V hl
  have S0 : CallFix p m c cX8_layLater 4 s args qw_big RX8 := S0
  have hx := S0.1; have hb := S0.2.1; have hown := S0.2.2.2.1; have hts := S0.2.2.2.2
  have hl : lv_has ls 4 [(0, .ref (ad 0)), (1, .int p1), (2, .int p2)] := hl
  generalize va_A (Wm cy ad I A w) sz = Z9 at V ⊢
  obtain ⟨Q9, hQ⟩ : ∃ q, q = MQ below (qw_Q none D (Wm cy ad I A9 w) Z9) args s 0 0 Z9 := ⟨_, rfl⟩
  rw [← hQ]
  clear hsz
  have L_2 : ∀  {y1 : Int32} {y2 : Int32} {n : Nat} {A : Nat → Nat → Int32} {y3 : Int32} {H : Heap} {locs : List Loc} {ls : Array Slot}, f_X8_layLater_l2 y1 y2 n A y3 = some (A9) → qw_V D cy Z9 s (Wm cy ad I A w) H locs → lv_has ls 4 [(0, .ref (ad 0)), (1, .int y1), (2, .int y2), (3, .int y3)] → W p l e rm_X8_layLater s m args below meth c H locs 0 0 Q9 (F0 m 2 ls []) := by
    intro y1 y2 n
    induction n with
    | zero => intro A y3 H locs ls hf V hl; exact qf_no hf
    | succ n ih =>
      intro A y3 H locs ls hf V hl
      rw [f_X8_layLater_l2] at hf
      refine lv_iload_n hx hb dX8_layLater_2 rfl (lv_at hl 3 rfl) ?_
      refine lv_iconst (v := 5) hx hb dX8_layLater_3 (by decide) ?_
      refine lv_icmp_ge (tgt := 31) hx hb dX8_layLater_4 (by decide) (fun c_4 => ?_) (fun c_4 => ?_)
      · replace hf := qf_t c_4 hf
        have hE := Option.some.inj hf
        exact qw_vreti S0 hr hlocks hQ (by rw [hE]) V dX8_layLater_31
      · replace hf := qf_f c_4 hf
        refine lv_aload_n hx hb dX8_layLater_7 rfl (lv_at hl 0 rfl) ?_
        refine gfM_0_19 S0 V kl_X8_33 dX8_layLater_8 ?_
        refine lv_iload_n hx hb dX8_layLater_11 rfl (lv_at hl 3 rfl) ?_
        refine lv_aload_n hx hb dX8_layLater_12 rfl (lv_at hl 0 rfl) ?_
        refine gfM_0_0 S0 V kl_X8_7 dX8_layLater_13 ?_
        refine lv_iload_n hx hb dX8_layLater_16 rfl (lv_at hl 1 rfl) ?_
        refine lv_iload_n hx hb dX8_layLater_17 rfl (lv_at hl 2 rfl) ?_
        obtain ⟨r1, hc_18, hf⟩ := qf_bd_e hf
        refine qw_cSR (rest := [.ref (ad 1), .int y3, .ref (ad 7)]) (st1 := [.int r1, .ref (ad 1), .int y3, .ref (ad 7)]) S0 V hl (c_X8_at l hc_18) kg_X8_211 rfl ⟨rfl, rfl⟩ kd_X8_at ⟨Nat.le_of_ble_eq_true rfl, Nat.le_of_ble_eq_true rfl⟩ rfl rfl (Nat.le_of_ble_eq_true rfl) ⟨Nat.zero_le _, Nat.zero_le _⟩ rfl dX8_layLater_18 ?_
        refine lv_iload_n hx hb dX8_layLater_21 rfl (lv_at hl 3 rfl) ?_
        refine lv_iadd hx hb dX8_layLater_22 ?_
        have h_23 := qf_ld_in hf
        refine alM_1 S0 V h_23 dX8_layLater_23 ?_
        refine lv_topi (fun x2 e_x2 => ?_)
        replace hf := qf_ld_e e_x2 hf
        have h_24 := qf_st_in hf
        replace hf := qf_st_e hf
        refine asM_7 S0 V h_24 dX8_layLater_24 (fun H locs A3 e_A3 V => ?_)
        replace hf := qf_let_e e_A3 hf
        obtain ⟨x5, e_x5⟩ : ∃ y : Int32, y = y3 + (1 : Int32) := ⟨_, rfl⟩
        refine lv_iinc (v := x5) (lv' := [(3, .int x5), (0, .ref (ad 0)), (1, .int y1), (2, .int y2)]) hx hb dX8_layLater_25 hl (k := 3) rfl (by rw [e_x5]; rfl) (by decide) rfl (fun ls hl => ?_)
        replace hf := qf_let_e e_x5 hf
        refine lv_goto (tgt := 2) hx hb dX8_layLater_28 (by decide) ?_
        exact ih hf V (lv_sub hl [1, 2, 3, 0] rfl)
  unfold f_X8_layLater at hf
  refine lv_iconst (v := 0) hx hb dX8_layLater_0 (by decide) ?_
  refine lv_istore_n (lv' := [(3, .int (0 : Int32)), (0, .ref (ad 0)), (1, .int p1), (2, .int p2)]) hx hb dX8_layLater_1 rfl hl (by decide) rfl (fun ls hl => ?_)
  exact L_2 hf V (lv_sub hl [1, 2, 3, 0] rfl)
theorem kd_X8_passLater : yX8_passLater.cls = RX8 ∧ yX8_passLater.cls ≠ "java/lang/invoke/MethodHandle" ∧ yX8_passLater.cls ≠ "java/lang/invoke/VarHandle" ∧ (parseMethodDescriptor yX8_passLater.desc).map (fun d => d.parameters.length) = some 2 := by decide +kernel
def f_X8_passLater_l19   (y1 : Int32) (y2 : Int32) : Nat → (Nat → Nat → Int32) → Int32 → Option ((Nat → Nat → Int32))
  | 0, _, _ => none
  | n + 1, A, y3 =>
  if (4 : Int32) ≤ y3 then (qf_st 5 (4 : Int32) fun i6 =>
    qf_let (qf_up A 6 (upd (A 6) i6 (0 : Int32))) fun A5 =>
    qf_ld 62 (A5 3) ((4 : Int32) + y2) fun x7 =>
    qf_ld 5 (A5 6) x7 fun x8 =>
    qf_bd (f_X8_issueOf A5 y1 y2) fun r9 =>
    qf_st 5 x7 fun i11 =>
    qf_let (qf_up A5 6 (upd (A5 6) i11 (x8 + r9))) fun A10 =>
    some (A10)) else (qf_ld 5 (A 6) (y3 + (1 : Int32)) fun x12 =>
    qf_st 5 y3 fun i14 =>
    qf_let (qf_up A 6 (upd (A 6) i14 x12)) fun A13 =>
    qf_let (y3 + (1 : Int32)) fun x15 =>
    f_X8_passLater_l19 y1 y2 n A13 x15)
def f_X8_passLater (A : Nat → Nat → Int32) (p1 : Int32) (p2 : Int32) : Option ((Nat → Nat → Int32)) :=
  qf_ld 5 (A 6) (1 : Int32) fun x1 =>
  qf_bd (f_X8_carriedOf A p2 x1) fun r2 =>
  qf_st 5 (0 : Int32) fun i4 =>
  qf_let (qf_up A 6 (upd (A 6) i4 r2)) fun A3 =>
  f_X8_passLater_l19 p1 p2 100000 A3 (1 : Int32)
abbrev wz_X8_passLater : List Cond := Cond.code yX8_passLater cX8_passLater 4 none :: qw_big
def rm_X8_passLater : Room := { frames := 1, cells := 0, slots := 0, locals := 22 }
set_option maxHeartbeats 4000000 in
set_option maxRecDepth 100000 in
theorem c_X8_passLater (l : Launch) {D : va_G} {cy : Nat → ClassId} {ad : Nat → Nat} {I : Nat → Int32} {A : Nat → Nat → Int32} {w : Int64} {p1 : Int32} {p2 : Int32} {A9 : Nat → Nat → Int32} {sz : Nat} (hf : f_X8_passLater A p1 p2 = some (A9)) : Met l yX8_passLater wz_X8_passLater rm_X8_passLater (va_Pc [.ref (ad 0), .int p1, .int p2] (qw_Pre D cy (Wm cy ad I A w) sz)) (qw_Q none D (Wm cy ad I A9 w) (va_A (Wm cy ad I A w) sz)) 0 0 (va_A (Wm cy ad I A w) sz) := by
  refine qw_of (cc := cX8_passLater) (maxL := 4) (ret := none) (by decide) (Nat.le_of_ble_eq_true rfl) ?_
  intro p e s m args below meth c ls S0 hr hlocks hsz V hl
  have S0 : CallFix p m c cX8_passLater 4 s args qw_big RX8 := S0
  have hx := S0.1; have hb := S0.2.1; have hown := S0.2.2.2.1; have hts := S0.2.2.2.2
  have hl : lv_has ls 4 [(0, .ref (ad 0)), (1, .int p1), (2, .int p2)] := hl
  generalize va_A (Wm cy ad I A w) sz = Z9 at V ⊢
  obtain ⟨Q9, hQ⟩ : ∃ q, q = MQ below (qw_Q none D (Wm cy ad I A9 w) Z9) args s 0 0 Z9 := ⟨_, rfl⟩
  rw [← hQ]
  clear hsz
  have L_19 : ∀  {y1 : Int32} {y2 : Int32} {n : Nat} {A : Nat → Nat → Int32} {y3 : Int32} {H : Heap} {locs : List Loc} {ls : Array Slot}, f_X8_passLater_l19 y1 y2 n A y3 = some (A9) → qw_V D cy Z9 s (Wm cy ad I A w) H locs → lv_has ls 4 [(0, .ref (ad 0)), (1, .int y1), (2, .int y2), (3, .int y3)] → W p l e rm_X8_passLater s m args below meth c H locs 0 0 Q9 (F0 m 19 ls []) := by
    intro y1 y2 n
    induction n with
    | zero => intro A y3 H locs ls hf V hl; exact qf_no hf
    | succ n ih =>
      intro A y3 H locs ls hf V hl
      rw [f_X8_passLater_l19] at hf
      refine lv_iload_n hx hb dX8_passLater_19 rfl (lv_at hl 3 rfl) ?_
      refine lv_iconst (v := 4) hx hb dX8_passLater_20 (by decide) ?_
      refine lv_icmp_ge (tgt := 44) hx hb dX8_passLater_21 (by decide) (fun c_21 => ?_) (fun c_21 => ?_)
      · replace hf := qf_t c_21 hf
        refine lv_aload_n hx hb dX8_passLater_44 rfl (lv_at hl 0 rfl) ?_
        refine gfM_0_19 S0 V kl_X8_33 dX8_passLater_45 ?_
        refine lv_iconst (v := 4) hx hb dX8_passLater_48 (by decide) ?_
        refine lv_iconst (v := 0) hx hb dX8_passLater_49 (by decide) ?_
        have h_50 := qf_st_in hf
        replace hf := qf_st_e hf
        refine asM_7 S0 V h_50 dX8_passLater_50 (fun H locs A5 e_A5 V => ?_)
        replace hf := qf_let_e e_A5 hf
        refine lv_aload_n hx hb dX8_passLater_51 rfl (lv_at hl 0 rfl) ?_
        refine gfM_0_19 S0 V kl_X8_33 dX8_passLater_52 ?_
        refine lv_aload_n hx hb dX8_passLater_55 rfl (lv_at hl 0 rfl) ?_
        refine gfM_0_5 S0 V kl_X8_19 dX8_passLater_56 ?_
        refine lv_iconst (v := 4) hx hb dX8_passLater_59 (by decide) ?_
        refine lv_iload_n hx hb dX8_passLater_60 rfl (lv_at hl 2 rfl) ?_
        refine lv_iadd hx hb dX8_passLater_61 ?_
        have h_62 := qf_ld_in hf
        refine alM_4 S0 V h_62 dX8_passLater_62 ?_
        refine lv_topi (fun x7 e_x7 => ?_)
        replace hf := qf_ld_e e_x7 hf
        refine lv_dup2_11 hx hb dX8_passLater_63 rfl rfl ?_
        have h_64 := qf_ld_in hf
        refine alM_7 S0 V h_64 dX8_passLater_64 ?_
        refine lv_topi (fun x8 e_x8 => ?_)
        replace hf := qf_ld_e e_x8 hf
        refine lv_aload_n hx hb dX8_passLater_65 rfl (lv_at hl 0 rfl) ?_
        refine lv_iload_n hx hb dX8_passLater_66 rfl (lv_at hl 1 rfl) ?_
        refine lv_iload_n hx hb dX8_passLater_67 rfl (lv_at hl 2 rfl) ?_
        obtain ⟨r9, hc_68, hf⟩ := qf_bd_e hf
        refine qw_cVR (rest := [.int x8, .int x7, .ref (ad 7)]) (st1 := [.int r9, .int x8, .int x7, .ref (ad 7)]) S0 V hl 0 gM_0 rfl (c_X8_issueOf l hc_68) kg_X8_220 rfl ⟨rfl, rfl⟩ kd_X8_issueOf ⟨Nat.le_of_ble_eq_true rfl, Nat.le_of_ble_eq_true rfl⟩ rfl rfl (Nat.le_of_ble_eq_true rfl) ⟨Nat.zero_le _, Nat.zero_le _⟩ rfl dX8_passLater_68 ?_
        refine lv_iadd hx hb dX8_passLater_71 ?_
        have h_72 := qf_st_in hf
        replace hf := qf_st_e hf
        refine asM_7 S0 V h_72 dX8_passLater_72 (fun H locs A10 e_A10 V => ?_)
        replace hf := qf_let_e e_A10 hf
        have hE := Option.some.inj hf
        exact qw_vreti S0 hr hlocks hQ (by rw [hE]) V dX8_passLater_73
      · replace hf := qf_f c_21 hf
        refine lv_aload_n hx hb dX8_passLater_24 rfl (lv_at hl 0 rfl) ?_
        refine gfM_0_19 S0 V kl_X8_33 dX8_passLater_25 ?_
        refine lv_iload_n hx hb dX8_passLater_28 rfl (lv_at hl 3 rfl) ?_
        refine lv_aload_n hx hb dX8_passLater_29 rfl (lv_at hl 0 rfl) ?_
        refine gfM_0_19 S0 V kl_X8_33 dX8_passLater_30 ?_
        refine lv_iload_n hx hb dX8_passLater_33 rfl (lv_at hl 3 rfl) ?_
        refine lv_iconst (v := 1) hx hb dX8_passLater_34 (by decide) ?_
        refine lv_iadd hx hb dX8_passLater_35 ?_
        have h_36 := qf_ld_in hf
        refine alM_7 S0 V h_36 dX8_passLater_36 ?_
        refine lv_topi (fun x12 e_x12 => ?_)
        replace hf := qf_ld_e e_x12 hf
        have h_37 := qf_st_in hf
        replace hf := qf_st_e hf
        refine asM_7 S0 V h_37 dX8_passLater_37 (fun H locs A13 e_A13 V => ?_)
        replace hf := qf_let_e e_A13 hf
        obtain ⟨x15, e_x15⟩ : ∃ y : Int32, y = y3 + (1 : Int32) := ⟨_, rfl⟩
        refine lv_iinc (v := x15) (lv' := [(3, .int x15), (0, .ref (ad 0)), (1, .int y1), (2, .int y2)]) hx hb dX8_passLater_38 hl (k := 3) rfl (by rw [e_x15]; rfl) (by decide) rfl (fun ls hl => ?_)
        replace hf := qf_let_e e_x15 hf
        refine lv_goto (tgt := 19) hx hb dX8_passLater_41 (by decide) ?_
        exact ih hf V (lv_sub hl [1, 2, 3, 0] rfl)
  unfold f_X8_passLater at hf
  refine lv_aload_n hx hb dX8_passLater_0 rfl (lv_at hl 0 rfl) ?_
  refine gfM_0_19 S0 V kl_X8_33 dX8_passLater_1 ?_
  refine lv_iconst (v := 0) hx hb dX8_passLater_4 (by decide) ?_
  refine lv_aload_n hx hb dX8_passLater_5 rfl (lv_at hl 0 rfl) ?_
  refine lv_iload_n hx hb dX8_passLater_6 rfl (lv_at hl 2 rfl) ?_
  refine lv_aload_n hx hb dX8_passLater_7 rfl (lv_at hl 0 rfl) ?_
  refine gfM_0_19 S0 V kl_X8_33 dX8_passLater_8 ?_
  refine lv_iconst (v := 1) hx hb dX8_passLater_11 (by decide) ?_
  have h_12 := qf_ld_in hf
  refine alM_7 S0 V h_12 dX8_passLater_12 ?_
  refine lv_topi (fun x1 e_x1 => ?_)
  replace hf := qf_ld_e e_x1 hf
  obtain ⟨r2, hc_13, hf⟩ := qf_bd_e hf
  refine qw_cVR (rest := [.int (0 : Int32), .ref (ad 7)]) (st1 := [.int r2, .int (0 : Int32), .ref (ad 7)]) S0 V hl 0 gM_0 rfl (c_X8_carriedOf l hc_13) kg_X8_217 rfl ⟨rfl, rfl⟩ kd_X8_carriedOf ⟨Nat.le_of_ble_eq_true rfl, Nat.le_of_ble_eq_true rfl⟩ rfl rfl (Nat.le_of_ble_eq_true rfl) ⟨Nat.zero_le _, Nat.zero_le _⟩ rfl dX8_passLater_13 ?_
  have h_16 := qf_st_in hf
  replace hf := qf_st_e hf
  refine asM_7 S0 V h_16 dX8_passLater_16 (fun H locs A3 e_A3 V => ?_)
  replace hf := qf_let_e e_A3 hf
  refine lv_iconst (v := 1) hx hb dX8_passLater_17 (by decide) ?_
  refine lv_istore_n (lv' := [(3, .int (1 : Int32)), (0, .ref (ad 0)), (1, .int p1), (2, .int p2)]) hx hb dX8_passLater_18 rfl hl (by decide) rfl (fun ls hl => ?_)
  exact L_19 hf V (lv_sub hl [1, 2, 3, 0] rfl)
theorem kd_X8_sumLater : yX8_sumLater.cls = RX8 ∧ yX8_sumLater.cls ≠ "java/lang/invoke/MethodHandle" ∧ yX8_sumLater.cls ≠ "java/lang/invoke/VarHandle" ∧ (parseMethodDescriptor yX8_sumLater.desc).map (fun d => d.parameters.length) = some 0 := by decide +kernel
def f_X8_sumLater_l4 (A : Nat → Nat → Int32)   : Nat → Int32 → Int32 → Option (Int32)
  | 0, _, _ => none
  | n + 1, y1, y2 =>
  if (5 : Int32) ≤ y2 then (some (y1)) else (qf_ld 5 (A 6) y2 fun x1 =>
    qf_let ((y1 + x1)) fun x2 =>
    qf_let (y2 + (1 : Int32)) fun x3 =>
    f_X8_sumLater_l4 A n x2 x3)
def f_X8_sumLater (A : Nat → Nat → Int32) : Option (Int32) :=
  f_X8_sumLater_l4 A 100000 (0 : Int32) (0 : Int32)
abbrev wz_X8_sumLater : List Cond := Cond.code yX8_sumLater cX8_sumLater 3 (some .int) :: qw_big
def rm_X8_sumLater : Room := { frames := 0, cells := 0, slots := 0, locals := 0 }
set_option maxHeartbeats 4000000 in
set_option maxRecDepth 100000 in
theorem c_X8_sumLater (l : Launch) {D : va_G} {cy : Nat → ClassId} {ad : Nat → Nat} {I : Nat → Int32} {A : Nat → Nat → Int32} {w : Int64}  {rv : Int32} {sz : Nat} (hf : f_X8_sumLater A = some (rv)) : Met l yX8_sumLater wz_X8_sumLater rm_X8_sumLater (va_Pc [.ref (ad 0)] (qw_Pre D cy (Wm cy ad I A w) sz)) (qw_R (some (.int rv))) 0 0 (fun _ => False) := by
  refine qw_of (cc := cX8_sumLater) (maxL := 3) (ret := (some .int)) (by decide) (Nat.le_of_ble_eq_true rfl) ?_
  intro p e s m args below meth c ls S0 hr hlocks hsz V hl
  have S0 : CallFix p m c cX8_sumLater 3 s args qw_big RX8 := S0
  have hx := S0.1; have hb := S0.2.1; have hown := S0.2.2.2.1; have hts := S0.2.2.2.2
  have hl : lv_has ls 3 [(0, .ref (ad 0))] := hl
  obtain ⟨Q9, hQ⟩ : ∃ q, q = MQ below (qw_R (some (.int rv))) args s 0 0 (fun _ => False) := ⟨_, rfl⟩
  rw [← hQ]
  generalize va_A (Wm cy ad I A w) sz = Z9 at V
  have L_4 : ∀   {n : Nat}  {y1 : Int32} {y2 : Int32} {ls : Array Slot}, f_X8_sumLater_l4 A n y1 y2 = some (rv) → lv_has ls 3 [(0, .ref (ad 0)), (1, .int y1), (2, .int y2)] → W p l e rm_X8_sumLater s m args below meth c s.heap [] 0 0 Q9 (F0 m 4 ls []) := by
    intro n
    induction n with
    | zero => intro y1 y2 ls hf hl; exact qf_no hf
    | succ n ih =>
      intro y1 y2 ls hf hl
      rw [f_X8_sumLater_l4] at hf
      refine lv_iload_n hx hb dX8_sumLater_4 rfl (lv_at hl 2 rfl) ?_
      refine lv_iconst (v := 5) hx hb dX8_sumLater_5 (by decide) ?_
      refine lv_icmp_ge (tgt := 24) hx hb dX8_sumLater_6 (by decide) (fun c_6 => ?_) (fun c_6 => ?_)
      · replace hf := qf_t c_6 hf
        refine lv_iload_n hx hb dX8_sumLater_24 rfl (lv_at hl 1 rfl) ?_
        have hE := Option.some.inj hf
        exact qw_iretR S0 hr hlocks hQ hE dX8_sumLater_25
      · replace hf := qf_f c_6 hf
        refine lv_iload_n hx hb dX8_sumLater_9 rfl (lv_at hl 1 rfl) ?_
        refine lv_aload_n hx hb dX8_sumLater_10 rfl (lv_at hl 0 rfl) ?_
        refine gfM_0_19 S0 V kl_X8_33 dX8_sumLater_11 ?_
        refine lv_iload_n hx hb dX8_sumLater_14 rfl (lv_at hl 2 rfl) ?_
        have h_15 := qf_ld_in hf
        refine alM_7 S0 V h_15 dX8_sumLater_15 ?_
        refine lv_topi (fun x1 e_x1 => ?_)
        replace hf := qf_ld_e e_x1 hf
        refine lv_iadd hx hb dX8_sumLater_16 ?_
        refine lv_topi (fun x2 e_x2 => ?_)
        replace hf := qf_let_e e_x2 hf
        refine lv_istore_n (lv' := [(1, .int x2), (0, .ref (ad 0)), (2, .int y2)]) hx hb dX8_sumLater_17 rfl hl (by decide) rfl (fun ls hl => ?_)
        obtain ⟨x3, e_x3⟩ : ∃ y : Int32, y = y2 + (1 : Int32) := ⟨_, rfl⟩
        refine lv_iinc (v := x3) (lv' := [(2, .int x3), (1, .int x2), (0, .ref (ad 0))]) hx hb dX8_sumLater_18 hl (k := 2) rfl (by rw [e_x3]; rfl) (by decide) rfl (fun ls hl => ?_)
        replace hf := qf_let_e e_x3 hf
        refine lv_goto (tgt := 4) hx hb dX8_sumLater_21 (by decide) ?_
        exact ih hf (lv_sub hl [2, 1, 0] rfl)
  unfold f_X8_sumLater at hf
  refine lv_iconst (v := 0) hx hb dX8_sumLater_0 (by decide) ?_
  refine lv_istore_n (lv' := [(1, .int (0 : Int32)), (0, .ref (ad 0))]) hx hb dX8_sumLater_1 rfl hl (by decide) rfl (fun ls hl => ?_)
  refine lv_iconst (v := 0) hx hb dX8_sumLater_2 (by decide) ?_
  refine lv_istore_n (lv' := [(2, .int (0 : Int32)), (1, .int (0 : Int32)), (0, .ref (ad 0))]) hx hb dX8_sumLater_3 rfl hl (by decide) rfl (fun ls hl => ?_)
  exact L_4 hf (lv_sub hl [2, 1, 0] rfl)
theorem kd_X8_couponsAfter : yX8_couponsAfter.cls = RX8 ∧ yX8_couponsAfter.cls ≠ "java/lang/invoke/MethodHandle" ∧ yX8_couponsAfter.cls ≠ "java/lang/invoke/VarHandle" ∧ (parseMethodDescriptor yX8_couponsAfter.desc).map (fun d => d.parameters.length) = some 3 := by decide +kernel
def f_X8_couponsAfter_l52   (y1 : Int32) (y2 : Int32) (y3 : Int32) : Nat → (Nat → Int32) → (Nat → Nat → Int32) → Int32 → Option (Int32 × (Nat → Int32) × (Nat → Nat → Int32))
  | 0, _, _, _ => none
  | n + 1, I, A, y4 =>
  if y3 ≤ y4 then (qf_bd (f_X8_sumLater A) fun r7 =>
    some (r7, I, A)) else (qf_bd (f_X8_passLater A y1 y2) fun A8 =>
    qf_let (y4 + (1 : Int32)) fun x9 =>
    f_X8_couponsAfter_l52 y1 y2 y3 n I A8 x9)
def f_X8_couponsAfter_j22 (I : Nat → Int32) (A : Nat → Nat → Int32)  (y1 : Int32) (y2 : Int32) (y3 : Int32) (s0 : Int32) : Option (Int32 × (Nat → Int32) × (Nat → Nat → Int32)) :=
  qf_bd2 (f_X8_fails I s0) fun r3 I4 =>
  if r3 = 0 then (qf_bd (f_X8_inRange y3 (0 : Int32) (50 : Int32)) fun r5 =>
    if r5 = 0 then (some ((-2 : Int32), I4, A)) else (qf_bd (f_X8_layLater A y1 y2) fun A6 =>
      f_X8_couponsAfter_l52 y1 y2 y3 100000 I4 A6 (0 : Int32))) else (some ((0 : Int32), I4, A))
def f_X8_couponsAfter_j21 (I : Nat → Int32) (A : Nat → Nat → Int32)  (y1 : Int32) (y2 : Int32) (y3 : Int32) : Option (Int32 × (Nat → Int32) × (Nat → Nat → Int32)) :=
  f_X8_couponsAfter_j22 I A y1 y2 y3 (0 : Int32)
def f_X8_couponsAfter (I : Nat → Int32) (A : Nat → Nat → Int32) (p1 : Int32) (p2 : Int32) (p3 : Int32) : Option (Int32 × (Nat → Int32) × (Nat → Nat → Int32)) :=
  qf_bd (f_X8_isHouse A p1) fun r1 =>
  if r1 = 0 then (f_X8_couponsAfter_j21 I A p1 p2 p3) else (qf_bd (f_X8_isGroup A p2) fun r2 =>
    if r2 = 0 then (f_X8_couponsAfter_j21 I A p1 p2 p3) else (f_X8_couponsAfter_j22 I A p1 p2 p3 (1 : Int32)))
abbrev wz_X8_couponsAfter : List Cond := Cond.code yX8_couponsAfter cX8_couponsAfter 5 (some .int) :: qw_big
def rm_X8_couponsAfter : Room := { frames := 2, cells := 0, slots := 0, locals := 45 }
set_option maxHeartbeats 4000000 in
set_option maxRecDepth 100000 in
theorem c_X8_couponsAfter (l : Launch) {D : va_G} {cy : Nat → ClassId} {ad : Nat → Nat} {I : Nat → Int32} {A : Nat → Nat → Int32} {w : Int64} {p1 : Int32} {p2 : Int32} {p3 : Int32} {rv : Int32} {I9 : Nat → Int32} {A9 : Nat → Nat → Int32} {sz : Nat} (hf : f_X8_couponsAfter I A p1 p2 p3 = some (rv, I9, A9)) : Met l yX8_couponsAfter wz_X8_couponsAfter rm_X8_couponsAfter (va_Pc [.ref (ad 0), .int p1, .int p2, .int p3] (qw_Pre D cy (Wm cy ad I A w) sz)) (qw_Q (some (.int rv)) D (Wm cy ad I9 A9 w) (va_A (Wm cy ad I A w) sz)) 0 0 (va_A (Wm cy ad I A w) sz) := by
  refine qw_of (cc := cX8_couponsAfter) (maxL := 5) (ret := (some .int)) (by decide) (Nat.le_of_ble_eq_true rfl) ?_
  intro p e s m args below meth c ls S0 hr hlocks hsz V hl
  have S0 : CallFix p m c cX8_couponsAfter 5 s args qw_big RX8 := S0
  have hx := S0.1; have hb := S0.2.1; have hown := S0.2.2.2.1; have hts := S0.2.2.2.2
  have hl : lv_has ls 5 [(0, .ref (ad 0)), (1, .int p1), (2, .int p2), (3, .int p3)] := hl
  generalize va_A (Wm cy ad I A w) sz = Z9 at V ⊢
  obtain ⟨Q9, hQ⟩ : ∃ q, q = MQ below (qw_Q (some (.int rv)) D (Wm cy ad I9 A9 w) Z9) args s 0 0 Z9 := ⟨_, rfl⟩
  rw [← hQ]
  clear hsz
  have L_52 : ∀  {y1 : Int32} {y2 : Int32} {y3 : Int32} {n : Nat} {I : Nat → Int32} {A : Nat → Nat → Int32} {y4 : Int32} {H : Heap} {locs : List Loc} {ls : Array Slot}, f_X8_couponsAfter_l52 y1 y2 y3 n I A y4 = some (rv, I9, A9) → qw_V D cy Z9 s (Wm cy ad I A w) H locs → lv_has ls 5 [(0, .ref (ad 0)), (1, .int y1), (2, .int y2), (3, .int y3), (4, .int y4)] → W p l e rm_X8_couponsAfter s m args below meth c H locs 0 0 Q9 (F0 m 52 ls []) := by
    intro y1 y2 y3 n
    induction n with
    | zero => intro I A y4 H locs ls hf V hl; exact qf_no hf
    | succ n ih =>
      intro I A y4 H locs ls hf V hl
      rw [f_X8_couponsAfter_l52] at hf
      refine lv_iload hx hb dX8_couponsAfter_52 (lv_at hl 4 rfl) ?_
      refine lv_iload_n hx hb dX8_couponsAfter_54 rfl (lv_at hl 3 rfl) ?_
      refine lv_icmp_ge (tgt := 70) hx hb dX8_couponsAfter_55 (by decide) (fun c_55 => ?_) (fun c_55 => ?_)
      · replace hf := qf_t c_55 hf
        refine lv_aload_n hx hb dX8_couponsAfter_70 rfl (lv_at hl 0 rfl) ?_
        obtain ⟨r7, hc_71, hf⟩ := qf_bd_e hf
        refine qw_cVR (rest := []) (st1 := [.int r7]) S0 V hl 0 gM_0 rfl (c_X8_sumLater l hc_71) kg_X8_229 rfl ⟨rfl, rfl⟩ kd_X8_sumLater ⟨Nat.le_of_ble_eq_true rfl, Nat.le_of_ble_eq_true rfl⟩ rfl rfl (Nat.le_of_ble_eq_true rfl) ⟨Nat.zero_le _, Nat.zero_le _⟩ rfl dX8_couponsAfter_71 ?_
        have hE := Option.some.inj hf
        obtain ⟨e0, hE⟩ := qf_pr hE
        obtain ⟨e1, hE⟩ := qf_pr hE
        exact qw_ireti S0 hr hlocks hQ e0 (by rw [e1, hE]) V dX8_couponsAfter_74
      · replace hf := qf_f c_55 hf
        refine lv_aload_n hx hb dX8_couponsAfter_58 rfl (lv_at hl 0 rfl) ?_
        refine lv_iload_n hx hb dX8_couponsAfter_59 rfl (lv_at hl 1 rfl) ?_
        refine lv_iload_n hx hb dX8_couponsAfter_60 rfl (lv_at hl 2 rfl) ?_
        obtain ⟨A8, hc_61, hf⟩ := qf_bd_e hf
        refine qw_cV (rest := []) (st1 := []) S0 V hl 0 gM_0 rfl (c_X8_passLater l hc_61) kg_X8_226 rfl ⟨rfl, rfl⟩ kd_X8_passLater ⟨Nat.le_of_ble_eq_true rfl, Nat.le_of_ble_eq_true rfl⟩ rfl rfl (Nat.le_of_ble_eq_true rfl) ⟨Nat.zero_le _, Nat.zero_le _⟩ rfl dX8_couponsAfter_61 (fun H locs V => ?_)
        obtain ⟨x9, e_x9⟩ : ∃ y : Int32, y = y4 + (1 : Int32) := ⟨_, rfl⟩
        refine lv_iinc (v := x9) (lv' := [(4, .int x9), (0, .ref (ad 0)), (1, .int y1), (2, .int y2), (3, .int y3)]) hx hb dX8_couponsAfter_64 hl (k := 4) rfl (by rw [e_x9]; rfl) (by decide) rfl (fun ls hl => ?_)
        replace hf := qf_let_e e_x9 hf
        refine lv_goto (tgt := 52) hx hb dX8_couponsAfter_67 (by decide) ?_
        exact ih hf V (lv_sub hl [1, 2, 3, 4, 0] rfl)
  have J_22 : ∀   {y1 : Int32} {y2 : Int32} {y3 : Int32} {s0 : Int32} {H : Heap} {locs : List Loc} {ls : Array Slot}, f_X8_couponsAfter_j22 I A y1 y2 y3 s0 = some (rv, I9, A9) → qw_V D cy Z9 s (Wm cy ad I A w) H locs → lv_has ls 5 [(0, .ref (ad 0)), (1, .int y1), (2, .int y2), (3, .int y3)] → W p l e rm_X8_couponsAfter s m args below meth c H locs 0 0 Q9 (F0 m 22 ls [.int s0, .ref (ad 0)]) := by
    intro y1 y2 y3 s0 H locs ls hf V hl
    unfold f_X8_couponsAfter_j22 at hf
    obtain ⟨r3, I4, hc_22, hf⟩ := qf_bd2_e hf
    refine qw_cV (rest := []) (st1 := [.int r3]) S0 V hl 0 gM_0 rfl (c_X8_fails l hc_22) kg_X8_201 rfl ⟨rfl, rfl⟩ kd_X8_fails ⟨Nat.le_of_ble_eq_true rfl, Nat.le_of_ble_eq_true rfl⟩ rfl rfl (Nat.le_of_ble_eq_true rfl) ⟨Nat.zero_le _, Nat.zero_le _⟩ rfl dX8_couponsAfter_22 (fun H locs V => ?_)
    refine lv_if_eq (tgt := 30) hx hb dX8_couponsAfter_25 (by decide) (fun c_25 => ?_) (fun c_25 => ?_)
    · replace hf := qf_t c_25 hf
      refine lv_iload_n hx hb dX8_couponsAfter_30 rfl (lv_at hl 3 rfl) ?_
      refine lv_iconst (v := 0) hx hb dX8_couponsAfter_31 (by decide) ?_
      refine lv_bipush (v := 50) hx hb dX8_couponsAfter_32 (by decide) ?_
      obtain ⟨r5, hc_34, hf⟩ := qf_bd_e hf
      refine qw_cSR (rest := []) (st1 := [.int r5]) S0 V hl (c_X8_inRange l hc_34) kg_X8_85 rfl ⟨rfl, rfl⟩ kd_X8_inRange ⟨Nat.le_of_ble_eq_true rfl, Nat.le_of_ble_eq_true rfl⟩ rfl rfl (Nat.le_of_ble_eq_true rfl) ⟨Nat.zero_le _, Nat.zero_le _⟩ rfl dX8_couponsAfter_34 ?_
      refine lv_if_ne (tgt := 43) hx hb dX8_couponsAfter_37 (by decide) (fun c_37 => ?_) (fun c_37 => ?_)
      · replace hf := qf_f c_37 hf
        refine lv_aload_n hx hb dX8_couponsAfter_43 rfl (lv_at hl 0 rfl) ?_
        refine lv_iload_n hx hb dX8_couponsAfter_44 rfl (lv_at hl 1 rfl) ?_
        refine lv_iload_n hx hb dX8_couponsAfter_45 rfl (lv_at hl 2 rfl) ?_
        obtain ⟨A6, hc_46, hf⟩ := qf_bd_e hf
        refine qw_cV (rest := []) (st1 := []) S0 V hl 0 gM_0 rfl (c_X8_layLater l hc_46) kg_X8_223 rfl ⟨rfl, rfl⟩ kd_X8_layLater ⟨Nat.le_of_ble_eq_true rfl, Nat.le_of_ble_eq_true rfl⟩ rfl rfl (Nat.le_of_ble_eq_true rfl) ⟨Nat.zero_le _, Nat.zero_le _⟩ rfl dX8_couponsAfter_46 (fun H locs V => ?_)
        refine lv_iconst (v := 0) hx hb dX8_couponsAfter_49 (by decide) ?_
        refine lv_istore (lv' := [(4, .int (0 : Int32)), (0, .ref (ad 0)), (1, .int y1), (2, .int y2), (3, .int y3)]) hx hb dX8_couponsAfter_50 hl (by decide) rfl (fun ls hl => ?_)
        exact L_52 hf V (lv_sub hl [1, 2, 3, 4, 0] rfl)
      · replace hf := qf_t c_37 hf
        refine lv_bipush (v := -2) hx hb dX8_couponsAfter_40 (by decide) ?_
        have hE := Option.some.inj hf
        obtain ⟨e0, hE⟩ := qf_pr hE
        obtain ⟨e1, hE⟩ := qf_pr hE
        exact qw_ireti S0 hr hlocks hQ e0 (by rw [e1, hE]) V dX8_couponsAfter_42
    · replace hf := qf_f c_25 hf
      refine lv_iconst (v := 0) hx hb dX8_couponsAfter_28 (by decide) ?_
      have hE := Option.some.inj hf
      obtain ⟨e0, hE⟩ := qf_pr hE
      obtain ⟨e1, hE⟩ := qf_pr hE
      exact qw_ireti S0 hr hlocks hQ e0 (by rw [e1, hE]) V dX8_couponsAfter_29
  have J_21 : ∀   {y1 : Int32} {y2 : Int32} {y3 : Int32} {H : Heap} {locs : List Loc} {ls : Array Slot}, f_X8_couponsAfter_j21 I A y1 y2 y3 = some (rv, I9, A9) → qw_V D cy Z9 s (Wm cy ad I A w) H locs → lv_has ls 5 [(0, .ref (ad 0)), (1, .int y1), (2, .int y2), (3, .int y3)] → W p l e rm_X8_couponsAfter s m args below meth c H locs 0 0 Q9 (F0 m 21 ls [.ref (ad 0)]) := by
    intro y1 y2 y3 H locs ls hf V hl
    unfold f_X8_couponsAfter_j21 at hf
    refine lv_iconst (v := 0) hx hb dX8_couponsAfter_21 (by decide) ?_
    exact J_22 hf V (lv_sub hl [0, 1, 2, 3] rfl)
  unfold f_X8_couponsAfter at hf
  refine lv_aload_n hx hb dX8_couponsAfter_0 rfl (lv_at hl 0 rfl) ?_
  refine lv_aload_n hx hb dX8_couponsAfter_1 rfl (lv_at hl 0 rfl) ?_
  refine lv_iload_n hx hb dX8_couponsAfter_2 rfl (lv_at hl 1 rfl) ?_
  obtain ⟨r1, hc_3, hf⟩ := qf_bd_e hf
  refine qw_cVR (rest := [.ref (ad 0)]) (st1 := [.int r1, .ref (ad 0)]) S0 V hl 0 gM_0 rfl (c_X8_isHouse l hc_3) kg_X8_208 rfl ⟨rfl, rfl⟩ kd_X8_isHouse ⟨Nat.le_of_ble_eq_true rfl, Nat.le_of_ble_eq_true rfl⟩ rfl rfl (Nat.le_of_ble_eq_true rfl) ⟨Nat.zero_le _, Nat.zero_le _⟩ rfl dX8_couponsAfter_3 ?_
  refine lv_if_eq (tgt := 21) hx hb dX8_couponsAfter_6 (by decide) (fun c_6 => ?_) (fun c_6 => ?_)
  · replace hf := qf_t c_6 hf
    exact J_21 hf V (lv_sub hl [0, 1, 2, 3] rfl)
  · replace hf := qf_f c_6 hf
    refine lv_aload_n hx hb dX8_couponsAfter_9 rfl (lv_at hl 0 rfl) ?_
    refine lv_iload_n hx hb dX8_couponsAfter_10 rfl (lv_at hl 2 rfl) ?_
    obtain ⟨r2, hc_11, hf⟩ := qf_bd_e hf
    refine qw_cVR (rest := [.ref (ad 0)]) (st1 := [.int r2, .ref (ad 0)]) S0 V hl 0 gM_0 rfl (c_X8_isGroup l hc_11) kg_X8_197 rfl ⟨rfl, rfl⟩ kd_X8_isGroup ⟨Nat.le_of_ble_eq_true rfl, Nat.le_of_ble_eq_true rfl⟩ rfl rfl (Nat.le_of_ble_eq_true rfl) ⟨Nat.zero_le _, Nat.zero_le _⟩ rfl dX8_couponsAfter_11 ?_
    refine lv_if_eq (tgt := 21) hx hb dX8_couponsAfter_14 (by decide) (fun c_14 => ?_) (fun c_14 => ?_)
    · replace hf := qf_t c_14 hf
      exact J_21 hf V (lv_sub hl [0, 1, 2, 3] rfl)
    · replace hf := qf_f c_14 hf
      refine lv_iconst (v := 1) hx hb dX8_couponsAfter_17 (by decide) ?_
      refine lv_goto (tgt := 22) hx hb dX8_couponsAfter_18 (by decide) ?_
      exact J_22 hf V (lv_sub hl [0, 1, 2, 3] rfl)
theorem kd_X8_neediest : yX8_neediest.cls = RX8 ∧ yX8_neediest.cls ≠ "java/lang/invoke/MethodHandle" ∧ yX8_neediest.cls ≠ "java/lang/invoke/VarHandle" ∧ (parseMethodDescriptor yX8_neediest.desc).map (fun d => d.parameters.length) = some 1 := by decide +kernel
def f_X8_neediest_j74 (A : Nat → Nat → Int32) (K18 : (Nat → Int32) → Int32 → Int32 → Option (Int32 × (Nat → Int32))) (I : Nat → Int32) (y1 : Int32) (y2 : Int32) (y3 : Int32) : Option (Int32 × (Nat → Int32)) :=
  qf_let (y3 + (1 : Int32)) fun x9 =>
  K18 I y2 x9
def f_X8_neediest_j72 (A : Nat → Nat → Int32) (K18 : (Nat → Int32) → Int32 → Int32 → Option (Int32 × (Nat → Int32))) (I : Nat → Int32) (y1 : Int32) (y3 : Int32) : Option (Int32 × (Nat → Int32)) :=
  f_X8_neediest_j74 A K18 I y1 y3 y3
def f_X8_neediest_l18 (A : Nat → Nat → Int32)  (y1 : Int32) : Nat → (Nat → Int32) → Int32 → Int32 → Option (Int32 × (Nat → Int32))
  | 0, _, _, _ => none
  | n + 1, I, y2, y3 =>
  qf_ld 62 (A 3) (2 : Int32) fun x4 =>
  if x4 ≤ y3 then (some (y2, I)) else (if y2 < 0 then (f_X8_neediest_j72 A (fun z0 z1 z2 => f_X8_neediest_l18 A y1 n z0 z1 z2) I y1 y3) else (qf_bd (f_X8_couponsOf A y3 y1) fun r5 =>
      qf_ld 250 (A 0) ((7 : Int32) + y2) fun x6 =>
      qf_bd (f_X8_couponsOf A y2 y1) fun r7 =>
      qf_ld 250 (A 0) ((7 : Int32) + y3) fun x8 =>
      if 0 ≤ (lg_cmp ((r5.toInt64) * (x6.toInt64)) ((r7.toInt64) * (x8.toInt64))) then (f_X8_neediest_j74 A (fun z0 z1 z2 => f_X8_neediest_l18 A y1 n z0 z1 z2) I y1 y2 y3) else (f_X8_neediest_j72 A (fun z0 z1 z2 => f_X8_neediest_l18 A y1 n z0 z1 z2) I y1 y3)))
def f_X8_neediest (A : Nat → Nat → Int32) (I : Nat → Int32) (p1 : Int32) : Option (Int32 × (Nat → Int32)) :=
  qf_bd (f_X8_isGroup A p1) fun r1 =>
  qf_bd2 (f_X8_fails I r1) fun r2 I3 =>
  if r2 = 0 then (f_X8_neediest_l18 A p1 100000 I3 (-1 : Int32) (0 : Int32)) else (some ((0 : Int32), I3))
abbrev wz_X8_neediest : List Cond := Cond.code yX8_neediest cX8_neediest 4 (some .int) :: qw_big
def rm_X8_neediest : Room := { frames := 2, cells := 0, slots := 0, locals := 45 }
set_option maxHeartbeats 4000000 in
set_option maxRecDepth 100000 in
theorem c_X8_neediest (l : Launch) {D : va_G} {cy : Nat → ClassId} {ad : Nat → Nat} {I : Nat → Int32} {A : Nat → Nat → Int32} {w : Int64} {p1 : Int32} {rv : Int32} {I9 : Nat → Int32} {sz : Nat} (hf : f_X8_neediest A I p1 = some (rv, I9)) : Met l yX8_neediest wz_X8_neediest rm_X8_neediest (va_Pc [.ref (ad 0), .int p1] (qw_Pre D cy (Wm cy ad I A w) sz)) (qw_Q (some (.int rv)) D (Wm cy ad I9 A w) (va_A (Wm cy ad I A w) sz)) 0 0 (va_A (Wm cy ad I A w) sz) := by
  refine qw_of (cc := cX8_neediest) (maxL := 4) (ret := (some .int)) (by decide) (Nat.le_of_ble_eq_true rfl) ?_
  intro p e s m args below meth c ls S0 hr hlocks hsz V hl
  have S0 : CallFix p m c cX8_neediest 4 s args qw_big RX8 := S0
  have hx := S0.1; have hb := S0.2.1; have hown := S0.2.2.2.1; have hts := S0.2.2.2.2
  have hl : lv_has ls 4 [(0, .ref (ad 0)), (1, .int p1)] := hl
  generalize va_A (Wm cy ad I A w) sz = Z9 at V ⊢
  obtain ⟨Q9, hQ⟩ : ∃ q, q = MQ below (qw_Q (some (.int rv)) D (Wm cy ad I9 A w) Z9) args s 0 0 Z9 := ⟨_, rfl⟩
  rw [← hQ]
  clear hsz
  have J_74 : ∀ {K18 : (Nat → Int32) → Int32 → Int32 → Option (Int32 × (Nat → Int32))} {y1 : Int32}  (hK18 : ∀ {I : Nat → Int32} {y2 : Int32} {y3 : Int32} {H : Heap} {locs : List Loc} {ls : Array Slot}, K18 I y2 y3 = some (rv, I9) → qw_V D cy Z9 s (Wm cy ad I A w) H locs → lv_has ls 4 [(0, .ref (ad 0)), (1, .int y1), (2, .int y2), (3, .int y3)] → W p l e rm_X8_neediest s m args below meth c H locs 0 0 Q9 (F0 m 18 ls [])) {I : Nat → Int32} {y2 : Int32} {y3 : Int32} {H : Heap} {locs : List Loc} {ls : Array Slot}, f_X8_neediest_j74 A K18 I y1 y2 y3 = some (rv, I9) → qw_V D cy Z9 s (Wm cy ad I A w) H locs → lv_has ls 4 [(0, .ref (ad 0)), (1, .int y1), (2, .int y2), (3, .int y3)] → W p l e rm_X8_neediest s m args below meth c H locs 0 0 Q9 (F0 m 74 ls []) := by
    intro K18 y1 hK18 I y2 y3 H locs ls hf V hl
    unfold f_X8_neediest_j74 at hf
    obtain ⟨x9, e_x9⟩ : ∃ y : Int32, y = y3 + (1 : Int32) := ⟨_, rfl⟩
    refine lv_iinc (v := x9) (lv' := [(3, .int x9), (0, .ref (ad 0)), (1, .int y1), (2, .int y2)]) hx hb dX8_neediest_74 hl (k := 3) rfl (by rw [e_x9]; rfl) (by decide) rfl (fun ls hl => ?_)
    replace hf := qf_let_e e_x9 hf
    refine lv_goto (tgt := 18) hx hb dX8_neediest_77 (by decide) ?_
    exact hK18 hf V (lv_sub hl [1, 2, 3, 0] rfl)
  have J_72 : ∀ {K18 : (Nat → Int32) → Int32 → Int32 → Option (Int32 × (Nat → Int32))} {y1 : Int32}  (hK18 : ∀ {I : Nat → Int32} {y2 : Int32} {y3 : Int32} {H : Heap} {locs : List Loc} {ls : Array Slot}, K18 I y2 y3 = some (rv, I9) → qw_V D cy Z9 s (Wm cy ad I A w) H locs → lv_has ls 4 [(0, .ref (ad 0)), (1, .int y1), (2, .int y2), (3, .int y3)] → W p l e rm_X8_neediest s m args below meth c H locs 0 0 Q9 (F0 m 18 ls [])) {I : Nat → Int32} {y3 : Int32} {H : Heap} {locs : List Loc} {ls : Array Slot}, f_X8_neediest_j72 A K18 I y1 y3 = some (rv, I9) → qw_V D cy Z9 s (Wm cy ad I A w) H locs → lv_has ls 4 [(0, .ref (ad 0)), (1, .int y1), (3, .int y3)] → W p l e rm_X8_neediest s m args below meth c H locs 0 0 Q9 (F0 m 72 ls []) := by
    intro K18 y1 hK18 I y3 H locs ls hf V hl
    unfold f_X8_neediest_j72 at hf
    refine lv_iload_n hx hb dX8_neediest_72 rfl (lv_at hl 2 rfl) ?_
    refine lv_istore_n (lv' := [(2, .int y3), (0, .ref (ad 0)), (1, .int y1), (3, .int y3)]) hx hb dX8_neediest_73 rfl hl (by decide) rfl (fun ls hl => ?_)
    exact J_74 hK18 hf V (lv_sub hl [1, 2, 0, 3] rfl)
  have L_18 : ∀  {y1 : Int32} {n : Nat} {I : Nat → Int32} {y2 : Int32} {y3 : Int32} {H : Heap} {locs : List Loc} {ls : Array Slot}, f_X8_neediest_l18 A y1 n I y2 y3 = some (rv, I9) → qw_V D cy Z9 s (Wm cy ad I A w) H locs → lv_has ls 4 [(0, .ref (ad 0)), (1, .int y1), (2, .int y2), (3, .int y3)] → W p l e rm_X8_neediest s m args below meth c H locs 0 0 Q9 (F0 m 18 ls []) := by
    intro y1 n
    induction n with
    | zero => intro I y2 y3 H locs ls hf V hl; exact qf_no hf
    | succ n ih =>
      intro I y2 y3 H locs ls hf V hl
      rw [f_X8_neediest_l18] at hf
      refine lv_iload_n hx hb dX8_neediest_18 rfl (lv_at hl 3 rfl) ?_
      refine lv_aload_n hx hb dX8_neediest_19 rfl (lv_at hl 0 rfl) ?_
      refine gfM_0_5 S0 V kl_X8_19 dX8_neediest_20 ?_
      refine lv_iconst (v := 2) hx hb dX8_neediest_23 (by decide) ?_
      have h_24 := qf_ld_in hf
      refine alM_4 S0 V h_24 dX8_neediest_24 ?_
      refine lv_topi (fun x4 e_x4 => ?_)
      replace hf := qf_ld_e e_x4 hf
      refine lv_icmp_ge (tgt := 80) hx hb dX8_neediest_25 (by decide) (fun c_25 => ?_) (fun c_25 => ?_)
      · replace hf := qf_t c_25 hf
        refine lv_iload_n hx hb dX8_neediest_80 rfl (lv_at hl 2 rfl) ?_
        have hE := Option.some.inj hf
        obtain ⟨e0, hE⟩ := qf_pr hE
        exact qw_ireti S0 hr hlocks hQ e0 (by rw [hE]) V dX8_neediest_81
      · replace hf := qf_f c_25 hf
        refine lv_iload_n hx hb dX8_neediest_28 rfl (lv_at hl 2 rfl) ?_
        refine lv_if_lt (tgt := 72) hx hb dX8_neediest_29 (by decide) (fun c_29 => ?_) (fun c_29 => ?_)
        · replace hf := qf_t c_29 hf
          exact J_72 (fun hf V hl => ih hf V hl) hf V (lv_sub hl [0, 1, 3] rfl)
        · replace hf := qf_f c_29 hf
          refine lv_aload_n hx hb dX8_neediest_32 rfl (lv_at hl 0 rfl) ?_
          refine lv_iload_n hx hb dX8_neediest_33 rfl (lv_at hl 3 rfl) ?_
          refine lv_iload_n hx hb dX8_neediest_34 rfl (lv_at hl 1 rfl) ?_
          obtain ⟨r5, hc_35, hf⟩ := qf_bd_e hf
          refine qw_cVR (rest := []) (st1 := [.int r5]) S0 V hl 0 gM_0 rfl (c_X8_couponsOf l hc_35) kg_X8_214 rfl ⟨rfl, rfl⟩ kd_X8_couponsOf ⟨Nat.le_of_ble_eq_true rfl, Nat.le_of_ble_eq_true rfl⟩ rfl rfl (Nat.le_of_ble_eq_true rfl) ⟨Nat.zero_le _, Nat.zero_le _⟩ rfl dX8_neediest_35 ?_
          refine lv_i2l hx hb dX8_neediest_38 rfl ?_
          refine lv_aload_n hx hb dX8_neediest_39 rfl (lv_at hl 0 rfl) ?_
          refine gfM_0_0 S0 V kl_X8_7 dX8_neediest_40 ?_
          refine lv_bipush (v := 7) hx hb dX8_neediest_43 (by decide) ?_
          refine lv_iload_n hx hb dX8_neediest_45 rfl (lv_at hl 2 rfl) ?_
          refine lv_iadd hx hb dX8_neediest_46 ?_
          have h_47 := qf_ld_in hf
          refine alM_1 S0 V h_47 dX8_neediest_47 ?_
          refine lv_topi (fun x6 e_x6 => ?_)
          replace hf := qf_ld_e e_x6 hf
          refine lv_i2l hx hb dX8_neediest_48 rfl ?_
          refine lv_lmul hx hb dX8_neediest_49 ?_
          refine lv_aload_n hx hb dX8_neediest_50 rfl (lv_at hl 0 rfl) ?_
          refine lv_iload_n hx hb dX8_neediest_51 rfl (lv_at hl 2 rfl) ?_
          refine lv_iload_n hx hb dX8_neediest_52 rfl (lv_at hl 1 rfl) ?_
          obtain ⟨r7, hc_53, hf⟩ := qf_bd_e hf
          refine qw_cVR (rest := [.long ((r5.toInt64) * (x6.toInt64))]) (st1 := [.int r7, .long ((r5.toInt64) * (x6.toInt64))]) S0 V hl 0 gM_0 rfl (c_X8_couponsOf l hc_53) kg_X8_214 rfl ⟨rfl, rfl⟩ kd_X8_couponsOf ⟨Nat.le_of_ble_eq_true rfl, Nat.le_of_ble_eq_true rfl⟩ rfl rfl (Nat.le_of_ble_eq_true rfl) ⟨Nat.zero_le _, Nat.zero_le _⟩ rfl dX8_neediest_53 ?_
          refine lv_i2l hx hb dX8_neediest_56 rfl ?_
          refine lv_aload_n hx hb dX8_neediest_57 rfl (lv_at hl 0 rfl) ?_
          refine gfM_0_0 S0 V kl_X8_7 dX8_neediest_58 ?_
          refine lv_bipush (v := 7) hx hb dX8_neediest_61 (by decide) ?_
          refine lv_iload_n hx hb dX8_neediest_63 rfl (lv_at hl 3 rfl) ?_
          refine lv_iadd hx hb dX8_neediest_64 ?_
          have h_65 := qf_ld_in hf
          refine alM_1 S0 V h_65 dX8_neediest_65 ?_
          refine lv_topi (fun x8 e_x8 => ?_)
          replace hf := qf_ld_e e_x8 hf
          refine lv_i2l hx hb dX8_neediest_66 rfl ?_
          refine lv_lmul hx hb dX8_neediest_67 ?_
          refine W.lcmp hx hb dX8_neediest_68 ?_
          refine lv_if_ge (tgt := 74) hx hb dX8_neediest_69 (by decide) (fun c_69 => ?_) (fun c_69 => ?_)
          · replace hf := qf_t c_69 hf
            exact J_74 (fun hf V hl => ih hf V hl) hf V (lv_sub hl [0, 1, 2, 3] rfl)
          · replace hf := qf_f c_69 hf
            exact J_72 (fun hf V hl => ih hf V hl) hf V (lv_sub hl [0, 1, 3] rfl)
  unfold f_X8_neediest at hf
  refine lv_aload_n hx hb dX8_neediest_0 rfl (lv_at hl 0 rfl) ?_
  refine lv_aload_n hx hb dX8_neediest_1 rfl (lv_at hl 0 rfl) ?_
  refine lv_iload_n hx hb dX8_neediest_2 rfl (lv_at hl 1 rfl) ?_
  obtain ⟨r1, hc_3, hf⟩ := qf_bd_e hf
  refine qw_cVR (rest := [.ref (ad 0)]) (st1 := [.int r1, .ref (ad 0)]) S0 V hl 0 gM_0 rfl (c_X8_isGroup l hc_3) kg_X8_197 rfl ⟨rfl, rfl⟩ kd_X8_isGroup ⟨Nat.le_of_ble_eq_true rfl, Nat.le_of_ble_eq_true rfl⟩ rfl rfl (Nat.le_of_ble_eq_true rfl) ⟨Nat.zero_le _, Nat.zero_le _⟩ rfl dX8_neediest_3 ?_
  obtain ⟨r2, I3, hc_6, hf⟩ := qf_bd2_e hf
  refine qw_cV (rest := []) (st1 := [.int r2]) S0 V hl 0 gM_0 rfl (c_X8_fails l hc_6) kg_X8_201 rfl ⟨rfl, rfl⟩ kd_X8_fails ⟨Nat.le_of_ble_eq_true rfl, Nat.le_of_ble_eq_true rfl⟩ rfl rfl (Nat.le_of_ble_eq_true rfl) ⟨Nat.zero_le _, Nat.zero_le _⟩ rfl dX8_neediest_6 (fun H locs V => ?_)
  refine lv_if_eq (tgt := 14) hx hb dX8_neediest_9 (by decide) (fun c_9 => ?_) (fun c_9 => ?_)
  · replace hf := qf_t c_9 hf
    refine lv_iconst (v := -1) hx hb dX8_neediest_14 (by decide) ?_
    refine lv_istore_n (lv' := [(2, .int (-1 : Int32)), (0, .ref (ad 0)), (1, .int p1)]) hx hb dX8_neediest_15 rfl hl (by decide) rfl (fun ls hl => ?_)
    refine lv_iconst (v := 0) hx hb dX8_neediest_16 (by decide) ?_
    refine lv_istore_n (lv' := [(3, .int (0 : Int32)), (2, .int (-1 : Int32)), (0, .ref (ad 0)), (1, .int p1)]) hx hb dX8_neediest_17 rfl hl (by decide) rfl (fun ls hl => ?_)
    exact L_18 hf V (lv_sub hl [2, 3, 1, 0] rfl)
  · replace hf := qf_f c_9 hf
    refine lv_iconst (v := 0) hx hb dX8_neediest_12 (by decide) ?_
    have hE := Option.some.inj hf
    obtain ⟨e0, hE⟩ := qf_pr hE
    exact qw_ireti S0 hr hlocks hQ e0 (by rw [hE]) V dX8_neediest_13
theorem kd_X8_lapseLater : yX8_lapseLater.cls = RX8 ∧ yX8_lapseLater.cls ≠ "java/lang/invoke/MethodHandle" ∧ yX8_lapseLater.cls ≠ "java/lang/invoke/VarHandle" ∧ (parseMethodDescriptor yX8_lapseLater.desc).map (fun d => d.parameters.length) = some 1 := by decide +kernel
def f_X8_lapseLater (A : Nat → Nat → Int32) (p1 : Int32) : Option (Int32) :=
  qf_ld 5 (A 6) (0 : Int32) fun x1 =>
  qf_ld 5 (A 6) (1 : Int32) fun x2 =>
  qf_ld 5 (A 6) (1 : Int32) fun x3 =>
  qf_bd (f_X8_carriedOf A p1 x3) fun r4 =>
  some (((x1 + x2) - r4))
abbrev wz_X8_lapseLater : List Cond := Cond.code yX8_lapseLater cX8_lapseLater 2 (some .int) :: qw_big
def rm_X8_lapseLater : Room := { frames := 1, cells := 0, slots := 0, locals := 22 }
set_option maxHeartbeats 4000000 in
set_option maxRecDepth 100000 in
theorem c_X8_lapseLater (l : Launch) {D : va_G} {cy : Nat → ClassId} {ad : Nat → Nat} {I : Nat → Int32} {A : Nat → Nat → Int32} {w : Int64} {p1 : Int32} {rv : Int32} {sz : Nat} (hf : f_X8_lapseLater A p1 = some (rv)) : Met l yX8_lapseLater wz_X8_lapseLater rm_X8_lapseLater (va_Pc [.ref (ad 0), .int p1] (qw_Pre D cy (Wm cy ad I A w) sz)) (qw_R (some (.int rv))) 0 0 (fun _ => False) := by
  refine qw_of (cc := cX8_lapseLater) (maxL := 2) (ret := (some .int)) (by decide) (Nat.le_of_ble_eq_true rfl) ?_
  intro p e s m args below meth c ls S0 hr hlocks hsz V hl
  have S0 : CallFix p m c cX8_lapseLater 2 s args qw_big RX8 := S0
  have hx := S0.1; have hb := S0.2.1; have hown := S0.2.2.2.1; have hts := S0.2.2.2.2
  have hl : lv_has ls 2 [(0, .ref (ad 0)), (1, .int p1)] := hl
  obtain ⟨Q9, hQ⟩ : ∃ q, q = MQ below (qw_R (some (.int rv))) args s 0 0 (fun _ => False) := ⟨_, rfl⟩
  rw [← hQ]
  generalize va_A (Wm cy ad I A w) sz = Z9 at V
  unfold f_X8_lapseLater at hf
  refine lv_aload_n hx hb dX8_lapseLater_0 rfl (lv_at hl 0 rfl) ?_
  refine gfM_0_19 S0 V kl_X8_33 dX8_lapseLater_1 ?_
  refine lv_iconst (v := 0) hx hb dX8_lapseLater_4 (by decide) ?_
  have h_5 := qf_ld_in hf
  refine alM_7 S0 V h_5 dX8_lapseLater_5 ?_
  refine lv_topi (fun x1 e_x1 => ?_)
  replace hf := qf_ld_e e_x1 hf
  refine lv_aload_n hx hb dX8_lapseLater_6 rfl (lv_at hl 0 rfl) ?_
  refine gfM_0_19 S0 V kl_X8_33 dX8_lapseLater_7 ?_
  refine lv_iconst (v := 1) hx hb dX8_lapseLater_10 (by decide) ?_
  have h_11 := qf_ld_in hf
  refine alM_7 S0 V h_11 dX8_lapseLater_11 ?_
  refine lv_topi (fun x2 e_x2 => ?_)
  replace hf := qf_ld_e e_x2 hf
  refine lv_iadd hx hb dX8_lapseLater_12 ?_
  refine lv_aload_n hx hb dX8_lapseLater_13 rfl (lv_at hl 0 rfl) ?_
  refine lv_iload_n hx hb dX8_lapseLater_14 rfl (lv_at hl 1 rfl) ?_
  refine lv_aload_n hx hb dX8_lapseLater_15 rfl (lv_at hl 0 rfl) ?_
  refine gfM_0_19 S0 V kl_X8_33 dX8_lapseLater_16 ?_
  refine lv_iconst (v := 1) hx hb dX8_lapseLater_19 (by decide) ?_
  have h_20 := qf_ld_in hf
  refine alM_7 S0 V h_20 dX8_lapseLater_20 ?_
  refine lv_topi (fun x3 e_x3 => ?_)
  replace hf := qf_ld_e e_x3 hf
  obtain ⟨r4, hc_21, hf⟩ := qf_bd_e hf
  refine qw_cVR (rest := [.int (x1 + x2)]) (st1 := [.int r4, .int (x1 + x2)]) S0 V hl 0 gM_0 rfl (c_X8_carriedOf l hc_21) kg_X8_217 rfl ⟨rfl, rfl⟩ kd_X8_carriedOf ⟨Nat.le_of_ble_eq_true rfl, Nat.le_of_ble_eq_true rfl⟩ rfl rfl (Nat.le_of_ble_eq_true rfl) ⟨Nat.zero_le _, Nat.zero_le _⟩ rfl dX8_lapseLater_21 ?_
  refine lv_isub hx hb dX8_lapseLater_24 ?_
  have hE := Option.some.inj hf
  exact qw_iretR S0 hr hlocks hQ hE dX8_lapseLater_25
theorem kd_X8_lapseAfter : yX8_lapseAfter.cls = RX8 ∧ yX8_lapseAfter.cls ≠ "java/lang/invoke/MethodHandle" ∧ yX8_lapseAfter.cls ≠ "java/lang/invoke/VarHandle" ∧ (parseMethodDescriptor yX8_lapseAfter.desc).map (fun d => d.parameters.length) = some 3 := by decide +kernel
def f_X8_lapseAfter_l55   (y1 : Int32) (y2 : Int32) (y3 : Int32) : Nat → (Nat → Int32) → (Nat → Nat → Int32) → Int32 → Int32 → Option (Int32 × (Nat → Int32) × (Nat → Nat → Int32))
  | 0, _, _, _, _ => none
  | n + 1, I, A, y4, y5 =>
  if y3 ≤ y5 then (some (y4, I, A)) else (qf_bd (f_X8_lapseLater A y2) fun r7 =>
    qf_let ((y4 + r7)) fun x8 =>
    qf_bd (f_X8_passLater A y1 y2) fun A9 =>
    qf_let (y5 + (1 : Int32)) fun x10 =>
    f_X8_lapseAfter_l55 y1 y2 y3 n I A9 x8 x10)
def f_X8_lapseAfter_j22 (I : Nat → Int32) (A : Nat → Nat → Int32)  (y1 : Int32) (y2 : Int32) (y3 : Int32) (s0 : Int32) : Option (Int32 × (Nat → Int32) × (Nat → Nat → Int32)) :=
  qf_bd2 (f_X8_fails I s0) fun r3 I4 =>
  if r3 = 0 then (qf_bd (f_X8_inRange y3 (0 : Int32) (50 : Int32)) fun r5 =>
    if r5 = 0 then (some ((-2 : Int32), I4, A)) else (qf_bd (f_X8_layLater A y1 y2) fun A6 =>
      f_X8_lapseAfter_l55 y1 y2 y3 100000 I4 A6 (0 : Int32) (0 : Int32))) else (some ((0 : Int32), I4, A))
def f_X8_lapseAfter_j21 (I : Nat → Int32) (A : Nat → Nat → Int32)  (y1 : Int32) (y2 : Int32) (y3 : Int32) : Option (Int32 × (Nat → Int32) × (Nat → Nat → Int32)) :=
  f_X8_lapseAfter_j22 I A y1 y2 y3 (0 : Int32)
def f_X8_lapseAfter (I : Nat → Int32) (A : Nat → Nat → Int32) (p1 : Int32) (p2 : Int32) (p3 : Int32) : Option (Int32 × (Nat → Int32) × (Nat → Nat → Int32)) :=
  qf_bd (f_X8_isHouse A p1) fun r1 =>
  if r1 = 0 then (f_X8_lapseAfter_j21 I A p1 p2 p3) else (qf_bd (f_X8_isGroup A p2) fun r2 =>
    if r2 = 0 then (f_X8_lapseAfter_j21 I A p1 p2 p3) else (f_X8_lapseAfter_j22 I A p1 p2 p3 (1 : Int32)))
abbrev wz_X8_lapseAfter : List Cond := Cond.code yX8_lapseAfter cX8_lapseAfter 6 (some .int) :: qw_big
def rm_X8_lapseAfter : Room := { frames := 2, cells := 0, slots := 0, locals := 45 }
set_option maxHeartbeats 4000000 in
set_option maxRecDepth 100000 in
theorem c_X8_lapseAfter (l : Launch) {D : va_G} {cy : Nat → ClassId} {ad : Nat → Nat} {I : Nat → Int32} {A : Nat → Nat → Int32} {w : Int64} {p1 : Int32} {p2 : Int32} {p3 : Int32} {rv : Int32} {I9 : Nat → Int32} {A9 : Nat → Nat → Int32} {sz : Nat} (hf : f_X8_lapseAfter I A p1 p2 p3 = some (rv, I9, A9)) : Met l yX8_lapseAfter wz_X8_lapseAfter rm_X8_lapseAfter (va_Pc [.ref (ad 0), .int p1, .int p2, .int p3] (qw_Pre D cy (Wm cy ad I A w) sz)) (qw_Q (some (.int rv)) D (Wm cy ad I9 A9 w) (va_A (Wm cy ad I A w) sz)) 0 0 (va_A (Wm cy ad I A w) sz) := by
  refine qw_of (cc := cX8_lapseAfter) (maxL := 6) (ret := (some .int)) (by decide) (Nat.le_of_ble_eq_true rfl) ?_
  intro p e s m args below meth c ls S0 hr hlocks hsz V hl
  have S0 : CallFix p m c cX8_lapseAfter 6 s args qw_big RX8 := S0
  have hx := S0.1; have hb := S0.2.1; have hown := S0.2.2.2.1; have hts := S0.2.2.2.2
  have hl : lv_has ls 6 [(0, .ref (ad 0)), (1, .int p1), (2, .int p2), (3, .int p3)] := hl
  generalize va_A (Wm cy ad I A w) sz = Z9 at V ⊢
  obtain ⟨Q9, hQ⟩ : ∃ q, q = MQ below (qw_Q (some (.int rv)) D (Wm cy ad I9 A9 w) Z9) args s 0 0 Z9 := ⟨_, rfl⟩
  rw [← hQ]
  clear hsz
  have L_55 : ∀  {y1 : Int32} {y2 : Int32} {y3 : Int32} {n : Nat} {I : Nat → Int32} {A : Nat → Nat → Int32} {y4 : Int32} {y5 : Int32} {H : Heap} {locs : List Loc} {ls : Array Slot}, f_X8_lapseAfter_l55 y1 y2 y3 n I A y4 y5 = some (rv, I9, A9) → qw_V D cy Z9 s (Wm cy ad I A w) H locs → lv_has ls 6 [(0, .ref (ad 0)), (1, .int y1), (2, .int y2), (3, .int y3), (4, .int y4), (5, .int y5)] → W p l e rm_X8_lapseAfter s m args below meth c H locs 0 0 Q9 (F0 m 55 ls []) := by
    intro y1 y2 y3 n
    induction n with
    | zero => intro I A y4 y5 H locs ls hf V hl; exact qf_no hf
    | succ n ih =>
      intro I A y4 y5 H locs ls hf V hl
      rw [f_X8_lapseAfter_l55] at hf
      refine lv_iload hx hb dX8_lapseAfter_55 (lv_at hl 5 rfl) ?_
      refine lv_iload_n hx hb dX8_lapseAfter_57 rfl (lv_at hl 3 rfl) ?_
      refine lv_icmp_ge (tgt := 83) hx hb dX8_lapseAfter_58 (by decide) (fun c_58 => ?_) (fun c_58 => ?_)
      · replace hf := qf_t c_58 hf
        refine lv_iload hx hb dX8_lapseAfter_83 (lv_at hl 4 rfl) ?_
        have hE := Option.some.inj hf
        obtain ⟨e0, hE⟩ := qf_pr hE
        obtain ⟨e1, hE⟩ := qf_pr hE
        exact qw_ireti S0 hr hlocks hQ e0 (by rw [e1, hE]) V dX8_lapseAfter_85
      · replace hf := qf_f c_58 hf
        refine lv_iload hx hb dX8_lapseAfter_61 (lv_at hl 4 rfl) ?_
        refine lv_aload_n hx hb dX8_lapseAfter_63 rfl (lv_at hl 0 rfl) ?_
        refine lv_iload_n hx hb dX8_lapseAfter_64 rfl (lv_at hl 2 rfl) ?_
        obtain ⟨r7, hc_65, hf⟩ := qf_bd_e hf
        refine qw_cVR (rest := [.int y4]) (st1 := [.int r7, .int y4]) S0 V hl 0 gM_0 rfl (c_X8_lapseLater l hc_65) kg_X8_232 rfl ⟨rfl, rfl⟩ kd_X8_lapseLater ⟨Nat.le_of_ble_eq_true rfl, Nat.le_of_ble_eq_true rfl⟩ rfl rfl (Nat.le_of_ble_eq_true rfl) ⟨Nat.zero_le _, Nat.zero_le _⟩ rfl dX8_lapseAfter_65 ?_
        refine lv_iadd hx hb dX8_lapseAfter_68 ?_
        refine lv_topi (fun x8 e_x8 => ?_)
        replace hf := qf_let_e e_x8 hf
        refine lv_istore (lv' := [(4, .int x8), (0, .ref (ad 0)), (1, .int y1), (2, .int y2), (3, .int y3), (5, .int y5)]) hx hb dX8_lapseAfter_69 hl (by decide) rfl (fun ls hl => ?_)
        refine lv_aload_n hx hb dX8_lapseAfter_71 rfl (lv_at hl 1 rfl) ?_
        refine lv_iload_n hx hb dX8_lapseAfter_72 rfl (lv_at hl 2 rfl) ?_
        refine lv_iload_n hx hb dX8_lapseAfter_73 rfl (lv_at hl 3 rfl) ?_
        obtain ⟨A9, hc_74, hf⟩ := qf_bd_e hf
        refine qw_cV (rest := []) (st1 := []) S0 V hl 0 gM_0 rfl (c_X8_passLater l hc_74) kg_X8_226 rfl ⟨rfl, rfl⟩ kd_X8_passLater ⟨Nat.le_of_ble_eq_true rfl, Nat.le_of_ble_eq_true rfl⟩ rfl rfl (Nat.le_of_ble_eq_true rfl) ⟨Nat.zero_le _, Nat.zero_le _⟩ rfl dX8_lapseAfter_74 (fun H locs V => ?_)
        obtain ⟨x10, e_x10⟩ : ∃ y : Int32, y = y5 + (1 : Int32) := ⟨_, rfl⟩
        refine lv_iinc (v := x10) (lv' := [(5, .int x10), (4, .int x8), (0, .ref (ad 0)), (1, .int y1), (2, .int y2), (3, .int y3)]) hx hb dX8_lapseAfter_77 hl (k := 5) rfl (by rw [e_x10]; rfl) (by decide) rfl (fun ls hl => ?_)
        replace hf := qf_let_e e_x10 hf
        refine lv_goto (tgt := 55) hx hb dX8_lapseAfter_80 (by decide) ?_
        exact ih hf V (lv_sub hl [2, 3, 4, 5, 1, 0] rfl)
  have J_22 : ∀   {y1 : Int32} {y2 : Int32} {y3 : Int32} {s0 : Int32} {H : Heap} {locs : List Loc} {ls : Array Slot}, f_X8_lapseAfter_j22 I A y1 y2 y3 s0 = some (rv, I9, A9) → qw_V D cy Z9 s (Wm cy ad I A w) H locs → lv_has ls 6 [(0, .ref (ad 0)), (1, .int y1), (2, .int y2), (3, .int y3)] → W p l e rm_X8_lapseAfter s m args below meth c H locs 0 0 Q9 (F0 m 22 ls [.int s0, .ref (ad 0)]) := by
    intro y1 y2 y3 s0 H locs ls hf V hl
    unfold f_X8_lapseAfter_j22 at hf
    obtain ⟨r3, I4, hc_22, hf⟩ := qf_bd2_e hf
    refine qw_cV (rest := []) (st1 := [.int r3]) S0 V hl 0 gM_0 rfl (c_X8_fails l hc_22) kg_X8_201 rfl ⟨rfl, rfl⟩ kd_X8_fails ⟨Nat.le_of_ble_eq_true rfl, Nat.le_of_ble_eq_true rfl⟩ rfl rfl (Nat.le_of_ble_eq_true rfl) ⟨Nat.zero_le _, Nat.zero_le _⟩ rfl dX8_lapseAfter_22 (fun H locs V => ?_)
    refine lv_if_eq (tgt := 30) hx hb dX8_lapseAfter_25 (by decide) (fun c_25 => ?_) (fun c_25 => ?_)
    · replace hf := qf_t c_25 hf
      refine lv_iload_n hx hb dX8_lapseAfter_30 rfl (lv_at hl 3 rfl) ?_
      refine lv_iconst (v := 0) hx hb dX8_lapseAfter_31 (by decide) ?_
      refine lv_bipush (v := 50) hx hb dX8_lapseAfter_32 (by decide) ?_
      obtain ⟨r5, hc_34, hf⟩ := qf_bd_e hf
      refine qw_cSR (rest := []) (st1 := [.int r5]) S0 V hl (c_X8_inRange l hc_34) kg_X8_85 rfl ⟨rfl, rfl⟩ kd_X8_inRange ⟨Nat.le_of_ble_eq_true rfl, Nat.le_of_ble_eq_true rfl⟩ rfl rfl (Nat.le_of_ble_eq_true rfl) ⟨Nat.zero_le _, Nat.zero_le _⟩ rfl dX8_lapseAfter_34 ?_
      refine lv_if_ne (tgt := 43) hx hb dX8_lapseAfter_37 (by decide) (fun c_37 => ?_) (fun c_37 => ?_)
      · replace hf := qf_f c_37 hf
        refine lv_aload_n hx hb dX8_lapseAfter_43 rfl (lv_at hl 0 rfl) ?_
        refine lv_iload_n hx hb dX8_lapseAfter_44 rfl (lv_at hl 1 rfl) ?_
        refine lv_iload_n hx hb dX8_lapseAfter_45 rfl (lv_at hl 2 rfl) ?_
        obtain ⟨A6, hc_46, hf⟩ := qf_bd_e hf
        refine qw_cV (rest := []) (st1 := []) S0 V hl 0 gM_0 rfl (c_X8_layLater l hc_46) kg_X8_223 rfl ⟨rfl, rfl⟩ kd_X8_layLater ⟨Nat.le_of_ble_eq_true rfl, Nat.le_of_ble_eq_true rfl⟩ rfl rfl (Nat.le_of_ble_eq_true rfl) ⟨Nat.zero_le _, Nat.zero_le _⟩ rfl dX8_lapseAfter_46 (fun H locs V => ?_)
        refine lv_iconst (v := 0) hx hb dX8_lapseAfter_49 (by decide) ?_
        refine lv_istore (lv' := [(4, .int (0 : Int32)), (0, .ref (ad 0)), (1, .int y1), (2, .int y2), (3, .int y3)]) hx hb dX8_lapseAfter_50 hl (by decide) rfl (fun ls hl => ?_)
        refine lv_iconst (v := 0) hx hb dX8_lapseAfter_52 (by decide) ?_
        refine lv_istore (lv' := [(5, .int (0 : Int32)), (4, .int (0 : Int32)), (0, .ref (ad 0)), (1, .int y1), (2, .int y2), (3, .int y3)]) hx hb dX8_lapseAfter_53 hl (by decide) rfl (fun ls hl => ?_)
        exact L_55 hf V (lv_sub hl [2, 3, 4, 5, 1, 0] rfl)
      · replace hf := qf_t c_37 hf
        refine lv_bipush (v := -2) hx hb dX8_lapseAfter_40 (by decide) ?_
        have hE := Option.some.inj hf
        obtain ⟨e0, hE⟩ := qf_pr hE
        obtain ⟨e1, hE⟩ := qf_pr hE
        exact qw_ireti S0 hr hlocks hQ e0 (by rw [e1, hE]) V dX8_lapseAfter_42
    · replace hf := qf_f c_25 hf
      refine lv_iconst (v := 0) hx hb dX8_lapseAfter_28 (by decide) ?_
      have hE := Option.some.inj hf
      obtain ⟨e0, hE⟩ := qf_pr hE
      obtain ⟨e1, hE⟩ := qf_pr hE
      exact qw_ireti S0 hr hlocks hQ e0 (by rw [e1, hE]) V dX8_lapseAfter_29
  have J_21 : ∀   {y1 : Int32} {y2 : Int32} {y3 : Int32} {H : Heap} {locs : List Loc} {ls : Array Slot}, f_X8_lapseAfter_j21 I A y1 y2 y3 = some (rv, I9, A9) → qw_V D cy Z9 s (Wm cy ad I A w) H locs → lv_has ls 6 [(0, .ref (ad 0)), (1, .int y1), (2, .int y2), (3, .int y3)] → W p l e rm_X8_lapseAfter s m args below meth c H locs 0 0 Q9 (F0 m 21 ls [.ref (ad 0)]) := by
    intro y1 y2 y3 H locs ls hf V hl
    unfold f_X8_lapseAfter_j21 at hf
    refine lv_iconst (v := 0) hx hb dX8_lapseAfter_21 (by decide) ?_
    exact J_22 hf V (lv_sub hl [0, 1, 2, 3] rfl)
  unfold f_X8_lapseAfter at hf
  refine lv_aload_n hx hb dX8_lapseAfter_0 rfl (lv_at hl 0 rfl) ?_
  refine lv_aload_n hx hb dX8_lapseAfter_1 rfl (lv_at hl 0 rfl) ?_
  refine lv_iload_n hx hb dX8_lapseAfter_2 rfl (lv_at hl 1 rfl) ?_
  obtain ⟨r1, hc_3, hf⟩ := qf_bd_e hf
  refine qw_cVR (rest := [.ref (ad 0)]) (st1 := [.int r1, .ref (ad 0)]) S0 V hl 0 gM_0 rfl (c_X8_isHouse l hc_3) kg_X8_208 rfl ⟨rfl, rfl⟩ kd_X8_isHouse ⟨Nat.le_of_ble_eq_true rfl, Nat.le_of_ble_eq_true rfl⟩ rfl rfl (Nat.le_of_ble_eq_true rfl) ⟨Nat.zero_le _, Nat.zero_le _⟩ rfl dX8_lapseAfter_3 ?_
  refine lv_if_eq (tgt := 21) hx hb dX8_lapseAfter_6 (by decide) (fun c_6 => ?_) (fun c_6 => ?_)
  · replace hf := qf_t c_6 hf
    exact J_21 hf V (lv_sub hl [0, 1, 2, 3] rfl)
  · replace hf := qf_f c_6 hf
    refine lv_aload_n hx hb dX8_lapseAfter_9 rfl (lv_at hl 0 rfl) ?_
    refine lv_iload_n hx hb dX8_lapseAfter_10 rfl (lv_at hl 2 rfl) ?_
    obtain ⟨r2, hc_11, hf⟩ := qf_bd_e hf
    refine qw_cVR (rest := [.ref (ad 0)]) (st1 := [.int r2, .ref (ad 0)]) S0 V hl 0 gM_0 rfl (c_X8_isGroup l hc_11) kg_X8_197 rfl ⟨rfl, rfl⟩ kd_X8_isGroup ⟨Nat.le_of_ble_eq_true rfl, Nat.le_of_ble_eq_true rfl⟩ rfl rfl (Nat.le_of_ble_eq_true rfl) ⟨Nat.zero_le _, Nat.zero_le _⟩ rfl dX8_lapseAfter_11 ?_
    refine lv_if_eq (tgt := 21) hx hb dX8_lapseAfter_14 (by decide) (fun c_14 => ?_) (fun c_14 => ?_)
    · replace hf := qf_t c_14 hf
      exact J_21 hf V (lv_sub hl [0, 1, 2, 3] rfl)
    · replace hf := qf_f c_14 hf
      refine lv_iconst (v := 1) hx hb dX8_lapseAfter_17 (by decide) ?_
      refine lv_goto (tgt := 22) hx hb dX8_lapseAfter_18 (by decide) ?_
      exact J_22 hf V (lv_sub hl [0, 1, 2, 3] rfl)
theorem kd_X8_spreadOf : yX8_spreadOf.cls = RX8 ∧ yX8_spreadOf.cls ≠ "java/lang/invoke/MethodHandle" ∧ yX8_spreadOf.cls ≠ "java/lang/invoke/VarHandle" ∧ (parseMethodDescriptor yX8_spreadOf.desc).map (fun d => d.parameters.length) = some 1 := by decide +kernel
def f_X8_spreadOf_j90 (A : Nat → Nat → Int32) (K21 : (Nat → Int32) → Int32 → Int32 → Int32 → Option (Int32 × (Nat → Int32))) (I : Nat → Int32) (y1 : Int32) (y2 : Int32) (y4 : Int32) (s0 : Int32) : Option (Int32 × (Nat → Int32)) :=
  qf_let (y4 + (1 : Int32)) fun x8 =>
  K21 I y2 s0 x8
def f_X8_spreadOf_j84 (A : Nat → Nat → Int32) (K21 : (Nat → Int32) → Int32 → Int32 → Int32 → Option (Int32 × (Nat → Int32))) (I : Nat → Int32) (y1 : Int32) (y2 : Int32) (y4 : Int32) (y5 : Int32) : Option (Int32 × (Nat → Int32)) :=
  f_X8_spreadOf_j90 A K21 I y1 y2 y4 y5
def f_X8_spreadOf_j72 (A : Nat → Nat → Int32) (K21 : (Nat → Int32) → Int32 → Int32 → Int32 → Option (Int32 × (Nat → Int32))) (I : Nat → Int32) (y1 : Int32) (y3 : Int32) (y4 : Int32) (y5 : Int32) (s0 : Int32) : Option (Int32 × (Nat → Int32)) :=
  if y4 = 0 then (f_X8_spreadOf_j84 A K21 I y1 s0 y4 y5) else (if y3 ≤ y5 then (f_X8_spreadOf_j90 A K21 I y1 s0 y4 y3) else (f_X8_spreadOf_j84 A K21 I y1 s0 y4 y5))
def f_X8_spreadOf_j66 (A : Nat → Nat → Int32) (K21 : (Nat → Int32) → Int32 → Int32 → Int32 → Option (Int32 × (Nat → Int32))) (I : Nat → Int32) (y1 : Int32) (y3 : Int32) (y4 : Int32) (y5 : Int32) : Option (Int32 × (Nat → Int32)) :=
  f_X8_spreadOf_j72 A K21 I y1 y3 y4 y5 y5
def f_X8_spreadOf_l21 (A : Nat → Nat → Int32)  (y1 : Int32) : Nat → (Nat → Int32) → Int32 → Int32 → Int32 → Option (Int32 × (Nat → Int32))
  | 0, _, _, _, _ => none
  | n + 1, I, y2, y3, y4 =>
  qf_ld 62 (A 3) (2 : Int32) fun x4 =>
  if x4 ≤ y4 then (some ((y2 - y3), I)) else (qf_bd (f_X8_couponsOf A y4 y1) fun r5 =>
    qf_ld 250 (A 0) ((7 : Int32) + y4) fun x6 =>
    qf_ck (¬ x6 = 0) <|
    qf_let ((((100 : Int32) * r5) / x6)) fun x7 =>
    if y4 = 0 then (f_X8_spreadOf_j66 A (fun z0 z1 z2 z3 => f_X8_spreadOf_l21 A y1 n z0 z1 z2 z3) I y1 y3 y4 x7) else (if x7 ≤ y2 then (f_X8_spreadOf_j72 A (fun z0 z1 z2 z3 => f_X8_spreadOf_l21 A y1 n z0 z1 z2 z3) I y1 y3 y4 x7 y2) else (f_X8_spreadOf_j66 A (fun z0 z1 z2 z3 => f_X8_spreadOf_l21 A y1 n z0 z1 z2 z3) I y1 y3 y4 x7)))
def f_X8_spreadOf (A : Nat → Nat → Int32) (I : Nat → Int32) (p1 : Int32) : Option (Int32 × (Nat → Int32)) :=
  qf_bd (f_X8_isGroup A p1) fun r1 =>
  qf_bd2 (f_X8_fails I r1) fun r2 I3 =>
  if r2 = 0 then (f_X8_spreadOf_l21 A p1 100000 I3 (0 : Int32) (0 : Int32) (0 : Int32)) else (some ((0 : Int32), I3))
abbrev wz_X8_spreadOf : List Cond := Cond.code yX8_spreadOf cX8_spreadOf 6 (some .int) :: qw_big
def rm_X8_spreadOf : Room := { frames := 2, cells := 0, slots := 0, locals := 45 }
set_option maxHeartbeats 4000000 in
set_option maxRecDepth 100000 in
theorem c_X8_spreadOf (l : Launch) {D : va_G} {cy : Nat → ClassId} {ad : Nat → Nat} {I : Nat → Int32} {A : Nat → Nat → Int32} {w : Int64} {p1 : Int32} {rv : Int32} {I9 : Nat → Int32} {sz : Nat} (hf : f_X8_spreadOf A I p1 = some (rv, I9)) : Met l yX8_spreadOf wz_X8_spreadOf rm_X8_spreadOf (va_Pc [.ref (ad 0), .int p1] (qw_Pre D cy (Wm cy ad I A w) sz)) (qw_Q (some (.int rv)) D (Wm cy ad I9 A w) (va_A (Wm cy ad I A w) sz)) 0 0 (va_A (Wm cy ad I A w) sz) := by
  refine qw_of (cc := cX8_spreadOf) (maxL := 6) (ret := (some .int)) (by decide) (Nat.le_of_ble_eq_true rfl) ?_
  intro p e s m args below meth c ls S0 hr hlocks hsz V hl
  have S0 : CallFix p m c cX8_spreadOf 6 s args qw_big RX8 := S0
  have hx := S0.1; have hb := S0.2.1; have hown := S0.2.2.2.1; have hts := S0.2.2.2.2
  have hl : lv_has ls 6 [(0, .ref (ad 0)), (1, .int p1)] := hl
  generalize va_A (Wm cy ad I A w) sz = Z9 at V ⊢
  obtain ⟨Q9, hQ⟩ : ∃ q, q = MQ below (qw_Q (some (.int rv)) D (Wm cy ad I9 A w) Z9) args s 0 0 Z9 := ⟨_, rfl⟩
  rw [← hQ]
  clear hsz
  have J_90 : ∀ {K21 : (Nat → Int32) → Int32 → Int32 → Int32 → Option (Int32 × (Nat → Int32))} {y1 : Int32}  (hK21 : ∀ {I : Nat → Int32} {y2 : Int32} {y3 : Int32} {y4 : Int32} {H : Heap} {locs : List Loc} {ls : Array Slot}, K21 I y2 y3 y4 = some (rv, I9) → qw_V D cy Z9 s (Wm cy ad I A w) H locs → lv_has ls 6 [(0, .ref (ad 0)), (1, .int y1), (2, .int y2), (3, .int y3), (4, .int y4)] → W p l e rm_X8_spreadOf s m args below meth c H locs 0 0 Q9 (F0 m 21 ls [])) {I : Nat → Int32} {y2 : Int32} {y4 : Int32} {s0 : Int32} {H : Heap} {locs : List Loc} {ls : Array Slot}, f_X8_spreadOf_j90 A K21 I y1 y2 y4 s0 = some (rv, I9) → qw_V D cy Z9 s (Wm cy ad I A w) H locs → lv_has ls 6 [(0, .ref (ad 0)), (1, .int y1), (2, .int y2), (4, .int y4)] → W p l e rm_X8_spreadOf s m args below meth c H locs 0 0 Q9 (F0 m 90 ls [.int s0]) := by
    intro K21 y1 hK21 I y2 y4 s0 H locs ls hf V hl
    unfold f_X8_spreadOf_j90 at hf
    refine lv_istore_n (lv' := [(3, .int s0), (0, .ref (ad 0)), (1, .int y1), (2, .int y2), (4, .int y4)]) hx hb dX8_spreadOf_90 rfl hl (by decide) rfl (fun ls hl => ?_)
    obtain ⟨x8, e_x8⟩ : ∃ y : Int32, y = y4 + (1 : Int32) := ⟨_, rfl⟩
    refine lv_iinc (v := x8) (lv' := [(4, .int x8), (3, .int s0), (0, .ref (ad 0)), (1, .int y1), (2, .int y2)]) hx hb dX8_spreadOf_91 hl (k := 4) rfl (by rw [e_x8]; rfl) (by decide) rfl (fun ls hl => ?_)
    replace hf := qf_let_e e_x8 hf
    refine lv_goto (tgt := 21) hx hb dX8_spreadOf_94 (by decide) ?_
    exact hK21 hf V (lv_sub hl [2, 3, 4, 1, 0] rfl)
  have J_84 : ∀ {K21 : (Nat → Int32) → Int32 → Int32 → Int32 → Option (Int32 × (Nat → Int32))} {y1 : Int32}  (hK21 : ∀ {I : Nat → Int32} {y2 : Int32} {y3 : Int32} {y4 : Int32} {H : Heap} {locs : List Loc} {ls : Array Slot}, K21 I y2 y3 y4 = some (rv, I9) → qw_V D cy Z9 s (Wm cy ad I A w) H locs → lv_has ls 6 [(0, .ref (ad 0)), (1, .int y1), (2, .int y2), (3, .int y3), (4, .int y4)] → W p l e rm_X8_spreadOf s m args below meth c H locs 0 0 Q9 (F0 m 21 ls [])) {I : Nat → Int32} {y2 : Int32} {y4 : Int32} {y5 : Int32} {H : Heap} {locs : List Loc} {ls : Array Slot}, f_X8_spreadOf_j84 A K21 I y1 y2 y4 y5 = some (rv, I9) → qw_V D cy Z9 s (Wm cy ad I A w) H locs → lv_has ls 6 [(0, .ref (ad 0)), (1, .int y1), (2, .int y2), (4, .int y4), (5, .int y5)] → W p l e rm_X8_spreadOf s m args below meth c H locs 0 0 Q9 (F0 m 84 ls []) := by
    intro K21 y1 hK21 I y2 y4 y5 H locs ls hf V hl
    unfold f_X8_spreadOf_j84 at hf
    refine lv_iload hx hb dX8_spreadOf_84 (lv_at hl 4 rfl) ?_
    refine lv_goto (tgt := 90) hx hb dX8_spreadOf_86 (by decide) ?_
    exact J_90 hK21 hf V (lv_sub hl [0, 1, 2, 3] rfl)
  have J_72 : ∀ {K21 : (Nat → Int32) → Int32 → Int32 → Int32 → Option (Int32 × (Nat → Int32))} {y1 : Int32}  (hK21 : ∀ {I : Nat → Int32} {y2 : Int32} {y3 : Int32} {y4 : Int32} {H : Heap} {locs : List Loc} {ls : Array Slot}, K21 I y2 y3 y4 = some (rv, I9) → qw_V D cy Z9 s (Wm cy ad I A w) H locs → lv_has ls 6 [(0, .ref (ad 0)), (1, .int y1), (2, .int y2), (3, .int y3), (4, .int y4)] → W p l e rm_X8_spreadOf s m args below meth c H locs 0 0 Q9 (F0 m 21 ls [])) {I : Nat → Int32} {y3 : Int32} {y4 : Int32} {y5 : Int32} {s0 : Int32} {H : Heap} {locs : List Loc} {ls : Array Slot}, f_X8_spreadOf_j72 A K21 I y1 y3 y4 y5 s0 = some (rv, I9) → qw_V D cy Z9 s (Wm cy ad I A w) H locs → lv_has ls 6 [(0, .ref (ad 0)), (1, .int y1), (3, .int y3), (4, .int y4), (5, .int y5)] → W p l e rm_X8_spreadOf s m args below meth c H locs 0 0 Q9 (F0 m 72 ls [.int s0]) := by
    intro K21 y1 hK21 I y3 y4 y5 s0 H locs ls hf V hl
    unfold f_X8_spreadOf_j72 at hf
    refine lv_istore_n (lv' := [(2, .int s0), (0, .ref (ad 0)), (1, .int y1), (3, .int y3), (4, .int y4), (5, .int y5)]) hx hb dX8_spreadOf_72 rfl hl (by decide) rfl (fun ls hl => ?_)
    refine lv_iload hx hb dX8_spreadOf_73 (lv_at hl 4 rfl) ?_
    refine lv_if_eq (tgt := 84) hx hb dX8_spreadOf_75 (by decide) (fun c_75 => ?_) (fun c_75 => ?_)
    · replace hf := qf_t c_75 hf
      exact J_84 hK21 hf V (lv_sub hl [1, 2, 0, 4, 5] rfl)
    · replace hf := qf_f c_75 hf
      refine lv_iload hx hb dX8_spreadOf_78 (lv_at hl 5 rfl) ?_
      refine lv_iload_n hx hb dX8_spreadOf_80 rfl (lv_at hl 3 rfl) ?_
      refine lv_icmp_ge (tgt := 89) hx hb dX8_spreadOf_81 (by decide) (fun c_81 => ?_) (fun c_81 => ?_)
      · replace hf := qf_t c_81 hf
        refine lv_iload_n hx hb dX8_spreadOf_89 rfl (lv_at hl 3 rfl) ?_
        exact J_90 hK21 hf V (lv_sub hl [1, 2, 0, 4] rfl)
      · replace hf := qf_f c_81 hf
        exact J_84 hK21 hf V (lv_sub hl [1, 2, 0, 4, 5] rfl)
  have J_66 : ∀ {K21 : (Nat → Int32) → Int32 → Int32 → Int32 → Option (Int32 × (Nat → Int32))} {y1 : Int32}  (hK21 : ∀ {I : Nat → Int32} {y2 : Int32} {y3 : Int32} {y4 : Int32} {H : Heap} {locs : List Loc} {ls : Array Slot}, K21 I y2 y3 y4 = some (rv, I9) → qw_V D cy Z9 s (Wm cy ad I A w) H locs → lv_has ls 6 [(0, .ref (ad 0)), (1, .int y1), (2, .int y2), (3, .int y3), (4, .int y4)] → W p l e rm_X8_spreadOf s m args below meth c H locs 0 0 Q9 (F0 m 21 ls [])) {I : Nat → Int32} {y3 : Int32} {y4 : Int32} {y5 : Int32} {H : Heap} {locs : List Loc} {ls : Array Slot}, f_X8_spreadOf_j66 A K21 I y1 y3 y4 y5 = some (rv, I9) → qw_V D cy Z9 s (Wm cy ad I A w) H locs → lv_has ls 6 [(0, .ref (ad 0)), (1, .int y1), (3, .int y3), (4, .int y4), (5, .int y5)] → W p l e rm_X8_spreadOf s m args below meth c H locs 0 0 Q9 (F0 m 66 ls []) := by
    intro K21 y1 hK21 I y3 y4 y5 H locs ls hf V hl
    unfold f_X8_spreadOf_j66 at hf
    refine lv_iload hx hb dX8_spreadOf_66 (lv_at hl 4 rfl) ?_
    refine lv_goto (tgt := 72) hx hb dX8_spreadOf_68 (by decide) ?_
    exact J_72 hK21 hf V (lv_sub hl [0, 1, 2, 3, 4] rfl)
  have L_21 : ∀  {y1 : Int32} {n : Nat} {I : Nat → Int32} {y2 : Int32} {y3 : Int32} {y4 : Int32} {H : Heap} {locs : List Loc} {ls : Array Slot}, f_X8_spreadOf_l21 A y1 n I y2 y3 y4 = some (rv, I9) → qw_V D cy Z9 s (Wm cy ad I A w) H locs → lv_has ls 6 [(0, .ref (ad 0)), (1, .int y1), (2, .int y2), (3, .int y3), (4, .int y4)] → W p l e rm_X8_spreadOf s m args below meth c H locs 0 0 Q9 (F0 m 21 ls []) := by
    intro y1 n
    induction n with
    | zero => intro I y2 y3 y4 H locs ls hf V hl; exact qf_no hf
    | succ n ih =>
      intro I y2 y3 y4 H locs ls hf V hl
      rw [f_X8_spreadOf_l21] at hf
      refine lv_iload hx hb dX8_spreadOf_21 (lv_at hl 4 rfl) ?_
      refine lv_aload_n hx hb dX8_spreadOf_23 rfl (lv_at hl 0 rfl) ?_
      refine gfM_0_5 S0 V kl_X8_19 dX8_spreadOf_24 ?_
      refine lv_iconst (v := 2) hx hb dX8_spreadOf_27 (by decide) ?_
      have h_28 := qf_ld_in hf
      refine alM_4 S0 V h_28 dX8_spreadOf_28 ?_
      refine lv_topi (fun x4 e_x4 => ?_)
      replace hf := qf_ld_e e_x4 hf
      refine lv_icmp_ge (tgt := 97) hx hb dX8_spreadOf_29 (by decide) (fun c_29 => ?_) (fun c_29 => ?_)
      · replace hf := qf_t c_29 hf
        refine lv_iload_n hx hb dX8_spreadOf_97 rfl (lv_at hl 2 rfl) ?_
        refine lv_iload_n hx hb dX8_spreadOf_98 rfl (lv_at hl 3 rfl) ?_
        refine lv_isub hx hb dX8_spreadOf_99 ?_
        have hE := Option.some.inj hf
        obtain ⟨e0, hE⟩ := qf_pr hE
        exact qw_ireti S0 hr hlocks hQ e0 (by rw [hE]) V dX8_spreadOf_100
      · replace hf := qf_f c_29 hf
        refine lv_bipush (v := 100) hx hb dX8_spreadOf_32 (by decide) ?_
        refine lv_aload_n hx hb dX8_spreadOf_34 rfl (lv_at hl 0 rfl) ?_
        refine lv_iload hx hb dX8_spreadOf_35 (lv_at hl 4 rfl) ?_
        refine lv_iload_n hx hb dX8_spreadOf_37 rfl (lv_at hl 1 rfl) ?_
        obtain ⟨r5, hc_38, hf⟩ := qf_bd_e hf
        refine qw_cVR (rest := [.int (100 : Int32)]) (st1 := [.int r5, .int (100 : Int32)]) S0 V hl 0 gM_0 rfl (c_X8_couponsOf l hc_38) kg_X8_214 rfl ⟨rfl, rfl⟩ kd_X8_couponsOf ⟨Nat.le_of_ble_eq_true rfl, Nat.le_of_ble_eq_true rfl⟩ rfl rfl (Nat.le_of_ble_eq_true rfl) ⟨Nat.zero_le _, Nat.zero_le _⟩ rfl dX8_spreadOf_38 ?_
        refine lv_imul hx hb dX8_spreadOf_41 ?_
        refine lv_aload_n hx hb dX8_spreadOf_42 rfl (lv_at hl 0 rfl) ?_
        refine gfM_0_0 S0 V kl_X8_7 dX8_spreadOf_43 ?_
        refine lv_bipush (v := 7) hx hb dX8_spreadOf_46 (by decide) ?_
        refine lv_iload hx hb dX8_spreadOf_48 (lv_at hl 4 rfl) ?_
        refine lv_iadd hx hb dX8_spreadOf_50 ?_
        have h_51 := qf_ld_in hf
        refine alM_1 S0 V h_51 dX8_spreadOf_51 ?_
        refine lv_topi (fun x6 e_x6 => ?_)
        replace hf := qf_ld_e e_x6 hf
        obtain ⟨h_52, hf⟩ := qf_ck_e hf
        refine lv_idiv hx hb dX8_spreadOf_52 h_52 ?_
        refine lv_topi (fun x7 e_x7 => ?_)
        replace hf := qf_let_e e_x7 hf
        refine lv_istore (lv' := [(5, .int x7), (0, .ref (ad 0)), (1, .int y1), (2, .int y2), (3, .int y3), (4, .int y4)]) hx hb dX8_spreadOf_53 hl (by decide) rfl (fun ls hl => ?_)
        refine lv_iload hx hb dX8_spreadOf_55 (lv_at hl 5 rfl) ?_
        refine lv_if_eq (tgt := 66) hx hb dX8_spreadOf_57 (by decide) (fun c_57 => ?_) (fun c_57 => ?_)
        · replace hf := qf_t c_57 hf
          exact J_66 (fun hf V hl => ih hf V hl) hf V (lv_sub hl [1, 2, 4, 5, 0] rfl)
        · replace hf := qf_f c_57 hf
          refine lv_iload hx hb dX8_spreadOf_60 (lv_at hl 0 rfl) ?_
          refine lv_iload_n hx hb dX8_spreadOf_62 rfl (lv_at hl 3 rfl) ?_
          refine lv_icmp_le (tgt := 71) hx hb dX8_spreadOf_63 (by decide) (fun c_63 => ?_) (fun c_63 => ?_)
          · replace hf := qf_t c_63 hf
            refine lv_iload_n hx hb dX8_spreadOf_71 rfl (lv_at hl 3 rfl) ?_
            exact J_72 (fun hf V hl => ih hf V hl) hf V (lv_sub hl [1, 2, 4, 5, 0] rfl)
          · replace hf := qf_f c_63 hf
            exact J_66 (fun hf V hl => ih hf V hl) hf V (lv_sub hl [1, 2, 4, 5, 0] rfl)
  unfold f_X8_spreadOf at hf
  refine lv_aload_n hx hb dX8_spreadOf_0 rfl (lv_at hl 0 rfl) ?_
  refine lv_aload_n hx hb dX8_spreadOf_1 rfl (lv_at hl 0 rfl) ?_
  refine lv_iload_n hx hb dX8_spreadOf_2 rfl (lv_at hl 1 rfl) ?_
  obtain ⟨r1, hc_3, hf⟩ := qf_bd_e hf
  refine qw_cVR (rest := [.ref (ad 0)]) (st1 := [.int r1, .ref (ad 0)]) S0 V hl 0 gM_0 rfl (c_X8_isGroup l hc_3) kg_X8_197 rfl ⟨rfl, rfl⟩ kd_X8_isGroup ⟨Nat.le_of_ble_eq_true rfl, Nat.le_of_ble_eq_true rfl⟩ rfl rfl (Nat.le_of_ble_eq_true rfl) ⟨Nat.zero_le _, Nat.zero_le _⟩ rfl dX8_spreadOf_3 ?_
  obtain ⟨r2, I3, hc_6, hf⟩ := qf_bd2_e hf
  refine qw_cV (rest := []) (st1 := [.int r2]) S0 V hl 0 gM_0 rfl (c_X8_fails l hc_6) kg_X8_201 rfl ⟨rfl, rfl⟩ kd_X8_fails ⟨Nat.le_of_ble_eq_true rfl, Nat.le_of_ble_eq_true rfl⟩ rfl rfl (Nat.le_of_ble_eq_true rfl) ⟨Nat.zero_le _, Nat.zero_le _⟩ rfl dX8_spreadOf_6 (fun H locs V => ?_)
  refine lv_if_eq (tgt := 14) hx hb dX8_spreadOf_9 (by decide) (fun c_9 => ?_) (fun c_9 => ?_)
  · replace hf := qf_t c_9 hf
    refine lv_iconst (v := 0) hx hb dX8_spreadOf_14 (by decide) ?_
    refine lv_istore_n (lv' := [(2, .int (0 : Int32)), (0, .ref (ad 0)), (1, .int p1)]) hx hb dX8_spreadOf_15 rfl hl (by decide) rfl (fun ls hl => ?_)
    refine lv_iconst (v := 0) hx hb dX8_spreadOf_16 (by decide) ?_
    refine lv_istore_n (lv' := [(3, .int (0 : Int32)), (2, .int (0 : Int32)), (0, .ref (ad 0)), (1, .int p1)]) hx hb dX8_spreadOf_17 rfl hl (by decide) rfl (fun ls hl => ?_)
    refine lv_iconst (v := 0) hx hb dX8_spreadOf_18 (by decide) ?_
    refine lv_istore (lv' := [(4, .int (0 : Int32)), (3, .int (0 : Int32)), (2, .int (0 : Int32)), (0, .ref (ad 0)), (1, .int p1)]) hx hb dX8_spreadOf_19 hl (by decide) rfl (fun ls hl => ?_)
    exact L_21 hf V (lv_sub hl [3, 4, 2, 1, 0] rfl)
  · replace hf := qf_f c_9 hf
    refine lv_iconst (v := 0) hx hb dX8_spreadOf_12 (by decide) ?_
    have hE := Option.some.inj hf
    obtain ⟨e0, hE⟩ := qf_pr hE
    exact qw_ireti S0 hr hlocks hQ e0 (by rw [hE]) V dX8_spreadOf_13
theorem kd_X8_levelMoves : yX8_levelMoves.cls = RX8 ∧ yX8_levelMoves.cls ≠ "java/lang/invoke/MethodHandle" ∧ yX8_levelMoves.cls ≠ "java/lang/invoke/VarHandle" ∧ (parseMethodDescriptor yX8_levelMoves.desc).map (fun d => d.parameters.length) = some 2 := by decide +kernel
def f_X8_levelMoves_j89 (A : Nat → Nat → Int32) (K36 : (Nat → Int32) → Int32 → Int32 → Int32 → Option (Int32 × (Nat → Int32))) (I : Nat → Int32) (y1 : Int32) (y2 : Int32) (y3 : Int32) (y4 : Int32) (y5 : Int32) : Option (Int32 × (Nat → Int32)) :=
  qf_let (y5 + (1 : Int32)) fun x11 =>
  K36 I y3 y4 x11
def f_X8_levelMoves_l36 (A : Nat → Nat → Int32)  (y1 : Int32) (y2 : Int32) : Nat → (Nat → Int32) → Int32 → Int32 → Int32 → Option (Int32 × (Nat → Int32))
  | 0, _, _, _, _ => none
  | n + 1, I, y3, y4, y5 =>
  qf_ld 62 (A 3) (2 : Int32) fun x5 =>
  if x5 ≤ y5 then (if y3 ≤ y4 then (some (y3, I)) else (some ((-1 : Int32), I))) else (qf_bd (f_X8_couponsOf A y5 y1) fun r6 =>
    qf_ld 250 (A 0) ((7 : Int32) + y5) fun x7 =>
    qf_let ((r6 - (y2 * x7))) fun x8 =>
    if 0 ≤ x8 then (qf_let ((y4 + x8)) fun x9 =>
      f_X8_levelMoves_j89 A (fun z0 z1 z2 z3 => f_X8_levelMoves_l36 A y1 y2 n z0 z1 z2 z3) I y1 y2 y3 x9 y5) else (qf_let ((y3 - x8)) fun x10 =>
      f_X8_levelMoves_j89 A (fun z0 z1 z2 z3 => f_X8_levelMoves_l36 A y1 y2 n z0 z1 z2 z3) I y1 y2 x10 y4 y5))
def f_X8_levelMoves (A : Nat → Nat → Int32) (I : Nat → Int32) (p1 : Int32) (p2 : Int32) : Option (Int32 × (Nat → Int32)) :=
  qf_bd (f_X8_isGroup A p1) fun r1 =>
  qf_bd2 (f_X8_fails I r1) fun r2 I3 =>
  if r2 = 0 then (qf_bd (f_X8_inRange p2 (0 : Int32) (999 : Int32)) fun r4 =>
    if r4 = 0 then (some ((-2 : Int32), I3)) else (f_X8_levelMoves_l36 A p1 p2 100000 I3 (0 : Int32) (0 : Int32) (0 : Int32))) else (some ((0 : Int32), I3))
abbrev wz_X8_levelMoves : List Cond := Cond.code yX8_levelMoves cX8_levelMoves 7 (some .int) :: qw_big
def rm_X8_levelMoves : Room := { frames := 2, cells := 0, slots := 0, locals := 45 }
set_option maxHeartbeats 4000000 in
set_option maxRecDepth 100000 in
theorem c_X8_levelMoves (l : Launch) {D : va_G} {cy : Nat → ClassId} {ad : Nat → Nat} {I : Nat → Int32} {A : Nat → Nat → Int32} {w : Int64} {p1 : Int32} {p2 : Int32} {rv : Int32} {I9 : Nat → Int32} {sz : Nat} (hf : f_X8_levelMoves A I p1 p2 = some (rv, I9)) : Met l yX8_levelMoves wz_X8_levelMoves rm_X8_levelMoves (va_Pc [.ref (ad 0), .int p1, .int p2] (qw_Pre D cy (Wm cy ad I A w) sz)) (qw_Q (some (.int rv)) D (Wm cy ad I9 A w) (va_A (Wm cy ad I A w) sz)) 0 0 (va_A (Wm cy ad I A w) sz) := by
  refine qw_of (cc := cX8_levelMoves) (maxL := 7) (ret := (some .int)) (by decide) (Nat.le_of_ble_eq_true rfl) ?_
  intro p e s m args below meth c ls S0 hr hlocks hsz V hl
  have S0 : CallFix p m c cX8_levelMoves 7 s args qw_big RX8 := S0
  have hx := S0.1; have hb := S0.2.1; have hown := S0.2.2.2.1; have hts := S0.2.2.2.2
  have hl : lv_has ls 7 [(0, .ref (ad 0)), (1, .int p1), (2, .int p2)] := hl
  generalize va_A (Wm cy ad I A w) sz = Z9 at V ⊢
  obtain ⟨Q9, hQ⟩ : ∃ q, q = MQ below (qw_Q (some (.int rv)) D (Wm cy ad I9 A w) Z9) args s 0 0 Z9 := ⟨_, rfl⟩
  rw [← hQ]
  clear hsz
  have J_89 : ∀ {K36 : (Nat → Int32) → Int32 → Int32 → Int32 → Option (Int32 × (Nat → Int32))} {y1 : Int32} {y2 : Int32}  (hK36 : ∀ {I : Nat → Int32} {y3 : Int32} {y4 : Int32} {y5 : Int32} {H : Heap} {locs : List Loc} {ls : Array Slot}, K36 I y3 y4 y5 = some (rv, I9) → qw_V D cy Z9 s (Wm cy ad I A w) H locs → lv_has ls 7 [(0, .ref (ad 0)), (1, .int y1), (2, .int y2), (3, .int y3), (4, .int y4), (5, .int y5)] → W p l e rm_X8_levelMoves s m args below meth c H locs 0 0 Q9 (F0 m 36 ls [])) {I : Nat → Int32} {y3 : Int32} {y4 : Int32} {y5 : Int32} {H : Heap} {locs : List Loc} {ls : Array Slot}, f_X8_levelMoves_j89 A K36 I y1 y2 y3 y4 y5 = some (rv, I9) → qw_V D cy Z9 s (Wm cy ad I A w) H locs → lv_has ls 7 [(0, .ref (ad 0)), (1, .int y1), (2, .int y2), (3, .int y3), (4, .int y4), (5, .int y5)] → W p l e rm_X8_levelMoves s m args below meth c H locs 0 0 Q9 (F0 m 89 ls []) := by
    intro K36 y1 y2 hK36 I y3 y4 y5 H locs ls hf V hl
    unfold f_X8_levelMoves_j89 at hf
    obtain ⟨x11, e_x11⟩ : ∃ y : Int32, y = y5 + (1 : Int32) := ⟨_, rfl⟩
    refine lv_iinc (v := x11) (lv' := [(5, .int x11), (0, .ref (ad 0)), (1, .int y1), (2, .int y2), (3, .int y3), (4, .int y4)]) hx hb dX8_levelMoves_89 hl (k := 5) rfl (by rw [e_x11]; rfl) (by decide) rfl (fun ls hl => ?_)
    replace hf := qf_let_e e_x11 hf
    refine lv_goto (tgt := 36) hx hb dX8_levelMoves_92 (by decide) ?_
    exact hK36 hf V (lv_sub hl [1, 2, 3, 4, 5, 0] rfl)
  have L_36 : ∀  {y1 : Int32} {y2 : Int32} {n : Nat} {I : Nat → Int32} {y3 : Int32} {y4 : Int32} {y5 : Int32} {H : Heap} {locs : List Loc} {ls : Array Slot}, f_X8_levelMoves_l36 A y1 y2 n I y3 y4 y5 = some (rv, I9) → qw_V D cy Z9 s (Wm cy ad I A w) H locs → lv_has ls 7 [(0, .ref (ad 0)), (1, .int y1), (2, .int y2), (3, .int y3), (4, .int y4), (5, .int y5)] → W p l e rm_X8_levelMoves s m args below meth c H locs 0 0 Q9 (F0 m 36 ls []) := by
    intro y1 y2 n
    induction n with
    | zero => intro I y3 y4 y5 H locs ls hf V hl; exact qf_no hf
    | succ n ih =>
      intro I y3 y4 y5 H locs ls hf V hl
      rw [f_X8_levelMoves_l36] at hf
      refine lv_iload hx hb dX8_levelMoves_36 (lv_at hl 5 rfl) ?_
      refine lv_aload_n hx hb dX8_levelMoves_38 rfl (lv_at hl 0 rfl) ?_
      refine gfM_0_5 S0 V kl_X8_19 dX8_levelMoves_39 ?_
      refine lv_iconst (v := 2) hx hb dX8_levelMoves_42 (by decide) ?_
      have h_43 := qf_ld_in hf
      refine alM_4 S0 V h_43 dX8_levelMoves_43 ?_
      refine lv_topi (fun x5 e_x5 => ?_)
      replace hf := qf_ld_e e_x5 hf
      refine lv_icmp_ge (tgt := 95) hx hb dX8_levelMoves_44 (by decide) (fun c_44 => ?_) (fun c_44 => ?_)
      · replace hf := qf_t c_44 hf
        refine lv_iload_n hx hb dX8_levelMoves_95 rfl (lv_at hl 3 rfl) ?_
        refine lv_iload hx hb dX8_levelMoves_96 (lv_at hl 4 rfl) ?_
        refine lv_icmp_le (tgt := 105) hx hb dX8_levelMoves_98 (by decide) (fun c_98 => ?_) (fun c_98 => ?_)
        · replace hf := qf_t c_98 hf
          refine lv_iload_n hx hb dX8_levelMoves_105 rfl (lv_at hl 3 rfl) ?_
          have hE := Option.some.inj hf
          obtain ⟨e0, hE⟩ := qf_pr hE
          exact qw_ireti S0 hr hlocks hQ e0 (by rw [hE]) V dX8_levelMoves_106
        · replace hf := qf_f c_98 hf
          refine lv_iconst (v := -1) hx hb dX8_levelMoves_101 (by decide) ?_
          refine lv_goto (tgt := 106) hx hb dX8_levelMoves_102 (by decide) ?_
          have hE := Option.some.inj hf
          obtain ⟨e0, hE⟩ := qf_pr hE
          exact qw_ireti S0 hr hlocks hQ e0 (by rw [hE]) V dX8_levelMoves_106
      · replace hf := qf_f c_44 hf
        refine lv_aload_n hx hb dX8_levelMoves_47 rfl (lv_at hl 0 rfl) ?_
        refine lv_iload hx hb dX8_levelMoves_48 (lv_at hl 5 rfl) ?_
        refine lv_iload_n hx hb dX8_levelMoves_50 rfl (lv_at hl 1 rfl) ?_
        obtain ⟨r6, hc_51, hf⟩ := qf_bd_e hf
        refine qw_cVR (rest := []) (st1 := [.int r6]) S0 V hl 0 gM_0 rfl (c_X8_couponsOf l hc_51) kg_X8_214 rfl ⟨rfl, rfl⟩ kd_X8_couponsOf ⟨Nat.le_of_ble_eq_true rfl, Nat.le_of_ble_eq_true rfl⟩ rfl rfl (Nat.le_of_ble_eq_true rfl) ⟨Nat.zero_le _, Nat.zero_le _⟩ rfl dX8_levelMoves_51 ?_
        refine lv_iload_n hx hb dX8_levelMoves_54 rfl (lv_at hl 2 rfl) ?_
        refine lv_aload_n hx hb dX8_levelMoves_55 rfl (lv_at hl 0 rfl) ?_
        refine gfM_0_0 S0 V kl_X8_7 dX8_levelMoves_56 ?_
        refine lv_bipush (v := 7) hx hb dX8_levelMoves_59 (by decide) ?_
        refine lv_iload hx hb dX8_levelMoves_61 (lv_at hl 5 rfl) ?_
        refine lv_iadd hx hb dX8_levelMoves_63 ?_
        have h_64 := qf_ld_in hf
        refine alM_1 S0 V h_64 dX8_levelMoves_64 ?_
        refine lv_topi (fun x7 e_x7 => ?_)
        replace hf := qf_ld_e e_x7 hf
        refine lv_imul hx hb dX8_levelMoves_65 ?_
        refine lv_isub hx hb dX8_levelMoves_66 ?_
        refine lv_topi (fun x8 e_x8 => ?_)
        replace hf := qf_let_e e_x8 hf
        refine lv_istore (lv' := [(6, .int x8), (0, .ref (ad 0)), (1, .int y1), (2, .int y2), (3, .int y3), (4, .int y4), (5, .int y5)]) hx hb dX8_levelMoves_67 hl (by decide) rfl (fun ls hl => ?_)
        refine lv_iload hx hb dX8_levelMoves_69 (lv_at hl 0 rfl) ?_
        refine lv_if_ge (tgt := 82) hx hb dX8_levelMoves_71 (by decide) (fun c_71 => ?_) (fun c_71 => ?_)
        · replace hf := qf_t c_71 hf
          refine lv_iload hx hb dX8_levelMoves_82 (lv_at hl 5 rfl) ?_
          refine lv_iload hx hb dX8_levelMoves_84 (lv_at hl 0 rfl) ?_
          refine lv_iadd hx hb dX8_levelMoves_86 ?_
          refine lv_topi (fun x9 e_x9 => ?_)
          replace hf := qf_let_e e_x9 hf
          refine lv_istore (lv' := [(4, .int x9), (6, .int x8), (0, .ref (ad 0)), (1, .int y1), (2, .int y2), (3, .int y3), (5, .int y5)]) hx hb dX8_levelMoves_87 hl (by decide) rfl (fun ls hl => ?_)
          exact J_89 (fun hf V hl => ih hf V hl) hf V (lv_sub hl [2, 3, 4, 5, 0, 6] rfl)
        · replace hf := qf_f c_71 hf
          refine lv_iload_n hx hb dX8_levelMoves_74 rfl (lv_at hl 4 rfl) ?_
          refine lv_iload hx hb dX8_levelMoves_75 (lv_at hl 0 rfl) ?_
          refine lv_isub hx hb dX8_levelMoves_77 ?_
          refine lv_topi (fun x10 e_x10 => ?_)
          replace hf := qf_let_e e_x10 hf
          refine lv_istore_n (lv' := [(3, .int x10), (6, .int x8), (0, .ref (ad 0)), (1, .int y1), (2, .int y2), (4, .int y4), (5, .int y5)]) hx hb dX8_levelMoves_78 rfl hl (by decide) rfl (fun ls hl => ?_)
          refine lv_goto (tgt := 89) hx hb dX8_levelMoves_79 (by decide) ?_
          exact J_89 (fun hf V hl => ih hf V hl) hf V (lv_sub hl [2, 3, 4, 0, 5, 6] rfl)
  unfold f_X8_levelMoves at hf
  refine lv_aload_n hx hb dX8_levelMoves_0 rfl (lv_at hl 0 rfl) ?_
  refine lv_aload_n hx hb dX8_levelMoves_1 rfl (lv_at hl 0 rfl) ?_
  refine lv_iload_n hx hb dX8_levelMoves_2 rfl (lv_at hl 1 rfl) ?_
  obtain ⟨r1, hc_3, hf⟩ := qf_bd_e hf
  refine qw_cVR (rest := [.ref (ad 0)]) (st1 := [.int r1, .ref (ad 0)]) S0 V hl 0 gM_0 rfl (c_X8_isGroup l hc_3) kg_X8_197 rfl ⟨rfl, rfl⟩ kd_X8_isGroup ⟨Nat.le_of_ble_eq_true rfl, Nat.le_of_ble_eq_true rfl⟩ rfl rfl (Nat.le_of_ble_eq_true rfl) ⟨Nat.zero_le _, Nat.zero_le _⟩ rfl dX8_levelMoves_3 ?_
  obtain ⟨r2, I3, hc_6, hf⟩ := qf_bd2_e hf
  refine qw_cV (rest := []) (st1 := [.int r2]) S0 V hl 0 gM_0 rfl (c_X8_fails l hc_6) kg_X8_201 rfl ⟨rfl, rfl⟩ kd_X8_fails ⟨Nat.le_of_ble_eq_true rfl, Nat.le_of_ble_eq_true rfl⟩ rfl rfl (Nat.le_of_ble_eq_true rfl) ⟨Nat.zero_le _, Nat.zero_le _⟩ rfl dX8_levelMoves_6 (fun H locs V => ?_)
  refine lv_if_eq (tgt := 14) hx hb dX8_levelMoves_9 (by decide) (fun c_9 => ?_) (fun c_9 => ?_)
  · replace hf := qf_t c_9 hf
    refine lv_iload_n hx hb dX8_levelMoves_14 rfl (lv_at hl 2 rfl) ?_
    refine lv_iconst (v := 0) hx hb dX8_levelMoves_15 (by decide) ?_
    refine lv_sipush (v := 999) hx hb dX8_levelMoves_16 (by decide) ?_
    obtain ⟨r4, hc_19, hf⟩ := qf_bd_e hf
    refine qw_cSR (rest := []) (st1 := [.int r4]) S0 V hl (c_X8_inRange l hc_19) kg_X8_85 rfl ⟨rfl, rfl⟩ kd_X8_inRange ⟨Nat.le_of_ble_eq_true rfl, Nat.le_of_ble_eq_true rfl⟩ rfl rfl (Nat.le_of_ble_eq_true rfl) ⟨Nat.zero_le _, Nat.zero_le _⟩ rfl dX8_levelMoves_19 ?_
    refine lv_if_ne (tgt := 28) hx hb dX8_levelMoves_22 (by decide) (fun c_22 => ?_) (fun c_22 => ?_)
    · replace hf := qf_f c_22 hf
      refine lv_iconst (v := 0) hx hb dX8_levelMoves_28 (by decide) ?_
      refine lv_istore_n (lv' := [(3, .int (0 : Int32)), (0, .ref (ad 0)), (1, .int p1), (2, .int p2)]) hx hb dX8_levelMoves_29 rfl hl (by decide) rfl (fun ls hl => ?_)
      refine lv_iconst (v := 0) hx hb dX8_levelMoves_30 (by decide) ?_
      refine lv_istore (lv' := [(4, .int (0 : Int32)), (3, .int (0 : Int32)), (0, .ref (ad 0)), (1, .int p1), (2, .int p2)]) hx hb dX8_levelMoves_31 hl (by decide) rfl (fun ls hl => ?_)
      refine lv_iconst (v := 0) hx hb dX8_levelMoves_33 (by decide) ?_
      refine lv_istore (lv' := [(5, .int (0 : Int32)), (4, .int (0 : Int32)), (3, .int (0 : Int32)), (0, .ref (ad 0)), (1, .int p1), (2, .int p2)]) hx hb dX8_levelMoves_34 hl (by decide) rfl (fun ls hl => ?_)
      exact L_36 hf V (lv_sub hl [3, 4, 5, 2, 1, 0] rfl)
    · replace hf := qf_t c_22 hf
      refine lv_bipush (v := -2) hx hb dX8_levelMoves_25 (by decide) ?_
      have hE := Option.some.inj hf
      obtain ⟨e0, hE⟩ := qf_pr hE
      exact qw_ireti S0 hr hlocks hQ e0 (by rw [hE]) V dX8_levelMoves_27
  · replace hf := qf_f c_9 hf
    refine lv_iconst (v := 0) hx hb dX8_levelMoves_12 (by decide) ?_
    have hE := Option.some.inj hf
    obtain ⟨e0, hE⟩ := qf_pr hE
    exact qw_ireti S0 hr hlocks hQ e0 (by rw [hE]) V dX8_levelMoves_13
theorem kd_X8_nextPeriod : yX8_nextPeriod.cls = RX8 ∧ yX8_nextPeriod.cls ≠ "java/lang/invoke/MethodHandle" ∧ yX8_nextPeriod.cls ≠ "java/lang/invoke/VarHandle" ∧ (parseMethodDescriptor yX8_nextPeriod.desc).map (fun d => d.parameters.length) = some 0 := by decide +kernel
def f_X8_nextPeriod_l114  (K13 : (Nat → Int32) → (Nat → Nat → Int32) → Int32 → Int32 → Option (Int32 × (Nat → Int32) × (Nat → Nat → Int32))) (K47 : (Nat → Int32) → (Nat → Nat → Int32) → Int32 → Int32 → Option (Int32 × (Nat → Int32) × (Nat → Nat → Int32))) (y1 : Int32) (y2 : Int32) (y3 : Int32) (y5 : Int32) : Nat → (Nat → Int32) → (Nat → Nat → Int32) → Int32 → Option (Int32 × (Nat → Int32) × (Nat → Nat → Int32))
  | 0, _, _, _ => none
  | n + 1, I, A, y6 =>
  if (4 : Int32) ≤ y6 then (qf_bd (f_X8_at y2 y3) fun r25 =>
    qf_st 250 (r25 + (4 : Int32)) fun i27 =>
    qf_let (qf_up A 0 (upd (A 0) i27 (0 : Int32))) fun A26 =>
    qf_ld 250 (A26 0) ((245 : Int32) + y3) fun x28 =>
    qf_st 250 ((245 : Int32) + y3) fun i30 =>
    qf_let (qf_up A26 0 (upd (A26 0) i30 (x28 + y5))) fun A29 =>
    qf_let ((y1 + y5)) fun x31 =>
    qf_let (y3 + (1 : Int32)) fun x32 =>
    K47 I A29 x31 x32) else (qf_bd (f_X8_at y2 y3) fun r33 =>
    qf_bd (f_X8_at y2 y3) fun r34 =>
    qf_ld 250 (A 0) ((r34 + y6) + (1 : Int32)) fun x35 =>
    qf_st 250 (r33 + y6) fun i37 =>
    qf_let (qf_up A 0 (upd (A 0) i37 x35)) fun A36 =>
    qf_let (y6 + (1 : Int32)) fun x38 =>
    f_X8_nextPeriod_l114 K13 K47 y1 y2 y3 y5 n I A36 x38)
def f_X8_nextPeriod_l47  (K13 : (Nat → Int32) → (Nat → Nat → Int32) → Int32 → Int32 → Option (Int32 × (Nat → Int32) × (Nat → Nat → Int32))) (y2 : Int32) : Nat → (Nat → Int32) → (Nat → Nat → Int32) → Int32 → Int32 → Option (Int32 × (Nat → Int32) × (Nat → Nat → Int32))
  | 0, _, _, _, _ => none
  | n + 1, I, A, y1, y3 =>
  qf_ld 62 (A 3) (0 : Int32) fun x13 =>
  if x13 ≤ y3 then (qf_let (y2 + (1 : Int32)) fun x14 =>
    K13 I A y1 x14) else (qf_bd (f_X8_at y2 y3) fun r15 =>
    qf_ld 250 (A 0) (r15 + (1 : Int32)) fun x16 =>
    qf_bd (f_X8_at y2 y3) fun r17 =>
    qf_ld 250 (A 0) r17 fun x18 =>
    qf_bd (f_X8_carriedOf A y3 x16) fun r19 =>
    qf_let (((x18 + x16) - r19)) fun x20 =>
    qf_bd (f_X8_at y2 y3) fun r21 =>
    qf_bd (f_X8_carriedOf A y3 x16) fun r22 =>
    qf_st 250 r21 fun i24 =>
    qf_let (qf_up A 0 (upd (A 0) i24 r22)) fun A23 =>
    f_X8_nextPeriod_l114 K13 (fun z0 z1 z2 z3 => f_X8_nextPeriod_l47 K13 y2 n z0 z1 z2 z3) y1 y2 y3 x20 100000 I A23 (1 : Int32))
def f_X8_nextPeriod_l13    : Nat → (Nat → Int32) → (Nat → Nat → Int32) → Int32 → Int32 → Option (Int32 × (Nat → Int32) × (Nat → Nat → Int32))
  | 0, _, _, _, _ => none
  | n + 1, I, A, y1, y2 =>
  qf_ld 62 (A 3) (2 : Int32) fun x4 =>
  if x4 ≤ y2 then (qf_ld 250 (A 0) (249 : Int32) fun x5 =>
    qf_st 250 (249 : Int32) fun i7 =>
    qf_let (qf_up A 0 (upd (A 0) i7 (x5 + (1 : Int32)))) fun A6 =>
    qf_bd (f_X8_issue A6) fun A8 =>
    some (y1, I, A8)) else (qf_st 250 ((133 : Int32) + y2) fun i10 =>
    qf_let (qf_up A 0 (upd (A 0) i10 (0 : Int32))) fun A9 =>
    qf_st 250 ((139 : Int32) + y2) fun i12 =>
    qf_let (qf_up A9 0 (upd (A9 0) i12 (0 : Int32))) fun A11 =>
    f_X8_nextPeriod_l47 (fun z0 z1 z2 z3 => f_X8_nextPeriod_l13  n z0 z1 z2 z3) y2 100000 I A11 y1 (0 : Int32))
def f_X8_nextPeriod (I : Nat → Int32) (A : Nat → Nat → Int32) : Option (Int32 × (Nat → Int32) × (Nat → Nat → Int32)) :=
  qf_let (upd I 1 (0 : Int32)) fun I1 =>
  qf_bd2 (f_X8_remember I1 A) fun I2 A3 =>
  f_X8_nextPeriod_l13  100000 I2 A3 (0 : Int32) (0 : Int32)
abbrev wz_X8_nextPeriod : List Cond := Cond.code yX8_nextPeriod cX8_nextPeriod 7 (some .int) :: qw_big
def rm_X8_nextPeriod : Room := { frames := 2, cells := 0, slots := 0, locals := 44 }
set_option maxHeartbeats 4000000 in
set_option maxRecDepth 100000 in
theorem c_X8_nextPeriod (l : Launch) {D : va_G} {cy : Nat → ClassId} {ad : Nat → Nat} {I : Nat → Int32} {A : Nat → Nat → Int32} {w : Int64}  {rv : Int32} {I9 : Nat → Int32} {A9 : Nat → Nat → Int32} {sz : Nat} (hf : f_X8_nextPeriod I A = some (rv, I9, A9)) : Met l yX8_nextPeriod wz_X8_nextPeriod rm_X8_nextPeriod (va_Pc [.ref (ad 0)] (qw_Pre D cy (Wm cy ad I A w) sz)) (qw_Q (some (.int rv)) D (Wm cy ad I9 A9 w) (va_A (Wm cy ad I A w) sz)) 0 0 (va_A (Wm cy ad I A w) sz) := by
  refine qw_of (cc := cX8_nextPeriod) (maxL := 7) (ret := (some .int)) (by decide) (Nat.le_of_ble_eq_true rfl) ?_
  intro p e s m args below meth c ls S0 hr hlocks hsz V hl
  have S0 : CallFix p m c cX8_nextPeriod 7 s args qw_big RX8 := S0
  have hx := S0.1; have hb := S0.2.1; have hown := S0.2.2.2.1; have hts := S0.2.2.2.2
  have hl : lv_has ls 7 [(0, .ref (ad 0))] := hl
  generalize va_A (Wm cy ad I A w) sz = Z9 at V ⊢
  obtain ⟨Q9, hQ⟩ : ∃ q, q = MQ below (qw_Q (some (.int rv)) D (Wm cy ad I9 A9 w) Z9) args s 0 0 Z9 := ⟨_, rfl⟩
  rw [← hQ]
  clear hsz
  have L_114 : ∀ {K13 : (Nat → Int32) → (Nat → Nat → Int32) → Int32 → Int32 → Option (Int32 × (Nat → Int32) × (Nat → Nat → Int32))} {K47 : (Nat → Int32) → (Nat → Nat → Int32) → Int32 → Int32 → Option (Int32 × (Nat → Int32) × (Nat → Nat → Int32))} {y2 : Int32}  (hK13 : ∀ {I : Nat → Int32} {A : Nat → Nat → Int32} {y1 : Int32} {y2 : Int32} {H : Heap} {locs : List Loc} {ls : Array Slot}, K13 I A y1 y2 = some (rv, I9, A9) → qw_V D cy Z9 s (Wm cy ad I A w) H locs → lv_has ls 7 [(0, .ref (ad 0)), (1, .int y1), (2, .int y2)] → W p l e rm_X8_nextPeriod s m args below meth c H locs 0 0 Q9 (F0 m 13 ls [])) (hK47 : ∀ {I : Nat → Int32} {A : Nat → Nat → Int32} {y1 : Int32} {y3 : Int32} {H : Heap} {locs : List Loc} {ls : Array Slot}, K47 I A y1 y3 = some (rv, I9, A9) → qw_V D cy Z9 s (Wm cy ad I A w) H locs → lv_has ls 7 [(0, .ref (ad 0)), (1, .int y1), (2, .int y2), (3, .int y3)] → W p l e rm_X8_nextPeriod s m args below meth c H locs 0 0 Q9 (F0 m 47 ls [])) {y1 : Int32} {y3 : Int32} {y5 : Int32} {n : Nat} {I : Nat → Int32} {A : Nat → Nat → Int32} {y6 : Int32} {H : Heap} {locs : List Loc} {ls : Array Slot}, f_X8_nextPeriod_l114 K13 K47 y1 y2 y3 y5 n I A y6 = some (rv, I9, A9) → qw_V D cy Z9 s (Wm cy ad I A w) H locs → lv_has ls 7 [(0, .ref (ad 0)), (1, .int y1), (2, .int y2), (3, .int y3), (5, .int y5), (6, .int y6)] → W p l e rm_X8_nextPeriod s m args below meth c H locs 0 0 Q9 (F0 m 114 ls []) := by
    intro K13 K47 y2 hK13 hK47 y1 y3 y5 n
    induction n with
    | zero => intro I A y6 H locs ls hf V hl; exact qf_no hf
    | succ n ih =>
      intro I A y6 H locs ls hf V hl
      rw [f_X8_nextPeriod_l114] at hf
      refine lv_iload hx hb dX8_nextPeriod_114 (lv_at hl 5 rfl) ?_
      refine lv_iconst (v := 4) hx hb dX8_nextPeriod_116 (by decide) ?_
      refine lv_icmp_ge (tgt := 154) hx hb dX8_nextPeriod_117 (by decide) (fun c_117 => ?_) (fun c_117 => ?_)
      · replace hf := qf_t c_117 hf
        refine lv_aload_n hx hb dX8_nextPeriod_154 rfl (lv_at hl 0 rfl) ?_
        refine gfM_0_0 S0 V kl_X8_7 dX8_nextPeriod_155 ?_
        refine lv_iload_n hx hb dX8_nextPeriod_158 rfl (lv_at hl 2 rfl) ?_
        refine lv_iload_n hx hb dX8_nextPeriod_159 rfl (lv_at hl 3 rfl) ?_
        obtain ⟨r25, hc_160, hf⟩ := qf_bd_e hf
        refine qw_cSR (rest := [.ref (ad 1)]) (st1 := [.int r25, .ref (ad 1)]) S0 V hl (c_X8_at l hc_160) kg_X8_211 rfl ⟨rfl, rfl⟩ kd_X8_at ⟨Nat.le_of_ble_eq_true rfl, Nat.le_of_ble_eq_true rfl⟩ rfl rfl (Nat.le_of_ble_eq_true rfl) ⟨Nat.zero_le _, Nat.zero_le _⟩ rfl dX8_nextPeriod_160 ?_
        refine lv_iconst (v := 4) hx hb dX8_nextPeriod_163 (by decide) ?_
        refine lv_iadd hx hb dX8_nextPeriod_164 ?_
        refine lv_iconst (v := 0) hx hb dX8_nextPeriod_165 (by decide) ?_
        have h_166 := qf_st_in hf
        replace hf := qf_st_e hf
        refine asM_1 S0 V h_166 dX8_nextPeriod_166 (fun H locs A26 e_A26 V => ?_)
        replace hf := qf_let_e e_A26 hf
        refine lv_aload_n hx hb dX8_nextPeriod_167 rfl (lv_at hl 0 rfl) ?_
        refine gfM_0_0 S0 V kl_X8_7 dX8_nextPeriod_168 ?_
        refine lv_sipush (v := 245) hx hb dX8_nextPeriod_171 (by decide) ?_
        refine lv_iload_n hx hb dX8_nextPeriod_174 rfl (lv_at hl 3 rfl) ?_
        refine lv_iadd hx hb dX8_nextPeriod_175 ?_
        refine lv_dup2_11 hx hb dX8_nextPeriod_176 rfl rfl ?_
        have h_177 := qf_ld_in hf
        refine alM_1 S0 V h_177 dX8_nextPeriod_177 ?_
        refine lv_topi (fun x28 e_x28 => ?_)
        replace hf := qf_ld_e e_x28 hf
        refine lv_iload hx hb dX8_nextPeriod_178 (lv_at hl 4 rfl) ?_
        refine lv_iadd hx hb dX8_nextPeriod_180 ?_
        have h_181 := qf_st_in hf
        replace hf := qf_st_e hf
        refine asM_1 S0 V h_181 dX8_nextPeriod_181 (fun H locs A29 e_A29 V => ?_)
        replace hf := qf_let_e e_A29 hf
        refine lv_iload_n hx hb dX8_nextPeriod_182 rfl (lv_at hl 1 rfl) ?_
        refine lv_iload hx hb dX8_nextPeriod_183 (lv_at hl 4 rfl) ?_
        refine lv_iadd hx hb dX8_nextPeriod_185 ?_
        refine lv_topi (fun x31 e_x31 => ?_)
        replace hf := qf_let_e e_x31 hf
        refine lv_istore_n (lv' := [(1, .int x31), (0, .ref (ad 0)), (2, .int y2), (3, .int y3), (5, .int y5), (6, .int y6)]) hx hb dX8_nextPeriod_186 rfl hl (by decide) rfl (fun ls hl => ?_)
        obtain ⟨x32, e_x32⟩ : ∃ y : Int32, y = y3 + (1 : Int32) := ⟨_, rfl⟩
        refine lv_iinc (v := x32) (lv' := [(3, .int x32), (1, .int x31), (0, .ref (ad 0)), (2, .int y2), (5, .int y5), (6, .int y6)]) hx hb dX8_nextPeriod_187 hl (k := 3) rfl (by rw [e_x32]; rfl) (by decide) rfl (fun ls hl => ?_)
        replace hf := qf_let_e e_x32 hf
        refine lv_goto (tgt := 47) hx hb dX8_nextPeriod_190 (by decide) ?_
        exact hK47 hf V (lv_sub hl [2, 1, 3, 0] rfl)
      · replace hf := qf_f c_117 hf
        refine lv_aload_n hx hb dX8_nextPeriod_120 rfl (lv_at hl 0 rfl) ?_
        refine gfM_0_0 S0 V kl_X8_7 dX8_nextPeriod_121 ?_
        refine lv_iload_n hx hb dX8_nextPeriod_124 rfl (lv_at hl 2 rfl) ?_
        refine lv_iload_n hx hb dX8_nextPeriod_125 rfl (lv_at hl 3 rfl) ?_
        obtain ⟨r33, hc_126, hf⟩ := qf_bd_e hf
        refine qw_cSR (rest := [.ref (ad 1)]) (st1 := [.int r33, .ref (ad 1)]) S0 V hl (c_X8_at l hc_126) kg_X8_211 rfl ⟨rfl, rfl⟩ kd_X8_at ⟨Nat.le_of_ble_eq_true rfl, Nat.le_of_ble_eq_true rfl⟩ rfl rfl (Nat.le_of_ble_eq_true rfl) ⟨Nat.zero_le _, Nat.zero_le _⟩ rfl dX8_nextPeriod_126 ?_
        refine lv_iload hx hb dX8_nextPeriod_129 (lv_at hl 5 rfl) ?_
        refine lv_iadd hx hb dX8_nextPeriod_131 ?_
        refine lv_aload_n hx hb dX8_nextPeriod_132 rfl (lv_at hl 0 rfl) ?_
        refine gfM_0_0 S0 V kl_X8_7 dX8_nextPeriod_133 ?_
        refine lv_iload_n hx hb dX8_nextPeriod_136 rfl (lv_at hl 2 rfl) ?_
        refine lv_iload_n hx hb dX8_nextPeriod_137 rfl (lv_at hl 3 rfl) ?_
        obtain ⟨r34, hc_138, hf⟩ := qf_bd_e hf
        refine qw_cSR (rest := [.ref (ad 1), .int (r33 + y6), .ref (ad 1)]) (st1 := [.int r34, .ref (ad 1), .int (r33 + y6), .ref (ad 1)]) S0 V hl (c_X8_at l hc_138) kg_X8_211 rfl ⟨rfl, rfl⟩ kd_X8_at ⟨Nat.le_of_ble_eq_true rfl, Nat.le_of_ble_eq_true rfl⟩ rfl rfl (Nat.le_of_ble_eq_true rfl) ⟨Nat.zero_le _, Nat.zero_le _⟩ rfl dX8_nextPeriod_138 ?_
        refine lv_iload hx hb dX8_nextPeriod_141 (lv_at hl 5 rfl) ?_
        refine lv_iadd hx hb dX8_nextPeriod_143 ?_
        refine lv_iconst (v := 1) hx hb dX8_nextPeriod_144 (by decide) ?_
        refine lv_iadd hx hb dX8_nextPeriod_145 ?_
        have h_146 := qf_ld_in hf
        refine alM_1 S0 V h_146 dX8_nextPeriod_146 ?_
        refine lv_topi (fun x35 e_x35 => ?_)
        replace hf := qf_ld_e e_x35 hf
        have h_147 := qf_st_in hf
        replace hf := qf_st_e hf
        refine asM_1 S0 V h_147 dX8_nextPeriod_147 (fun H locs A36 e_A36 V => ?_)
        replace hf := qf_let_e e_A36 hf
        obtain ⟨x38, e_x38⟩ : ∃ y : Int32, y = y6 + (1 : Int32) := ⟨_, rfl⟩
        refine lv_iinc (v := x38) (lv' := [(6, .int x38), (0, .ref (ad 0)), (1, .int y1), (2, .int y2), (3, .int y3), (5, .int y5)]) hx hb dX8_nextPeriod_148 hl (k := 5) rfl (by rw [e_x38]; rfl) (by decide) rfl (fun ls hl => ?_)
        replace hf := qf_let_e e_x38 hf
        refine lv_goto (tgt := 114) hx hb dX8_nextPeriod_151 (by decide) ?_
        exact ih hf V (lv_sub hl [1, 2, 3, 4, 5, 0] rfl)
  have L_47 : ∀ {K13 : (Nat → Int32) → (Nat → Nat → Int32) → Int32 → Int32 → Option (Int32 × (Nat → Int32) × (Nat → Nat → Int32))}  (hK13 : ∀ {I : Nat → Int32} {A : Nat → Nat → Int32} {y1 : Int32} {y2 : Int32} {H : Heap} {locs : List Loc} {ls : Array Slot}, K13 I A y1 y2 = some (rv, I9, A9) → qw_V D cy Z9 s (Wm cy ad I A w) H locs → lv_has ls 7 [(0, .ref (ad 0)), (1, .int y1), (2, .int y2)] → W p l e rm_X8_nextPeriod s m args below meth c H locs 0 0 Q9 (F0 m 13 ls [])) {y2 : Int32} {n : Nat} {I : Nat → Int32} {A : Nat → Nat → Int32} {y1 : Int32} {y3 : Int32} {H : Heap} {locs : List Loc} {ls : Array Slot}, f_X8_nextPeriod_l47 K13 y2 n I A y1 y3 = some (rv, I9, A9) → qw_V D cy Z9 s (Wm cy ad I A w) H locs → lv_has ls 7 [(0, .ref (ad 0)), (1, .int y1), (2, .int y2), (3, .int y3)] → W p l e rm_X8_nextPeriod s m args below meth c H locs 0 0 Q9 (F0 m 47 ls []) := by
    intro K13 hK13 y2 n
    induction n with
    | zero => intro I A y1 y3 H locs ls hf V hl; exact qf_no hf
    | succ n ih =>
      intro I A y1 y3 H locs ls hf V hl
      rw [f_X8_nextPeriod_l47] at hf
      refine lv_iload_n hx hb dX8_nextPeriod_47 rfl (lv_at hl 3 rfl) ?_
      refine lv_aload_n hx hb dX8_nextPeriod_48 rfl (lv_at hl 0 rfl) ?_
      refine gfM_0_5 S0 V kl_X8_19 dX8_nextPeriod_49 ?_
      refine lv_iconst (v := 0) hx hb dX8_nextPeriod_52 (by decide) ?_
      have h_53 := qf_ld_in hf
      refine alM_4 S0 V h_53 dX8_nextPeriod_53 ?_
      refine lv_topi (fun x13 e_x13 => ?_)
      replace hf := qf_ld_e e_x13 hf
      refine lv_icmp_ge (tgt := 193) hx hb dX8_nextPeriod_54 (by decide) (fun c_54 => ?_) (fun c_54 => ?_)
      · replace hf := qf_t c_54 hf
        obtain ⟨x14, e_x14⟩ : ∃ y : Int32, y = y2 + (1 : Int32) := ⟨_, rfl⟩
        refine lv_iinc (v := x14) (lv' := [(2, .int x14), (0, .ref (ad 0)), (1, .int y1), (3, .int y3)]) hx hb dX8_nextPeriod_193 hl (k := 2) rfl (by rw [e_x14]; rfl) (by decide) rfl (fun ls hl => ?_)
        replace hf := qf_let_e e_x14 hf
        refine lv_goto (tgt := 13) hx hb dX8_nextPeriod_196 (by decide) ?_
        exact hK13 hf V (lv_sub hl [1, 2, 0] rfl)
      · replace hf := qf_f c_54 hf
        refine lv_aload_n hx hb dX8_nextPeriod_57 rfl (lv_at hl 0 rfl) ?_
        refine gfM_0_0 S0 V kl_X8_7 dX8_nextPeriod_58 ?_
        refine lv_iload_n hx hb dX8_nextPeriod_61 rfl (lv_at hl 2 rfl) ?_
        refine lv_iload_n hx hb dX8_nextPeriod_62 rfl (lv_at hl 3 rfl) ?_
        obtain ⟨r15, hc_63, hf⟩ := qf_bd_e hf
        refine qw_cSR (rest := [.ref (ad 1)]) (st1 := [.int r15, .ref (ad 1)]) S0 V hl (c_X8_at l hc_63) kg_X8_211 rfl ⟨rfl, rfl⟩ kd_X8_at ⟨Nat.le_of_ble_eq_true rfl, Nat.le_of_ble_eq_true rfl⟩ rfl rfl (Nat.le_of_ble_eq_true rfl) ⟨Nat.zero_le _, Nat.zero_le _⟩ rfl dX8_nextPeriod_63 ?_
        refine lv_iconst (v := 1) hx hb dX8_nextPeriod_66 (by decide) ?_
        refine lv_iadd hx hb dX8_nextPeriod_67 ?_
        have h_68 := qf_ld_in hf
        refine alM_1 S0 V h_68 dX8_nextPeriod_68 ?_
        refine lv_topi (fun x16 e_x16 => ?_)
        replace hf := qf_ld_e e_x16 hf
        refine lv_istore (lv' := [(4, .int x16), (0, .ref (ad 0)), (1, .int y1), (2, .int y2), (3, .int y3)]) hx hb dX8_nextPeriod_69 hl (by decide) rfl (fun ls hl => ?_)
        refine lv_aload_n hx hb dX8_nextPeriod_71 rfl (lv_at hl 1 rfl) ?_
        refine gfM_0_0 S0 V kl_X8_7 dX8_nextPeriod_72 ?_
        refine lv_iload_n hx hb dX8_nextPeriod_75 rfl (lv_at hl 3 rfl) ?_
        refine lv_iload_n hx hb dX8_nextPeriod_76 rfl (lv_at hl 4 rfl) ?_
        obtain ⟨r17, hc_77, hf⟩ := qf_bd_e hf
        refine qw_cSR (rest := [.ref (ad 1)]) (st1 := [.int r17, .ref (ad 1)]) S0 V hl (c_X8_at l hc_77) kg_X8_211 rfl ⟨rfl, rfl⟩ kd_X8_at ⟨Nat.le_of_ble_eq_true rfl, Nat.le_of_ble_eq_true rfl⟩ rfl rfl (Nat.le_of_ble_eq_true rfl) ⟨Nat.zero_le _, Nat.zero_le _⟩ rfl dX8_nextPeriod_77 ?_
        have h_80 := qf_ld_in hf
        refine alM_1 S0 V h_80 dX8_nextPeriod_80 ?_
        refine lv_topi (fun x18 e_x18 => ?_)
        replace hf := qf_ld_e e_x18 hf
        refine lv_iload hx hb dX8_nextPeriod_81 (lv_at hl 0 rfl) ?_
        refine lv_iadd hx hb dX8_nextPeriod_83 ?_
        refine lv_aload_n hx hb dX8_nextPeriod_84 rfl (lv_at hl 1 rfl) ?_
        refine lv_iload_n hx hb dX8_nextPeriod_85 rfl (lv_at hl 4 rfl) ?_
        refine lv_iload hx hb dX8_nextPeriod_86 (lv_at hl 0 rfl) ?_
        obtain ⟨r19, hc_88, hf⟩ := qf_bd_e hf
        refine qw_cVR (rest := [.int (x18 + x16)]) (st1 := [.int r19, .int (x18 + x16)]) S0 V hl 0 gM_0 rfl (c_X8_carriedOf l hc_88) kg_X8_217 rfl ⟨rfl, rfl⟩ kd_X8_carriedOf ⟨Nat.le_of_ble_eq_true rfl, Nat.le_of_ble_eq_true rfl⟩ rfl rfl (Nat.le_of_ble_eq_true rfl) ⟨Nat.zero_le _, Nat.zero_le _⟩ rfl dX8_nextPeriod_88 ?_
        refine lv_isub hx hb dX8_nextPeriod_91 ?_
        refine lv_topi (fun x20 e_x20 => ?_)
        replace hf := qf_let_e e_x20 hf
        refine lv_istore (lv' := [(5, .int x20), (4, .int x16), (0, .ref (ad 0)), (1, .int y1), (2, .int y2), (3, .int y3)]) hx hb dX8_nextPeriod_92 hl (by decide) rfl (fun ls hl => ?_)
        refine lv_aload_n hx hb dX8_nextPeriod_94 rfl (lv_at hl 2 rfl) ?_
        refine gfM_0_0 S0 V kl_X8_7 dX8_nextPeriod_95 ?_
        refine lv_iload_n hx hb dX8_nextPeriod_98 rfl (lv_at hl 4 rfl) ?_
        refine lv_iload_n hx hb dX8_nextPeriod_99 rfl (lv_at hl 5 rfl) ?_
        obtain ⟨r21, hc_100, hf⟩ := qf_bd_e hf
        refine qw_cSR (rest := [.ref (ad 1)]) (st1 := [.int r21, .ref (ad 1)]) S0 V hl (c_X8_at l hc_100) kg_X8_211 rfl ⟨rfl, rfl⟩ kd_X8_at ⟨Nat.le_of_ble_eq_true rfl, Nat.le_of_ble_eq_true rfl⟩ rfl rfl (Nat.le_of_ble_eq_true rfl) ⟨Nat.zero_le _, Nat.zero_le _⟩ rfl dX8_nextPeriod_100 ?_
        refine lv_aload_n hx hb dX8_nextPeriod_103 rfl (lv_at hl 2 rfl) ?_
        refine lv_iload_n hx hb dX8_nextPeriod_104 rfl (lv_at hl 5 rfl) ?_
        refine lv_iload hx hb dX8_nextPeriod_105 (lv_at hl 1 rfl) ?_
        obtain ⟨r22, hc_107, hf⟩ := qf_bd_e hf
        refine qw_cVR (rest := [.int r21, .ref (ad 1)]) (st1 := [.int r22, .int r21, .ref (ad 1)]) S0 V hl 0 gM_0 rfl (c_X8_carriedOf l hc_107) kg_X8_217 rfl ⟨rfl, rfl⟩ kd_X8_carriedOf ⟨Nat.le_of_ble_eq_true rfl, Nat.le_of_ble_eq_true rfl⟩ rfl rfl (Nat.le_of_ble_eq_true rfl) ⟨Nat.zero_le _, Nat.zero_le _⟩ rfl dX8_nextPeriod_107 ?_
        have h_110 := qf_st_in hf
        replace hf := qf_st_e hf
        refine asM_1 S0 V h_110 dX8_nextPeriod_110 (fun H locs A23 e_A23 V => ?_)
        replace hf := qf_let_e e_A23 hf
        refine lv_iconst (v := 1) hx hb dX8_nextPeriod_111 (by decide) ?_
        refine lv_istore (lv' := [(6, .int (1 : Int32)), (5, .int x20), (4, .int x16), (0, .ref (ad 0)), (1, .int y1), (2, .int y2), (3, .int y3)]) hx hb dX8_nextPeriod_112 hl (by decide) rfl (fun ls hl => ?_)
        exact L_114 hK13 (fun hf V hl => ih hf V hl) hf V (lv_sub hl [3, 4, 5, 6, 1, 0] rfl)
  have L_13 : ∀   {n : Nat} {I : Nat → Int32} {A : Nat → Nat → Int32} {y1 : Int32} {y2 : Int32} {H : Heap} {locs : List Loc} {ls : Array Slot}, f_X8_nextPeriod_l13 n I A y1 y2 = some (rv, I9, A9) → qw_V D cy Z9 s (Wm cy ad I A w) H locs → lv_has ls 7 [(0, .ref (ad 0)), (1, .int y1), (2, .int y2)] → W p l e rm_X8_nextPeriod s m args below meth c H locs 0 0 Q9 (F0 m 13 ls []) := by
    intro n
    induction n with
    | zero => intro I A y1 y2 H locs ls hf V hl; exact qf_no hf
    | succ n ih =>
      intro I A y1 y2 H locs ls hf V hl
      rw [f_X8_nextPeriod_l13] at hf
      refine lv_iload_n hx hb dX8_nextPeriod_13 rfl (lv_at hl 2 rfl) ?_
      refine lv_aload_n hx hb dX8_nextPeriod_14 rfl (lv_at hl 0 rfl) ?_
      refine gfM_0_5 S0 V kl_X8_19 dX8_nextPeriod_15 ?_
      refine lv_iconst (v := 2) hx hb dX8_nextPeriod_18 (by decide) ?_
      have h_19 := qf_ld_in hf
      refine alM_4 S0 V h_19 dX8_nextPeriod_19 ?_
      refine lv_topi (fun x4 e_x4 => ?_)
      replace hf := qf_ld_e e_x4 hf
      refine lv_icmp_ge (tgt := 199) hx hb dX8_nextPeriod_20 (by decide) (fun c_20 => ?_) (fun c_20 => ?_)
      · replace hf := qf_t c_20 hf
        refine lv_aload_n hx hb dX8_nextPeriod_199 rfl (lv_at hl 0 rfl) ?_
        refine gfM_0_0 S0 V kl_X8_7 dX8_nextPeriod_200 ?_
        refine lv_sipush (v := 249) hx hb dX8_nextPeriod_203 (by decide) ?_
        refine lv_dup2_11 hx hb dX8_nextPeriod_206 rfl rfl ?_
        have h_207 := qf_ld_in hf
        refine alM_1 S0 V h_207 dX8_nextPeriod_207 ?_
        refine lv_topi (fun x5 e_x5 => ?_)
        replace hf := qf_ld_e e_x5 hf
        refine lv_iconst (v := 1) hx hb dX8_nextPeriod_208 (by decide) ?_
        refine lv_iadd hx hb dX8_nextPeriod_209 ?_
        have h_210 := qf_st_in hf
        replace hf := qf_st_e hf
        refine asM_1 S0 V h_210 dX8_nextPeriod_210 (fun H locs A6 e_A6 V => ?_)
        replace hf := qf_let_e e_A6 hf
        refine lv_aload_n hx hb dX8_nextPeriod_211 rfl (lv_at hl 0 rfl) ?_
        obtain ⟨A8, hc_212, hf⟩ := qf_bd_e hf
        refine qw_cV (rest := []) (st1 := []) S0 V hl 0 gM_0 rfl (c_X8_issue l hc_212) kg_X8_188 rfl ⟨rfl, rfl⟩ kd_X8_issue ⟨Nat.le_of_ble_eq_true rfl, Nat.le_of_ble_eq_true rfl⟩ rfl rfl (Nat.le_of_ble_eq_true rfl) ⟨Nat.zero_le _, Nat.zero_le _⟩ rfl dX8_nextPeriod_212 (fun H locs V => ?_)
        refine lv_iload_n hx hb dX8_nextPeriod_215 rfl (lv_at hl 1 rfl) ?_
        have hE := Option.some.inj hf
        obtain ⟨e0, hE⟩ := qf_pr hE
        obtain ⟨e1, hE⟩ := qf_pr hE
        exact qw_ireti S0 hr hlocks hQ e0 (by rw [e1, hE]) V dX8_nextPeriod_216
      · replace hf := qf_f c_20 hf
        refine lv_aload_n hx hb dX8_nextPeriod_23 rfl (lv_at hl 0 rfl) ?_
        refine gfM_0_0 S0 V kl_X8_7 dX8_nextPeriod_24 ?_
        refine lv_sipush (v := 133) hx hb dX8_nextPeriod_27 (by decide) ?_
        refine lv_iload_n hx hb dX8_nextPeriod_30 rfl (lv_at hl 2 rfl) ?_
        refine lv_iadd hx hb dX8_nextPeriod_31 ?_
        refine lv_iconst (v := 0) hx hb dX8_nextPeriod_32 (by decide) ?_
        have h_33 := qf_st_in hf
        replace hf := qf_st_e hf
        refine asM_1 S0 V h_33 dX8_nextPeriod_33 (fun H locs A9 e_A9 V => ?_)
        replace hf := qf_let_e e_A9 hf
        refine lv_aload_n hx hb dX8_nextPeriod_34 rfl (lv_at hl 0 rfl) ?_
        refine gfM_0_0 S0 V kl_X8_7 dX8_nextPeriod_35 ?_
        refine lv_sipush (v := 139) hx hb dX8_nextPeriod_38 (by decide) ?_
        refine lv_iload_n hx hb dX8_nextPeriod_41 rfl (lv_at hl 2 rfl) ?_
        refine lv_iadd hx hb dX8_nextPeriod_42 ?_
        refine lv_iconst (v := 0) hx hb dX8_nextPeriod_43 (by decide) ?_
        have h_44 := qf_st_in hf
        replace hf := qf_st_e hf
        refine asM_1 S0 V h_44 dX8_nextPeriod_44 (fun H locs A11 e_A11 V => ?_)
        replace hf := qf_let_e e_A11 hf
        refine lv_iconst (v := 0) hx hb dX8_nextPeriod_45 (by decide) ?_
        refine lv_istore_n (lv' := [(3, .int (0 : Int32)), (0, .ref (ad 0)), (1, .int y1), (2, .int y2)]) hx hb dX8_nextPeriod_46 rfl hl (by decide) rfl (fun ls hl => ?_)
        exact L_47 (fun hf V hl => ih hf V hl) hf V (lv_sub hl [1, 2, 3, 0] rfl)
  unfold f_X8_nextPeriod at hf
  refine lv_aload_n hx hb dX8_nextPeriod_0 rfl (lv_at hl 0 rfl) ?_
  refine lv_iconst (v := 0) hx hb dX8_nextPeriod_1 (by decide) ?_
  refine pfM_0_4 S0 V kl_X8_49 dX8_nextPeriod_2 (fun H locs I1 e_I1 V => ?_)
  replace hf := qf_let_e e_I1 hf
  refine lv_aload_n hx hb dX8_nextPeriod_5 rfl (lv_at hl 0 rfl) ?_
  obtain ⟨I2, A3, hc_6, hf⟩ := qf_bd2_e hf
  refine qw_cV (rest := []) (st1 := []) S0 V hl 0 gM_0 rfl (c_X8_remember l hc_6) kg_X8_235 rfl ⟨rfl, rfl⟩ kd_X8_remember ⟨Nat.le_of_ble_eq_true rfl, Nat.le_of_ble_eq_true rfl⟩ rfl rfl (Nat.le_of_ble_eq_true rfl) ⟨Nat.zero_le _, Nat.zero_le _⟩ rfl dX8_nextPeriod_6 (fun H locs V => ?_)
  refine lv_iconst (v := 0) hx hb dX8_nextPeriod_9 (by decide) ?_
  refine lv_istore_n (lv' := [(1, .int (0 : Int32)), (0, .ref (ad 0))]) hx hb dX8_nextPeriod_10 rfl hl (by decide) rfl (fun ls hl => ?_)
  refine lv_iconst (v := 0) hx hb dX8_nextPeriod_11 (by decide) ?_
  refine lv_istore_n (lv' := [(2, .int (0 : Int32)), (1, .int (0 : Int32)), (0, .ref (ad 0))]) hx hb dX8_nextPeriod_12 rfl hl (by decide) rfl (fun ls hl => ?_)
  exact L_13 hf V (lv_sub hl [2, 1, 0] rfl)
theorem kd_X8_givenBy : yX8_givenBy.cls = RX8 ∧ yX8_givenBy.cls ≠ "java/lang/invoke/MethodHandle" ∧ yX8_givenBy.cls ≠ "java/lang/invoke/VarHandle" ∧ (parseMethodDescriptor yX8_givenBy.desc).map (fun d => d.parameters.length) = some 1 := by decide +kernel
def f_X8_givenBy (A : Nat → Nat → Int32) (I : Nat → Int32) (p1 : Int32) : Option (Int32 × (Nat → Int32)) :=
  qf_bd (f_X8_isHouse A p1) fun r1 =>
  qf_bd2 (f_X8_fails I r1) fun r2 I3 =>
  if r2 = 0 then (qf_ld 250 (A 0) ((133 : Int32) + p1) fun x4 =>
    some (x4, I3)) else (some ((0 : Int32), I3))
abbrev wz_X8_givenBy : List Cond := Cond.code yX8_givenBy cX8_givenBy 2 (some .int) :: qw_big
def rm_X8_givenBy : Room := { frames := 2, cells := 0, slots := 0, locals := 43 }
set_option maxHeartbeats 4000000 in
set_option maxRecDepth 100000 in
theorem c_X8_givenBy (l : Launch) {D : va_G} {cy : Nat → ClassId} {ad : Nat → Nat} {I : Nat → Int32} {A : Nat → Nat → Int32} {w : Int64} {p1 : Int32} {rv : Int32} {I9 : Nat → Int32} {sz : Nat} (hf : f_X8_givenBy A I p1 = some (rv, I9)) : Met l yX8_givenBy wz_X8_givenBy rm_X8_givenBy (va_Pc [.ref (ad 0), .int p1] (qw_Pre D cy (Wm cy ad I A w) sz)) (qw_Q (some (.int rv)) D (Wm cy ad I9 A w) (va_A (Wm cy ad I A w) sz)) 0 0 (va_A (Wm cy ad I A w) sz) := by
  refine qw_of (cc := cX8_givenBy) (maxL := 2) (ret := (some .int)) (by decide) (Nat.le_of_ble_eq_true rfl) ?_
  intro p e s m args below meth c ls S0 hr hlocks hsz V hl
  have S0 : CallFix p m c cX8_givenBy 2 s args qw_big RX8 := S0
  have hx := S0.1; have hb := S0.2.1; have hown := S0.2.2.2.1; have hts := S0.2.2.2.2
  have hl : lv_has ls 2 [(0, .ref (ad 0)), (1, .int p1)] := hl
  generalize va_A (Wm cy ad I A w) sz = Z9 at V ⊢
  obtain ⟨Q9, hQ⟩ : ∃ q, q = MQ below (qw_Q (some (.int rv)) D (Wm cy ad I9 A w) Z9) args s 0 0 Z9 := ⟨_, rfl⟩
  rw [← hQ]
  clear hsz
  unfold f_X8_givenBy at hf
  refine lv_aload_n hx hb dX8_givenBy_0 rfl (lv_at hl 0 rfl) ?_
  refine lv_aload_n hx hb dX8_givenBy_1 rfl (lv_at hl 0 rfl) ?_
  refine lv_iload_n hx hb dX8_givenBy_2 rfl (lv_at hl 1 rfl) ?_
  obtain ⟨r1, hc_3, hf⟩ := qf_bd_e hf
  refine qw_cVR (rest := [.ref (ad 0)]) (st1 := [.int r1, .ref (ad 0)]) S0 V hl 0 gM_0 rfl (c_X8_isHouse l hc_3) kg_X8_208 rfl ⟨rfl, rfl⟩ kd_X8_isHouse ⟨Nat.le_of_ble_eq_true rfl, Nat.le_of_ble_eq_true rfl⟩ rfl rfl (Nat.le_of_ble_eq_true rfl) ⟨Nat.zero_le _, Nat.zero_le _⟩ rfl dX8_givenBy_3 ?_
  obtain ⟨r2, I3, hc_6, hf⟩ := qf_bd2_e hf
  refine qw_cV (rest := []) (st1 := [.int r2]) S0 V hl 0 gM_0 rfl (c_X8_fails l hc_6) kg_X8_201 rfl ⟨rfl, rfl⟩ kd_X8_fails ⟨Nat.le_of_ble_eq_true rfl, Nat.le_of_ble_eq_true rfl⟩ rfl rfl (Nat.le_of_ble_eq_true rfl) ⟨Nat.zero_le _, Nat.zero_le _⟩ rfl dX8_givenBy_6 (fun H locs V => ?_)
  refine lv_if_eq (tgt := 16) hx hb dX8_givenBy_9 (by decide) (fun c_9 => ?_) (fun c_9 => ?_)
  · replace hf := qf_t c_9 hf
    refine lv_aload_n hx hb dX8_givenBy_16 rfl (lv_at hl 0 rfl) ?_
    refine gfM_0_0 S0 V kl_X8_7 dX8_givenBy_17 ?_
    refine lv_sipush (v := 133) hx hb dX8_givenBy_20 (by decide) ?_
    refine lv_iload_n hx hb dX8_givenBy_23 rfl (lv_at hl 1 rfl) ?_
    refine lv_iadd hx hb dX8_givenBy_24 ?_
    have h_25 := qf_ld_in hf
    refine alM_1 S0 V h_25 dX8_givenBy_25 ?_
    refine lv_topi (fun x4 e_x4 => ?_)
    replace hf := qf_ld_e e_x4 hf
    have hE := Option.some.inj hf
    obtain ⟨e0, hE⟩ := qf_pr hE
    exact qw_ireti S0 hr hlocks hQ e0 (by rw [hE]) V dX8_givenBy_26
  · replace hf := qf_f c_9 hf
    refine lv_iconst (v := 0) hx hb dX8_givenBy_12 (by decide) ?_
    refine lv_goto (tgt := 26) hx hb dX8_givenBy_13 (by decide) ?_
    have hE := Option.some.inj hf
    obtain ⟨e0, hE⟩ := qf_pr hE
    exact qw_ireti S0 hr hlocks hQ e0 (by rw [hE]) V dX8_givenBy_26
theorem kd_X8_takenBy : yX8_takenBy.cls = RX8 ∧ yX8_takenBy.cls ≠ "java/lang/invoke/MethodHandle" ∧ yX8_takenBy.cls ≠ "java/lang/invoke/VarHandle" ∧ (parseMethodDescriptor yX8_takenBy.desc).map (fun d => d.parameters.length) = some 1 := by decide +kernel
def f_X8_takenBy (A : Nat → Nat → Int32) (I : Nat → Int32) (p1 : Int32) : Option (Int32 × (Nat → Int32)) :=
  qf_bd (f_X8_isHouse A p1) fun r1 =>
  qf_bd2 (f_X8_fails I r1) fun r2 I3 =>
  if r2 = 0 then (qf_ld 250 (A 0) ((139 : Int32) + p1) fun x4 =>
    some (x4, I3)) else (some ((0 : Int32), I3))
abbrev wz_X8_takenBy : List Cond := Cond.code yX8_takenBy cX8_takenBy 2 (some .int) :: qw_big
def rm_X8_takenBy : Room := { frames := 2, cells := 0, slots := 0, locals := 43 }
set_option maxHeartbeats 4000000 in
set_option maxRecDepth 100000 in
theorem c_X8_takenBy (l : Launch) {D : va_G} {cy : Nat → ClassId} {ad : Nat → Nat} {I : Nat → Int32} {A : Nat → Nat → Int32} {w : Int64} {p1 : Int32} {rv : Int32} {I9 : Nat → Int32} {sz : Nat} (hf : f_X8_takenBy A I p1 = some (rv, I9)) : Met l yX8_takenBy wz_X8_takenBy rm_X8_takenBy (va_Pc [.ref (ad 0), .int p1] (qw_Pre D cy (Wm cy ad I A w) sz)) (qw_Q (some (.int rv)) D (Wm cy ad I9 A w) (va_A (Wm cy ad I A w) sz)) 0 0 (va_A (Wm cy ad I A w) sz) := by
  refine qw_of (cc := cX8_takenBy) (maxL := 2) (ret := (some .int)) (by decide) (Nat.le_of_ble_eq_true rfl) ?_
  intro p e s m args below meth c ls S0 hr hlocks hsz V hl
  have S0 : CallFix p m c cX8_takenBy 2 s args qw_big RX8 := S0
  have hx := S0.1; have hb := S0.2.1; have hown := S0.2.2.2.1; have hts := S0.2.2.2.2
  have hl : lv_has ls 2 [(0, .ref (ad 0)), (1, .int p1)] := hl
  generalize va_A (Wm cy ad I A w) sz = Z9 at V ⊢
  obtain ⟨Q9, hQ⟩ : ∃ q, q = MQ below (qw_Q (some (.int rv)) D (Wm cy ad I9 A w) Z9) args s 0 0 Z9 := ⟨_, rfl⟩
  rw [← hQ]
  clear hsz
  unfold f_X8_takenBy at hf
  refine lv_aload_n hx hb dX8_takenBy_0 rfl (lv_at hl 0 rfl) ?_
  refine lv_aload_n hx hb dX8_takenBy_1 rfl (lv_at hl 0 rfl) ?_
  refine lv_iload_n hx hb dX8_takenBy_2 rfl (lv_at hl 1 rfl) ?_
  obtain ⟨r1, hc_3, hf⟩ := qf_bd_e hf
  refine qw_cVR (rest := [.ref (ad 0)]) (st1 := [.int r1, .ref (ad 0)]) S0 V hl 0 gM_0 rfl (c_X8_isHouse l hc_3) kg_X8_208 rfl ⟨rfl, rfl⟩ kd_X8_isHouse ⟨Nat.le_of_ble_eq_true rfl, Nat.le_of_ble_eq_true rfl⟩ rfl rfl (Nat.le_of_ble_eq_true rfl) ⟨Nat.zero_le _, Nat.zero_le _⟩ rfl dX8_takenBy_3 ?_
  obtain ⟨r2, I3, hc_6, hf⟩ := qf_bd2_e hf
  refine qw_cV (rest := []) (st1 := [.int r2]) S0 V hl 0 gM_0 rfl (c_X8_fails l hc_6) kg_X8_201 rfl ⟨rfl, rfl⟩ kd_X8_fails ⟨Nat.le_of_ble_eq_true rfl, Nat.le_of_ble_eq_true rfl⟩ rfl rfl (Nat.le_of_ble_eq_true rfl) ⟨Nat.zero_le _, Nat.zero_le _⟩ rfl dX8_takenBy_6 (fun H locs V => ?_)
  refine lv_if_eq (tgt := 16) hx hb dX8_takenBy_9 (by decide) (fun c_9 => ?_) (fun c_9 => ?_)
  · replace hf := qf_t c_9 hf
    refine lv_aload_n hx hb dX8_takenBy_16 rfl (lv_at hl 0 rfl) ?_
    refine gfM_0_0 S0 V kl_X8_7 dX8_takenBy_17 ?_
    refine lv_sipush (v := 139) hx hb dX8_takenBy_20 (by decide) ?_
    refine lv_iload_n hx hb dX8_takenBy_23 rfl (lv_at hl 1 rfl) ?_
    refine lv_iadd hx hb dX8_takenBy_24 ?_
    have h_25 := qf_ld_in hf
    refine alM_1 S0 V h_25 dX8_takenBy_25 ?_
    refine lv_topi (fun x4 e_x4 => ?_)
    replace hf := qf_ld_e e_x4 hf
    have hE := Option.some.inj hf
    obtain ⟨e0, hE⟩ := qf_pr hE
    exact qw_ireti S0 hr hlocks hQ e0 (by rw [hE]) V dX8_takenBy_26
  · replace hf := qf_f c_9 hf
    refine lv_iconst (v := 0) hx hb dX8_takenBy_12 (by decide) ?_
    refine lv_goto (tgt := 26) hx hb dX8_takenBy_13 (by decide) ?_
    have hE := Option.some.inj hf
    obtain ⟨e0, hE⟩ := qf_pr hE
    exact qw_ireti S0 hr hlocks hQ e0 (by rw [hE]) V dX8_takenBy_26
theorem kd_X8_room : yX8_room.cls = RX8 ∧ yX8_room.cls ≠ "java/lang/invoke/MethodHandle" ∧ yX8_room.cls ≠ "java/lang/invoke/VarHandle" ∧ (parseMethodDescriptor yX8_room.desc).map (fun d => d.parameters.length) = some 2 := by decide +kernel
def f_X8_room (p1 : Int32) (p2 : Int32) : Option (Int32) :=
  if p1 ≤ p2 then (some ((0 : Int32))) else (some ((p1 - p2)))
abbrev wz_X8_room : List Cond := Cond.code yX8_room cX8_room 3 (some .int) :: qw_big
def rm_X8_room : Room := { frames := 0, cells := 0, slots := 0, locals := 0 }
set_option maxHeartbeats 4000000 in
set_option maxRecDepth 100000 in
theorem c_X8_room (l : Launch) {D : va_G} {cy : Nat → ClassId} {ad : Nat → Nat} {I : Nat → Int32} {A : Nat → Nat → Int32} {w : Int64} {p1 : Int32} {p2 : Int32} {rv : Int32} {sz : Nat} (hf : f_X8_room p1 p2 = some (rv)) : Met l yX8_room wz_X8_room rm_X8_room (va_Pc [.ref (ad 0), .int p1, .int p2] (qw_Pre D cy (Wm cy ad I A w) sz)) (qw_R (some (.int rv))) 0 0 (fun _ => False) := by
  refine qw_of (cc := cX8_room) (maxL := 3) (ret := (some .int)) (by decide) (Nat.le_of_ble_eq_true rfl) ?_
  intro p e s m args below meth c ls S0 hr hlocks hsz V hl
  have S0 : CallFix p m c cX8_room 3 s args qw_big RX8 := S0
  have hx := S0.1; have hb := S0.2.1; have hown := S0.2.2.2.1; have hts := S0.2.2.2.2
  have hl : lv_has ls 3 [(0, .ref (ad 0)), (1, .int p1), (2, .int p2)] := hl
  obtain ⟨Q9, hQ⟩ : ∃ q, q = MQ below (qw_R (some (.int rv))) args s 0 0 (fun _ => False) := ⟨_, rfl⟩
  rw [← hQ]
  generalize va_A (Wm cy ad I A w) sz = Z9 at V
  unfold f_X8_room at hf
  refine lv_iload_n hx hb dX8_room_0 rfl (lv_at hl 1 rfl) ?_
  refine lv_iload_n hx hb dX8_room_1 rfl (lv_at hl 2 rfl) ?_
  refine lv_icmp_le (tgt := 11) hx hb dX8_room_2 (by decide) (fun c_2 => ?_) (fun c_2 => ?_)
  · replace hf := qf_t c_2 hf
    refine lv_iconst (v := 0) hx hb dX8_room_11 (by decide) ?_
    have hE := Option.some.inj hf
    exact qw_iretR S0 hr hlocks hQ hE dX8_room_12
  · replace hf := qf_f c_2 hf
    refine lv_iload_n hx hb dX8_room_5 rfl (lv_at hl 1 rfl) ?_
    refine lv_iload_n hx hb dX8_room_6 rfl (lv_at hl 2 rfl) ?_
    refine lv_isub hx hb dX8_room_7 ?_
    refine lv_goto (tgt := 12) hx hb dX8_room_8 (by decide) ?_
    have hE := Option.some.inj hf
    exact qw_iretR S0 hr hlocks hQ hE dX8_room_12
theorem kd_X8_canGive : yX8_canGive.cls = RX8 ∧ yX8_canGive.cls ≠ "java/lang/invoke/MethodHandle" ∧ yX8_canGive.cls ≠ "java/lang/invoke/VarHandle" ∧ (parseMethodDescriptor yX8_canGive.desc).map (fun d => d.parameters.length) = some 2 := by decide +kernel
def f_X8_canGive (A : Nat → Nat → Int32) (p1 : Int32) (p2 : Int32) : Option (Int32) :=
  qf_bd (f_X8_couponsOf A p1 p2) fun r1 =>
  qf_ld 250 (A 0) (0 : Int32) fun x2 =>
  qf_ld 250 (A 0) ((133 : Int32) + p1) fun x3 =>
  qf_bd (f_X8_room x2 x3) fun r4 =>
  qf_bd (f_X8_lesser r1 r4) fun r5 =>
  some (r5)
abbrev wz_X8_canGive : List Cond := Cond.code yX8_canGive cX8_canGive 3 (some .int) :: qw_big
def rm_X8_canGive : Room := { frames := 2, cells := 0, slots := 0, locals := 45 }
set_option maxHeartbeats 4000000 in
set_option maxRecDepth 100000 in
theorem c_X8_canGive (l : Launch) {D : va_G} {cy : Nat → ClassId} {ad : Nat → Nat} {I : Nat → Int32} {A : Nat → Nat → Int32} {w : Int64} {p1 : Int32} {p2 : Int32} {rv : Int32} {sz : Nat} (hf : f_X8_canGive A p1 p2 = some (rv)) : Met l yX8_canGive wz_X8_canGive rm_X8_canGive (va_Pc [.ref (ad 0), .int p1, .int p2] (qw_Pre D cy (Wm cy ad I A w) sz)) (qw_R (some (.int rv))) 0 0 (fun _ => False) := by
  refine qw_of (cc := cX8_canGive) (maxL := 3) (ret := (some .int)) (by decide) (Nat.le_of_ble_eq_true rfl) ?_
  intro p e s m args below meth c ls S0 hr hlocks hsz V hl
  have S0 : CallFix p m c cX8_canGive 3 s args qw_big RX8 := S0
  have hx := S0.1; have hb := S0.2.1; have hown := S0.2.2.2.1; have hts := S0.2.2.2.2
  have hl : lv_has ls 3 [(0, .ref (ad 0)), (1, .int p1), (2, .int p2)] := hl
  obtain ⟨Q9, hQ⟩ : ∃ q, q = MQ below (qw_R (some (.int rv))) args s 0 0 (fun _ => False) := ⟨_, rfl⟩
  rw [← hQ]
  generalize va_A (Wm cy ad I A w) sz = Z9 at V
  unfold f_X8_canGive at hf
  refine lv_aload_n hx hb dX8_canGive_0 rfl (lv_at hl 0 rfl) ?_
  refine lv_iload_n hx hb dX8_canGive_1 rfl (lv_at hl 1 rfl) ?_
  refine lv_iload_n hx hb dX8_canGive_2 rfl (lv_at hl 2 rfl) ?_
  obtain ⟨r1, hc_3, hf⟩ := qf_bd_e hf
  refine qw_cVR (rest := []) (st1 := [.int r1]) S0 V hl 0 gM_0 rfl (c_X8_couponsOf l hc_3) kg_X8_214 rfl ⟨rfl, rfl⟩ kd_X8_couponsOf ⟨Nat.le_of_ble_eq_true rfl, Nat.le_of_ble_eq_true rfl⟩ rfl rfl (Nat.le_of_ble_eq_true rfl) ⟨Nat.zero_le _, Nat.zero_le _⟩ rfl dX8_canGive_3 ?_
  refine lv_aload_n hx hb dX8_canGive_6 rfl (lv_at hl 0 rfl) ?_
  refine lv_aload_n hx hb dX8_canGive_7 rfl (lv_at hl 0 rfl) ?_
  refine gfM_0_0 S0 V kl_X8_7 dX8_canGive_8 ?_
  refine lv_iconst (v := 0) hx hb dX8_canGive_11 (by decide) ?_
  have h_12 := qf_ld_in hf
  refine alM_1 S0 V h_12 dX8_canGive_12 ?_
  refine lv_topi (fun x2 e_x2 => ?_)
  replace hf := qf_ld_e e_x2 hf
  refine lv_aload_n hx hb dX8_canGive_13 rfl (lv_at hl 0 rfl) ?_
  refine gfM_0_0 S0 V kl_X8_7 dX8_canGive_14 ?_
  refine lv_sipush (v := 133) hx hb dX8_canGive_17 (by decide) ?_
  refine lv_iload_n hx hb dX8_canGive_20 rfl (lv_at hl 1 rfl) ?_
  refine lv_iadd hx hb dX8_canGive_21 ?_
  have h_22 := qf_ld_in hf
  refine alM_1 S0 V h_22 dX8_canGive_22 ?_
  refine lv_topi (fun x3 e_x3 => ?_)
  replace hf := qf_ld_e e_x3 hf
  obtain ⟨r4, hc_23, hf⟩ := qf_bd_e hf
  refine qw_cVR (rest := [.int r1]) (st1 := [.int r4, .int r1]) S0 V hl 0 gM_0 rfl (c_X8_room l hc_23) kg_X8_238 rfl ⟨rfl, rfl⟩ kd_X8_room ⟨Nat.le_of_ble_eq_true rfl, Nat.le_of_ble_eq_true rfl⟩ rfl rfl (Nat.le_of_ble_eq_true rfl) ⟨Nat.zero_le _, Nat.zero_le _⟩ rfl dX8_canGive_23 ?_
  obtain ⟨r5, hc_26, hf⟩ := qf_bd_e hf
  refine qw_cSR (rest := []) (st1 := [.int r5]) S0 V hl (c_X8_lesser l hc_26) kg_X8_241 rfl ⟨rfl, rfl⟩ kd_X8_lesser ⟨Nat.le_of_ble_eq_true rfl, Nat.le_of_ble_eq_true rfl⟩ rfl rfl (Nat.le_of_ble_eq_true rfl) ⟨Nat.zero_le _, Nat.zero_le _⟩ rfl dX8_canGive_26 ?_
  have hE := Option.some.inj hf
  exact qw_iretR S0 hr hlocks hQ hE dX8_canGive_29
theorem kd_X8_canTake : yX8_canTake.cls = RX8 ∧ yX8_canTake.cls ≠ "java/lang/invoke/MethodHandle" ∧ yX8_canTake.cls ≠ "java/lang/invoke/VarHandle" ∧ (parseMethodDescriptor yX8_canTake.desc).map (fun d => d.parameters.length) = some 1 := by decide +kernel
def f_X8_canTake (A : Nat → Nat → Int32) (p1 : Int32) : Option (Int32) :=
  qf_ld 250 (A 0) (1 : Int32) fun x1 =>
  qf_ld 250 (A 0) ((139 : Int32) + p1) fun x2 =>
  qf_bd (f_X8_room x1 x2) fun r3 =>
  some (r3)
abbrev wz_X8_canTake : List Cond := Cond.code yX8_canTake cX8_canTake 2 (some .int) :: qw_big
def rm_X8_canTake : Room := { frames := 1, cells := 0, slots := 0, locals := 22 }
set_option maxHeartbeats 4000000 in
set_option maxRecDepth 100000 in
theorem c_X8_canTake (l : Launch) {D : va_G} {cy : Nat → ClassId} {ad : Nat → Nat} {I : Nat → Int32} {A : Nat → Nat → Int32} {w : Int64} {p1 : Int32} {rv : Int32} {sz : Nat} (hf : f_X8_canTake A p1 = some (rv)) : Met l yX8_canTake wz_X8_canTake rm_X8_canTake (va_Pc [.ref (ad 0), .int p1] (qw_Pre D cy (Wm cy ad I A w) sz)) (qw_R (some (.int rv))) 0 0 (fun _ => False) := by
  refine qw_of (cc := cX8_canTake) (maxL := 2) (ret := (some .int)) (by decide) (Nat.le_of_ble_eq_true rfl) ?_
  intro p e s m args below meth c ls S0 hr hlocks hsz V hl
  have S0 : CallFix p m c cX8_canTake 2 s args qw_big RX8 := S0
  have hx := S0.1; have hb := S0.2.1; have hown := S0.2.2.2.1; have hts := S0.2.2.2.2
  have hl : lv_has ls 2 [(0, .ref (ad 0)), (1, .int p1)] := hl
  obtain ⟨Q9, hQ⟩ : ∃ q, q = MQ below (qw_R (some (.int rv))) args s 0 0 (fun _ => False) := ⟨_, rfl⟩
  rw [← hQ]
  generalize va_A (Wm cy ad I A w) sz = Z9 at V
  unfold f_X8_canTake at hf
  refine lv_aload_n hx hb dX8_canTake_0 rfl (lv_at hl 0 rfl) ?_
  refine lv_aload_n hx hb dX8_canTake_1 rfl (lv_at hl 0 rfl) ?_
  refine gfM_0_0 S0 V kl_X8_7 dX8_canTake_2 ?_
  refine lv_iconst (v := 1) hx hb dX8_canTake_5 (by decide) ?_
  have h_6 := qf_ld_in hf
  refine alM_1 S0 V h_6 dX8_canTake_6 ?_
  refine lv_topi (fun x1 e_x1 => ?_)
  replace hf := qf_ld_e e_x1 hf
  refine lv_aload_n hx hb dX8_canTake_7 rfl (lv_at hl 0 rfl) ?_
  refine gfM_0_0 S0 V kl_X8_7 dX8_canTake_8 ?_
  refine lv_sipush (v := 139) hx hb dX8_canTake_11 (by decide) ?_
  refine lv_iload_n hx hb dX8_canTake_14 rfl (lv_at hl 1 rfl) ?_
  refine lv_iadd hx hb dX8_canTake_15 ?_
  have h_16 := qf_ld_in hf
  refine alM_1 S0 V h_16 dX8_canTake_16 ?_
  refine lv_topi (fun x2 e_x2 => ?_)
  replace hf := qf_ld_e e_x2 hf
  obtain ⟨r3, hc_17, hf⟩ := qf_bd_e hf
  refine qw_cVR (rest := []) (st1 := [.int r3]) S0 V hl 0 gM_0 rfl (c_X8_room l hc_17) kg_X8_238 rfl ⟨rfl, rfl⟩ kd_X8_room ⟨Nat.le_of_ble_eq_true rfl, Nat.le_of_ble_eq_true rfl⟩ rfl rfl (Nat.le_of_ble_eq_true rfl) ⟨Nat.zero_le _, Nat.zero_le _⟩ rfl dX8_canTake_17 ?_
  have hE := Option.some.inj hf
  exact qw_iretR S0 hr hlocks hQ hE dX8_canTake_20
theorem kd_X8_tradeRoom : yX8_tradeRoom.cls = RX8 ∧ yX8_tradeRoom.cls ≠ "java/lang/invoke/MethodHandle" ∧ yX8_tradeRoom.cls ≠ "java/lang/invoke/VarHandle" ∧ (parseMethodDescriptor yX8_tradeRoom.desc).map (fun d => d.parameters.length) = some 3 := by decide +kernel
def f_X8_tradeRoom_j30 (I : Nat → Int32) (A : Nat → Nat → Int32)  (y1 : Int32) (y2 : Int32) (y3 : Int32) (s0 : Int32) : Option (Int32 × (Nat → Int32)) :=
  qf_bd2 (f_X8_fails I s0) fun r4 I5 =>
  if r4 = 0 then (if y1 = y2 then (some ((0 : Int32), I5)) else (qf_bd (f_X8_canGive A y1 y3) fun r6 =>
      qf_bd (f_X8_canTake A y2) fun r7 =>
      qf_bd (f_X8_lesser r6 r7) fun r8 =>
      some (r8, I5))) else (some ((0 : Int32), I5))
def f_X8_tradeRoom_j29 (I : Nat → Int32) (A : Nat → Nat → Int32)  (y1 : Int32) (y2 : Int32) (y3 : Int32) : Option (Int32 × (Nat → Int32)) :=
  f_X8_tradeRoom_j30 I A y1 y2 y3 (0 : Int32)
def f_X8_tradeRoom (A : Nat → Nat → Int32) (I : Nat → Int32) (p1 : Int32) (p2 : Int32) (p3 : Int32) : Option (Int32 × (Nat → Int32)) :=
  qf_bd (f_X8_isHouse A p1) fun r1 =>
  if r1 = 0 then (f_X8_tradeRoom_j29 I A p1 p2 p3) else (qf_bd (f_X8_isHouse A p2) fun r2 =>
    if r2 = 0 then (f_X8_tradeRoom_j29 I A p1 p2 p3) else (qf_bd (f_X8_isGroup A p3) fun r3 =>
      if r3 = 0 then (f_X8_tradeRoom_j29 I A p1 p2 p3) else (f_X8_tradeRoom_j30 I A p1 p2 p3 (1 : Int32))))
abbrev wz_X8_tradeRoom : List Cond := Cond.code yX8_tradeRoom cX8_tradeRoom 4 (some .int) :: qw_big
def rm_X8_tradeRoom : Room := { frames := 3, cells := 0, slots := 0, locals := 67 }
set_option maxHeartbeats 4000000 in
set_option maxRecDepth 100000 in
theorem c_X8_tradeRoom (l : Launch) {D : va_G} {cy : Nat → ClassId} {ad : Nat → Nat} {I : Nat → Int32} {A : Nat → Nat → Int32} {w : Int64} {p1 : Int32} {p2 : Int32} {p3 : Int32} {rv : Int32} {I9 : Nat → Int32} {sz : Nat} (hf : f_X8_tradeRoom A I p1 p2 p3 = some (rv, I9)) : Met l yX8_tradeRoom wz_X8_tradeRoom rm_X8_tradeRoom (va_Pc [.ref (ad 0), .int p1, .int p2, .int p3] (qw_Pre D cy (Wm cy ad I A w) sz)) (qw_Q (some (.int rv)) D (Wm cy ad I9 A w) (va_A (Wm cy ad I A w) sz)) 0 0 (va_A (Wm cy ad I A w) sz) := by
  refine qw_of (cc := cX8_tradeRoom) (maxL := 4) (ret := (some .int)) (by decide) (Nat.le_of_ble_eq_true rfl) ?_
  intro p e s m args below meth c ls S0 hr hlocks hsz V hl
  have S0 : CallFix p m c cX8_tradeRoom 4 s args qw_big RX8 := S0
  have hx := S0.1; have hb := S0.2.1; have hown := S0.2.2.2.1; have hts := S0.2.2.2.2
  have hl : lv_has ls 4 [(0, .ref (ad 0)), (1, .int p1), (2, .int p2), (3, .int p3)] := hl
  generalize va_A (Wm cy ad I A w) sz = Z9 at V ⊢
  obtain ⟨Q9, hQ⟩ : ∃ q, q = MQ below (qw_Q (some (.int rv)) D (Wm cy ad I9 A w) Z9) args s 0 0 Z9 := ⟨_, rfl⟩
  rw [← hQ]
  clear hsz
  have J_30 : ∀   {y1 : Int32} {y2 : Int32} {y3 : Int32} {s0 : Int32} {H : Heap} {locs : List Loc} {ls : Array Slot}, f_X8_tradeRoom_j30 I A y1 y2 y3 s0 = some (rv, I9) → qw_V D cy Z9 s (Wm cy ad I A w) H locs → lv_has ls 4 [(0, .ref (ad 0)), (1, .int y1), (2, .int y2), (3, .int y3)] → W p l e rm_X8_tradeRoom s m args below meth c H locs 0 0 Q9 (F0 m 30 ls [.int s0, .ref (ad 0)]) := by
    intro y1 y2 y3 s0 H locs ls hf V hl
    unfold f_X8_tradeRoom_j30 at hf
    obtain ⟨r4, I5, hc_30, hf⟩ := qf_bd2_e hf
    refine qw_cV (rest := []) (st1 := [.int r4]) S0 V hl 0 gM_0 rfl (c_X8_fails l hc_30) kg_X8_201 rfl ⟨rfl, rfl⟩ kd_X8_fails ⟨Nat.le_of_ble_eq_true rfl, Nat.le_of_ble_eq_true rfl⟩ rfl rfl (Nat.le_of_ble_eq_true rfl) ⟨Nat.zero_le _, Nat.zero_le _⟩ rfl dX8_tradeRoom_30 (fun H locs V => ?_)
    refine lv_if_eq (tgt := 38) hx hb dX8_tradeRoom_33 (by decide) (fun c_33 => ?_) (fun c_33 => ?_)
    · replace hf := qf_t c_33 hf
      refine lv_iload_n hx hb dX8_tradeRoom_38 rfl (lv_at hl 1 rfl) ?_
      refine lv_iload_n hx hb dX8_tradeRoom_39 rfl (lv_at hl 2 rfl) ?_
      refine lv_icmp_ne (tgt := 47) hx hb dX8_tradeRoom_40 (by decide) (fun c_40 => ?_) (fun c_40 => ?_)
      · replace hf := qf_f c_40 hf
        refine lv_aload_n hx hb dX8_tradeRoom_47 rfl (lv_at hl 0 rfl) ?_
        refine lv_iload_n hx hb dX8_tradeRoom_48 rfl (lv_at hl 1 rfl) ?_
        refine lv_iload_n hx hb dX8_tradeRoom_49 rfl (lv_at hl 3 rfl) ?_
        obtain ⟨r6, hc_50, hf⟩ := qf_bd_e hf
        refine qw_cVR (rest := []) (st1 := [.int r6]) S0 V hl 0 gM_0 rfl (c_X8_canGive l hc_50) kg_X8_244 rfl ⟨rfl, rfl⟩ kd_X8_canGive ⟨Nat.le_of_ble_eq_true rfl, Nat.le_of_ble_eq_true rfl⟩ rfl rfl (Nat.le_of_ble_eq_true rfl) ⟨Nat.zero_le _, Nat.zero_le _⟩ rfl dX8_tradeRoom_50 ?_
        refine lv_aload_n hx hb dX8_tradeRoom_53 rfl (lv_at hl 0 rfl) ?_
        refine lv_iload_n hx hb dX8_tradeRoom_54 rfl (lv_at hl 2 rfl) ?_
        obtain ⟨r7, hc_55, hf⟩ := qf_bd_e hf
        refine qw_cVR (rest := [.int r6]) (st1 := [.int r7, .int r6]) S0 V hl 0 gM_0 rfl (c_X8_canTake l hc_55) kg_X8_247 rfl ⟨rfl, rfl⟩ kd_X8_canTake ⟨Nat.le_of_ble_eq_true rfl, Nat.le_of_ble_eq_true rfl⟩ rfl rfl (Nat.le_of_ble_eq_true rfl) ⟨Nat.zero_le _, Nat.zero_le _⟩ rfl dX8_tradeRoom_55 ?_
        obtain ⟨r8, hc_58, hf⟩ := qf_bd_e hf
        refine qw_cSR (rest := []) (st1 := [.int r8]) S0 V hl (c_X8_lesser l hc_58) kg_X8_241 rfl ⟨rfl, rfl⟩ kd_X8_lesser ⟨Nat.le_of_ble_eq_true rfl, Nat.le_of_ble_eq_true rfl⟩ rfl rfl (Nat.le_of_ble_eq_true rfl) ⟨Nat.zero_le _, Nat.zero_le _⟩ rfl dX8_tradeRoom_58 ?_
        have hE := Option.some.inj hf
        obtain ⟨e0, hE⟩ := qf_pr hE
        exact qw_ireti S0 hr hlocks hQ e0 (by rw [hE]) V dX8_tradeRoom_61
      · replace hf := qf_t c_40 hf
        refine lv_iconst (v := 0) hx hb dX8_tradeRoom_43 (by decide) ?_
        refine lv_goto (tgt := 61) hx hb dX8_tradeRoom_44 (by decide) ?_
        have hE := Option.some.inj hf
        obtain ⟨e0, hE⟩ := qf_pr hE
        exact qw_ireti S0 hr hlocks hQ e0 (by rw [hE]) V dX8_tradeRoom_61
    · replace hf := qf_f c_33 hf
      refine lv_iconst (v := 0) hx hb dX8_tradeRoom_36 (by decide) ?_
      have hE := Option.some.inj hf
      obtain ⟨e0, hE⟩ := qf_pr hE
      exact qw_ireti S0 hr hlocks hQ e0 (by rw [hE]) V dX8_tradeRoom_37
  have J_29 : ∀   {y1 : Int32} {y2 : Int32} {y3 : Int32} {H : Heap} {locs : List Loc} {ls : Array Slot}, f_X8_tradeRoom_j29 I A y1 y2 y3 = some (rv, I9) → qw_V D cy Z9 s (Wm cy ad I A w) H locs → lv_has ls 4 [(0, .ref (ad 0)), (1, .int y1), (2, .int y2), (3, .int y3)] → W p l e rm_X8_tradeRoom s m args below meth c H locs 0 0 Q9 (F0 m 29 ls [.ref (ad 0)]) := by
    intro y1 y2 y3 H locs ls hf V hl
    unfold f_X8_tradeRoom_j29 at hf
    refine lv_iconst (v := 0) hx hb dX8_tradeRoom_29 (by decide) ?_
    exact J_30 hf V (lv_sub hl [0, 1, 2, 3] rfl)
  unfold f_X8_tradeRoom at hf
  refine lv_aload_n hx hb dX8_tradeRoom_0 rfl (lv_at hl 0 rfl) ?_
  refine lv_aload_n hx hb dX8_tradeRoom_1 rfl (lv_at hl 0 rfl) ?_
  refine lv_iload_n hx hb dX8_tradeRoom_2 rfl (lv_at hl 1 rfl) ?_
  obtain ⟨r1, hc_3, hf⟩ := qf_bd_e hf
  refine qw_cVR (rest := [.ref (ad 0)]) (st1 := [.int r1, .ref (ad 0)]) S0 V hl 0 gM_0 rfl (c_X8_isHouse l hc_3) kg_X8_208 rfl ⟨rfl, rfl⟩ kd_X8_isHouse ⟨Nat.le_of_ble_eq_true rfl, Nat.le_of_ble_eq_true rfl⟩ rfl rfl (Nat.le_of_ble_eq_true rfl) ⟨Nat.zero_le _, Nat.zero_le _⟩ rfl dX8_tradeRoom_3 ?_
  refine lv_if_eq (tgt := 29) hx hb dX8_tradeRoom_6 (by decide) (fun c_6 => ?_) (fun c_6 => ?_)
  · replace hf := qf_t c_6 hf
    exact J_29 hf V (lv_sub hl [0, 1, 2, 3] rfl)
  · replace hf := qf_f c_6 hf
    refine lv_aload_n hx hb dX8_tradeRoom_9 rfl (lv_at hl 0 rfl) ?_
    refine lv_iload_n hx hb dX8_tradeRoom_10 rfl (lv_at hl 2 rfl) ?_
    obtain ⟨r2, hc_11, hf⟩ := qf_bd_e hf
    refine qw_cVR (rest := [.ref (ad 0)]) (st1 := [.int r2, .ref (ad 0)]) S0 V hl 0 gM_0 rfl (c_X8_isHouse l hc_11) kg_X8_208 rfl ⟨rfl, rfl⟩ kd_X8_isHouse ⟨Nat.le_of_ble_eq_true rfl, Nat.le_of_ble_eq_true rfl⟩ rfl rfl (Nat.le_of_ble_eq_true rfl) ⟨Nat.zero_le _, Nat.zero_le _⟩ rfl dX8_tradeRoom_11 ?_
    refine lv_if_eq (tgt := 29) hx hb dX8_tradeRoom_14 (by decide) (fun c_14 => ?_) (fun c_14 => ?_)
    · replace hf := qf_t c_14 hf
      exact J_29 hf V (lv_sub hl [0, 1, 2, 3] rfl)
    · replace hf := qf_f c_14 hf
      refine lv_aload_n hx hb dX8_tradeRoom_17 rfl (lv_at hl 0 rfl) ?_
      refine lv_iload_n hx hb dX8_tradeRoom_18 rfl (lv_at hl 3 rfl) ?_
      obtain ⟨r3, hc_19, hf⟩ := qf_bd_e hf
      refine qw_cVR (rest := [.ref (ad 0)]) (st1 := [.int r3, .ref (ad 0)]) S0 V hl 0 gM_0 rfl (c_X8_isGroup l hc_19) kg_X8_197 rfl ⟨rfl, rfl⟩ kd_X8_isGroup ⟨Nat.le_of_ble_eq_true rfl, Nat.le_of_ble_eq_true rfl⟩ rfl rfl (Nat.le_of_ble_eq_true rfl) ⟨Nat.zero_le _, Nat.zero_le _⟩ rfl dX8_tradeRoom_19 ?_
      refine lv_if_eq (tgt := 29) hx hb dX8_tradeRoom_22 (by decide) (fun c_22 => ?_) (fun c_22 => ?_)
      · replace hf := qf_t c_22 hf
        exact J_29 hf V (lv_sub hl [0, 1, 2, 3] rfl)
      · replace hf := qf_f c_22 hf
        refine lv_iconst (v := 1) hx hb dX8_tradeRoom_25 (by decide) ?_
        refine lv_goto (tgt := 30) hx hb dX8_tradeRoom_26 (by decide) ?_
        exact J_30 hf V (lv_sub hl [0, 1, 2, 3] rfl)
theorem kd_X8_helpers : yX8_helpers.cls = RX8 ∧ yX8_helpers.cls ≠ "java/lang/invoke/MethodHandle" ∧ yX8_helpers.cls ≠ "java/lang/invoke/VarHandle" ∧ (parseMethodDescriptor yX8_helpers.desc).map (fun d => d.parameters.length) = some 3 := by decide +kernel
def f_X8_helpers_j137 (A : Nat → Nat → Int32) (K79 : (Nat → Int32) → Int32 → Int32 → Int32 → Option (Int32 × (Nat → Int32))) (K90 : (Nat → Int32) → Int32 → Int32 → Option (Int32 × (Nat → Int32))) (I : Nat → Int32) (y2 : Int32) (y4 : Int32) (y5 : Int32) (y6 : Int32) (y7 : Int32) (y8 : Int32) : Option (Int32 × (Nat → Int32)) :=
  qf_let (y8 + (1 : Int32)) fun x18 =>
  K90 I y7 x18
def f_X8_helpers_j133 (A : Nat → Nat → Int32) (K79 : (Nat → Int32) → Int32 → Int32 → Int32 → Option (Int32 × (Nat → Int32))) (K90 : (Nat → Int32) → Int32 → Int32 → Option (Int32 × (Nat → Int32))) (I : Nat → Int32) (y2 : Int32) (y4 : Int32) (y5 : Int32) (y6 : Int32) (y8 : Int32) : Option (Int32 × (Nat → Int32)) :=
  f_X8_helpers_j137 A K79 K90 I y2 y4 y5 y6 y8 y8
def f_X8_helpers_l90 (A : Nat → Nat → Int32) (K79 : (Nat → Int32) → Int32 → Int32 → Int32 → Option (Int32 × (Nat → Int32))) (y2 : Int32) (y4 : Int32) (y5 : Int32) (y6 : Int32) : Nat → (Nat → Int32) → Int32 → Int32 → Option (Int32 × (Nat → Int32))
  | 0, _, _, _ => none
  | n + 1, I, y7, y8 =>
  qf_ld 62 (A 3) (2 : Int32) fun x10 =>
  if x10 ≤ y8 then (if y7 < 0 then (some ((-1 : Int32), I)) else (qf_bd (f_X8_canGive A y7 y2) fun r11 =>
      if r11 = 0 then (some ((-1 : Int32), I)) else (qf_let ((y5 ||| ((1 : Int32) <<< (y7 &&& 31)))) fun x12 =>
        qf_bd (f_X8_canGive A y7 y2) fun r13 =>
        qf_let ((y4 - r13)) fun x14 =>
        qf_let (y6 + (1 : Int32)) fun x15 =>
        K79 I x14 x12 x15))) else (if ((y5 >>> (y8 &&& 31)) &&& (1 : Int32)) = 0 then (if y7 < 0 then (f_X8_helpers_j133 A K79 (fun z0 z1 z2 => f_X8_helpers_l90 A K79 y2 y4 y5 y6 n z0 z1 z2) I y2 y4 y5 y6 y8) else (qf_bd (f_X8_canGive A y8 y2) fun r16 =>
        qf_bd (f_X8_canGive A y7 y2) fun r17 =>
        if r16 ≤ r17 then (f_X8_helpers_j137 A K79 (fun z0 z1 z2 => f_X8_helpers_l90 A K79 y2 y4 y5 y6 n z0 z1 z2) I y2 y4 y5 y6 y7 y8) else (f_X8_helpers_j133 A K79 (fun z0 z1 z2 => f_X8_helpers_l90 A K79 y2 y4 y5 y6 n z0 z1 z2) I y2 y4 y5 y6 y8))) else (f_X8_helpers_j137 A K79 (fun z0 z1 z2 => f_X8_helpers_l90 A K79 y2 y4 y5 y6 n z0 z1 z2) I y2 y4 y5 y6 y7 y8))
def f_X8_helpers_l79 (A : Nat → Nat → Int32)  (y2 : Int32) : Nat → (Nat → Int32) → Int32 → Int32 → Int32 → Option (Int32 × (Nat → Int32))
  | 0, _, _, _, _ => none
  | n + 1, I, y4, y5, y6 =>
  if y4 ≤ 0 then (some (y6, I)) else (f_X8_helpers_l90 A (fun z0 z1 z2 z3 => f_X8_helpers_l79 A y2 n z0 z1 z2 z3) y2 y4 y5 y6 100000 I (-1 : Int32) (0 : Int32))
def f_X8_helpers_j71 (A : Nat → Nat → Int32)  (I : Nat → Int32) (y1 : Int32) (y2 : Int32) (y4 : Int32) : Option (Int32 × (Nat → Int32)) :=
  qf_let (((1 : Int32) <<< (y1 &&& 31))) fun x9 =>
  f_X8_helpers_l79 A y2 100000 I y4 x9 (0 : Int32)
def f_X8_helpers_j22 (I : Nat → Int32) (A : Nat → Nat → Int32)  (y1 : Int32) (y2 : Int32) (y3 : Int32) (s0 : Int32) : Option (Int32 × (Nat → Int32)) :=
  qf_bd2 (f_X8_fails I s0) fun r3 I4 =>
  if r3 = 0 then (qf_bd (f_X8_inRange y3 (0 : Int32) (9999 : Int32)) fun r5 =>
    if r5 = 0 then (some ((-2 : Int32), I4)) else (qf_bd (f_X8_couponsOf A y1 y2) fun r6 =>
      qf_let ((y3 - r6)) fun x7 =>
      if x7 ≤ 0 then (f_X8_helpers_j71 A I4 y1 y2 x7) else (qf_bd (f_X8_canTake A y1) fun r8 =>
        if x7 ≤ r8 then (f_X8_helpers_j71 A I4 y1 y2 x7) else (some ((-1 : Int32), I4))))) else (some ((0 : Int32), I4))
def f_X8_helpers_j21 (I : Nat → Int32) (A : Nat → Nat → Int32)  (y1 : Int32) (y2 : Int32) (y3 : Int32) : Option (Int32 × (Nat → Int32)) :=
  f_X8_helpers_j22 I A y1 y2 y3 (0 : Int32)
def f_X8_helpers (A : Nat → Nat → Int32) (I : Nat → Int32) (p1 : Int32) (p2 : Int32) (p3 : Int32) : Option (Int32 × (Nat → Int32)) :=
  qf_bd (f_X8_isHouse A p1) fun r1 =>
  if r1 = 0 then (f_X8_helpers_j21 I A p1 p2 p3) else (qf_bd (f_X8_isGroup A p2) fun r2 =>
    if r2 = 0 then (f_X8_helpers_j21 I A p1 p2 p3) else (f_X8_helpers_j22 I A p1 p2 p3 (1 : Int32)))
abbrev wz_X8_helpers : List Cond := Cond.code yX8_helpers cX8_helpers 9 (some .int) :: qw_big
def rm_X8_helpers : Room := { frames := 3, cells := 0, slots := 0, locals := 67 }
set_option maxHeartbeats 4000000 in
set_option maxRecDepth 100000 in
theorem c_X8_helpers (l : Launch) {D : va_G} {cy : Nat → ClassId} {ad : Nat → Nat} {I : Nat → Int32} {A : Nat → Nat → Int32} {w : Int64} {p1 : Int32} {p2 : Int32} {p3 : Int32} {rv : Int32} {I9 : Nat → Int32} {sz : Nat} (hf : f_X8_helpers A I p1 p2 p3 = some (rv, I9)) : Met l yX8_helpers wz_X8_helpers rm_X8_helpers (va_Pc [.ref (ad 0), .int p1, .int p2, .int p3] (qw_Pre D cy (Wm cy ad I A w) sz)) (qw_Q (some (.int rv)) D (Wm cy ad I9 A w) (va_A (Wm cy ad I A w) sz)) 0 0 (va_A (Wm cy ad I A w) sz) := by
  refine qw_of (cc := cX8_helpers) (maxL := 9) (ret := (some .int)) (by decide) (Nat.le_of_ble_eq_true rfl) ?_
  intro p e s m args below meth c ls S0 hr hlocks hsz V hl
  have S0 : CallFix p m c cX8_helpers 9 s args qw_big RX8 := S0
  have hx := S0.1; have hb := S0.2.1; have hown := S0.2.2.2.1; have hts := S0.2.2.2.2
  have hl : lv_has ls 9 [(0, .ref (ad 0)), (1, .int p1), (2, .int p2), (3, .int p3)] := hl
  generalize va_A (Wm cy ad I A w) sz = Z9 at V ⊢
  obtain ⟨Q9, hQ⟩ : ∃ q, q = MQ below (qw_Q (some (.int rv)) D (Wm cy ad I9 A w) Z9) args s 0 0 Z9 := ⟨_, rfl⟩
  rw [← hQ]
  clear hsz
  have J_137 : ∀ {K79 : (Nat → Int32) → Int32 → Int32 → Int32 → Option (Int32 × (Nat → Int32))} {K90 : (Nat → Int32) → Int32 → Int32 → Option (Int32 × (Nat → Int32))} {y2 : Int32} {y4 : Int32} {y5 : Int32} {y6 : Int32}  (hK79 : ∀ {I : Nat → Int32} {y4 : Int32} {y5 : Int32} {y6 : Int32} {H : Heap} {locs : List Loc} {ls : Array Slot}, K79 I y4 y5 y6 = some (rv, I9) → qw_V D cy Z9 s (Wm cy ad I A w) H locs → lv_has ls 9 [(0, .ref (ad 0)), (2, .int y2), (4, .int y4), (5, .int y5), (6, .int y6)] → W p l e rm_X8_helpers s m args below meth c H locs 0 0 Q9 (F0 m 79 ls [])) (hK90 : ∀ {I : Nat → Int32} {y7 : Int32} {y8 : Int32} {H : Heap} {locs : List Loc} {ls : Array Slot}, K90 I y7 y8 = some (rv, I9) → qw_V D cy Z9 s (Wm cy ad I A w) H locs → lv_has ls 9 [(0, .ref (ad 0)), (2, .int y2), (4, .int y4), (5, .int y5), (6, .int y6), (7, .int y7), (8, .int y8)] → W p l e rm_X8_helpers s m args below meth c H locs 0 0 Q9 (F0 m 90 ls [])) {I : Nat → Int32} {y7 : Int32} {y8 : Int32} {H : Heap} {locs : List Loc} {ls : Array Slot}, f_X8_helpers_j137 A K79 K90 I y2 y4 y5 y6 y7 y8 = some (rv, I9) → qw_V D cy Z9 s (Wm cy ad I A w) H locs → lv_has ls 9 [(0, .ref (ad 0)), (2, .int y2), (4, .int y4), (5, .int y5), (6, .int y6), (7, .int y7), (8, .int y8)] → W p l e rm_X8_helpers s m args below meth c H locs 0 0 Q9 (F0 m 137 ls []) := by
    intro K79 K90 y2 y4 y5 y6 hK79 hK90 I y7 y8 H locs ls hf V hl
    unfold f_X8_helpers_j137 at hf
    obtain ⟨x18, e_x18⟩ : ∃ y : Int32, y = y8 + (1 : Int32) := ⟨_, rfl⟩
    refine lv_iinc (v := x18) (lv' := [(8, .int x18), (0, .ref (ad 0)), (2, .int y2), (4, .int y4), (5, .int y5), (6, .int y6), (7, .int y7)]) hx hb dX8_helpers_137 hl (k := 6) rfl (by rw [e_x18]; rfl) (by decide) rfl (fun ls hl => ?_)
    replace hf := qf_let_e e_x18 hf
    refine lv_goto (tgt := 90) hx hb dX8_helpers_140 (by decide) ?_
    exact hK90 hf V (lv_sub hl [1, 2, 3, 4, 5, 6, 0] rfl)
  have J_133 : ∀ {K79 : (Nat → Int32) → Int32 → Int32 → Int32 → Option (Int32 × (Nat → Int32))} {K90 : (Nat → Int32) → Int32 → Int32 → Option (Int32 × (Nat → Int32))} {y2 : Int32} {y4 : Int32} {y5 : Int32} {y6 : Int32}  (hK79 : ∀ {I : Nat → Int32} {y4 : Int32} {y5 : Int32} {y6 : Int32} {H : Heap} {locs : List Loc} {ls : Array Slot}, K79 I y4 y5 y6 = some (rv, I9) → qw_V D cy Z9 s (Wm cy ad I A w) H locs → lv_has ls 9 [(0, .ref (ad 0)), (2, .int y2), (4, .int y4), (5, .int y5), (6, .int y6)] → W p l e rm_X8_helpers s m args below meth c H locs 0 0 Q9 (F0 m 79 ls [])) (hK90 : ∀ {I : Nat → Int32} {y7 : Int32} {y8 : Int32} {H : Heap} {locs : List Loc} {ls : Array Slot}, K90 I y7 y8 = some (rv, I9) → qw_V D cy Z9 s (Wm cy ad I A w) H locs → lv_has ls 9 [(0, .ref (ad 0)), (2, .int y2), (4, .int y4), (5, .int y5), (6, .int y6), (7, .int y7), (8, .int y8)] → W p l e rm_X8_helpers s m args below meth c H locs 0 0 Q9 (F0 m 90 ls [])) {I : Nat → Int32} {y8 : Int32} {H : Heap} {locs : List Loc} {ls : Array Slot}, f_X8_helpers_j133 A K79 K90 I y2 y4 y5 y6 y8 = some (rv, I9) → qw_V D cy Z9 s (Wm cy ad I A w) H locs → lv_has ls 9 [(0, .ref (ad 0)), (2, .int y2), (4, .int y4), (5, .int y5), (6, .int y6), (8, .int y8)] → W p l e rm_X8_helpers s m args below meth c H locs 0 0 Q9 (F0 m 133 ls []) := by
    intro K79 K90 y2 y4 y5 y6 hK79 hK90 I y8 H locs ls hf V hl
    unfold f_X8_helpers_j133 at hf
    refine lv_iload hx hb dX8_helpers_133 (lv_at hl 5 rfl) ?_
    refine lv_istore (lv' := [(7, .int y8), (0, .ref (ad 0)), (2, .int y2), (4, .int y4), (5, .int y5), (6, .int y6), (8, .int y8)]) hx hb dX8_helpers_135 hl (by decide) rfl (fun ls hl => ?_)
    exact J_137 hK79 hK90 hf V (lv_sub hl [1, 2, 3, 4, 5, 0, 6] rfl)
  have L_90 : ∀ {K79 : (Nat → Int32) → Int32 → Int32 → Int32 → Option (Int32 × (Nat → Int32))} {y2 : Int32}  (hK79 : ∀ {I : Nat → Int32} {y4 : Int32} {y5 : Int32} {y6 : Int32} {H : Heap} {locs : List Loc} {ls : Array Slot}, K79 I y4 y5 y6 = some (rv, I9) → qw_V D cy Z9 s (Wm cy ad I A w) H locs → lv_has ls 9 [(0, .ref (ad 0)), (2, .int y2), (4, .int y4), (5, .int y5), (6, .int y6)] → W p l e rm_X8_helpers s m args below meth c H locs 0 0 Q9 (F0 m 79 ls [])) {y4 : Int32} {y5 : Int32} {y6 : Int32} {n : Nat} {I : Nat → Int32} {y7 : Int32} {y8 : Int32} {H : Heap} {locs : List Loc} {ls : Array Slot}, f_X8_helpers_l90 A K79 y2 y4 y5 y6 n I y7 y8 = some (rv, I9) → qw_V D cy Z9 s (Wm cy ad I A w) H locs → lv_has ls 9 [(0, .ref (ad 0)), (2, .int y2), (4, .int y4), (5, .int y5), (6, .int y6), (7, .int y7), (8, .int y8)] → W p l e rm_X8_helpers s m args below meth c H locs 0 0 Q9 (F0 m 90 ls []) := by
    intro K79 y2 hK79 y4 y5 y6 n
    induction n with
    | zero => intro I y7 y8 H locs ls hf V hl; exact qf_no hf
    | succ n ih =>
      intro I y7 y8 H locs ls hf V hl
      rw [f_X8_helpers_l90] at hf
      refine lv_iload hx hb dX8_helpers_90 (lv_at hl 6 rfl) ?_
      refine lv_aload_n hx hb dX8_helpers_92 rfl (lv_at hl 0 rfl) ?_
      refine gfM_0_5 S0 V kl_X8_19 dX8_helpers_93 ?_
      refine lv_iconst (v := 2) hx hb dX8_helpers_96 (by decide) ?_
      have h_97 := qf_ld_in hf
      refine alM_4 S0 V h_97 dX8_helpers_97 ?_
      refine lv_topi (fun x10 e_x10 => ?_)
      replace hf := qf_ld_e e_x10 hf
      refine lv_icmp_ge (tgt := 143) hx hb dX8_helpers_98 (by decide) (fun c_98 => ?_) (fun c_98 => ?_)
      · replace hf := qf_t c_98 hf
        refine lv_iload hx hb dX8_helpers_143 (lv_at hl 5 rfl) ?_
        refine lv_if_lt (tgt := 158) hx hb dX8_helpers_145 (by decide) (fun c_145 => ?_) (fun c_145 => ?_)
        · replace hf := qf_t c_145 hf
          refine lv_iconst (v := -1) hx hb dX8_helpers_158 (by decide) ?_
          have hE := Option.some.inj hf
          obtain ⟨e0, hE⟩ := qf_pr hE
          exact qw_ireti S0 hr hlocks hQ e0 (by rw [hE]) V dX8_helpers_159
        · replace hf := qf_f c_145 hf
          refine lv_aload_n hx hb dX8_helpers_148 rfl (lv_at hl 0 rfl) ?_
          refine lv_iload hx hb dX8_helpers_149 (lv_at hl 5 rfl) ?_
          refine lv_iload_n hx hb dX8_helpers_151 rfl (lv_at hl 1 rfl) ?_
          obtain ⟨r11, hc_152, hf⟩ := qf_bd_e hf
          refine qw_cVR (rest := []) (st1 := [.int r11]) S0 V hl 0 gM_0 rfl (c_X8_canGive l hc_152) kg_X8_244 rfl ⟨rfl, rfl⟩ kd_X8_canGive ⟨Nat.le_of_ble_eq_true rfl, Nat.le_of_ble_eq_true rfl⟩ rfl rfl (Nat.le_of_ble_eq_true rfl) ⟨Nat.zero_le _, Nat.zero_le _⟩ rfl dX8_helpers_152 ?_
          refine lv_if_ne (tgt := 160) hx hb dX8_helpers_155 (by decide) (fun c_155 => ?_) (fun c_155 => ?_)
          · replace hf := qf_f c_155 hf
            refine lv_iload hx hb dX8_helpers_160 (lv_at hl 3 rfl) ?_
            refine lv_iconst (v := 1) hx hb dX8_helpers_162 (by decide) ?_
            refine lv_iload hx hb dX8_helpers_163 (lv_at hl 5 rfl) ?_
            refine lv_ishl hx hb dX8_helpers_165 ?_
            refine lv_ior hx hb dX8_helpers_166 ?_
            refine lv_topi (fun x12 e_x12 => ?_)
            replace hf := qf_let_e e_x12 hf
            refine lv_istore (lv' := [(5, .int x12), (0, .ref (ad 0)), (2, .int y2), (4, .int y4), (6, .int y6), (7, .int y7), (8, .int y8)]) hx hb dX8_helpers_167 hl (by decide) rfl (fun ls hl => ?_)
            refine lv_iload hx hb dX8_helpers_169 (lv_at hl 3 rfl) ?_
            refine lv_aload_n hx hb dX8_helpers_171 rfl (lv_at hl 1 rfl) ?_
            refine lv_iload hx hb dX8_helpers_172 (lv_at hl 5 rfl) ?_
            refine lv_iload_n hx hb dX8_helpers_174 rfl (lv_at hl 2 rfl) ?_
            obtain ⟨r13, hc_175, hf⟩ := qf_bd_e hf
            refine qw_cVR (rest := [.int y4]) (st1 := [.int r13, .int y4]) S0 V hl 0 gM_0 rfl (c_X8_canGive l hc_175) kg_X8_244 rfl ⟨rfl, rfl⟩ kd_X8_canGive ⟨Nat.le_of_ble_eq_true rfl, Nat.le_of_ble_eq_true rfl⟩ rfl rfl (Nat.le_of_ble_eq_true rfl) ⟨Nat.zero_le _, Nat.zero_le _⟩ rfl dX8_helpers_175 ?_
            refine lv_isub hx hb dX8_helpers_178 ?_
            refine lv_topi (fun x14 e_x14 => ?_)
            replace hf := qf_let_e e_x14 hf
            refine lv_istore (lv' := [(4, .int x14), (5, .int x12), (0, .ref (ad 0)), (2, .int y2), (6, .int y6), (7, .int y7), (8, .int y8)]) hx hb dX8_helpers_179 hl (by decide) rfl (fun ls hl => ?_)
            obtain ⟨x15, e_x15⟩ : ∃ y : Int32, y = y6 + (1 : Int32) := ⟨_, rfl⟩
            refine lv_iinc (v := x15) (lv' := [(6, .int x15), (4, .int x14), (5, .int x12), (0, .ref (ad 0)), (2, .int y2), (7, .int y7), (8, .int y8)]) hx hb dX8_helpers_181 hl (k := 4) rfl (by rw [e_x15]; rfl) (by decide) rfl (fun ls hl => ?_)
            replace hf := qf_let_e e_x15 hf
            refine lv_goto (tgt := 79) hx hb dX8_helpers_184 (by decide) ?_
            exact hK79 hf V (lv_sub hl [3, 4, 1, 2, 0] rfl)
          · replace hf := qf_t c_155 hf
            refine lv_iconst (v := -1) hx hb dX8_helpers_158 (by decide) ?_
            have hE := Option.some.inj hf
            obtain ⟨e0, hE⟩ := qf_pr hE
            exact qw_ireti S0 hr hlocks hQ e0 (by rw [hE]) V dX8_helpers_159
      · replace hf := qf_f c_98 hf
        refine lv_iload hx hb dX8_helpers_101 (lv_at hl 3 rfl) ?_
        refine lv_iload hx hb dX8_helpers_103 (lv_at hl 6 rfl) ?_
        refine lv_ishr hx hb dX8_helpers_105 ?_
        refine lv_iconst (v := 1) hx hb dX8_helpers_106 (by decide) ?_
        refine lv_iand hx hb dX8_helpers_107 ?_
        refine lv_if_ne (tgt := 137) hx hb dX8_helpers_108 (by decide) (fun c_108 => ?_) (fun c_108 => ?_)
        · replace hf := qf_f c_108 hf
          exact J_137 hK79 (fun hf V hl => ih hf V hl) hf V (lv_sub hl [0, 1, 2, 3, 4, 5, 6] rfl)
        · replace hf := qf_t c_108 hf
          refine lv_iload hx hb dX8_helpers_111 (lv_at hl 5 rfl) ?_
          refine lv_if_lt (tgt := 133) hx hb dX8_helpers_113 (by decide) (fun c_113 => ?_) (fun c_113 => ?_)
          · replace hf := qf_t c_113 hf
            exact J_133 hK79 (fun hf V hl => ih hf V hl) hf V (lv_sub hl [0, 1, 2, 3, 4, 6] rfl)
          · replace hf := qf_f c_113 hf
            refine lv_aload_n hx hb dX8_helpers_116 rfl (lv_at hl 0 rfl) ?_
            refine lv_iload hx hb dX8_helpers_117 (lv_at hl 6 rfl) ?_
            refine lv_iload_n hx hb dX8_helpers_119 rfl (lv_at hl 1 rfl) ?_
            obtain ⟨r16, hc_120, hf⟩ := qf_bd_e hf
            refine qw_cVR (rest := []) (st1 := [.int r16]) S0 V hl 0 gM_0 rfl (c_X8_canGive l hc_120) kg_X8_244 rfl ⟨rfl, rfl⟩ kd_X8_canGive ⟨Nat.le_of_ble_eq_true rfl, Nat.le_of_ble_eq_true rfl⟩ rfl rfl (Nat.le_of_ble_eq_true rfl) ⟨Nat.zero_le _, Nat.zero_le _⟩ rfl dX8_helpers_120 ?_
            refine lv_aload_n hx hb dX8_helpers_123 rfl (lv_at hl 0 rfl) ?_
            refine lv_iload hx hb dX8_helpers_124 (lv_at hl 5 rfl) ?_
            refine lv_iload_n hx hb dX8_helpers_126 rfl (lv_at hl 1 rfl) ?_
            obtain ⟨r17, hc_127, hf⟩ := qf_bd_e hf
            refine qw_cVR (rest := [.int r16]) (st1 := [.int r17, .int r16]) S0 V hl 0 gM_0 rfl (c_X8_canGive l hc_127) kg_X8_244 rfl ⟨rfl, rfl⟩ kd_X8_canGive ⟨Nat.le_of_ble_eq_true rfl, Nat.le_of_ble_eq_true rfl⟩ rfl rfl (Nat.le_of_ble_eq_true rfl) ⟨Nat.zero_le _, Nat.zero_le _⟩ rfl dX8_helpers_127 ?_
            refine lv_icmp_le (tgt := 137) hx hb dX8_helpers_130 (by decide) (fun c_130 => ?_) (fun c_130 => ?_)
            · replace hf := qf_t c_130 hf
              exact J_137 hK79 (fun hf V hl => ih hf V hl) hf V (lv_sub hl [0, 1, 2, 3, 4, 5, 6] rfl)
            · replace hf := qf_f c_130 hf
              exact J_133 hK79 (fun hf V hl => ih hf V hl) hf V (lv_sub hl [0, 1, 2, 3, 4, 6] rfl)
  have L_79 : ∀  {y2 : Int32} {n : Nat} {I : Nat → Int32} {y4 : Int32} {y5 : Int32} {y6 : Int32} {H : Heap} {locs : List Loc} {ls : Array Slot}, f_X8_helpers_l79 A y2 n I y4 y5 y6 = some (rv, I9) → qw_V D cy Z9 s (Wm cy ad I A w) H locs → lv_has ls 9 [(0, .ref (ad 0)), (2, .int y2), (4, .int y4), (5, .int y5), (6, .int y6)] → W p l e rm_X8_helpers s m args below meth c H locs 0 0 Q9 (F0 m 79 ls []) := by
    intro y2 n
    induction n with
    | zero => intro I y4 y5 y6 H locs ls hf V hl; exact qf_no hf
    | succ n ih =>
      intro I y4 y5 y6 H locs ls hf V hl
      rw [f_X8_helpers_l79] at hf
      refine lv_iload hx hb dX8_helpers_79 (lv_at hl 2 rfl) ?_
      refine lv_if_le (tgt := 187) hx hb dX8_helpers_81 (by decide) (fun c_81 => ?_) (fun c_81 => ?_)
      · replace hf := qf_t c_81 hf
        refine lv_iload hx hb dX8_helpers_187 (lv_at hl 4 rfl) ?_
        have hE := Option.some.inj hf
        obtain ⟨e0, hE⟩ := qf_pr hE
        exact qw_ireti S0 hr hlocks hQ e0 (by rw [hE]) V dX8_helpers_189
      · replace hf := qf_f c_81 hf
        refine lv_iconst (v := -1) hx hb dX8_helpers_84 (by decide) ?_
        refine lv_istore (lv' := [(7, .int (-1 : Int32)), (0, .ref (ad 0)), (2, .int y2), (4, .int y4), (5, .int y5), (6, .int y6)]) hx hb dX8_helpers_85 hl (by decide) rfl (fun ls hl => ?_)
        refine lv_iconst (v := 0) hx hb dX8_helpers_87 (by decide) ?_
        refine lv_istore (lv' := [(8, .int (0 : Int32)), (7, .int (-1 : Int32)), (0, .ref (ad 0)), (2, .int y2), (4, .int y4), (5, .int y5), (6, .int y6)]) hx hb dX8_helpers_88 hl (by decide) rfl (fun ls hl => ?_)
        exact L_90 (fun hf V hl => ih hf V hl) hf V (lv_sub hl [2, 3, 4, 5, 6, 1, 0] rfl)
  have J_71 : ∀  {I : Nat → Int32} {y1 : Int32} {y2 : Int32} {y4 : Int32} {H : Heap} {locs : List Loc} {ls : Array Slot}, f_X8_helpers_j71 A I y1 y2 y4 = some (rv, I9) → qw_V D cy Z9 s (Wm cy ad I A w) H locs → lv_has ls 9 [(0, .ref (ad 0)), (1, .int y1), (2, .int y2), (4, .int y4)] → W p l e rm_X8_helpers s m args below meth c H locs 0 0 Q9 (F0 m 71 ls []) := by
    intro I y1 y2 y4 H locs ls hf V hl
    unfold f_X8_helpers_j71 at hf
    refine lv_iconst (v := 1) hx hb dX8_helpers_71 (by decide) ?_
    refine lv_iload_n hx hb dX8_helpers_72 rfl (lv_at hl 1 rfl) ?_
    refine lv_ishl hx hb dX8_helpers_73 ?_
    refine lv_topi (fun x9 e_x9 => ?_)
    replace hf := qf_let_e e_x9 hf
    refine lv_istore (lv' := [(5, .int x9), (0, .ref (ad 0)), (1, .int y1), (2, .int y2), (4, .int y4)]) hx hb dX8_helpers_74 hl (by decide) rfl (fun ls hl => ?_)
    refine lv_iconst (v := 0) hx hb dX8_helpers_76 (by decide) ?_
    refine lv_istore (lv' := [(6, .int (0 : Int32)), (5, .int x9), (0, .ref (ad 0)), (1, .int y1), (2, .int y2), (4, .int y4)]) hx hb dX8_helpers_77 hl (by decide) rfl (fun ls hl => ?_)
    exact L_79 hf V (lv_sub hl [2, 4, 5, 1, 0] rfl)
  have J_22 : ∀   {y1 : Int32} {y2 : Int32} {y3 : Int32} {s0 : Int32} {H : Heap} {locs : List Loc} {ls : Array Slot}, f_X8_helpers_j22 I A y1 y2 y3 s0 = some (rv, I9) → qw_V D cy Z9 s (Wm cy ad I A w) H locs → lv_has ls 9 [(0, .ref (ad 0)), (1, .int y1), (2, .int y2), (3, .int y3)] → W p l e rm_X8_helpers s m args below meth c H locs 0 0 Q9 (F0 m 22 ls [.int s0, .ref (ad 0)]) := by
    intro y1 y2 y3 s0 H locs ls hf V hl
    unfold f_X8_helpers_j22 at hf
    obtain ⟨r3, I4, hc_22, hf⟩ := qf_bd2_e hf
    refine qw_cV (rest := []) (st1 := [.int r3]) S0 V hl 0 gM_0 rfl (c_X8_fails l hc_22) kg_X8_201 rfl ⟨rfl, rfl⟩ kd_X8_fails ⟨Nat.le_of_ble_eq_true rfl, Nat.le_of_ble_eq_true rfl⟩ rfl rfl (Nat.le_of_ble_eq_true rfl) ⟨Nat.zero_le _, Nat.zero_le _⟩ rfl dX8_helpers_22 (fun H locs V => ?_)
    refine lv_if_eq (tgt := 30) hx hb dX8_helpers_25 (by decide) (fun c_25 => ?_) (fun c_25 => ?_)
    · replace hf := qf_t c_25 hf
      refine lv_iload_n hx hb dX8_helpers_30 rfl (lv_at hl 3 rfl) ?_
      refine lv_iconst (v := 0) hx hb dX8_helpers_31 (by decide) ?_
      refine lv_sipush (v := 9999) hx hb dX8_helpers_32 (by decide) ?_
      obtain ⟨r5, hc_35, hf⟩ := qf_bd_e hf
      refine qw_cSR (rest := []) (st1 := [.int r5]) S0 V hl (c_X8_inRange l hc_35) kg_X8_85 rfl ⟨rfl, rfl⟩ kd_X8_inRange ⟨Nat.le_of_ble_eq_true rfl, Nat.le_of_ble_eq_true rfl⟩ rfl rfl (Nat.le_of_ble_eq_true rfl) ⟨Nat.zero_le _, Nat.zero_le _⟩ rfl dX8_helpers_35 ?_
      refine lv_if_ne (tgt := 44) hx hb dX8_helpers_38 (by decide) (fun c_38 => ?_) (fun c_38 => ?_)
      · replace hf := qf_f c_38 hf
        refine lv_iload_n hx hb dX8_helpers_44 rfl (lv_at hl 3 rfl) ?_
        refine lv_aload_n hx hb dX8_helpers_45 rfl (lv_at hl 0 rfl) ?_
        refine lv_iload_n hx hb dX8_helpers_46 rfl (lv_at hl 1 rfl) ?_
        refine lv_iload_n hx hb dX8_helpers_47 rfl (lv_at hl 2 rfl) ?_
        obtain ⟨r6, hc_48, hf⟩ := qf_bd_e hf
        refine qw_cVR (rest := [.int y3]) (st1 := [.int r6, .int y3]) S0 V hl 0 gM_0 rfl (c_X8_couponsOf l hc_48) kg_X8_214 rfl ⟨rfl, rfl⟩ kd_X8_couponsOf ⟨Nat.le_of_ble_eq_true rfl, Nat.le_of_ble_eq_true rfl⟩ rfl rfl (Nat.le_of_ble_eq_true rfl) ⟨Nat.zero_le _, Nat.zero_le _⟩ rfl dX8_helpers_48 ?_
        refine lv_isub hx hb dX8_helpers_51 ?_
        refine lv_topi (fun x7 e_x7 => ?_)
        replace hf := qf_let_e e_x7 hf
        refine lv_istore (lv' := [(4, .int x7), (0, .ref (ad 0)), (1, .int y1), (2, .int y2), (3, .int y3)]) hx hb dX8_helpers_52 hl (by decide) rfl (fun ls hl => ?_)
        refine lv_iload hx hb dX8_helpers_54 (lv_at hl 0 rfl) ?_
        refine lv_if_le (tgt := 71) hx hb dX8_helpers_56 (by decide) (fun c_56 => ?_) (fun c_56 => ?_)
        · replace hf := qf_t c_56 hf
          exact J_71 hf V (lv_sub hl [1, 2, 3, 0] rfl)
        · replace hf := qf_f c_56 hf
          refine lv_iload hx hb dX8_helpers_59 (lv_at hl 0 rfl) ?_
          refine lv_aload_n hx hb dX8_helpers_61 rfl (lv_at hl 1 rfl) ?_
          refine lv_iload_n hx hb dX8_helpers_62 rfl (lv_at hl 2 rfl) ?_
          obtain ⟨r8, hc_63, hf⟩ := qf_bd_e hf
          refine qw_cVR (rest := [.int x7]) (st1 := [.int r8, .int x7]) S0 V hl 0 gM_0 rfl (c_X8_canTake l hc_63) kg_X8_247 rfl ⟨rfl, rfl⟩ kd_X8_canTake ⟨Nat.le_of_ble_eq_true rfl, Nat.le_of_ble_eq_true rfl⟩ rfl rfl (Nat.le_of_ble_eq_true rfl) ⟨Nat.zero_le _, Nat.zero_le _⟩ rfl dX8_helpers_63 ?_
          refine lv_icmp_le (tgt := 71) hx hb dX8_helpers_66 (by decide) (fun c_66 => ?_) (fun c_66 => ?_)
          · replace hf := qf_t c_66 hf
            exact J_71 hf V (lv_sub hl [1, 2, 3, 0] rfl)
          · replace hf := qf_f c_66 hf
            refine lv_iconst (v := -1) hx hb dX8_helpers_69 (by decide) ?_
            have hE := Option.some.inj hf
            obtain ⟨e0, hE⟩ := qf_pr hE
            exact qw_ireti S0 hr hlocks hQ e0 (by rw [hE]) V dX8_helpers_70
      · replace hf := qf_t c_38 hf
        refine lv_bipush (v := -2) hx hb dX8_helpers_41 (by decide) ?_
        have hE := Option.some.inj hf
        obtain ⟨e0, hE⟩ := qf_pr hE
        exact qw_ireti S0 hr hlocks hQ e0 (by rw [hE]) V dX8_helpers_43
    · replace hf := qf_f c_25 hf
      refine lv_iconst (v := 0) hx hb dX8_helpers_28 (by decide) ?_
      have hE := Option.some.inj hf
      obtain ⟨e0, hE⟩ := qf_pr hE
      exact qw_ireti S0 hr hlocks hQ e0 (by rw [hE]) V dX8_helpers_29
  have J_21 : ∀   {y1 : Int32} {y2 : Int32} {y3 : Int32} {H : Heap} {locs : List Loc} {ls : Array Slot}, f_X8_helpers_j21 I A y1 y2 y3 = some (rv, I9) → qw_V D cy Z9 s (Wm cy ad I A w) H locs → lv_has ls 9 [(0, .ref (ad 0)), (1, .int y1), (2, .int y2), (3, .int y3)] → W p l e rm_X8_helpers s m args below meth c H locs 0 0 Q9 (F0 m 21 ls [.ref (ad 0)]) := by
    intro y1 y2 y3 H locs ls hf V hl
    unfold f_X8_helpers_j21 at hf
    refine lv_iconst (v := 0) hx hb dX8_helpers_21 (by decide) ?_
    exact J_22 hf V (lv_sub hl [0, 1, 2, 3] rfl)
  unfold f_X8_helpers at hf
  refine lv_aload_n hx hb dX8_helpers_0 rfl (lv_at hl 0 rfl) ?_
  refine lv_aload_n hx hb dX8_helpers_1 rfl (lv_at hl 0 rfl) ?_
  refine lv_iload_n hx hb dX8_helpers_2 rfl (lv_at hl 1 rfl) ?_
  obtain ⟨r1, hc_3, hf⟩ := qf_bd_e hf
  refine qw_cVR (rest := [.ref (ad 0)]) (st1 := [.int r1, .ref (ad 0)]) S0 V hl 0 gM_0 rfl (c_X8_isHouse l hc_3) kg_X8_208 rfl ⟨rfl, rfl⟩ kd_X8_isHouse ⟨Nat.le_of_ble_eq_true rfl, Nat.le_of_ble_eq_true rfl⟩ rfl rfl (Nat.le_of_ble_eq_true rfl) ⟨Nat.zero_le _, Nat.zero_le _⟩ rfl dX8_helpers_3 ?_
  refine lv_if_eq (tgt := 21) hx hb dX8_helpers_6 (by decide) (fun c_6 => ?_) (fun c_6 => ?_)
  · replace hf := qf_t c_6 hf
    exact J_21 hf V (lv_sub hl [0, 1, 2, 3] rfl)
  · replace hf := qf_f c_6 hf
    refine lv_aload_n hx hb dX8_helpers_9 rfl (lv_at hl 0 rfl) ?_
    refine lv_iload_n hx hb dX8_helpers_10 rfl (lv_at hl 2 rfl) ?_
    obtain ⟨r2, hc_11, hf⟩ := qf_bd_e hf
    refine qw_cVR (rest := [.ref (ad 0)]) (st1 := [.int r2, .ref (ad 0)]) S0 V hl 0 gM_0 rfl (c_X8_isGroup l hc_11) kg_X8_197 rfl ⟨rfl, rfl⟩ kd_X8_isGroup ⟨Nat.le_of_ble_eq_true rfl, Nat.le_of_ble_eq_true rfl⟩ rfl rfl (Nat.le_of_ble_eq_true rfl) ⟨Nat.zero_le _, Nat.zero_le _⟩ rfl dX8_helpers_11 ?_
    refine lv_if_eq (tgt := 21) hx hb dX8_helpers_14 (by decide) (fun c_14 => ?_) (fun c_14 => ?_)
    · replace hf := qf_t c_14 hf
      exact J_21 hf V (lv_sub hl [0, 1, 2, 3] rfl)
    · replace hf := qf_f c_14 hf
      refine lv_iconst (v := 1) hx hb dX8_helpers_17 (by decide) ?_
      refine lv_goto (tgt := 22) hx hb dX8_helpers_18 (by decide) ?_
      exact J_22 hf V (lv_sub hl [0, 1, 2, 3] rfl)
theorem kd_X8_takeCoupons : yX8_takeCoupons.cls = RX8 ∧ yX8_takeCoupons.cls ≠ "java/lang/invoke/MethodHandle" ∧ yX8_takeCoupons.cls ≠ "java/lang/invoke/VarHandle" ∧ (parseMethodDescriptor yX8_takeCoupons.desc).map (fun d => d.parameters.length) = some 4 := by decide +kernel
def f_X8_takeCoupons_j74  (K6 : (Nat → Nat → Int32) → Int32 → Int32 → Option ((Nat → Nat → Int32))) (A : Nat → Nat → Int32) (y1 : Int32) (y2 : Int32) (y4 : Int32) (y5 : Int32) (y6 : Int32) (y7 : Int32) : Option ((Nat → Nat → Int32)) :=
  qf_let ((y5 - y7)) fun x12 =>
  qf_let (y6 + (1 : Int32)) fun x13 =>
  K6 A x12 x13
def f_X8_takeCoupons_l6   (y1 : Int32) (y2 : Int32) (y4 : Int32) : Nat → (Nat → Nat → Int32) → Int32 → Int32 → Option ((Nat → Nat → Int32))
  | 0, _, _, _ => none
  | n + 1, A, y5, y6 =>
  if (5 : Int32) ≤ y6 then (some (A)) else (qf_bd (f_X8_at y1 y2) fun r1 =>
    qf_ld 250 (A 0) (r1 + y6) fun x2 =>
    qf_bd (f_X8_lesser x2 y5) fun r3 =>
    qf_bd (f_X8_at y1 y2) fun r4 =>
    qf_ld 250 (A 0) (r4 + y6) fun x5 =>
    qf_st 250 (r4 + y6) fun i7 =>
    qf_let (qf_up A 0 (upd (A 0) i7 (x5 - r3))) fun A6 =>
    if y4 < 0 then (f_X8_takeCoupons_j74 (fun z0 z1 z2 => f_X8_takeCoupons_l6 y1 y2 y4 n z0 z1 z2) A6 y1 y2 y4 y5 y6 r3) else (qf_bd (f_X8_at y4 y2) fun r8 =>
      qf_ld 250 (A6 0) (r8 + y6) fun x9 =>
      qf_st 250 (r8 + y6) fun i11 =>
      qf_let (qf_up A6 0 (upd (A6 0) i11 (x9 + r3))) fun A10 =>
      f_X8_takeCoupons_j74 (fun z0 z1 z2 => f_X8_takeCoupons_l6 y1 y2 y4 n z0 z1 z2) A10 y1 y2 y4 y5 y6 r3))
def f_X8_takeCoupons (A : Nat → Nat → Int32) (p1 : Int32) (p2 : Int32) (p3 : Int32) (p4 : Int32) : Option ((Nat → Nat → Int32)) :=
  f_X8_takeCoupons_l6 p1 p2 p4 100000 A p3 (0 : Int32)
abbrev wz_X8_takeCoupons : List Cond := Cond.code yX8_takeCoupons cX8_takeCoupons 8 none :: qw_big
def rm_X8_takeCoupons : Room := { frames := 1, cells := 0, slots := 0, locals := 21 }
set_option maxHeartbeats 4000000 in
set_option maxRecDepth 100000 in
theorem c_X8_takeCoupons (l : Launch) {D : va_G} {cy : Nat → ClassId} {ad : Nat → Nat} {I : Nat → Int32} {A : Nat → Nat → Int32} {w : Int64} {p1 : Int32} {p2 : Int32} {p3 : Int32} {p4 : Int32} {A9 : Nat → Nat → Int32} {sz : Nat} (hf : f_X8_takeCoupons A p1 p2 p3 p4 = some (A9)) : Met l yX8_takeCoupons wz_X8_takeCoupons rm_X8_takeCoupons (va_Pc [.ref (ad 0), .int p1, .int p2, .int p3, .int p4] (qw_Pre D cy (Wm cy ad I A w) sz)) (qw_Q none D (Wm cy ad I A9 w) (va_A (Wm cy ad I A w) sz)) 0 0 (va_A (Wm cy ad I A w) sz) := by
  refine qw_of (cc := cX8_takeCoupons) (maxL := 8) (ret := none) (by decide) (Nat.le_of_ble_eq_true rfl) ?_
  intro p e s m args below meth c ls S0 hr hlocks hsz V hl
  have S0 : CallFix p m c cX8_takeCoupons 8 s args qw_big RX8 := S0
  have hx := S0.1; have hb := S0.2.1; have hown := S0.2.2.2.1; have hts := S0.2.2.2.2
  have hl : lv_has ls 8 [(0, .ref (ad 0)), (1, .int p1), (2, .int p2), (3, .int p3), (4, .int p4)] := hl
  generalize va_A (Wm cy ad I A w) sz = Z9 at V ⊢
  obtain ⟨Q9, hQ⟩ : ∃ q, q = MQ below (qw_Q none D (Wm cy ad I A9 w) Z9) args s 0 0 Z9 := ⟨_, rfl⟩
  rw [← hQ]
  clear hsz
  have J_74 : ∀ {K6 : (Nat → Nat → Int32) → Int32 → Int32 → Option ((Nat → Nat → Int32))} {y1 : Int32} {y2 : Int32} {y4 : Int32}  (hK6 : ∀ {A : Nat → Nat → Int32} {y5 : Int32} {y6 : Int32} {H : Heap} {locs : List Loc} {ls : Array Slot}, K6 A y5 y6 = some (A9) → qw_V D cy Z9 s (Wm cy ad I A w) H locs → lv_has ls 8 [(0, .ref (ad 0)), (1, .int y1), (2, .int y2), (4, .int y4), (5, .int y5), (6, .int y6)] → W p l e rm_X8_takeCoupons s m args below meth c H locs 0 0 Q9 (F0 m 6 ls [])) {A : Nat → Nat → Int32} {y5 : Int32} {y6 : Int32} {y7 : Int32} {H : Heap} {locs : List Loc} {ls : Array Slot}, f_X8_takeCoupons_j74 K6 A y1 y2 y4 y5 y6 y7 = some (A9) → qw_V D cy Z9 s (Wm cy ad I A w) H locs → lv_has ls 8 [(0, .ref (ad 0)), (1, .int y1), (2, .int y2), (4, .int y4), (5, .int y5), (6, .int y6), (7, .int y7)] → W p l e rm_X8_takeCoupons s m args below meth c H locs 0 0 Q9 (F0 m 74 ls []) := by
    intro K6 y1 y2 y4 hK6 A y5 y6 y7 H locs ls hf V hl
    unfold f_X8_takeCoupons_j74 at hf
    refine lv_iload hx hb dX8_takeCoupons_74 (lv_at hl 4 rfl) ?_
    refine lv_iload hx hb dX8_takeCoupons_76 (lv_at hl 6 rfl) ?_
    refine lv_isub hx hb dX8_takeCoupons_78 ?_
    refine lv_topi (fun x12 e_x12 => ?_)
    replace hf := qf_let_e e_x12 hf
    refine lv_istore (lv' := [(5, .int x12), (0, .ref (ad 0)), (1, .int y1), (2, .int y2), (4, .int y4), (6, .int y6), (7, .int y7)]) hx hb dX8_takeCoupons_79 hl (by decide) rfl (fun ls hl => ?_)
    obtain ⟨x13, e_x13⟩ : ∃ y : Int32, y = y6 + (1 : Int32) := ⟨_, rfl⟩
    refine lv_iinc (v := x13) (lv' := [(6, .int x13), (5, .int x12), (0, .ref (ad 0)), (1, .int y1), (2, .int y2), (4, .int y4), (7, .int y7)]) hx hb dX8_takeCoupons_81 hl (k := 5) rfl (by rw [e_x13]; rfl) (by decide) rfl (fun ls hl => ?_)
    replace hf := qf_let_e e_x13 hf
    refine lv_goto (tgt := 6) hx hb dX8_takeCoupons_84 (by decide) ?_
    exact hK6 hf V (lv_sub hl [2, 3, 4, 5, 1, 0] rfl)
  have L_6 : ∀  {y1 : Int32} {y2 : Int32} {y4 : Int32} {n : Nat} {A : Nat → Nat → Int32} {y5 : Int32} {y6 : Int32} {H : Heap} {locs : List Loc} {ls : Array Slot}, f_X8_takeCoupons_l6 y1 y2 y4 n A y5 y6 = some (A9) → qw_V D cy Z9 s (Wm cy ad I A w) H locs → lv_has ls 8 [(0, .ref (ad 0)), (1, .int y1), (2, .int y2), (4, .int y4), (5, .int y5), (6, .int y6)] → W p l e rm_X8_takeCoupons s m args below meth c H locs 0 0 Q9 (F0 m 6 ls []) := by
    intro y1 y2 y4 n
    induction n with
    | zero => intro A y5 y6 H locs ls hf V hl; exact qf_no hf
    | succ n ih =>
      intro A y5 y6 H locs ls hf V hl
      rw [f_X8_takeCoupons_l6] at hf
      refine lv_iload hx hb dX8_takeCoupons_6 (lv_at hl 5 rfl) ?_
      refine lv_iconst (v := 5) hx hb dX8_takeCoupons_8 (by decide) ?_
      refine lv_icmp_ge (tgt := 87) hx hb dX8_takeCoupons_9 (by decide) (fun c_9 => ?_) (fun c_9 => ?_)
      · replace hf := qf_t c_9 hf
        have hE := Option.some.inj hf
        exact qw_vreti S0 hr hlocks hQ (by rw [hE]) V dX8_takeCoupons_87
      · replace hf := qf_f c_9 hf
        refine lv_aload_n hx hb dX8_takeCoupons_12 rfl (lv_at hl 0 rfl) ?_
        refine gfM_0_0 S0 V kl_X8_7 dX8_takeCoupons_13 ?_
        refine lv_iload_n hx hb dX8_takeCoupons_16 rfl (lv_at hl 1 rfl) ?_
        refine lv_iload_n hx hb dX8_takeCoupons_17 rfl (lv_at hl 2 rfl) ?_
        obtain ⟨r1, hc_18, hf⟩ := qf_bd_e hf
        refine qw_cSR (rest := [.ref (ad 1)]) (st1 := [.int r1, .ref (ad 1)]) S0 V hl (c_X8_at l hc_18) kg_X8_211 rfl ⟨rfl, rfl⟩ kd_X8_at ⟨Nat.le_of_ble_eq_true rfl, Nat.le_of_ble_eq_true rfl⟩ rfl rfl (Nat.le_of_ble_eq_true rfl) ⟨Nat.zero_le _, Nat.zero_le _⟩ rfl dX8_takeCoupons_18 ?_
        refine lv_iload hx hb dX8_takeCoupons_21 (lv_at hl 5 rfl) ?_
        refine lv_iadd hx hb dX8_takeCoupons_23 ?_
        have h_24 := qf_ld_in hf
        refine alM_1 S0 V h_24 dX8_takeCoupons_24 ?_
        refine lv_topi (fun x2 e_x2 => ?_)
        replace hf := qf_ld_e e_x2 hf
        refine lv_iload hx hb dX8_takeCoupons_25 (lv_at hl 4 rfl) ?_
        obtain ⟨r3, hc_27, hf⟩ := qf_bd_e hf
        refine qw_cSR (rest := []) (st1 := [.int r3]) S0 V hl (c_X8_lesser l hc_27) kg_X8_241 rfl ⟨rfl, rfl⟩ kd_X8_lesser ⟨Nat.le_of_ble_eq_true rfl, Nat.le_of_ble_eq_true rfl⟩ rfl rfl (Nat.le_of_ble_eq_true rfl) ⟨Nat.zero_le _, Nat.zero_le _⟩ rfl dX8_takeCoupons_27 ?_
        refine lv_istore (lv' := [(7, .int r3), (0, .ref (ad 0)), (1, .int y1), (2, .int y2), (4, .int y4), (5, .int y5), (6, .int y6)]) hx hb dX8_takeCoupons_30 hl (by decide) rfl (fun ls hl => ?_)
        refine lv_aload_n hx hb dX8_takeCoupons_32 rfl (lv_at hl 1 rfl) ?_
        refine gfM_0_0 S0 V kl_X8_7 dX8_takeCoupons_33 ?_
        refine lv_iload_n hx hb dX8_takeCoupons_36 rfl (lv_at hl 2 rfl) ?_
        refine lv_iload_n hx hb dX8_takeCoupons_37 rfl (lv_at hl 3 rfl) ?_
        obtain ⟨r4, hc_38, hf⟩ := qf_bd_e hf
        refine qw_cSR (rest := [.ref (ad 1)]) (st1 := [.int r4, .ref (ad 1)]) S0 V hl (c_X8_at l hc_38) kg_X8_211 rfl ⟨rfl, rfl⟩ kd_X8_at ⟨Nat.le_of_ble_eq_true rfl, Nat.le_of_ble_eq_true rfl⟩ rfl rfl (Nat.le_of_ble_eq_true rfl) ⟨Nat.zero_le _, Nat.zero_le _⟩ rfl dX8_takeCoupons_38 ?_
        refine lv_iload hx hb dX8_takeCoupons_41 (lv_at hl 6 rfl) ?_
        refine lv_iadd hx hb dX8_takeCoupons_43 ?_
        refine lv_dup2_11 hx hb dX8_takeCoupons_44 rfl rfl ?_
        have h_45 := qf_ld_in hf
        refine alM_1 S0 V h_45 dX8_takeCoupons_45 ?_
        refine lv_topi (fun x5 e_x5 => ?_)
        replace hf := qf_ld_e e_x5 hf
        refine lv_iload hx hb dX8_takeCoupons_46 (lv_at hl 0 rfl) ?_
        refine lv_isub hx hb dX8_takeCoupons_48 ?_
        have h_49 := qf_st_in hf
        replace hf := qf_st_e hf
        refine asM_1 S0 V h_49 dX8_takeCoupons_49 (fun H locs A6 e_A6 V => ?_)
        replace hf := qf_let_e e_A6 hf
        refine lv_iload hx hb dX8_takeCoupons_50 (lv_at hl 4 rfl) ?_
        refine lv_if_lt (tgt := 74) hx hb dX8_takeCoupons_52 (by decide) (fun c_52 => ?_) (fun c_52 => ?_)
        · replace hf := qf_t c_52 hf
          exact J_74 (fun hf V hl => ih hf V hl) hf V (lv_sub hl [1, 2, 3, 4, 5, 6, 0] rfl)
        · replace hf := qf_f c_52 hf
          refine lv_aload_n hx hb dX8_takeCoupons_55 rfl (lv_at hl 1 rfl) ?_
          refine gfM_0_0 S0 V kl_X8_7 dX8_takeCoupons_56 ?_
          refine lv_iload hx hb dX8_takeCoupons_59 (lv_at hl 4 rfl) ?_
          refine lv_iload_n hx hb dX8_takeCoupons_61 rfl (lv_at hl 3 rfl) ?_
          obtain ⟨r8, hc_62, hf⟩ := qf_bd_e hf
          refine qw_cSR (rest := [.ref (ad 1)]) (st1 := [.int r8, .ref (ad 1)]) S0 V hl (c_X8_at l hc_62) kg_X8_211 rfl ⟨rfl, rfl⟩ kd_X8_at ⟨Nat.le_of_ble_eq_true rfl, Nat.le_of_ble_eq_true rfl⟩ rfl rfl (Nat.le_of_ble_eq_true rfl) ⟨Nat.zero_le _, Nat.zero_le _⟩ rfl dX8_takeCoupons_62 ?_
          refine lv_iload hx hb dX8_takeCoupons_65 (lv_at hl 6 rfl) ?_
          refine lv_iadd hx hb dX8_takeCoupons_67 ?_
          refine lv_dup2_11 hx hb dX8_takeCoupons_68 rfl rfl ?_
          have h_69 := qf_ld_in hf
          refine alM_1 S0 V h_69 dX8_takeCoupons_69 ?_
          refine lv_topi (fun x9 e_x9 => ?_)
          replace hf := qf_ld_e e_x9 hf
          refine lv_iload hx hb dX8_takeCoupons_70 (lv_at hl 0 rfl) ?_
          refine lv_iadd hx hb dX8_takeCoupons_72 ?_
          have h_73 := qf_st_in hf
          replace hf := qf_st_e hf
          refine asM_1 S0 V h_73 dX8_takeCoupons_73 (fun H locs A10 e_A10 V => ?_)
          replace hf := qf_let_e e_A10 hf
          exact J_74 (fun hf V hl => ih hf V hl) hf V (lv_sub hl [1, 2, 3, 4, 5, 6, 0] rfl)
  unfold f_X8_takeCoupons at hf
  refine lv_iload_n hx hb dX8_takeCoupons_0 rfl (lv_at hl 3 rfl) ?_
  refine lv_istore (lv' := [(5, .int p3), (0, .ref (ad 0)), (1, .int p1), (2, .int p2), (3, .int p3), (4, .int p4)]) hx hb dX8_takeCoupons_1 hl (by decide) rfl (fun ls hl => ?_)
  refine lv_iconst (v := 0) hx hb dX8_takeCoupons_3 (by decide) ?_
  refine lv_istore (lv' := [(6, .int (0 : Int32)), (5, .int p3), (0, .ref (ad 0)), (1, .int p1), (2, .int p2), (3, .int p3), (4, .int p4)]) hx hb dX8_takeCoupons_4 hl (by decide) rfl (fun ls hl => ?_)
  exact L_6 hf V (lv_sub hl [2, 3, 4, 6, 1, 0] rfl)
theorem kd_X8_trade : yX8_trade.cls = RX8 ∧ yX8_trade.cls ≠ "java/lang/invoke/MethodHandle" ∧ yX8_trade.cls ≠ "java/lang/invoke/VarHandle" ∧ (parseMethodDescriptor yX8_trade.desc).map (fun d => d.parameters.length) = some 4 := by decide +kernel
def f_X8_trade (I : Nat → Int32) (A : Nat → Nat → Int32) (p1 : Int32) (p2 : Int32) (p3 : Int32) (p4 : Int32) : Option (Int32 × (Nat → Int32) × (Nat → Nat → Int32)) :=
  qf_let (upd I 1 (0 : Int32)) fun I1 =>
  qf_bd (f_X8_isHouse A p1) fun r2 =>
  if r2 = 0 then (some ((-1 : Int32), I1, A)) else (qf_bd (f_X8_isHouse A p2) fun r3 =>
    if r3 = 0 then (some ((-1 : Int32), I1, A)) else (qf_bd (f_X8_isGroup A p3) fun r4 =>
      if r4 = 0 then (some ((-1 : Int32), I1, A)) else (if p1 = p2 then (some ((-1 : Int32), I1, A)) else (qf_bd (f_X8_inRange p4 (1 : Int32) (999 : Int32)) fun r5 =>
          if r5 = 0 then (some ((-2 : Int32), I1, A)) else (qf_bd (f_X8_couponsOf A p1 p3) fun r6 =>
            if p4 ≤ r6 then (qf_ld 250 (A 0) (0 : Int32) fun x7 =>
              qf_ld 250 (A 0) ((133 : Int32) + p1) fun x8 =>
              qf_bd (f_X8_room x7 x8) fun r9 =>
              if r9 < p4 then (some ((-6 : Int32), I1, A)) else (qf_bd (f_X8_canTake A p2) fun r10 =>
                if p4 ≤ r10 then (qf_bd2 (f_X8_remember I1 A) fun I11 A12 =>
                  qf_bd (f_X8_takeCoupons A12 p1 p3 p4 p2) fun A13 =>
                  qf_ld 250 (A13 0) ((133 : Int32) + p1) fun x14 =>
                  qf_st 250 ((133 : Int32) + p1) fun i16 =>
                  qf_let (qf_up A13 0 (upd (A13 0) i16 (x14 + p4))) fun A15 =>
                  qf_ld 250 (A15 0) ((139 : Int32) + p2) fun x17 =>
                  qf_st 250 ((139 : Int32) + p2) fun i19 =>
                  qf_let (qf_up A15 0 (upd (A15 0) i19 (x17 + p4))) fun A18 =>
                  qf_bd (f_X8_couponsOf A18 p1 p3) fun r20 =>
                  some (r20, I11, A18)) else (some ((-6 : Int32), I1, A)))) else (some ((-5 : Int32), I1, A)))))))
abbrev wz_X8_trade : List Cond := Cond.code yX8_trade cX8_trade 5 (some .int) :: qw_big
def rm_X8_trade : Room := { frames := 2, cells := 0, slots := 0, locals := 48 }
set_option maxHeartbeats 4000000 in
set_option maxRecDepth 100000 in
theorem c_X8_trade (l : Launch) {D : va_G} {cy : Nat → ClassId} {ad : Nat → Nat} {I : Nat → Int32} {A : Nat → Nat → Int32} {w : Int64} {p1 : Int32} {p2 : Int32} {p3 : Int32} {p4 : Int32} {rv : Int32} {I9 : Nat → Int32} {A9 : Nat → Nat → Int32} {sz : Nat} (hf : f_X8_trade I A p1 p2 p3 p4 = some (rv, I9, A9)) : Met l yX8_trade wz_X8_trade rm_X8_trade (va_Pc [.ref (ad 0), .int p1, .int p2, .int p3, .int p4] (qw_Pre D cy (Wm cy ad I A w) sz)) (qw_Q (some (.int rv)) D (Wm cy ad I9 A9 w) (va_A (Wm cy ad I A w) sz)) 0 0 (va_A (Wm cy ad I A w) sz) := by
  refine qw_of (cc := cX8_trade) (maxL := 5) (ret := (some .int)) (by decide) (Nat.le_of_ble_eq_true rfl) ?_
  intro p e s m args below meth c ls S0 hr hlocks hsz V hl
  have S0 : CallFix p m c cX8_trade 5 s args qw_big RX8 := S0
  have hx := S0.1; have hb := S0.2.1; have hown := S0.2.2.2.1; have hts := S0.2.2.2.2
  have hl : lv_has ls 5 [(0, .ref (ad 0)), (1, .int p1), (2, .int p2), (3, .int p3), (4, .int p4)] := hl
  generalize va_A (Wm cy ad I A w) sz = Z9 at V ⊢
  obtain ⟨Q9, hQ⟩ : ∃ q, q = MQ below (qw_Q (some (.int rv)) D (Wm cy ad I9 A9 w) Z9) args s 0 0 Z9 := ⟨_, rfl⟩
  rw [← hQ]
  clear hsz
  unfold f_X8_trade at hf
  refine lv_aload_n hx hb dX8_trade_0 rfl (lv_at hl 0 rfl) ?_
  refine lv_iconst (v := 0) hx hb dX8_trade_1 (by decide) ?_
  refine pfM_0_4 S0 V kl_X8_49 dX8_trade_2 (fun H locs I1 e_I1 V => ?_)
  replace hf := qf_let_e e_I1 hf
  refine lv_aload_n hx hb dX8_trade_5 rfl (lv_at hl 0 rfl) ?_
  refine lv_iload_n hx hb dX8_trade_6 rfl (lv_at hl 1 rfl) ?_
  obtain ⟨r2, hc_7, hf⟩ := qf_bd_e hf
  refine qw_cVR (rest := []) (st1 := [.int r2]) S0 V hl 0 gM_0 rfl (c_X8_isHouse l hc_7) kg_X8_208 rfl ⟨rfl, rfl⟩ kd_X8_isHouse ⟨Nat.le_of_ble_eq_true rfl, Nat.le_of_ble_eq_true rfl⟩ rfl rfl (Nat.le_of_ble_eq_true rfl) ⟨Nat.zero_le _, Nat.zero_le _⟩ rfl dX8_trade_7 ?_
  refine lv_if_eq (tgt := 34) hx hb dX8_trade_10 (by decide) (fun c_10 => ?_) (fun c_10 => ?_)
  · replace hf := qf_t c_10 hf
    refine lv_iconst (v := -1) hx hb dX8_trade_34 (by decide) ?_
    have hE := Option.some.inj hf
    obtain ⟨e0, hE⟩ := qf_pr hE
    obtain ⟨e1, hE⟩ := qf_pr hE
    exact qw_ireti S0 hr hlocks hQ e0 (by rw [e1, hE]) V dX8_trade_35
  · replace hf := qf_f c_10 hf
    refine lv_aload_n hx hb dX8_trade_13 rfl (lv_at hl 0 rfl) ?_
    refine lv_iload_n hx hb dX8_trade_14 rfl (lv_at hl 2 rfl) ?_
    obtain ⟨r3, hc_15, hf⟩ := qf_bd_e hf
    refine qw_cVR (rest := []) (st1 := [.int r3]) S0 V hl 0 gM_0 rfl (c_X8_isHouse l hc_15) kg_X8_208 rfl ⟨rfl, rfl⟩ kd_X8_isHouse ⟨Nat.le_of_ble_eq_true rfl, Nat.le_of_ble_eq_true rfl⟩ rfl rfl (Nat.le_of_ble_eq_true rfl) ⟨Nat.zero_le _, Nat.zero_le _⟩ rfl dX8_trade_15 ?_
    refine lv_if_eq (tgt := 34) hx hb dX8_trade_18 (by decide) (fun c_18 => ?_) (fun c_18 => ?_)
    · replace hf := qf_t c_18 hf
      refine lv_iconst (v := -1) hx hb dX8_trade_34 (by decide) ?_
      have hE := Option.some.inj hf
      obtain ⟨e0, hE⟩ := qf_pr hE
      obtain ⟨e1, hE⟩ := qf_pr hE
      exact qw_ireti S0 hr hlocks hQ e0 (by rw [e1, hE]) V dX8_trade_35
    · replace hf := qf_f c_18 hf
      refine lv_aload_n hx hb dX8_trade_21 rfl (lv_at hl 0 rfl) ?_
      refine lv_iload_n hx hb dX8_trade_22 rfl (lv_at hl 3 rfl) ?_
      obtain ⟨r4, hc_23, hf⟩ := qf_bd_e hf
      refine qw_cVR (rest := []) (st1 := [.int r4]) S0 V hl 0 gM_0 rfl (c_X8_isGroup l hc_23) kg_X8_197 rfl ⟨rfl, rfl⟩ kd_X8_isGroup ⟨Nat.le_of_ble_eq_true rfl, Nat.le_of_ble_eq_true rfl⟩ rfl rfl (Nat.le_of_ble_eq_true rfl) ⟨Nat.zero_le _, Nat.zero_le _⟩ rfl dX8_trade_23 ?_
      refine lv_if_eq (tgt := 34) hx hb dX8_trade_26 (by decide) (fun c_26 => ?_) (fun c_26 => ?_)
      · replace hf := qf_t c_26 hf
        refine lv_iconst (v := -1) hx hb dX8_trade_34 (by decide) ?_
        have hE := Option.some.inj hf
        obtain ⟨e0, hE⟩ := qf_pr hE
        obtain ⟨e1, hE⟩ := qf_pr hE
        exact qw_ireti S0 hr hlocks hQ e0 (by rw [e1, hE]) V dX8_trade_35
      · replace hf := qf_f c_26 hf
        refine lv_iload_n hx hb dX8_trade_29 rfl (lv_at hl 1 rfl) ?_
        refine lv_iload_n hx hb dX8_trade_30 rfl (lv_at hl 2 rfl) ?_
        refine lv_icmp_ne (tgt := 36) hx hb dX8_trade_31 (by decide) (fun c_31 => ?_) (fun c_31 => ?_)
        · replace hf := qf_f c_31 hf
          refine lv_iload hx hb dX8_trade_36 (lv_at hl 4 rfl) ?_
          refine lv_iconst (v := 1) hx hb dX8_trade_38 (by decide) ?_
          refine lv_sipush (v := 999) hx hb dX8_trade_39 (by decide) ?_
          obtain ⟨r5, hc_42, hf⟩ := qf_bd_e hf
          refine qw_cSR (rest := []) (st1 := [.int r5]) S0 V hl (c_X8_inRange l hc_42) kg_X8_85 rfl ⟨rfl, rfl⟩ kd_X8_inRange ⟨Nat.le_of_ble_eq_true rfl, Nat.le_of_ble_eq_true rfl⟩ rfl rfl (Nat.le_of_ble_eq_true rfl) ⟨Nat.zero_le _, Nat.zero_le _⟩ rfl dX8_trade_42 ?_
          refine lv_if_ne (tgt := 51) hx hb dX8_trade_45 (by decide) (fun c_45 => ?_) (fun c_45 => ?_)
          · replace hf := qf_f c_45 hf
            refine lv_aload_n hx hb dX8_trade_51 rfl (lv_at hl 0 rfl) ?_
            refine lv_iload_n hx hb dX8_trade_52 rfl (lv_at hl 1 rfl) ?_
            refine lv_iload_n hx hb dX8_trade_53 rfl (lv_at hl 3 rfl) ?_
            obtain ⟨r6, hc_54, hf⟩ := qf_bd_e hf
            refine qw_cVR (rest := []) (st1 := [.int r6]) S0 V hl 0 gM_0 rfl (c_X8_couponsOf l hc_54) kg_X8_214 rfl ⟨rfl, rfl⟩ kd_X8_couponsOf ⟨Nat.le_of_ble_eq_true rfl, Nat.le_of_ble_eq_true rfl⟩ rfl rfl (Nat.le_of_ble_eq_true rfl) ⟨Nat.zero_le _, Nat.zero_le _⟩ rfl dX8_trade_54 ?_
            refine lv_iload hx hb dX8_trade_57 (lv_at hl 4 rfl) ?_
            refine lv_icmp_ge (tgt := 65) hx hb dX8_trade_59 (by decide) (fun c_59 => ?_) (fun c_59 => ?_)
            · replace hf := qf_t c_59 hf
              refine lv_aload_n hx hb dX8_trade_65 rfl (lv_at hl 0 rfl) ?_
              refine lv_aload_n hx hb dX8_trade_66 rfl (lv_at hl 0 rfl) ?_
              refine gfM_0_0 S0 V kl_X8_7 dX8_trade_67 ?_
              refine lv_iconst (v := 0) hx hb dX8_trade_70 (by decide) ?_
              have h_71 := qf_ld_in hf
              refine alM_1 S0 V h_71 dX8_trade_71 ?_
              refine lv_topi (fun x7 e_x7 => ?_)
              replace hf := qf_ld_e e_x7 hf
              refine lv_aload_n hx hb dX8_trade_72 rfl (lv_at hl 0 rfl) ?_
              refine gfM_0_0 S0 V kl_X8_7 dX8_trade_73 ?_
              refine lv_sipush (v := 133) hx hb dX8_trade_76 (by decide) ?_
              refine lv_iload_n hx hb dX8_trade_79 rfl (lv_at hl 1 rfl) ?_
              refine lv_iadd hx hb dX8_trade_80 ?_
              have h_81 := qf_ld_in hf
              refine alM_1 S0 V h_81 dX8_trade_81 ?_
              refine lv_topi (fun x8 e_x8 => ?_)
              replace hf := qf_ld_e e_x8 hf
              obtain ⟨r9, hc_82, hf⟩ := qf_bd_e hf
              refine qw_cVR (rest := []) (st1 := [.int r9]) S0 V hl 0 gM_0 rfl (c_X8_room l hc_82) kg_X8_238 rfl ⟨rfl, rfl⟩ kd_X8_room ⟨Nat.le_of_ble_eq_true rfl, Nat.le_of_ble_eq_true rfl⟩ rfl rfl (Nat.le_of_ble_eq_true rfl) ⟨Nat.zero_le _, Nat.zero_le _⟩ rfl dX8_trade_82 ?_
              refine lv_iload hx hb dX8_trade_85 (lv_at hl 4 rfl) ?_
              refine lv_icmp_lt (tgt := 100) hx hb dX8_trade_87 (by decide) (fun c_87 => ?_) (fun c_87 => ?_)
              · replace hf := qf_t c_87 hf
                refine lv_bipush (v := -6) hx hb dX8_trade_100 (by decide) ?_
                have hE := Option.some.inj hf
                obtain ⟨e0, hE⟩ := qf_pr hE
                obtain ⟨e1, hE⟩ := qf_pr hE
                exact qw_ireti S0 hr hlocks hQ e0 (by rw [e1, hE]) V dX8_trade_102
              · replace hf := qf_f c_87 hf
                refine lv_aload_n hx hb dX8_trade_90 rfl (lv_at hl 0 rfl) ?_
                refine lv_iload_n hx hb dX8_trade_91 rfl (lv_at hl 2 rfl) ?_
                obtain ⟨r10, hc_92, hf⟩ := qf_bd_e hf
                refine qw_cVR (rest := []) (st1 := [.int r10]) S0 V hl 0 gM_0 rfl (c_X8_canTake l hc_92) kg_X8_247 rfl ⟨rfl, rfl⟩ kd_X8_canTake ⟨Nat.le_of_ble_eq_true rfl, Nat.le_of_ble_eq_true rfl⟩ rfl rfl (Nat.le_of_ble_eq_true rfl) ⟨Nat.zero_le _, Nat.zero_le _⟩ rfl dX8_trade_92 ?_
                refine lv_iload hx hb dX8_trade_95 (lv_at hl 4 rfl) ?_
                refine lv_icmp_ge (tgt := 103) hx hb dX8_trade_97 (by decide) (fun c_97 => ?_) (fun c_97 => ?_)
                · replace hf := qf_t c_97 hf
                  refine lv_aload_n hx hb dX8_trade_103 rfl (lv_at hl 0 rfl) ?_
                  obtain ⟨I11, A12, hc_104, hf⟩ := qf_bd2_e hf
                  refine qw_cV (rest := []) (st1 := []) S0 V hl 0 gM_0 rfl (c_X8_remember l hc_104) kg_X8_235 rfl ⟨rfl, rfl⟩ kd_X8_remember ⟨Nat.le_of_ble_eq_true rfl, Nat.le_of_ble_eq_true rfl⟩ rfl rfl (Nat.le_of_ble_eq_true rfl) ⟨Nat.zero_le _, Nat.zero_le _⟩ rfl dX8_trade_104 (fun H locs V => ?_)
                  refine lv_aload_n hx hb dX8_trade_107 rfl (lv_at hl 0 rfl) ?_
                  refine lv_iload_n hx hb dX8_trade_108 rfl (lv_at hl 1 rfl) ?_
                  refine lv_iload_n hx hb dX8_trade_109 rfl (lv_at hl 3 rfl) ?_
                  refine lv_iload hx hb dX8_trade_110 (lv_at hl 4 rfl) ?_
                  refine lv_iload_n hx hb dX8_trade_112 rfl (lv_at hl 2 rfl) ?_
                  obtain ⟨A13, hc_113, hf⟩ := qf_bd_e hf
                  refine qw_cV (rest := []) (st1 := []) S0 V hl 0 gM_0 rfl (c_X8_takeCoupons l hc_113) kg_X8_250 rfl ⟨rfl, rfl⟩ kd_X8_takeCoupons ⟨Nat.le_of_ble_eq_true rfl, Nat.le_of_ble_eq_true rfl⟩ rfl rfl (Nat.le_of_ble_eq_true rfl) ⟨Nat.zero_le _, Nat.zero_le _⟩ rfl dX8_trade_113 (fun H locs V => ?_)
                  refine lv_aload_n hx hb dX8_trade_116 rfl (lv_at hl 0 rfl) ?_
                  refine gfM_0_0 S0 V kl_X8_7 dX8_trade_117 ?_
                  refine lv_sipush (v := 133) hx hb dX8_trade_120 (by decide) ?_
                  refine lv_iload_n hx hb dX8_trade_123 rfl (lv_at hl 1 rfl) ?_
                  refine lv_iadd hx hb dX8_trade_124 ?_
                  refine lv_dup2_11 hx hb dX8_trade_125 rfl rfl ?_
                  have h_126 := qf_ld_in hf
                  refine alM_1 S0 V h_126 dX8_trade_126 ?_
                  refine lv_topi (fun x14 e_x14 => ?_)
                  replace hf := qf_ld_e e_x14 hf
                  refine lv_iload hx hb dX8_trade_127 (lv_at hl 4 rfl) ?_
                  refine lv_iadd hx hb dX8_trade_129 ?_
                  have h_130 := qf_st_in hf
                  replace hf := qf_st_e hf
                  refine asM_1 S0 V h_130 dX8_trade_130 (fun H locs A15 e_A15 V => ?_)
                  replace hf := qf_let_e e_A15 hf
                  refine lv_aload_n hx hb dX8_trade_131 rfl (lv_at hl 0 rfl) ?_
                  refine gfM_0_0 S0 V kl_X8_7 dX8_trade_132 ?_
                  refine lv_sipush (v := 139) hx hb dX8_trade_135 (by decide) ?_
                  refine lv_iload_n hx hb dX8_trade_138 rfl (lv_at hl 2 rfl) ?_
                  refine lv_iadd hx hb dX8_trade_139 ?_
                  refine lv_dup2_11 hx hb dX8_trade_140 rfl rfl ?_
                  have h_141 := qf_ld_in hf
                  refine alM_1 S0 V h_141 dX8_trade_141 ?_
                  refine lv_topi (fun x17 e_x17 => ?_)
                  replace hf := qf_ld_e e_x17 hf
                  refine lv_iload hx hb dX8_trade_142 (lv_at hl 4 rfl) ?_
                  refine lv_iadd hx hb dX8_trade_144 ?_
                  have h_145 := qf_st_in hf
                  replace hf := qf_st_e hf
                  refine asM_1 S0 V h_145 dX8_trade_145 (fun H locs A18 e_A18 V => ?_)
                  replace hf := qf_let_e e_A18 hf
                  refine lv_aload_n hx hb dX8_trade_146 rfl (lv_at hl 0 rfl) ?_
                  refine lv_iload_n hx hb dX8_trade_147 rfl (lv_at hl 1 rfl) ?_
                  refine lv_iload_n hx hb dX8_trade_148 rfl (lv_at hl 3 rfl) ?_
                  obtain ⟨r20, hc_149, hf⟩ := qf_bd_e hf
                  refine qw_cVR (rest := []) (st1 := [.int r20]) S0 V hl 0 gM_0 rfl (c_X8_couponsOf l hc_149) kg_X8_214 rfl ⟨rfl, rfl⟩ kd_X8_couponsOf ⟨Nat.le_of_ble_eq_true rfl, Nat.le_of_ble_eq_true rfl⟩ rfl rfl (Nat.le_of_ble_eq_true rfl) ⟨Nat.zero_le _, Nat.zero_le _⟩ rfl dX8_trade_149 ?_
                  have hE := Option.some.inj hf
                  obtain ⟨e0, hE⟩ := qf_pr hE
                  obtain ⟨e1, hE⟩ := qf_pr hE
                  exact qw_ireti S0 hr hlocks hQ e0 (by rw [e1, hE]) V dX8_trade_152
                · replace hf := qf_f c_97 hf
                  refine lv_bipush (v := -6) hx hb dX8_trade_100 (by decide) ?_
                  have hE := Option.some.inj hf
                  obtain ⟨e0, hE⟩ := qf_pr hE
                  obtain ⟨e1, hE⟩ := qf_pr hE
                  exact qw_ireti S0 hr hlocks hQ e0 (by rw [e1, hE]) V dX8_trade_102
            · replace hf := qf_f c_59 hf
              refine lv_bipush (v := -5) hx hb dX8_trade_62 (by decide) ?_
              have hE := Option.some.inj hf
              obtain ⟨e0, hE⟩ := qf_pr hE
              obtain ⟨e1, hE⟩ := qf_pr hE
              exact qw_ireti S0 hr hlocks hQ e0 (by rw [e1, hE]) V dX8_trade_64
          · replace hf := qf_t c_45 hf
            refine lv_bipush (v := -2) hx hb dX8_trade_48 (by decide) ?_
            have hE := Option.some.inj hf
            obtain ⟨e0, hE⟩ := qf_pr hE
            obtain ⟨e1, hE⟩ := qf_pr hE
            exact qw_ireti S0 hr hlocks hQ e0 (by rw [e1, hE]) V dX8_trade_50
        · replace hf := qf_t c_31 hf
          refine lv_iconst (v := -1) hx hb dX8_trade_34 (by decide) ?_
          have hE := Option.some.inj hf
          obtain ⟨e0, hE⟩ := qf_pr hE
          obtain ⟨e1, hE⟩ := qf_pr hE
          exact qw_ireti S0 hr hlocks hQ e0 (by rw [e1, hE]) V dX8_trade_35
theorem kd_X8_isSuspendedNow : yX8_isSuspendedNow.cls = RX8 ∧ yX8_isSuspendedNow.cls ≠ "java/lang/invoke/MethodHandle" ∧ yX8_isSuspendedNow.cls ≠ "java/lang/invoke/VarHandle" ∧ (parseMethodDescriptor yX8_isSuspendedNow.desc).map (fun d => d.parameters.length) = some 1 := by decide +kernel
def f_X8_isSuspendedNow (A : Nat → Nat → Int32) (p1 : Int32) : Option (Int32) :=
  qf_ld 250 (A 0) ((185 : Int32) + p1) fun x1 =>
  qf_ld 250 (A 0) (2 : Int32) fun x2 =>
  if x1 ≤ x2 then (some ((0 : Int32))) else (some ((1 : Int32)))
abbrev wz_X8_isSuspendedNow : List Cond := Cond.code yX8_isSuspendedNow cX8_isSuspendedNow 2 (some .boolean) :: qw_big
def rm_X8_isSuspendedNow : Room := { frames := 0, cells := 0, slots := 0, locals := 0 }
set_option maxHeartbeats 4000000 in
set_option maxRecDepth 100000 in
theorem c_X8_isSuspendedNow (l : Launch) {D : va_G} {cy : Nat → ClassId} {ad : Nat → Nat} {I : Nat → Int32} {A : Nat → Nat → Int32} {w : Int64} {p1 : Int32} {rv : Int32} {sz : Nat} (hf : f_X8_isSuspendedNow A p1 = some (rv)) : Met l yX8_isSuspendedNow wz_X8_isSuspendedNow rm_X8_isSuspendedNow (va_Pc [.ref (ad 0), .int p1] (qw_Pre D cy (Wm cy ad I A w) sz)) (qw_R (some (.int rv))) 0 0 (fun _ => False) := by
  refine qw_of (cc := cX8_isSuspendedNow) (maxL := 2) (ret := (some .boolean)) (by decide) (Nat.le_of_ble_eq_true rfl) ?_
  intro p e s m args below meth c ls S0 hr hlocks hsz V hl
  have S0 : CallFix p m c cX8_isSuspendedNow 2 s args qw_big RX8 := S0
  have hx := S0.1; have hb := S0.2.1; have hown := S0.2.2.2.1; have hts := S0.2.2.2.2
  have hl : lv_has ls 2 [(0, .ref (ad 0)), (1, .int p1)] := hl
  obtain ⟨Q9, hQ⟩ : ∃ q, q = MQ below (qw_R (some (.int rv))) args s 0 0 (fun _ => False) := ⟨_, rfl⟩
  rw [← hQ]
  generalize va_A (Wm cy ad I A w) sz = Z9 at V
  unfold f_X8_isSuspendedNow at hf
  refine lv_aload_n hx hb dX8_isSuspendedNow_0 rfl (lv_at hl 0 rfl) ?_
  refine gfM_0_0 S0 V kl_X8_7 dX8_isSuspendedNow_1 ?_
  refine lv_sipush (v := 185) hx hb dX8_isSuspendedNow_4 (by decide) ?_
  refine lv_iload_n hx hb dX8_isSuspendedNow_7 rfl (lv_at hl 1 rfl) ?_
  refine lv_iadd hx hb dX8_isSuspendedNow_8 ?_
  have h_9 := qf_ld_in hf
  refine alM_1 S0 V h_9 dX8_isSuspendedNow_9 ?_
  refine lv_topi (fun x1 e_x1 => ?_)
  replace hf := qf_ld_e e_x1 hf
  refine lv_aload_n hx hb dX8_isSuspendedNow_10 rfl (lv_at hl 0 rfl) ?_
  refine gfM_0_0 S0 V kl_X8_7 dX8_isSuspendedNow_11 ?_
  refine lv_iconst (v := 2) hx hb dX8_isSuspendedNow_14 (by decide) ?_
  have h_15 := qf_ld_in hf
  refine alM_1 S0 V h_15 dX8_isSuspendedNow_15 ?_
  refine lv_topi (fun x2 e_x2 => ?_)
  replace hf := qf_ld_e e_x2 hf
  refine lv_icmp_le (tgt := 23) hx hb dX8_isSuspendedNow_16 (by decide) (fun c_16 => ?_) (fun c_16 => ?_)
  · replace hf := qf_t c_16 hf
    refine lv_iconst (v := 0) hx hb dX8_isSuspendedNow_23 (by decide) ?_
    have hE := Option.some.inj hf
    exact qw_zretR S0 hr hlocks hQ rfl hE dX8_isSuspendedNow_24
  · replace hf := qf_f c_16 hf
    refine lv_iconst (v := 1) hx hb dX8_isSuspendedNow_19 (by decide) ?_
    refine lv_goto (tgt := 24) hx hb dX8_isSuspendedNow_20 (by decide) ?_
    have hE := Option.some.inj hf
    exact qw_zretR S0 hr hlocks hQ rfl hE dX8_isSuspendedNow_24
theorem kd_X8_stockOf : yX8_stockOf.cls = RX8 ∧ yX8_stockOf.cls ≠ "java/lang/invoke/MethodHandle" ∧ yX8_stockOf.cls ≠ "java/lang/invoke/VarHandle" ∧ (parseMethodDescriptor yX8_stockOf.desc).map (fun d => d.parameters.length) = some 2 := by decide +kernel
def f_X8_stockOf_j22 (I : Nat → Int32) (A : Nat → Nat → Int32)  (y1 : Int32) (y2 : Int32) (s0 : Int32) : Option (Int32 × (Nat → Int32)) :=
  qf_bd2 (f_X8_fails I s0) fun r3 I4 =>
  if r3 = 0 then (qf_ld 250 (A 0) (((145 : Int32) + ((6 : Int32) * y1)) + y2) fun x5 =>
    some (x5, I4)) else (some ((0 : Int32), I4))
def f_X8_stockOf_j21 (I : Nat → Int32) (A : Nat → Nat → Int32)  (y1 : Int32) (y2 : Int32) : Option (Int32 × (Nat → Int32)) :=
  f_X8_stockOf_j22 I A y1 y2 (0 : Int32)
def f_X8_stockOf (A : Nat → Nat → Int32) (I : Nat → Int32) (p1 : Int32) (p2 : Int32) : Option (Int32 × (Nat → Int32)) :=
  qf_bd (f_X8_isShop A p1) fun r1 =>
  if r1 = 0 then (f_X8_stockOf_j21 I A p1 p2) else (qf_bd (f_X8_isGood A p2) fun r2 =>
    if r2 = 0 then (f_X8_stockOf_j21 I A p1 p2) else (f_X8_stockOf_j22 I A p1 p2 (1 : Int32)))
abbrev wz_X8_stockOf : List Cond := Cond.code yX8_stockOf cX8_stockOf 3 (some .int) :: qw_big
def rm_X8_stockOf : Room := { frames := 2, cells := 0, slots := 0, locals := 43 }
set_option maxHeartbeats 4000000 in
set_option maxRecDepth 100000 in
theorem c_X8_stockOf (l : Launch) {D : va_G} {cy : Nat → ClassId} {ad : Nat → Nat} {I : Nat → Int32} {A : Nat → Nat → Int32} {w : Int64} {p1 : Int32} {p2 : Int32} {rv : Int32} {I9 : Nat → Int32} {sz : Nat} (hf : f_X8_stockOf A I p1 p2 = some (rv, I9)) : Met l yX8_stockOf wz_X8_stockOf rm_X8_stockOf (va_Pc [.ref (ad 0), .int p1, .int p2] (qw_Pre D cy (Wm cy ad I A w) sz)) (qw_Q (some (.int rv)) D (Wm cy ad I9 A w) (va_A (Wm cy ad I A w) sz)) 0 0 (va_A (Wm cy ad I A w) sz) := by
  refine qw_of (cc := cX8_stockOf) (maxL := 3) (ret := (some .int)) (by decide) (Nat.le_of_ble_eq_true rfl) ?_
  intro p e s m args below meth c ls S0 hr hlocks hsz V hl
  have S0 : CallFix p m c cX8_stockOf 3 s args qw_big RX8 := S0
  have hx := S0.1; have hb := S0.2.1; have hown := S0.2.2.2.1; have hts := S0.2.2.2.2
  have hl : lv_has ls 3 [(0, .ref (ad 0)), (1, .int p1), (2, .int p2)] := hl
  generalize va_A (Wm cy ad I A w) sz = Z9 at V ⊢
  obtain ⟨Q9, hQ⟩ : ∃ q, q = MQ below (qw_Q (some (.int rv)) D (Wm cy ad I9 A w) Z9) args s 0 0 Z9 := ⟨_, rfl⟩
  rw [← hQ]
  clear hsz
  have J_22 : ∀   {y1 : Int32} {y2 : Int32} {s0 : Int32} {H : Heap} {locs : List Loc} {ls : Array Slot}, f_X8_stockOf_j22 I A y1 y2 s0 = some (rv, I9) → qw_V D cy Z9 s (Wm cy ad I A w) H locs → lv_has ls 3 [(0, .ref (ad 0)), (1, .int y1), (2, .int y2)] → W p l e rm_X8_stockOf s m args below meth c H locs 0 0 Q9 (F0 m 22 ls [.int s0, .ref (ad 0)]) := by
    intro y1 y2 s0 H locs ls hf V hl
    unfold f_X8_stockOf_j22 at hf
    obtain ⟨r3, I4, hc_22, hf⟩ := qf_bd2_e hf
    refine qw_cV (rest := []) (st1 := [.int r3]) S0 V hl 0 gM_0 rfl (c_X8_fails l hc_22) kg_X8_201 rfl ⟨rfl, rfl⟩ kd_X8_fails ⟨Nat.le_of_ble_eq_true rfl, Nat.le_of_ble_eq_true rfl⟩ rfl rfl (Nat.le_of_ble_eq_true rfl) ⟨Nat.zero_le _, Nat.zero_le _⟩ rfl dX8_stockOf_22 (fun H locs V => ?_)
    refine lv_if_eq (tgt := 32) hx hb dX8_stockOf_25 (by decide) (fun c_25 => ?_) (fun c_25 => ?_)
    · replace hf := qf_t c_25 hf
      refine lv_aload_n hx hb dX8_stockOf_32 rfl (lv_at hl 0 rfl) ?_
      refine gfM_0_0 S0 V kl_X8_7 dX8_stockOf_33 ?_
      refine lv_sipush (v := 145) hx hb dX8_stockOf_36 (by decide) ?_
      refine lv_bipush (v := 6) hx hb dX8_stockOf_39 (by decide) ?_
      refine lv_iload_n hx hb dX8_stockOf_41 rfl (lv_at hl 1 rfl) ?_
      refine lv_imul hx hb dX8_stockOf_42 ?_
      refine lv_iadd hx hb dX8_stockOf_43 ?_
      refine lv_iload_n hx hb dX8_stockOf_44 rfl (lv_at hl 2 rfl) ?_
      refine lv_iadd hx hb dX8_stockOf_45 ?_
      have h_46 := qf_ld_in hf
      refine alM_1 S0 V h_46 dX8_stockOf_46 ?_
      refine lv_topi (fun x5 e_x5 => ?_)
      replace hf := qf_ld_e e_x5 hf
      have hE := Option.some.inj hf
      obtain ⟨e0, hE⟩ := qf_pr hE
      exact qw_ireti S0 hr hlocks hQ e0 (by rw [hE]) V dX8_stockOf_47
    · replace hf := qf_f c_25 hf
      refine lv_iconst (v := 0) hx hb dX8_stockOf_28 (by decide) ?_
      refine lv_goto (tgt := 47) hx hb dX8_stockOf_29 (by decide) ?_
      have hE := Option.some.inj hf
      obtain ⟨e0, hE⟩ := qf_pr hE
      exact qw_ireti S0 hr hlocks hQ e0 (by rw [hE]) V dX8_stockOf_47
  have J_21 : ∀   {y1 : Int32} {y2 : Int32} {H : Heap} {locs : List Loc} {ls : Array Slot}, f_X8_stockOf_j21 I A y1 y2 = some (rv, I9) → qw_V D cy Z9 s (Wm cy ad I A w) H locs → lv_has ls 3 [(0, .ref (ad 0)), (1, .int y1), (2, .int y2)] → W p l e rm_X8_stockOf s m args below meth c H locs 0 0 Q9 (F0 m 21 ls [.ref (ad 0)]) := by
    intro y1 y2 H locs ls hf V hl
    unfold f_X8_stockOf_j21 at hf
    refine lv_iconst (v := 0) hx hb dX8_stockOf_21 (by decide) ?_
    exact J_22 hf V (lv_sub hl [0, 1, 2] rfl)
  unfold f_X8_stockOf at hf
  refine lv_aload_n hx hb dX8_stockOf_0 rfl (lv_at hl 0 rfl) ?_
  refine lv_aload_n hx hb dX8_stockOf_1 rfl (lv_at hl 0 rfl) ?_
  refine lv_iload_n hx hb dX8_stockOf_2 rfl (lv_at hl 1 rfl) ?_
  obtain ⟨r1, hc_3, hf⟩ := qf_bd_e hf
  refine qw_cVR (rest := [.ref (ad 0)]) (st1 := [.int r1, .ref (ad 0)]) S0 V hl 0 gM_0 rfl (c_X8_isShop l hc_3) kg_X8_254 rfl ⟨rfl, rfl⟩ kd_X8_isShop ⟨Nat.le_of_ble_eq_true rfl, Nat.le_of_ble_eq_true rfl⟩ rfl rfl (Nat.le_of_ble_eq_true rfl) ⟨Nat.zero_le _, Nat.zero_le _⟩ rfl dX8_stockOf_3 ?_
  refine lv_if_eq (tgt := 21) hx hb dX8_stockOf_6 (by decide) (fun c_6 => ?_) (fun c_6 => ?_)
  · replace hf := qf_t c_6 hf
    exact J_21 hf V (lv_sub hl [0, 1, 2] rfl)
  · replace hf := qf_f c_6 hf
    refine lv_aload_n hx hb dX8_stockOf_9 rfl (lv_at hl 0 rfl) ?_
    refine lv_iload_n hx hb dX8_stockOf_10 rfl (lv_at hl 2 rfl) ?_
    obtain ⟨r2, hc_11, hf⟩ := qf_bd_e hf
    refine qw_cVR (rest := [.ref (ad 0)]) (st1 := [.int r2, .ref (ad 0)]) S0 V hl 0 gM_0 rfl (c_X8_isGood l hc_11) kg_X8_205 rfl ⟨rfl, rfl⟩ kd_X8_isGood ⟨Nat.le_of_ble_eq_true rfl, Nat.le_of_ble_eq_true rfl⟩ rfl rfl (Nat.le_of_ble_eq_true rfl) ⟨Nat.zero_le _, Nat.zero_le _⟩ rfl dX8_stockOf_11 ?_
    refine lv_if_eq (tgt := 21) hx hb dX8_stockOf_14 (by decide) (fun c_14 => ?_) (fun c_14 => ?_)
    · replace hf := qf_t c_14 hf
      exact J_21 hf V (lv_sub hl [0, 1, 2] rfl)
    · replace hf := qf_f c_14 hf
      refine lv_iconst (v := 1) hx hb dX8_stockOf_17 (by decide) ?_
      refine lv_goto (tgt := 22) hx hb dX8_stockOf_18 (by decide) ?_
      exact J_22 hf V (lv_sub hl [0, 1, 2] rfl)
theorem kd_X8_accountOf : yX8_accountOf.cls = RX8 ∧ yX8_accountOf.cls ≠ "java/lang/invoke/MethodHandle" ∧ yX8_accountOf.cls ≠ "java/lang/invoke/VarHandle" ∧ (parseMethodDescriptor yX8_accountOf.desc).map (fun d => d.parameters.length) = some 2 := by decide +kernel
def f_X8_accountOf_j22 (I : Nat → Int32) (A : Nat → Nat → Int32)  (y1 : Int32) (y2 : Int32) (s0 : Int32) : Option (Int32 × (Nat → Int32)) :=
  qf_bd2 (f_X8_fails I s0) fun r3 I4 =>
  if r3 = 0 then (qf_ld 250 (A 0) (((169 : Int32) + ((4 : Int32) * y1)) + y2) fun x5 =>
    some (x5, I4)) else (some ((0 : Int32), I4))
def f_X8_accountOf_j21 (I : Nat → Int32) (A : Nat → Nat → Int32)  (y1 : Int32) (y2 : Int32) : Option (Int32 × (Nat → Int32)) :=
  f_X8_accountOf_j22 I A y1 y2 (0 : Int32)
def f_X8_accountOf (A : Nat → Nat → Int32) (I : Nat → Int32) (p1 : Int32) (p2 : Int32) : Option (Int32 × (Nat → Int32)) :=
  qf_bd (f_X8_isShop A p1) fun r1 =>
  if r1 = 0 then (f_X8_accountOf_j21 I A p1 p2) else (qf_bd (f_X8_isGroup A p2) fun r2 =>
    if r2 = 0 then (f_X8_accountOf_j21 I A p1 p2) else (f_X8_accountOf_j22 I A p1 p2 (1 : Int32)))
abbrev wz_X8_accountOf : List Cond := Cond.code yX8_accountOf cX8_accountOf 3 (some .int) :: qw_big
def rm_X8_accountOf : Room := { frames := 2, cells := 0, slots := 0, locals := 43 }
set_option maxHeartbeats 4000000 in
set_option maxRecDepth 100000 in
theorem c_X8_accountOf (l : Launch) {D : va_G} {cy : Nat → ClassId} {ad : Nat → Nat} {I : Nat → Int32} {A : Nat → Nat → Int32} {w : Int64} {p1 : Int32} {p2 : Int32} {rv : Int32} {I9 : Nat → Int32} {sz : Nat} (hf : f_X8_accountOf A I p1 p2 = some (rv, I9)) : Met l yX8_accountOf wz_X8_accountOf rm_X8_accountOf (va_Pc [.ref (ad 0), .int p1, .int p2] (qw_Pre D cy (Wm cy ad I A w) sz)) (qw_Q (some (.int rv)) D (Wm cy ad I9 A w) (va_A (Wm cy ad I A w) sz)) 0 0 (va_A (Wm cy ad I A w) sz) := by
  refine qw_of (cc := cX8_accountOf) (maxL := 3) (ret := (some .int)) (by decide) (Nat.le_of_ble_eq_true rfl) ?_
  intro p e s m args below meth c ls S0 hr hlocks hsz V hl
  have S0 : CallFix p m c cX8_accountOf 3 s args qw_big RX8 := S0
  have hx := S0.1; have hb := S0.2.1; have hown := S0.2.2.2.1; have hts := S0.2.2.2.2
  have hl : lv_has ls 3 [(0, .ref (ad 0)), (1, .int p1), (2, .int p2)] := hl
  generalize va_A (Wm cy ad I A w) sz = Z9 at V ⊢
  obtain ⟨Q9, hQ⟩ : ∃ q, q = MQ below (qw_Q (some (.int rv)) D (Wm cy ad I9 A w) Z9) args s 0 0 Z9 := ⟨_, rfl⟩
  rw [← hQ]
  clear hsz
  have J_22 : ∀   {y1 : Int32} {y2 : Int32} {s0 : Int32} {H : Heap} {locs : List Loc} {ls : Array Slot}, f_X8_accountOf_j22 I A y1 y2 s0 = some (rv, I9) → qw_V D cy Z9 s (Wm cy ad I A w) H locs → lv_has ls 3 [(0, .ref (ad 0)), (1, .int y1), (2, .int y2)] → W p l e rm_X8_accountOf s m args below meth c H locs 0 0 Q9 (F0 m 22 ls [.int s0, .ref (ad 0)]) := by
    intro y1 y2 s0 H locs ls hf V hl
    unfold f_X8_accountOf_j22 at hf
    obtain ⟨r3, I4, hc_22, hf⟩ := qf_bd2_e hf
    refine qw_cV (rest := []) (st1 := [.int r3]) S0 V hl 0 gM_0 rfl (c_X8_fails l hc_22) kg_X8_201 rfl ⟨rfl, rfl⟩ kd_X8_fails ⟨Nat.le_of_ble_eq_true rfl, Nat.le_of_ble_eq_true rfl⟩ rfl rfl (Nat.le_of_ble_eq_true rfl) ⟨Nat.zero_le _, Nat.zero_le _⟩ rfl dX8_accountOf_22 (fun H locs V => ?_)
    refine lv_if_eq (tgt := 32) hx hb dX8_accountOf_25 (by decide) (fun c_25 => ?_) (fun c_25 => ?_)
    · replace hf := qf_t c_25 hf
      refine lv_aload_n hx hb dX8_accountOf_32 rfl (lv_at hl 0 rfl) ?_
      refine gfM_0_0 S0 V kl_X8_7 dX8_accountOf_33 ?_
      refine lv_sipush (v := 169) hx hb dX8_accountOf_36 (by decide) ?_
      refine lv_iconst (v := 4) hx hb dX8_accountOf_39 (by decide) ?_
      refine lv_iload_n hx hb dX8_accountOf_40 rfl (lv_at hl 1 rfl) ?_
      refine lv_imul hx hb dX8_accountOf_41 ?_
      refine lv_iadd hx hb dX8_accountOf_42 ?_
      refine lv_iload_n hx hb dX8_accountOf_43 rfl (lv_at hl 2 rfl) ?_
      refine lv_iadd hx hb dX8_accountOf_44 ?_
      have h_45 := qf_ld_in hf
      refine alM_1 S0 V h_45 dX8_accountOf_45 ?_
      refine lv_topi (fun x5 e_x5 => ?_)
      replace hf := qf_ld_e e_x5 hf
      have hE := Option.some.inj hf
      obtain ⟨e0, hE⟩ := qf_pr hE
      exact qw_ireti S0 hr hlocks hQ e0 (by rw [hE]) V dX8_accountOf_46
    · replace hf := qf_f c_25 hf
      refine lv_iconst (v := 0) hx hb dX8_accountOf_28 (by decide) ?_
      refine lv_goto (tgt := 46) hx hb dX8_accountOf_29 (by decide) ?_
      have hE := Option.some.inj hf
      obtain ⟨e0, hE⟩ := qf_pr hE
      exact qw_ireti S0 hr hlocks hQ e0 (by rw [hE]) V dX8_accountOf_46
  have J_21 : ∀   {y1 : Int32} {y2 : Int32} {H : Heap} {locs : List Loc} {ls : Array Slot}, f_X8_accountOf_j21 I A y1 y2 = some (rv, I9) → qw_V D cy Z9 s (Wm cy ad I A w) H locs → lv_has ls 3 [(0, .ref (ad 0)), (1, .int y1), (2, .int y2)] → W p l e rm_X8_accountOf s m args below meth c H locs 0 0 Q9 (F0 m 21 ls [.ref (ad 0)]) := by
    intro y1 y2 H locs ls hf V hl
    unfold f_X8_accountOf_j21 at hf
    refine lv_iconst (v := 0) hx hb dX8_accountOf_21 (by decide) ?_
    exact J_22 hf V (lv_sub hl [0, 1, 2] rfl)
  unfold f_X8_accountOf at hf
  refine lv_aload_n hx hb dX8_accountOf_0 rfl (lv_at hl 0 rfl) ?_
  refine lv_aload_n hx hb dX8_accountOf_1 rfl (lv_at hl 0 rfl) ?_
  refine lv_iload_n hx hb dX8_accountOf_2 rfl (lv_at hl 1 rfl) ?_
  obtain ⟨r1, hc_3, hf⟩ := qf_bd_e hf
  refine qw_cVR (rest := [.ref (ad 0)]) (st1 := [.int r1, .ref (ad 0)]) S0 V hl 0 gM_0 rfl (c_X8_isShop l hc_3) kg_X8_254 rfl ⟨rfl, rfl⟩ kd_X8_isShop ⟨Nat.le_of_ble_eq_true rfl, Nat.le_of_ble_eq_true rfl⟩ rfl rfl (Nat.le_of_ble_eq_true rfl) ⟨Nat.zero_le _, Nat.zero_le _⟩ rfl dX8_accountOf_3 ?_
  refine lv_if_eq (tgt := 21) hx hb dX8_accountOf_6 (by decide) (fun c_6 => ?_) (fun c_6 => ?_)
  · replace hf := qf_t c_6 hf
    exact J_21 hf V (lv_sub hl [0, 1, 2] rfl)
  · replace hf := qf_f c_6 hf
    refine lv_aload_n hx hb dX8_accountOf_9 rfl (lv_at hl 0 rfl) ?_
    refine lv_iload_n hx hb dX8_accountOf_10 rfl (lv_at hl 2 rfl) ?_
    obtain ⟨r2, hc_11, hf⟩ := qf_bd_e hf
    refine qw_cVR (rest := [.ref (ad 0)]) (st1 := [.int r2, .ref (ad 0)]) S0 V hl 0 gM_0 rfl (c_X8_isGroup l hc_11) kg_X8_197 rfl ⟨rfl, rfl⟩ kd_X8_isGroup ⟨Nat.le_of_ble_eq_true rfl, Nat.le_of_ble_eq_true rfl⟩ rfl rfl (Nat.le_of_ble_eq_true rfl) ⟨Nat.zero_le _, Nat.zero_le _⟩ rfl dX8_accountOf_11 ?_
    refine lv_if_eq (tgt := 21) hx hb dX8_accountOf_14 (by decide) (fun c_14 => ?_) (fun c_14 => ?_)
    · replace hf := qf_t c_14 hf
      exact J_21 hf V (lv_sub hl [0, 1, 2] rfl)
    · replace hf := qf_f c_14 hf
      refine lv_iconst (v := 1) hx hb dX8_accountOf_17 (by decide) ?_
      refine lv_goto (tgt := 22) hx hb dX8_accountOf_18 (by decide) ?_
      exact J_22 hf V (lv_sub hl [0, 1, 2] rfl)
theorem kd_X8_penaltyOf : yX8_penaltyOf.cls = RX8 ∧ yX8_penaltyOf.cls ≠ "java/lang/invoke/MethodHandle" ∧ yX8_penaltyOf.cls ≠ "java/lang/invoke/VarHandle" ∧ (parseMethodDescriptor yX8_penaltyOf.desc).map (fun d => d.parameters.length) = some 1 := by decide +kernel
def f_X8_penaltyOf (A : Nat → Nat → Int32) (I : Nat → Int32) (p1 : Int32) : Option (Int32 × (Nat → Int32)) :=
  qf_bd (f_X8_isShop A p1) fun r1 =>
  qf_bd2 (f_X8_fails I r1) fun r2 I3 =>
  if r2 = 0 then (qf_ld 250 (A 0) ((185 : Int32) + p1) fun x4 =>
    some (x4, I3)) else (some ((0 : Int32), I3))
abbrev wz_X8_penaltyOf : List Cond := Cond.code yX8_penaltyOf cX8_penaltyOf 2 (some .int) :: qw_big
def rm_X8_penaltyOf : Room := { frames := 2, cells := 0, slots := 0, locals := 43 }
set_option maxHeartbeats 4000000 in
set_option maxRecDepth 100000 in
theorem c_X8_penaltyOf (l : Launch) {D : va_G} {cy : Nat → ClassId} {ad : Nat → Nat} {I : Nat → Int32} {A : Nat → Nat → Int32} {w : Int64} {p1 : Int32} {rv : Int32} {I9 : Nat → Int32} {sz : Nat} (hf : f_X8_penaltyOf A I p1 = some (rv, I9)) : Met l yX8_penaltyOf wz_X8_penaltyOf rm_X8_penaltyOf (va_Pc [.ref (ad 0), .int p1] (qw_Pre D cy (Wm cy ad I A w) sz)) (qw_Q (some (.int rv)) D (Wm cy ad I9 A w) (va_A (Wm cy ad I A w) sz)) 0 0 (va_A (Wm cy ad I A w) sz) := by
  refine qw_of (cc := cX8_penaltyOf) (maxL := 2) (ret := (some .int)) (by decide) (Nat.le_of_ble_eq_true rfl) ?_
  intro p e s m args below meth c ls S0 hr hlocks hsz V hl
  have S0 : CallFix p m c cX8_penaltyOf 2 s args qw_big RX8 := S0
  have hx := S0.1; have hb := S0.2.1; have hown := S0.2.2.2.1; have hts := S0.2.2.2.2
  have hl : lv_has ls 2 [(0, .ref (ad 0)), (1, .int p1)] := hl
  generalize va_A (Wm cy ad I A w) sz = Z9 at V ⊢
  obtain ⟨Q9, hQ⟩ : ∃ q, q = MQ below (qw_Q (some (.int rv)) D (Wm cy ad I9 A w) Z9) args s 0 0 Z9 := ⟨_, rfl⟩
  rw [← hQ]
  clear hsz
  unfold f_X8_penaltyOf at hf
  refine lv_aload_n hx hb dX8_penaltyOf_0 rfl (lv_at hl 0 rfl) ?_
  refine lv_aload_n hx hb dX8_penaltyOf_1 rfl (lv_at hl 0 rfl) ?_
  refine lv_iload_n hx hb dX8_penaltyOf_2 rfl (lv_at hl 1 rfl) ?_
  obtain ⟨r1, hc_3, hf⟩ := qf_bd_e hf
  refine qw_cVR (rest := [.ref (ad 0)]) (st1 := [.int r1, .ref (ad 0)]) S0 V hl 0 gM_0 rfl (c_X8_isShop l hc_3) kg_X8_254 rfl ⟨rfl, rfl⟩ kd_X8_isShop ⟨Nat.le_of_ble_eq_true rfl, Nat.le_of_ble_eq_true rfl⟩ rfl rfl (Nat.le_of_ble_eq_true rfl) ⟨Nat.zero_le _, Nat.zero_le _⟩ rfl dX8_penaltyOf_3 ?_
  obtain ⟨r2, I3, hc_6, hf⟩ := qf_bd2_e hf
  refine qw_cV (rest := []) (st1 := [.int r2]) S0 V hl 0 gM_0 rfl (c_X8_fails l hc_6) kg_X8_201 rfl ⟨rfl, rfl⟩ kd_X8_fails ⟨Nat.le_of_ble_eq_true rfl, Nat.le_of_ble_eq_true rfl⟩ rfl rfl (Nat.le_of_ble_eq_true rfl) ⟨Nat.zero_le _, Nat.zero_le _⟩ rfl dX8_penaltyOf_6 (fun H locs V => ?_)
  refine lv_if_eq (tgt := 16) hx hb dX8_penaltyOf_9 (by decide) (fun c_9 => ?_) (fun c_9 => ?_)
  · replace hf := qf_t c_9 hf
    refine lv_aload_n hx hb dX8_penaltyOf_16 rfl (lv_at hl 0 rfl) ?_
    refine gfM_0_0 S0 V kl_X8_7 dX8_penaltyOf_17 ?_
    refine lv_sipush (v := 185) hx hb dX8_penaltyOf_20 (by decide) ?_
    refine lv_iload_n hx hb dX8_penaltyOf_23 rfl (lv_at hl 1 rfl) ?_
    refine lv_iadd hx hb dX8_penaltyOf_24 ?_
    have h_25 := qf_ld_in hf
    refine alM_1 S0 V h_25 dX8_penaltyOf_25 ?_
    refine lv_topi (fun x4 e_x4 => ?_)
    replace hf := qf_ld_e e_x4 hf
    have hE := Option.some.inj hf
    obtain ⟨e0, hE⟩ := qf_pr hE
    exact qw_ireti S0 hr hlocks hQ e0 (by rw [hE]) V dX8_penaltyOf_26
  · replace hf := qf_f c_9 hf
    refine lv_iconst (v := 0) hx hb dX8_penaltyOf_12 (by decide) ?_
    refine lv_goto (tgt := 26) hx hb dX8_penaltyOf_13 (by decide) ?_
    have hE := Option.some.inj hf
    obtain ⟨e0, hE⟩ := qf_pr hE
    exact qw_ireti S0 hr hlocks hQ e0 (by rw [hE]) V dX8_penaltyOf_26
theorem kd_X8_isSuspended : yX8_isSuspended.cls = RX8 ∧ yX8_isSuspended.cls ≠ "java/lang/invoke/MethodHandle" ∧ yX8_isSuspended.cls ≠ "java/lang/invoke/VarHandle" ∧ (parseMethodDescriptor yX8_isSuspended.desc).map (fun d => d.parameters.length) = some 1 := by decide +kernel
def f_X8_isSuspended (A : Nat → Nat → Int32) (I : Nat → Int32) (p1 : Int32) : Option (Int32 × (Nat → Int32)) :=
  qf_bd (f_X8_isShop A p1) fun r1 =>
  qf_bd2 (f_X8_fails I r1) fun r2 I3 =>
  if r2 = 0 then (qf_bd (f_X8_isSuspendedNow A p1) fun r4 =>
    if r4 = 0 then (some ((0 : Int32), I3)) else (some ((1 : Int32), I3))) else (some ((0 : Int32), I3))
abbrev wz_X8_isSuspended : List Cond := Cond.code yX8_isSuspended cX8_isSuspended 2 (some .boolean) :: qw_big
def rm_X8_isSuspended : Room := { frames := 2, cells := 0, slots := 0, locals := 43 }
set_option maxHeartbeats 4000000 in
set_option maxRecDepth 100000 in
theorem c_X8_isSuspended (l : Launch) {D : va_G} {cy : Nat → ClassId} {ad : Nat → Nat} {I : Nat → Int32} {A : Nat → Nat → Int32} {w : Int64} {p1 : Int32} {rv : Int32} {I9 : Nat → Int32} {sz : Nat} (hf : f_X8_isSuspended A I p1 = some (rv, I9)) : Met l yX8_isSuspended wz_X8_isSuspended rm_X8_isSuspended (va_Pc [.ref (ad 0), .int p1] (qw_Pre D cy (Wm cy ad I A w) sz)) (qw_Q (some (.int rv)) D (Wm cy ad I9 A w) (va_A (Wm cy ad I A w) sz)) 0 0 (va_A (Wm cy ad I A w) sz) := by
  refine qw_of (cc := cX8_isSuspended) (maxL := 2) (ret := (some .boolean)) (by decide) (Nat.le_of_ble_eq_true rfl) ?_
  intro p e s m args below meth c ls S0 hr hlocks hsz V hl
  have S0 : CallFix p m c cX8_isSuspended 2 s args qw_big RX8 := S0
  have hx := S0.1; have hb := S0.2.1; have hown := S0.2.2.2.1; have hts := S0.2.2.2.2
  have hl : lv_has ls 2 [(0, .ref (ad 0)), (1, .int p1)] := hl
  generalize va_A (Wm cy ad I A w) sz = Z9 at V ⊢
  obtain ⟨Q9, hQ⟩ : ∃ q, q = MQ below (qw_Q (some (.int rv)) D (Wm cy ad I9 A w) Z9) args s 0 0 Z9 := ⟨_, rfl⟩
  rw [← hQ]
  clear hsz
  unfold f_X8_isSuspended at hf
  refine lv_aload_n hx hb dX8_isSuspended_0 rfl (lv_at hl 0 rfl) ?_
  refine lv_aload_n hx hb dX8_isSuspended_1 rfl (lv_at hl 0 rfl) ?_
  refine lv_iload_n hx hb dX8_isSuspended_2 rfl (lv_at hl 1 rfl) ?_
  obtain ⟨r1, hc_3, hf⟩ := qf_bd_e hf
  refine qw_cVR (rest := [.ref (ad 0)]) (st1 := [.int r1, .ref (ad 0)]) S0 V hl 0 gM_0 rfl (c_X8_isShop l hc_3) kg_X8_254 rfl ⟨rfl, rfl⟩ kd_X8_isShop ⟨Nat.le_of_ble_eq_true rfl, Nat.le_of_ble_eq_true rfl⟩ rfl rfl (Nat.le_of_ble_eq_true rfl) ⟨Nat.zero_le _, Nat.zero_le _⟩ rfl dX8_isSuspended_3 ?_
  obtain ⟨r2, I3, hc_6, hf⟩ := qf_bd2_e hf
  refine qw_cV (rest := []) (st1 := [.int r2]) S0 V hl 0 gM_0 rfl (c_X8_fails l hc_6) kg_X8_201 rfl ⟨rfl, rfl⟩ kd_X8_fails ⟨Nat.le_of_ble_eq_true rfl, Nat.le_of_ble_eq_true rfl⟩ rfl rfl (Nat.le_of_ble_eq_true rfl) ⟨Nat.zero_le _, Nat.zero_le _⟩ rfl dX8_isSuspended_6 (fun H locs V => ?_)
  refine lv_if_ne (tgt := 24) hx hb dX8_isSuspended_9 (by decide) (fun c_9 => ?_) (fun c_9 => ?_)
  · replace hf := qf_f c_9 hf
    refine lv_iconst (v := 0) hx hb dX8_isSuspended_24 (by decide) ?_
    have hE := Option.some.inj hf
    obtain ⟨e0, hE⟩ := qf_pr hE
    exact qw_zreti S0 hr hlocks hQ e0 (by rw [hE]) rfl V dX8_isSuspended_25
  · replace hf := qf_t c_9 hf
    refine lv_aload_n hx hb dX8_isSuspended_12 rfl (lv_at hl 0 rfl) ?_
    refine lv_iload_n hx hb dX8_isSuspended_13 rfl (lv_at hl 1 rfl) ?_
    obtain ⟨r4, hc_14, hf⟩ := qf_bd_e hf
    refine qw_cVR (rest := []) (st1 := [.int r4]) S0 V hl 0 gM_0 rfl (c_X8_isSuspendedNow l hc_14) kg_X8_257 rfl ⟨rfl, rfl⟩ kd_X8_isSuspendedNow ⟨Nat.le_of_ble_eq_true rfl, Nat.le_of_ble_eq_true rfl⟩ rfl rfl (Nat.le_of_ble_eq_true rfl) ⟨Nat.zero_le _, Nat.zero_le _⟩ rfl dX8_isSuspended_14 ?_
    refine lv_if_eq (tgt := 24) hx hb dX8_isSuspended_17 (by decide) (fun c_17 => ?_) (fun c_17 => ?_)
    · replace hf := qf_t c_17 hf
      refine lv_iconst (v := 0) hx hb dX8_isSuspended_24 (by decide) ?_
      have hE := Option.some.inj hf
      obtain ⟨e0, hE⟩ := qf_pr hE
      exact qw_zreti S0 hr hlocks hQ e0 (by rw [hE]) rfl V dX8_isSuspended_25
    · replace hf := qf_f c_17 hf
      refine lv_iconst (v := 1) hx hb dX8_isSuspended_20 (by decide) ?_
      refine lv_goto (tgt := 25) hx hb dX8_isSuspended_21 (by decide) ?_
      have hE := Option.some.inj hf
      obtain ⟨e0, hE⟩ := qf_pr hE
      exact qw_zreti S0 hr hlocks hQ e0 (by rw [hE]) rfl V dX8_isSuspended_25
theorem kd_X8_soldBy : yX8_soldBy.cls = RX8 ∧ yX8_soldBy.cls ≠ "java/lang/invoke/MethodHandle" ∧ yX8_soldBy.cls ≠ "java/lang/invoke/VarHandle" ∧ (parseMethodDescriptor yX8_soldBy.desc).map (fun d => d.parameters.length) = some 2 := by decide +kernel
def f_X8_soldBy_j22 (I : Nat → Int32) (A : Nat → Nat → Int32)  (y1 : Int32) (y2 : Int32) (s0 : Int32) : Option (Int32 × (Nat → Int32)) :=
  qf_bd2 (f_X8_fails I s0) fun r3 I4 =>
  if r3 = 0 then (qf_ld 250 (A 0) (((189 : Int32) + ((6 : Int32) * y1)) + y2) fun x5 =>
    some (x5, I4)) else (some ((0 : Int32), I4))
def f_X8_soldBy_j21 (I : Nat → Int32) (A : Nat → Nat → Int32)  (y1 : Int32) (y2 : Int32) : Option (Int32 × (Nat → Int32)) :=
  f_X8_soldBy_j22 I A y1 y2 (0 : Int32)
def f_X8_soldBy (A : Nat → Nat → Int32) (I : Nat → Int32) (p1 : Int32) (p2 : Int32) : Option (Int32 × (Nat → Int32)) :=
  qf_bd (f_X8_isShop A p1) fun r1 =>
  if r1 = 0 then (f_X8_soldBy_j21 I A p1 p2) else (qf_bd (f_X8_isGood A p2) fun r2 =>
    if r2 = 0 then (f_X8_soldBy_j21 I A p1 p2) else (f_X8_soldBy_j22 I A p1 p2 (1 : Int32)))
abbrev wz_X8_soldBy : List Cond := Cond.code yX8_soldBy cX8_soldBy 3 (some .int) :: qw_big
def rm_X8_soldBy : Room := { frames := 2, cells := 0, slots := 0, locals := 43 }
set_option maxHeartbeats 4000000 in
set_option maxRecDepth 100000 in
theorem c_X8_soldBy (l : Launch) {D : va_G} {cy : Nat → ClassId} {ad : Nat → Nat} {I : Nat → Int32} {A : Nat → Nat → Int32} {w : Int64} {p1 : Int32} {p2 : Int32} {rv : Int32} {I9 : Nat → Int32} {sz : Nat} (hf : f_X8_soldBy A I p1 p2 = some (rv, I9)) : Met l yX8_soldBy wz_X8_soldBy rm_X8_soldBy (va_Pc [.ref (ad 0), .int p1, .int p2] (qw_Pre D cy (Wm cy ad I A w) sz)) (qw_Q (some (.int rv)) D (Wm cy ad I9 A w) (va_A (Wm cy ad I A w) sz)) 0 0 (va_A (Wm cy ad I A w) sz) := by
  refine qw_of (cc := cX8_soldBy) (maxL := 3) (ret := (some .int)) (by decide) (Nat.le_of_ble_eq_true rfl) ?_
  intro p e s m args below meth c ls S0 hr hlocks hsz V hl
  have S0 : CallFix p m c cX8_soldBy 3 s args qw_big RX8 := S0
  have hx := S0.1; have hb := S0.2.1; have hown := S0.2.2.2.1; have hts := S0.2.2.2.2
  have hl : lv_has ls 3 [(0, .ref (ad 0)), (1, .int p1), (2, .int p2)] := hl
  generalize va_A (Wm cy ad I A w) sz = Z9 at V ⊢
  obtain ⟨Q9, hQ⟩ : ∃ q, q = MQ below (qw_Q (some (.int rv)) D (Wm cy ad I9 A w) Z9) args s 0 0 Z9 := ⟨_, rfl⟩
  rw [← hQ]
  clear hsz
  have J_22 : ∀   {y1 : Int32} {y2 : Int32} {s0 : Int32} {H : Heap} {locs : List Loc} {ls : Array Slot}, f_X8_soldBy_j22 I A y1 y2 s0 = some (rv, I9) → qw_V D cy Z9 s (Wm cy ad I A w) H locs → lv_has ls 3 [(0, .ref (ad 0)), (1, .int y1), (2, .int y2)] → W p l e rm_X8_soldBy s m args below meth c H locs 0 0 Q9 (F0 m 22 ls [.int s0, .ref (ad 0)]) := by
    intro y1 y2 s0 H locs ls hf V hl
    unfold f_X8_soldBy_j22 at hf
    obtain ⟨r3, I4, hc_22, hf⟩ := qf_bd2_e hf
    refine qw_cV (rest := []) (st1 := [.int r3]) S0 V hl 0 gM_0 rfl (c_X8_fails l hc_22) kg_X8_201 rfl ⟨rfl, rfl⟩ kd_X8_fails ⟨Nat.le_of_ble_eq_true rfl, Nat.le_of_ble_eq_true rfl⟩ rfl rfl (Nat.le_of_ble_eq_true rfl) ⟨Nat.zero_le _, Nat.zero_le _⟩ rfl dX8_soldBy_22 (fun H locs V => ?_)
    refine lv_if_eq (tgt := 32) hx hb dX8_soldBy_25 (by decide) (fun c_25 => ?_) (fun c_25 => ?_)
    · replace hf := qf_t c_25 hf
      refine lv_aload_n hx hb dX8_soldBy_32 rfl (lv_at hl 0 rfl) ?_
      refine gfM_0_0 S0 V kl_X8_7 dX8_soldBy_33 ?_
      refine lv_sipush (v := 189) hx hb dX8_soldBy_36 (by decide) ?_
      refine lv_bipush (v := 6) hx hb dX8_soldBy_39 (by decide) ?_
      refine lv_iload_n hx hb dX8_soldBy_41 rfl (lv_at hl 1 rfl) ?_
      refine lv_imul hx hb dX8_soldBy_42 ?_
      refine lv_iadd hx hb dX8_soldBy_43 ?_
      refine lv_iload_n hx hb dX8_soldBy_44 rfl (lv_at hl 2 rfl) ?_
      refine lv_iadd hx hb dX8_soldBy_45 ?_
      have h_46 := qf_ld_in hf
      refine alM_1 S0 V h_46 dX8_soldBy_46 ?_
      refine lv_topi (fun x5 e_x5 => ?_)
      replace hf := qf_ld_e e_x5 hf
      have hE := Option.some.inj hf
      obtain ⟨e0, hE⟩ := qf_pr hE
      exact qw_ireti S0 hr hlocks hQ e0 (by rw [hE]) V dX8_soldBy_47
    · replace hf := qf_f c_25 hf
      refine lv_iconst (v := 0) hx hb dX8_soldBy_28 (by decide) ?_
      refine lv_goto (tgt := 47) hx hb dX8_soldBy_29 (by decide) ?_
      have hE := Option.some.inj hf
      obtain ⟨e0, hE⟩ := qf_pr hE
      exact qw_ireti S0 hr hlocks hQ e0 (by rw [hE]) V dX8_soldBy_47
  have J_21 : ∀   {y1 : Int32} {y2 : Int32} {H : Heap} {locs : List Loc} {ls : Array Slot}, f_X8_soldBy_j21 I A y1 y2 = some (rv, I9) → qw_V D cy Z9 s (Wm cy ad I A w) H locs → lv_has ls 3 [(0, .ref (ad 0)), (1, .int y1), (2, .int y2)] → W p l e rm_X8_soldBy s m args below meth c H locs 0 0 Q9 (F0 m 21 ls [.ref (ad 0)]) := by
    intro y1 y2 H locs ls hf V hl
    unfold f_X8_soldBy_j21 at hf
    refine lv_iconst (v := 0) hx hb dX8_soldBy_21 (by decide) ?_
    exact J_22 hf V (lv_sub hl [0, 1, 2] rfl)
  unfold f_X8_soldBy at hf
  refine lv_aload_n hx hb dX8_soldBy_0 rfl (lv_at hl 0 rfl) ?_
  refine lv_aload_n hx hb dX8_soldBy_1 rfl (lv_at hl 0 rfl) ?_
  refine lv_iload_n hx hb dX8_soldBy_2 rfl (lv_at hl 1 rfl) ?_
  obtain ⟨r1, hc_3, hf⟩ := qf_bd_e hf
  refine qw_cVR (rest := [.ref (ad 0)]) (st1 := [.int r1, .ref (ad 0)]) S0 V hl 0 gM_0 rfl (c_X8_isShop l hc_3) kg_X8_254 rfl ⟨rfl, rfl⟩ kd_X8_isShop ⟨Nat.le_of_ble_eq_true rfl, Nat.le_of_ble_eq_true rfl⟩ rfl rfl (Nat.le_of_ble_eq_true rfl) ⟨Nat.zero_le _, Nat.zero_le _⟩ rfl dX8_soldBy_3 ?_
  refine lv_if_eq (tgt := 21) hx hb dX8_soldBy_6 (by decide) (fun c_6 => ?_) (fun c_6 => ?_)
  · replace hf := qf_t c_6 hf
    exact J_21 hf V (lv_sub hl [0, 1, 2] rfl)
  · replace hf := qf_f c_6 hf
    refine lv_aload_n hx hb dX8_soldBy_9 rfl (lv_at hl 0 rfl) ?_
    refine lv_iload_n hx hb dX8_soldBy_10 rfl (lv_at hl 2 rfl) ?_
    obtain ⟨r2, hc_11, hf⟩ := qf_bd_e hf
    refine qw_cVR (rest := [.ref (ad 0)]) (st1 := [.int r2, .ref (ad 0)]) S0 V hl 0 gM_0 rfl (c_X8_isGood l hc_11) kg_X8_205 rfl ⟨rfl, rfl⟩ kd_X8_isGood ⟨Nat.le_of_ble_eq_true rfl, Nat.le_of_ble_eq_true rfl⟩ rfl rfl (Nat.le_of_ble_eq_true rfl) ⟨Nat.zero_le _, Nat.zero_le _⟩ rfl dX8_soldBy_11 ?_
    refine lv_if_eq (tgt := 21) hx hb dX8_soldBy_14 (by decide) (fun c_14 => ?_) (fun c_14 => ?_)
    · replace hf := qf_t c_14 hf
      exact J_21 hf V (lv_sub hl [0, 1, 2] rfl)
    · replace hf := qf_f c_14 hf
      refine lv_iconst (v := 1) hx hb dX8_soldBy_17 (by decide) ?_
      refine lv_goto (tgt := 22) hx hb dX8_soldBy_18 (by decide) ?_
      exact J_22 hf V (lv_sub hl [0, 1, 2] rfl)
theorem kd_X8_deliveredTo : yX8_deliveredTo.cls = RX8 ∧ yX8_deliveredTo.cls ≠ "java/lang/invoke/MethodHandle" ∧ yX8_deliveredTo.cls ≠ "java/lang/invoke/VarHandle" ∧ (parseMethodDescriptor yX8_deliveredTo.desc).map (fun d => d.parameters.length) = some 2 := by decide +kernel
def f_X8_deliveredTo_j22 (I : Nat → Int32) (A : Nat → Nat → Int32)  (y1 : Int32) (y2 : Int32) (s0 : Int32) : Option (Int32 × (Nat → Int32)) :=
  qf_bd2 (f_X8_fails I s0) fun r3 I4 =>
  if r3 = 0 then (qf_ld 250 (A 0) (((213 : Int32) + ((6 : Int32) * y1)) + y2) fun x5 =>
    some (x5, I4)) else (some ((0 : Int32), I4))
def f_X8_deliveredTo_j21 (I : Nat → Int32) (A : Nat → Nat → Int32)  (y1 : Int32) (y2 : Int32) : Option (Int32 × (Nat → Int32)) :=
  f_X8_deliveredTo_j22 I A y1 y2 (0 : Int32)
def f_X8_deliveredTo (A : Nat → Nat → Int32) (I : Nat → Int32) (p1 : Int32) (p2 : Int32) : Option (Int32 × (Nat → Int32)) :=
  qf_bd (f_X8_isShop A p1) fun r1 =>
  if r1 = 0 then (f_X8_deliveredTo_j21 I A p1 p2) else (qf_bd (f_X8_isGood A p2) fun r2 =>
    if r2 = 0 then (f_X8_deliveredTo_j21 I A p1 p2) else (f_X8_deliveredTo_j22 I A p1 p2 (1 : Int32)))
abbrev wz_X8_deliveredTo : List Cond := Cond.code yX8_deliveredTo cX8_deliveredTo 3 (some .int) :: qw_big
def rm_X8_deliveredTo : Room := { frames := 2, cells := 0, slots := 0, locals := 43 }
set_option maxHeartbeats 4000000 in
set_option maxRecDepth 100000 in
theorem c_X8_deliveredTo (l : Launch) {D : va_G} {cy : Nat → ClassId} {ad : Nat → Nat} {I : Nat → Int32} {A : Nat → Nat → Int32} {w : Int64} {p1 : Int32} {p2 : Int32} {rv : Int32} {I9 : Nat → Int32} {sz : Nat} (hf : f_X8_deliveredTo A I p1 p2 = some (rv, I9)) : Met l yX8_deliveredTo wz_X8_deliveredTo rm_X8_deliveredTo (va_Pc [.ref (ad 0), .int p1, .int p2] (qw_Pre D cy (Wm cy ad I A w) sz)) (qw_Q (some (.int rv)) D (Wm cy ad I9 A w) (va_A (Wm cy ad I A w) sz)) 0 0 (va_A (Wm cy ad I A w) sz) := by
  refine qw_of (cc := cX8_deliveredTo) (maxL := 3) (ret := (some .int)) (by decide) (Nat.le_of_ble_eq_true rfl) ?_
  intro p e s m args below meth c ls S0 hr hlocks hsz V hl
  have S0 : CallFix p m c cX8_deliveredTo 3 s args qw_big RX8 := S0
  have hx := S0.1; have hb := S0.2.1; have hown := S0.2.2.2.1; have hts := S0.2.2.2.2
  have hl : lv_has ls 3 [(0, .ref (ad 0)), (1, .int p1), (2, .int p2)] := hl
  generalize va_A (Wm cy ad I A w) sz = Z9 at V ⊢
  obtain ⟨Q9, hQ⟩ : ∃ q, q = MQ below (qw_Q (some (.int rv)) D (Wm cy ad I9 A w) Z9) args s 0 0 Z9 := ⟨_, rfl⟩
  rw [← hQ]
  clear hsz
  have J_22 : ∀   {y1 : Int32} {y2 : Int32} {s0 : Int32} {H : Heap} {locs : List Loc} {ls : Array Slot}, f_X8_deliveredTo_j22 I A y1 y2 s0 = some (rv, I9) → qw_V D cy Z9 s (Wm cy ad I A w) H locs → lv_has ls 3 [(0, .ref (ad 0)), (1, .int y1), (2, .int y2)] → W p l e rm_X8_deliveredTo s m args below meth c H locs 0 0 Q9 (F0 m 22 ls [.int s0, .ref (ad 0)]) := by
    intro y1 y2 s0 H locs ls hf V hl
    unfold f_X8_deliveredTo_j22 at hf
    obtain ⟨r3, I4, hc_22, hf⟩ := qf_bd2_e hf
    refine qw_cV (rest := []) (st1 := [.int r3]) S0 V hl 0 gM_0 rfl (c_X8_fails l hc_22) kg_X8_201 rfl ⟨rfl, rfl⟩ kd_X8_fails ⟨Nat.le_of_ble_eq_true rfl, Nat.le_of_ble_eq_true rfl⟩ rfl rfl (Nat.le_of_ble_eq_true rfl) ⟨Nat.zero_le _, Nat.zero_le _⟩ rfl dX8_deliveredTo_22 (fun H locs V => ?_)
    refine lv_if_eq (tgt := 32) hx hb dX8_deliveredTo_25 (by decide) (fun c_25 => ?_) (fun c_25 => ?_)
    · replace hf := qf_t c_25 hf
      refine lv_aload_n hx hb dX8_deliveredTo_32 rfl (lv_at hl 0 rfl) ?_
      refine gfM_0_0 S0 V kl_X8_7 dX8_deliveredTo_33 ?_
      refine lv_sipush (v := 213) hx hb dX8_deliveredTo_36 (by decide) ?_
      refine lv_bipush (v := 6) hx hb dX8_deliveredTo_39 (by decide) ?_
      refine lv_iload_n hx hb dX8_deliveredTo_41 rfl (lv_at hl 1 rfl) ?_
      refine lv_imul hx hb dX8_deliveredTo_42 ?_
      refine lv_iadd hx hb dX8_deliveredTo_43 ?_
      refine lv_iload_n hx hb dX8_deliveredTo_44 rfl (lv_at hl 2 rfl) ?_
      refine lv_iadd hx hb dX8_deliveredTo_45 ?_
      have h_46 := qf_ld_in hf
      refine alM_1 S0 V h_46 dX8_deliveredTo_46 ?_
      refine lv_topi (fun x5 e_x5 => ?_)
      replace hf := qf_ld_e e_x5 hf
      have hE := Option.some.inj hf
      obtain ⟨e0, hE⟩ := qf_pr hE
      exact qw_ireti S0 hr hlocks hQ e0 (by rw [hE]) V dX8_deliveredTo_47
    · replace hf := qf_f c_25 hf
      refine lv_iconst (v := 0) hx hb dX8_deliveredTo_28 (by decide) ?_
      refine lv_goto (tgt := 47) hx hb dX8_deliveredTo_29 (by decide) ?_
      have hE := Option.some.inj hf
      obtain ⟨e0, hE⟩ := qf_pr hE
      exact qw_ireti S0 hr hlocks hQ e0 (by rw [hE]) V dX8_deliveredTo_47
  have J_21 : ∀   {y1 : Int32} {y2 : Int32} {H : Heap} {locs : List Loc} {ls : Array Slot}, f_X8_deliveredTo_j21 I A y1 y2 = some (rv, I9) → qw_V D cy Z9 s (Wm cy ad I A w) H locs → lv_has ls 3 [(0, .ref (ad 0)), (1, .int y1), (2, .int y2)] → W p l e rm_X8_deliveredTo s m args below meth c H locs 0 0 Q9 (F0 m 21 ls [.ref (ad 0)]) := by
    intro y1 y2 H locs ls hf V hl
    unfold f_X8_deliveredTo_j21 at hf
    refine lv_iconst (v := 0) hx hb dX8_deliveredTo_21 (by decide) ?_
    exact J_22 hf V (lv_sub hl [0, 1, 2] rfl)
  unfold f_X8_deliveredTo at hf
  refine lv_aload_n hx hb dX8_deliveredTo_0 rfl (lv_at hl 0 rfl) ?_
  refine lv_aload_n hx hb dX8_deliveredTo_1 rfl (lv_at hl 0 rfl) ?_
  refine lv_iload_n hx hb dX8_deliveredTo_2 rfl (lv_at hl 1 rfl) ?_
  obtain ⟨r1, hc_3, hf⟩ := qf_bd_e hf
  refine qw_cVR (rest := [.ref (ad 0)]) (st1 := [.int r1, .ref (ad 0)]) S0 V hl 0 gM_0 rfl (c_X8_isShop l hc_3) kg_X8_254 rfl ⟨rfl, rfl⟩ kd_X8_isShop ⟨Nat.le_of_ble_eq_true rfl, Nat.le_of_ble_eq_true rfl⟩ rfl rfl (Nat.le_of_ble_eq_true rfl) ⟨Nat.zero_le _, Nat.zero_le _⟩ rfl dX8_deliveredTo_3 ?_
  refine lv_if_eq (tgt := 21) hx hb dX8_deliveredTo_6 (by decide) (fun c_6 => ?_) (fun c_6 => ?_)
  · replace hf := qf_t c_6 hf
    exact J_21 hf V (lv_sub hl [0, 1, 2] rfl)
  · replace hf := qf_f c_6 hf
    refine lv_aload_n hx hb dX8_deliveredTo_9 rfl (lv_at hl 0 rfl) ?_
    refine lv_iload_n hx hb dX8_deliveredTo_10 rfl (lv_at hl 2 rfl) ?_
    obtain ⟨r2, hc_11, hf⟩ := qf_bd_e hf
    refine qw_cVR (rest := [.ref (ad 0)]) (st1 := [.int r2, .ref (ad 0)]) S0 V hl 0 gM_0 rfl (c_X8_isGood l hc_11) kg_X8_205 rfl ⟨rfl, rfl⟩ kd_X8_isGood ⟨Nat.le_of_ble_eq_true rfl, Nat.le_of_ble_eq_true rfl⟩ rfl rfl (Nat.le_of_ble_eq_true rfl) ⟨Nat.zero_le _, Nat.zero_le _⟩ rfl dX8_deliveredTo_11 ?_
    refine lv_if_eq (tgt := 21) hx hb dX8_deliveredTo_14 (by decide) (fun c_14 => ?_) (fun c_14 => ?_)
    · replace hf := qf_t c_14 hf
      exact J_21 hf V (lv_sub hl [0, 1, 2] rfl)
    · replace hf := qf_f c_14 hf
      refine lv_iconst (v := 1) hx hb dX8_deliveredTo_17 (by decide) ?_
      refine lv_goto (tgt := 22) hx hb dX8_deliveredTo_18 (by decide) ?_
      exact J_22 hf V (lv_sub hl [0, 1, 2] rfl)
theorem kd_X8_turnover : yX8_turnover.cls = RX8 ∧ yX8_turnover.cls ≠ "java/lang/invoke/MethodHandle" ∧ yX8_turnover.cls ≠ "java/lang/invoke/VarHandle" ∧ (parseMethodDescriptor yX8_turnover.desc).map (fun d => d.parameters.length) = some 1 := by decide +kernel
def f_X8_turnover_l18 (A : Nat → Nat → Int32)  (y1 : Int32) : Nat → (Nat → Int32) → Int32 → Int32 → Option (Int32 × (Nat → Int32))
  | 0, _, _, _ => none
  | n + 1, I, y2, y3 =>
  qf_ld 62 (A 3) (1 : Int32) fun x4 =>
  if x4 ≤ y3 then (some (y2, I)) else (qf_ld 250 (A 0) (((189 : Int32) + ((6 : Int32) * y1)) + y3) fun x5 =>
    qf_ld 62 (A 3) ((26 : Int32) + y3) fun x6 =>
    qf_let ((y2 + (x5 * x6))) fun x7 =>
    qf_let (y3 + (1 : Int32)) fun x8 =>
    f_X8_turnover_l18 A y1 n I x7 x8)
def f_X8_turnover (A : Nat → Nat → Int32) (I : Nat → Int32) (p1 : Int32) : Option (Int32 × (Nat → Int32)) :=
  qf_bd (f_X8_isShop A p1) fun r1 =>
  qf_bd2 (f_X8_fails I r1) fun r2 I3 =>
  if r2 = 0 then (f_X8_turnover_l18 A p1 100000 I3 (0 : Int32) (0 : Int32)) else (some ((0 : Int32), I3))
abbrev wz_X8_turnover : List Cond := Cond.code yX8_turnover cX8_turnover 4 (some .int) :: qw_big
def rm_X8_turnover : Room := { frames := 2, cells := 0, slots := 0, locals := 43 }
set_option maxHeartbeats 4000000 in
set_option maxRecDepth 100000 in
theorem c_X8_turnover (l : Launch) {D : va_G} {cy : Nat → ClassId} {ad : Nat → Nat} {I : Nat → Int32} {A : Nat → Nat → Int32} {w : Int64} {p1 : Int32} {rv : Int32} {I9 : Nat → Int32} {sz : Nat} (hf : f_X8_turnover A I p1 = some (rv, I9)) : Met l yX8_turnover wz_X8_turnover rm_X8_turnover (va_Pc [.ref (ad 0), .int p1] (qw_Pre D cy (Wm cy ad I A w) sz)) (qw_Q (some (.int rv)) D (Wm cy ad I9 A w) (va_A (Wm cy ad I A w) sz)) 0 0 (va_A (Wm cy ad I A w) sz) := by
  refine qw_of (cc := cX8_turnover) (maxL := 4) (ret := (some .int)) (by decide) (Nat.le_of_ble_eq_true rfl) ?_
  intro p e s m args below meth c ls S0 hr hlocks hsz V hl
  have S0 : CallFix p m c cX8_turnover 4 s args qw_big RX8 := S0
  have hx := S0.1; have hb := S0.2.1; have hown := S0.2.2.2.1; have hts := S0.2.2.2.2
  have hl : lv_has ls 4 [(0, .ref (ad 0)), (1, .int p1)] := hl
  generalize va_A (Wm cy ad I A w) sz = Z9 at V ⊢
  obtain ⟨Q9, hQ⟩ : ∃ q, q = MQ below (qw_Q (some (.int rv)) D (Wm cy ad I9 A w) Z9) args s 0 0 Z9 := ⟨_, rfl⟩
  rw [← hQ]
  clear hsz
  have L_18 : ∀  {y1 : Int32} {n : Nat} {I : Nat → Int32} {y2 : Int32} {y3 : Int32} {H : Heap} {locs : List Loc} {ls : Array Slot}, f_X8_turnover_l18 A y1 n I y2 y3 = some (rv, I9) → qw_V D cy Z9 s (Wm cy ad I A w) H locs → lv_has ls 4 [(0, .ref (ad 0)), (1, .int y1), (2, .int y2), (3, .int y3)] → W p l e rm_X8_turnover s m args below meth c H locs 0 0 Q9 (F0 m 18 ls []) := by
    intro y1 n
    induction n with
    | zero => intro I y2 y3 H locs ls hf V hl; exact qf_no hf
    | succ n ih =>
      intro I y2 y3 H locs ls hf V hl
      rw [f_X8_turnover_l18] at hf
      refine lv_iload_n hx hb dX8_turnover_18 rfl (lv_at hl 3 rfl) ?_
      refine lv_aload_n hx hb dX8_turnover_19 rfl (lv_at hl 0 rfl) ?_
      refine gfM_0_5 S0 V kl_X8_19 dX8_turnover_20 ?_
      refine lv_iconst (v := 1) hx hb dX8_turnover_23 (by decide) ?_
      have h_24 := qf_ld_in hf
      refine alM_4 S0 V h_24 dX8_turnover_24 ?_
      refine lv_topi (fun x4 e_x4 => ?_)
      replace hf := qf_ld_e e_x4 hf
      refine lv_icmp_ge (tgt := 62) hx hb dX8_turnover_25 (by decide) (fun c_25 => ?_) (fun c_25 => ?_)
      · replace hf := qf_t c_25 hf
        refine lv_iload_n hx hb dX8_turnover_62 rfl (lv_at hl 2 rfl) ?_
        have hE := Option.some.inj hf
        obtain ⟨e0, hE⟩ := qf_pr hE
        exact qw_ireti S0 hr hlocks hQ e0 (by rw [hE]) V dX8_turnover_63
      · replace hf := qf_f c_25 hf
        refine lv_iload_n hx hb dX8_turnover_28 rfl (lv_at hl 2 rfl) ?_
        refine lv_aload_n hx hb dX8_turnover_29 rfl (lv_at hl 0 rfl) ?_
        refine gfM_0_0 S0 V kl_X8_7 dX8_turnover_30 ?_
        refine lv_sipush (v := 189) hx hb dX8_turnover_33 (by decide) ?_
        refine lv_bipush (v := 6) hx hb dX8_turnover_36 (by decide) ?_
        refine lv_iload_n hx hb dX8_turnover_38 rfl (lv_at hl 1 rfl) ?_
        refine lv_imul hx hb dX8_turnover_39 ?_
        refine lv_iadd hx hb dX8_turnover_40 ?_
        refine lv_iload_n hx hb dX8_turnover_41 rfl (lv_at hl 3 rfl) ?_
        refine lv_iadd hx hb dX8_turnover_42 ?_
        have h_43 := qf_ld_in hf
        refine alM_1 S0 V h_43 dX8_turnover_43 ?_
        refine lv_topi (fun x5 e_x5 => ?_)
        replace hf := qf_ld_e e_x5 hf
        refine lv_aload_n hx hb dX8_turnover_44 rfl (lv_at hl 0 rfl) ?_
        refine gfM_0_5 S0 V kl_X8_19 dX8_turnover_45 ?_
        refine lv_bipush (v := 26) hx hb dX8_turnover_48 (by decide) ?_
        refine lv_iload_n hx hb dX8_turnover_50 rfl (lv_at hl 3 rfl) ?_
        refine lv_iadd hx hb dX8_turnover_51 ?_
        have h_52 := qf_ld_in hf
        refine alM_4 S0 V h_52 dX8_turnover_52 ?_
        refine lv_topi (fun x6 e_x6 => ?_)
        replace hf := qf_ld_e e_x6 hf
        refine lv_imul hx hb dX8_turnover_53 ?_
        refine lv_iadd hx hb dX8_turnover_54 ?_
        refine lv_topi (fun x7 e_x7 => ?_)
        replace hf := qf_let_e e_x7 hf
        refine lv_istore_n (lv' := [(2, .int x7), (0, .ref (ad 0)), (1, .int y1), (3, .int y3)]) hx hb dX8_turnover_55 rfl hl (by decide) rfl (fun ls hl => ?_)
        obtain ⟨x8, e_x8⟩ : ∃ y : Int32, y = y3 + (1 : Int32) := ⟨_, rfl⟩
        refine lv_iinc (v := x8) (lv' := [(3, .int x8), (2, .int x7), (0, .ref (ad 0)), (1, .int y1)]) hx hb dX8_turnover_56 hl (k := 3) rfl (by rw [e_x8]; rfl) (by decide) rfl (fun ls hl => ?_)
        replace hf := qf_let_e e_x8 hf
        refine lv_goto (tgt := 18) hx hb dX8_turnover_59 (by decide) ?_
        exact ih hf V (lv_sub hl [2, 3, 1, 0] rfl)
  unfold f_X8_turnover at hf
  refine lv_aload_n hx hb dX8_turnover_0 rfl (lv_at hl 0 rfl) ?_
  refine lv_aload_n hx hb dX8_turnover_1 rfl (lv_at hl 0 rfl) ?_
  refine lv_iload_n hx hb dX8_turnover_2 rfl (lv_at hl 1 rfl) ?_
  obtain ⟨r1, hc_3, hf⟩ := qf_bd_e hf
  refine qw_cVR (rest := [.ref (ad 0)]) (st1 := [.int r1, .ref (ad 0)]) S0 V hl 0 gM_0 rfl (c_X8_isShop l hc_3) kg_X8_254 rfl ⟨rfl, rfl⟩ kd_X8_isShop ⟨Nat.le_of_ble_eq_true rfl, Nat.le_of_ble_eq_true rfl⟩ rfl rfl (Nat.le_of_ble_eq_true rfl) ⟨Nat.zero_le _, Nat.zero_le _⟩ rfl dX8_turnover_3 ?_
  obtain ⟨r2, I3, hc_6, hf⟩ := qf_bd2_e hf
  refine qw_cV (rest := []) (st1 := [.int r2]) S0 V hl 0 gM_0 rfl (c_X8_fails l hc_6) kg_X8_201 rfl ⟨rfl, rfl⟩ kd_X8_fails ⟨Nat.le_of_ble_eq_true rfl, Nat.le_of_ble_eq_true rfl⟩ rfl rfl (Nat.le_of_ble_eq_true rfl) ⟨Nat.zero_le _, Nat.zero_le _⟩ rfl dX8_turnover_6 (fun H locs V => ?_)
  refine lv_if_eq (tgt := 14) hx hb dX8_turnover_9 (by decide) (fun c_9 => ?_) (fun c_9 => ?_)
  · replace hf := qf_t c_9 hf
    refine lv_iconst (v := 0) hx hb dX8_turnover_14 (by decide) ?_
    refine lv_istore_n (lv' := [(2, .int (0 : Int32)), (0, .ref (ad 0)), (1, .int p1)]) hx hb dX8_turnover_15 rfl hl (by decide) rfl (fun ls hl => ?_)
    refine lv_iconst (v := 0) hx hb dX8_turnover_16 (by decide) ?_
    refine lv_istore_n (lv' := [(3, .int (0 : Int32)), (2, .int (0 : Int32)), (0, .ref (ad 0)), (1, .int p1)]) hx hb dX8_turnover_17 rfl hl (by decide) rfl (fun ls hl => ?_)
    exact L_18 hf V (lv_sub hl [2, 3, 1, 0] rfl)
  · replace hf := qf_f c_9 hf
    refine lv_iconst (v := 0) hx hb dX8_turnover_12 (by decide) ?_
    have hE := Option.some.inj hf
    obtain ⟨e0, hE⟩ := qf_pr hE
    exact qw_ireti S0 hr hlocks hQ e0 (by rw [hE]) V dX8_turnover_13
theorem kd_X8_total : yX8_total.cls = RX8 ∧ yX8_total.cls ≠ "java/lang/invoke/MethodHandle" ∧ yX8_total.cls ≠ "java/lang/invoke/VarHandle" ∧ (parseMethodDescriptor yX8_total.desc).map (fun d => d.parameters.length) = some 2 := by decide +kernel
def f_X8_total (A : Nat → Nat → Int32) (I : Nat → Int32) (p1 : Int32) (p2 : Int32) : Option (Int32 × (Nat → Int32)) :=
  qf_bd (f_X8_isGroup A p2) fun r1 =>
  qf_bd2 (f_X8_fails I r1) fun r2 I3 =>
  if r2 = 0 then (qf_ld 250 (A 0) (p1 + p2) fun x4 =>
    some (x4, I3)) else (some ((0 : Int32), I3))
abbrev wz_X8_total : List Cond := Cond.code yX8_total cX8_total 3 (some .int) :: qw_big
def rm_X8_total : Room := { frames := 2, cells := 0, slots := 0, locals := 43 }
set_option maxHeartbeats 4000000 in
set_option maxRecDepth 100000 in
theorem c_X8_total (l : Launch) {D : va_G} {cy : Nat → ClassId} {ad : Nat → Nat} {I : Nat → Int32} {A : Nat → Nat → Int32} {w : Int64} {p1 : Int32} {p2 : Int32} {rv : Int32} {I9 : Nat → Int32} {sz : Nat} (hf : f_X8_total A I p1 p2 = some (rv, I9)) : Met l yX8_total wz_X8_total rm_X8_total (va_Pc [.ref (ad 0), .int p1, .int p2] (qw_Pre D cy (Wm cy ad I A w) sz)) (qw_Q (some (.int rv)) D (Wm cy ad I9 A w) (va_A (Wm cy ad I A w) sz)) 0 0 (va_A (Wm cy ad I A w) sz) := by
  refine qw_of (cc := cX8_total) (maxL := 3) (ret := (some .int)) (by decide) (Nat.le_of_ble_eq_true rfl) ?_
  intro p e s m args below meth c ls S0 hr hlocks hsz V hl
  have S0 : CallFix p m c cX8_total 3 s args qw_big RX8 := S0
  have hx := S0.1; have hb := S0.2.1; have hown := S0.2.2.2.1; have hts := S0.2.2.2.2
  have hl : lv_has ls 3 [(0, .ref (ad 0)), (1, .int p1), (2, .int p2)] := hl
  generalize va_A (Wm cy ad I A w) sz = Z9 at V ⊢
  obtain ⟨Q9, hQ⟩ : ∃ q, q = MQ below (qw_Q (some (.int rv)) D (Wm cy ad I9 A w) Z9) args s 0 0 Z9 := ⟨_, rfl⟩
  rw [← hQ]
  clear hsz
  unfold f_X8_total at hf
  refine lv_aload_n hx hb dX8_total_0 rfl (lv_at hl 0 rfl) ?_
  refine lv_aload_n hx hb dX8_total_1 rfl (lv_at hl 0 rfl) ?_
  refine lv_iload_n hx hb dX8_total_2 rfl (lv_at hl 2 rfl) ?_
  obtain ⟨r1, hc_3, hf⟩ := qf_bd_e hf
  refine qw_cVR (rest := [.ref (ad 0)]) (st1 := [.int r1, .ref (ad 0)]) S0 V hl 0 gM_0 rfl (c_X8_isGroup l hc_3) kg_X8_197 rfl ⟨rfl, rfl⟩ kd_X8_isGroup ⟨Nat.le_of_ble_eq_true rfl, Nat.le_of_ble_eq_true rfl⟩ rfl rfl (Nat.le_of_ble_eq_true rfl) ⟨Nat.zero_le _, Nat.zero_le _⟩ rfl dX8_total_3 ?_
  obtain ⟨r2, I3, hc_6, hf⟩ := qf_bd2_e hf
  refine qw_cV (rest := []) (st1 := [.int r2]) S0 V hl 0 gM_0 rfl (c_X8_fails l hc_6) kg_X8_201 rfl ⟨rfl, rfl⟩ kd_X8_fails ⟨Nat.le_of_ble_eq_true rfl, Nat.le_of_ble_eq_true rfl⟩ rfl rfl (Nat.le_of_ble_eq_true rfl) ⟨Nat.zero_le _, Nat.zero_le _⟩ rfl dX8_total_6 (fun H locs V => ?_)
  refine lv_if_eq (tgt := 16) hx hb dX8_total_9 (by decide) (fun c_9 => ?_) (fun c_9 => ?_)
  · replace hf := qf_t c_9 hf
    refine lv_aload_n hx hb dX8_total_16 rfl (lv_at hl 0 rfl) ?_
    refine gfM_0_0 S0 V kl_X8_7 dX8_total_17 ?_
    refine lv_iload_n hx hb dX8_total_20 rfl (lv_at hl 1 rfl) ?_
    refine lv_iload_n hx hb dX8_total_21 rfl (lv_at hl 2 rfl) ?_
    refine lv_iadd hx hb dX8_total_22 ?_
    have h_23 := qf_ld_in hf
    refine alM_1 S0 V h_23 dX8_total_23 ?_
    refine lv_topi (fun x4 e_x4 => ?_)
    replace hf := qf_ld_e e_x4 hf
    have hE := Option.some.inj hf
    obtain ⟨e0, hE⟩ := qf_pr hE
    exact qw_ireti S0 hr hlocks hQ e0 (by rw [hE]) V dX8_total_24
  · replace hf := qf_f c_9 hf
    refine lv_iconst (v := 0) hx hb dX8_total_12 (by decide) ?_
    refine lv_goto (tgt := 24) hx hb dX8_total_13 (by decide) ?_
    have hE := Option.some.inj hf
    obtain ⟨e0, hE⟩ := qf_pr hE
    exact qw_ireti S0 hr hlocks hQ e0 (by rw [hE]) V dX8_total_24
theorem kd_X8_issued : yX8_issued.cls = RX8 ∧ yX8_issued.cls ≠ "java/lang/invoke/MethodHandle" ∧ yX8_issued.cls ≠ "java/lang/invoke/VarHandle" ∧ (parseMethodDescriptor yX8_issued.desc).map (fun d => d.parameters.length) = some 1 := by decide +kernel
def f_X8_issued (A : Nat → Nat → Int32) (I : Nat → Int32) (p1 : Int32) : Option (Int32 × (Nat → Int32)) :=
  qf_bd2 (f_X8_total A I (237 : Int32) p1) fun r1 I2 =>
  some (r1, I2)
abbrev wz_X8_issued : List Cond := Cond.code yX8_issued cX8_issued 2 (some .int) :: qw_big
def rm_X8_issued : Room := { frames := 3, cells := 0, slots := 0, locals := 65 }
set_option maxHeartbeats 4000000 in
set_option maxRecDepth 100000 in
theorem c_X8_issued (l : Launch) {D : va_G} {cy : Nat → ClassId} {ad : Nat → Nat} {I : Nat → Int32} {A : Nat → Nat → Int32} {w : Int64} {p1 : Int32} {rv : Int32} {I9 : Nat → Int32} {sz : Nat} (hf : f_X8_issued A I p1 = some (rv, I9)) : Met l yX8_issued wz_X8_issued rm_X8_issued (va_Pc [.ref (ad 0), .int p1] (qw_Pre D cy (Wm cy ad I A w) sz)) (qw_Q (some (.int rv)) D (Wm cy ad I9 A w) (va_A (Wm cy ad I A w) sz)) 0 0 (va_A (Wm cy ad I A w) sz) := by
  refine qw_of (cc := cX8_issued) (maxL := 2) (ret := (some .int)) (by decide) (Nat.le_of_ble_eq_true rfl) ?_
  intro p e s m args below meth c ls S0 hr hlocks hsz V hl
  have S0 : CallFix p m c cX8_issued 2 s args qw_big RX8 := S0
  have hx := S0.1; have hb := S0.2.1; have hown := S0.2.2.2.1; have hts := S0.2.2.2.2
  have hl : lv_has ls 2 [(0, .ref (ad 0)), (1, .int p1)] := hl
  generalize va_A (Wm cy ad I A w) sz = Z9 at V ⊢
  obtain ⟨Q9, hQ⟩ : ∃ q, q = MQ below (qw_Q (some (.int rv)) D (Wm cy ad I9 A w) Z9) args s 0 0 Z9 := ⟨_, rfl⟩
  rw [← hQ]
  clear hsz
  unfold f_X8_issued at hf
  refine lv_aload_n hx hb dX8_issued_0 rfl (lv_at hl 0 rfl) ?_
  refine lv_sipush (v := 237) hx hb dX8_issued_1 (by decide) ?_
  refine lv_iload_n hx hb dX8_issued_4 rfl (lv_at hl 1 rfl) ?_
  obtain ⟨r1, I2, hc_5, hf⟩ := qf_bd2_e hf
  refine qw_cV (rest := []) (st1 := [.int r1]) S0 V hl 0 gM_0 rfl (c_X8_total l hc_5) kg_X8_260 rfl ⟨rfl, rfl⟩ kd_X8_total ⟨Nat.le_of_ble_eq_true rfl, Nat.le_of_ble_eq_true rfl⟩ rfl rfl (Nat.le_of_ble_eq_true rfl) ⟨Nat.zero_le _, Nat.zero_le _⟩ rfl dX8_issued_5 (fun H locs V => ?_)
  have hE := Option.some.inj hf
  obtain ⟨e0, hE⟩ := qf_pr hE
  exact qw_ireti S0 hr hlocks hQ e0 (by rw [hE]) V dX8_issued_8
theorem kd_X8_spent : yX8_spent.cls = RX8 ∧ yX8_spent.cls ≠ "java/lang/invoke/MethodHandle" ∧ yX8_spent.cls ≠ "java/lang/invoke/VarHandle" ∧ (parseMethodDescriptor yX8_spent.desc).map (fun d => d.parameters.length) = some 1 := by decide +kernel
def f_X8_spent (A : Nat → Nat → Int32) (I : Nat → Int32) (p1 : Int32) : Option (Int32 × (Nat → Int32)) :=
  qf_bd2 (f_X8_total A I (241 : Int32) p1) fun r1 I2 =>
  some (r1, I2)
abbrev wz_X8_spent : List Cond := Cond.code yX8_spent cX8_spent 2 (some .int) :: qw_big
def rm_X8_spent : Room := { frames := 3, cells := 0, slots := 0, locals := 65 }
set_option maxHeartbeats 4000000 in
set_option maxRecDepth 100000 in
theorem c_X8_spent (l : Launch) {D : va_G} {cy : Nat → ClassId} {ad : Nat → Nat} {I : Nat → Int32} {A : Nat → Nat → Int32} {w : Int64} {p1 : Int32} {rv : Int32} {I9 : Nat → Int32} {sz : Nat} (hf : f_X8_spent A I p1 = some (rv, I9)) : Met l yX8_spent wz_X8_spent rm_X8_spent (va_Pc [.ref (ad 0), .int p1] (qw_Pre D cy (Wm cy ad I A w) sz)) (qw_Q (some (.int rv)) D (Wm cy ad I9 A w) (va_A (Wm cy ad I A w) sz)) 0 0 (va_A (Wm cy ad I A w) sz) := by
  refine qw_of (cc := cX8_spent) (maxL := 2) (ret := (some .int)) (by decide) (Nat.le_of_ble_eq_true rfl) ?_
  intro p e s m args below meth c ls S0 hr hlocks hsz V hl
  have S0 : CallFix p m c cX8_spent 2 s args qw_big RX8 := S0
  have hx := S0.1; have hb := S0.2.1; have hown := S0.2.2.2.1; have hts := S0.2.2.2.2
  have hl : lv_has ls 2 [(0, .ref (ad 0)), (1, .int p1)] := hl
  generalize va_A (Wm cy ad I A w) sz = Z9 at V ⊢
  obtain ⟨Q9, hQ⟩ : ∃ q, q = MQ below (qw_Q (some (.int rv)) D (Wm cy ad I9 A w) Z9) args s 0 0 Z9 := ⟨_, rfl⟩
  rw [← hQ]
  clear hsz
  unfold f_X8_spent at hf
  refine lv_aload_n hx hb dX8_spent_0 rfl (lv_at hl 0 rfl) ?_
  refine lv_sipush (v := 241) hx hb dX8_spent_1 (by decide) ?_
  refine lv_iload_n hx hb dX8_spent_4 rfl (lv_at hl 1 rfl) ?_
  obtain ⟨r1, I2, hc_5, hf⟩ := qf_bd2_e hf
  refine qw_cV (rest := []) (st1 := [.int r1]) S0 V hl 0 gM_0 rfl (c_X8_total l hc_5) kg_X8_260 rfl ⟨rfl, rfl⟩ kd_X8_total ⟨Nat.le_of_ble_eq_true rfl, Nat.le_of_ble_eq_true rfl⟩ rfl rfl (Nat.le_of_ble_eq_true rfl) ⟨Nat.zero_le _, Nat.zero_le _⟩ rfl dX8_spent_5 (fun H locs V => ?_)
  have hE := Option.some.inj hf
  obtain ⟨e0, hE⟩ := qf_pr hE
  exact qw_ireti S0 hr hlocks hQ e0 (by rw [hE]) V dX8_spent_8
theorem kd_X8_lapsed : yX8_lapsed.cls = RX8 ∧ yX8_lapsed.cls ≠ "java/lang/invoke/MethodHandle" ∧ yX8_lapsed.cls ≠ "java/lang/invoke/VarHandle" ∧ (parseMethodDescriptor yX8_lapsed.desc).map (fun d => d.parameters.length) = some 1 := by decide +kernel
def f_X8_lapsed (A : Nat → Nat → Int32) (I : Nat → Int32) (p1 : Int32) : Option (Int32 × (Nat → Int32)) :=
  qf_bd2 (f_X8_total A I (245 : Int32) p1) fun r1 I2 =>
  some (r1, I2)
abbrev wz_X8_lapsed : List Cond := Cond.code yX8_lapsed cX8_lapsed 2 (some .int) :: qw_big
def rm_X8_lapsed : Room := { frames := 3, cells := 0, slots := 0, locals := 65 }
set_option maxHeartbeats 4000000 in
set_option maxRecDepth 100000 in
theorem c_X8_lapsed (l : Launch) {D : va_G} {cy : Nat → ClassId} {ad : Nat → Nat} {I : Nat → Int32} {A : Nat → Nat → Int32} {w : Int64} {p1 : Int32} {rv : Int32} {I9 : Nat → Int32} {sz : Nat} (hf : f_X8_lapsed A I p1 = some (rv, I9)) : Met l yX8_lapsed wz_X8_lapsed rm_X8_lapsed (va_Pc [.ref (ad 0), .int p1] (qw_Pre D cy (Wm cy ad I A w) sz)) (qw_Q (some (.int rv)) D (Wm cy ad I9 A w) (va_A (Wm cy ad I A w) sz)) 0 0 (va_A (Wm cy ad I A w) sz) := by
  refine qw_of (cc := cX8_lapsed) (maxL := 2) (ret := (some .int)) (by decide) (Nat.le_of_ble_eq_true rfl) ?_
  intro p e s m args below meth c ls S0 hr hlocks hsz V hl
  have S0 : CallFix p m c cX8_lapsed 2 s args qw_big RX8 := S0
  have hx := S0.1; have hb := S0.2.1; have hown := S0.2.2.2.1; have hts := S0.2.2.2.2
  have hl : lv_has ls 2 [(0, .ref (ad 0)), (1, .int p1)] := hl
  generalize va_A (Wm cy ad I A w) sz = Z9 at V ⊢
  obtain ⟨Q9, hQ⟩ : ∃ q, q = MQ below (qw_Q (some (.int rv)) D (Wm cy ad I9 A w) Z9) args s 0 0 Z9 := ⟨_, rfl⟩
  rw [← hQ]
  clear hsz
  unfold f_X8_lapsed at hf
  refine lv_aload_n hx hb dX8_lapsed_0 rfl (lv_at hl 0 rfl) ?_
  refine lv_sipush (v := 245) hx hb dX8_lapsed_1 (by decide) ?_
  refine lv_iload_n hx hb dX8_lapsed_4 rfl (lv_at hl 1 rfl) ?_
  obtain ⟨r1, I2, hc_5, hf⟩ := qf_bd2_e hf
  refine qw_cV (rest := []) (st1 := [.int r1]) S0 V hl 0 gM_0 rfl (c_X8_total l hc_5) kg_X8_260 rfl ⟨rfl, rfl⟩ kd_X8_total ⟨Nat.le_of_ble_eq_true rfl, Nat.le_of_ble_eq_true rfl⟩ rfl rfl (Nat.le_of_ble_eq_true rfl) ⟨Nat.zero_le _, Nat.zero_le _⟩ rfl dX8_lapsed_5 (fun H locs V => ?_)
  have hE := Option.some.inj hf
  obtain ⟨e0, hE⟩ := qf_pr hE
  exact qw_ireti S0 hr hlocks hQ e0 (by rw [hE]) V dX8_lapsed_8
theorem kd_X8_held : yX8_held.cls = RX8 ∧ yX8_held.cls ≠ "java/lang/invoke/MethodHandle" ∧ yX8_held.cls ≠ "java/lang/invoke/VarHandle" ∧ (parseMethodDescriptor yX8_held.desc).map (fun d => d.parameters.length) = some 1 := by decide +kernel
def f_X8_held_l18 (A : Nat → Nat → Int32)  (y1 : Int32) : Nat → (Nat → Int32) → Int32 → Int32 → Option (Int32 × (Nat → Int32))
  | 0, _, _, _ => none
  | n + 1, I, y2, y3 =>
  qf_ld 62 (A 3) (2 : Int32) fun x4 =>
  if x4 ≤ y3 then (some (y2, I)) else (qf_bd (f_X8_couponsOf A y3 y1) fun r5 =>
    qf_let ((y2 + r5)) fun x6 =>
    qf_let (y3 + (1 : Int32)) fun x7 =>
    f_X8_held_l18 A y1 n I x6 x7)
def f_X8_held (A : Nat → Nat → Int32) (I : Nat → Int32) (p1 : Int32) : Option (Int32 × (Nat → Int32)) :=
  qf_bd (f_X8_isGroup A p1) fun r1 =>
  qf_bd2 (f_X8_fails I r1) fun r2 I3 =>
  if r2 = 0 then (f_X8_held_l18 A p1 100000 I3 (0 : Int32) (0 : Int32)) else (some ((0 : Int32), I3))
abbrev wz_X8_held : List Cond := Cond.code yX8_held cX8_held 4 (some .int) :: qw_big
def rm_X8_held : Room := { frames := 2, cells := 0, slots := 0, locals := 45 }
set_option maxHeartbeats 4000000 in
set_option maxRecDepth 100000 in
theorem c_X8_held (l : Launch) {D : va_G} {cy : Nat → ClassId} {ad : Nat → Nat} {I : Nat → Int32} {A : Nat → Nat → Int32} {w : Int64} {p1 : Int32} {rv : Int32} {I9 : Nat → Int32} {sz : Nat} (hf : f_X8_held A I p1 = some (rv, I9)) : Met l yX8_held wz_X8_held rm_X8_held (va_Pc [.ref (ad 0), .int p1] (qw_Pre D cy (Wm cy ad I A w) sz)) (qw_Q (some (.int rv)) D (Wm cy ad I9 A w) (va_A (Wm cy ad I A w) sz)) 0 0 (va_A (Wm cy ad I A w) sz) := by
  refine qw_of (cc := cX8_held) (maxL := 4) (ret := (some .int)) (by decide) (Nat.le_of_ble_eq_true rfl) ?_
  intro p e s m args below meth c ls S0 hr hlocks hsz V hl
  have S0 : CallFix p m c cX8_held 4 s args qw_big RX8 := S0
  have hx := S0.1; have hb := S0.2.1; have hown := S0.2.2.2.1; have hts := S0.2.2.2.2
  have hl : lv_has ls 4 [(0, .ref (ad 0)), (1, .int p1)] := hl
  generalize va_A (Wm cy ad I A w) sz = Z9 at V ⊢
  obtain ⟨Q9, hQ⟩ : ∃ q, q = MQ below (qw_Q (some (.int rv)) D (Wm cy ad I9 A w) Z9) args s 0 0 Z9 := ⟨_, rfl⟩
  rw [← hQ]
  clear hsz
  have L_18 : ∀  {y1 : Int32} {n : Nat} {I : Nat → Int32} {y2 : Int32} {y3 : Int32} {H : Heap} {locs : List Loc} {ls : Array Slot}, f_X8_held_l18 A y1 n I y2 y3 = some (rv, I9) → qw_V D cy Z9 s (Wm cy ad I A w) H locs → lv_has ls 4 [(0, .ref (ad 0)), (1, .int y1), (2, .int y2), (3, .int y3)] → W p l e rm_X8_held s m args below meth c H locs 0 0 Q9 (F0 m 18 ls []) := by
    intro y1 n
    induction n with
    | zero => intro I y2 y3 H locs ls hf V hl; exact qf_no hf
    | succ n ih =>
      intro I y2 y3 H locs ls hf V hl
      rw [f_X8_held_l18] at hf
      refine lv_iload_n hx hb dX8_held_18 rfl (lv_at hl 3 rfl) ?_
      refine lv_aload_n hx hb dX8_held_19 rfl (lv_at hl 0 rfl) ?_
      refine gfM_0_5 S0 V kl_X8_19 dX8_held_20 ?_
      refine lv_iconst (v := 2) hx hb dX8_held_23 (by decide) ?_
      have h_24 := qf_ld_in hf
      refine alM_4 S0 V h_24 dX8_held_24 ?_
      refine lv_topi (fun x4 e_x4 => ?_)
      replace hf := qf_ld_e e_x4 hf
      refine lv_icmp_ge (tgt := 43) hx hb dX8_held_25 (by decide) (fun c_25 => ?_) (fun c_25 => ?_)
      · replace hf := qf_t c_25 hf
        refine lv_iload_n hx hb dX8_held_43 rfl (lv_at hl 2 rfl) ?_
        have hE := Option.some.inj hf
        obtain ⟨e0, hE⟩ := qf_pr hE
        exact qw_ireti S0 hr hlocks hQ e0 (by rw [hE]) V dX8_held_44
      · replace hf := qf_f c_25 hf
        refine lv_iload_n hx hb dX8_held_28 rfl (lv_at hl 2 rfl) ?_
        refine lv_aload_n hx hb dX8_held_29 rfl (lv_at hl 0 rfl) ?_
        refine lv_iload_n hx hb dX8_held_30 rfl (lv_at hl 3 rfl) ?_
        refine lv_iload_n hx hb dX8_held_31 rfl (lv_at hl 1 rfl) ?_
        obtain ⟨r5, hc_32, hf⟩ := qf_bd_e hf
        refine qw_cVR (rest := [.int y2]) (st1 := [.int r5, .int y2]) S0 V hl 0 gM_0 rfl (c_X8_couponsOf l hc_32) kg_X8_214 rfl ⟨rfl, rfl⟩ kd_X8_couponsOf ⟨Nat.le_of_ble_eq_true rfl, Nat.le_of_ble_eq_true rfl⟩ rfl rfl (Nat.le_of_ble_eq_true rfl) ⟨Nat.zero_le _, Nat.zero_le _⟩ rfl dX8_held_32 ?_
        refine lv_iadd hx hb dX8_held_35 ?_
        refine lv_topi (fun x6 e_x6 => ?_)
        replace hf := qf_let_e e_x6 hf
        refine lv_istore_n (lv' := [(2, .int x6), (0, .ref (ad 0)), (1, .int y1), (3, .int y3)]) hx hb dX8_held_36 rfl hl (by decide) rfl (fun ls hl => ?_)
        obtain ⟨x7, e_x7⟩ : ∃ y : Int32, y = y3 + (1 : Int32) := ⟨_, rfl⟩
        refine lv_iinc (v := x7) (lv' := [(3, .int x7), (2, .int x6), (0, .ref (ad 0)), (1, .int y1)]) hx hb dX8_held_37 hl (k := 3) rfl (by rw [e_x7]; rfl) (by decide) rfl (fun ls hl => ?_)
        replace hf := qf_let_e e_x7 hf
        refine lv_goto (tgt := 18) hx hb dX8_held_40 (by decide) ?_
        exact ih hf V (lv_sub hl [2, 3, 1, 0] rfl)
  unfold f_X8_held at hf
  refine lv_aload_n hx hb dX8_held_0 rfl (lv_at hl 0 rfl) ?_
  refine lv_aload_n hx hb dX8_held_1 rfl (lv_at hl 0 rfl) ?_
  refine lv_iload_n hx hb dX8_held_2 rfl (lv_at hl 1 rfl) ?_
  obtain ⟨r1, hc_3, hf⟩ := qf_bd_e hf
  refine qw_cVR (rest := [.ref (ad 0)]) (st1 := [.int r1, .ref (ad 0)]) S0 V hl 0 gM_0 rfl (c_X8_isGroup l hc_3) kg_X8_197 rfl ⟨rfl, rfl⟩ kd_X8_isGroup ⟨Nat.le_of_ble_eq_true rfl, Nat.le_of_ble_eq_true rfl⟩ rfl rfl (Nat.le_of_ble_eq_true rfl) ⟨Nat.zero_le _, Nat.zero_le _⟩ rfl dX8_held_3 ?_
  obtain ⟨r2, I3, hc_6, hf⟩ := qf_bd2_e hf
  refine qw_cV (rest := []) (st1 := [.int r2]) S0 V hl 0 gM_0 rfl (c_X8_fails l hc_6) kg_X8_201 rfl ⟨rfl, rfl⟩ kd_X8_fails ⟨Nat.le_of_ble_eq_true rfl, Nat.le_of_ble_eq_true rfl⟩ rfl rfl (Nat.le_of_ble_eq_true rfl) ⟨Nat.zero_le _, Nat.zero_le _⟩ rfl dX8_held_6 (fun H locs V => ?_)
  refine lv_if_eq (tgt := 14) hx hb dX8_held_9 (by decide) (fun c_9 => ?_) (fun c_9 => ?_)
  · replace hf := qf_t c_9 hf
    refine lv_iconst (v := 0) hx hb dX8_held_14 (by decide) ?_
    refine lv_istore_n (lv' := [(2, .int (0 : Int32)), (0, .ref (ad 0)), (1, .int p1)]) hx hb dX8_held_15 rfl hl (by decide) rfl (fun ls hl => ?_)
    refine lv_iconst (v := 0) hx hb dX8_held_16 (by decide) ?_
    refine lv_istore_n (lv' := [(3, .int (0 : Int32)), (2, .int (0 : Int32)), (0, .ref (ad 0)), (1, .int p1)]) hx hb dX8_held_17 rfl hl (by decide) rfl (fun ls hl => ?_)
    exact L_18 hf V (lv_sub hl [2, 3, 1, 0] rfl)
  · replace hf := qf_f c_9 hf
    refine lv_iconst (v := 0) hx hb dX8_held_12 (by decide) ?_
    have hE := Option.some.inj hf
    obtain ⟨e0, hE⟩ := qf_pr hE
    exact qw_ireti S0 hr hlocks hQ e0 (by rw [hE]) V dX8_held_13
theorem kd_X8_replaced : yX8_replaced.cls = RX8 ∧ yX8_replaced.cls ≠ "java/lang/invoke/MethodHandle" ∧ yX8_replaced.cls ≠ "java/lang/invoke/VarHandle" ∧ (parseMethodDescriptor yX8_replaced.desc).map (fun d => d.parameters.length) = some 3 := by decide +kernel
def f_X8_replaced (A : Nat → Nat → Int32) (p1 : Int32) (p2 : Int32) (p3 : Int32) : Option (Int32) :=
  qf_ld 62 (A 3) ((20 : Int32) + p2) fun x1 =>
  qf_ld 62 (A 3) ((26 : Int32) + p2) fun x2 =>
  qf_bd (f_X8_couponsOf A p1 x1) fun r3 =>
  qf_let (((p3 * x2) - r3)) fun x4 =>
  if 0 < x4 then (qf_ld 62 (A 3) ((12 : Int32) + x1) fun x5 =>
    if 0 ≤ x5 then (qf_ld 62 (A 3) ((16 : Int32) + x1) fun x6 =>
      qf_let ((x4 * x6)) fun x7 =>
      qf_ld 62 (A 3) ((12 : Int32) + x1) fun x8 =>
      qf_bd (f_X8_couponsOf A p1 x8) fun r9 =>
      if r9 < x7 then (some ((-1 : Int32))) else (some (x7))) else (some ((-1 : Int32)))) else (some ((0 : Int32)))
abbrev wz_X8_replaced : List Cond := Cond.code yX8_replaced cX8_replaced 7 (some .int) :: qw_big
def rm_X8_replaced : Room := { frames := 2, cells := 0, slots := 0, locals := 45 }
set_option maxHeartbeats 4000000 in
set_option maxRecDepth 100000 in
theorem c_X8_replaced (l : Launch) {D : va_G} {cy : Nat → ClassId} {ad : Nat → Nat} {I : Nat → Int32} {A : Nat → Nat → Int32} {w : Int64} {p1 : Int32} {p2 : Int32} {p3 : Int32} {rv : Int32} {sz : Nat} (hf : f_X8_replaced A p1 p2 p3 = some (rv)) : Met l yX8_replaced wz_X8_replaced rm_X8_replaced (va_Pc [.ref (ad 0), .int p1, .int p2, .int p3] (qw_Pre D cy (Wm cy ad I A w) sz)) (qw_R (some (.int rv))) 0 0 (fun _ => False) := by
  refine qw_of (cc := cX8_replaced) (maxL := 7) (ret := (some .int)) (by decide) (Nat.le_of_ble_eq_true rfl) ?_
  intro p e s m args below meth c ls S0 hr hlocks hsz V hl
  have S0 : CallFix p m c cX8_replaced 7 s args qw_big RX8 := S0
  have hx := S0.1; have hb := S0.2.1; have hown := S0.2.2.2.1; have hts := S0.2.2.2.2
  have hl : lv_has ls 7 [(0, .ref (ad 0)), (1, .int p1), (2, .int p2), (3, .int p3)] := hl
  obtain ⟨Q9, hQ⟩ : ∃ q, q = MQ below (qw_R (some (.int rv))) args s 0 0 (fun _ => False) := ⟨_, rfl⟩
  rw [← hQ]
  generalize va_A (Wm cy ad I A w) sz = Z9 at V
  unfold f_X8_replaced at hf
  refine lv_aload_n hx hb dX8_replaced_0 rfl (lv_at hl 0 rfl) ?_
  refine gfM_0_5 S0 V kl_X8_19 dX8_replaced_1 ?_
  refine lv_bipush (v := 20) hx hb dX8_replaced_4 (by decide) ?_
  refine lv_iload_n hx hb dX8_replaced_6 rfl (lv_at hl 2 rfl) ?_
  refine lv_iadd hx hb dX8_replaced_7 ?_
  have h_8 := qf_ld_in hf
  refine alM_4 S0 V h_8 dX8_replaced_8 ?_
  refine lv_topi (fun x1 e_x1 => ?_)
  replace hf := qf_ld_e e_x1 hf
  refine lv_istore (lv' := [(4, .int x1), (0, .ref (ad 0)), (1, .int p1), (2, .int p2), (3, .int p3)]) hx hb dX8_replaced_9 hl (by decide) rfl (fun ls hl => ?_)
  refine lv_iload_n hx hb dX8_replaced_11 rfl (lv_at hl 4 rfl) ?_
  refine lv_aload_n hx hb dX8_replaced_12 rfl (lv_at hl 1 rfl) ?_
  refine gfM_0_5 S0 V kl_X8_19 dX8_replaced_13 ?_
  refine lv_bipush (v := 26) hx hb dX8_replaced_16 (by decide) ?_
  refine lv_iload_n hx hb dX8_replaced_18 rfl (lv_at hl 3 rfl) ?_
  refine lv_iadd hx hb dX8_replaced_19 ?_
  have h_20 := qf_ld_in hf
  refine alM_4 S0 V h_20 dX8_replaced_20 ?_
  refine lv_topi (fun x2 e_x2 => ?_)
  replace hf := qf_ld_e e_x2 hf
  refine lv_imul hx hb dX8_replaced_21 ?_
  refine lv_aload_n hx hb dX8_replaced_22 rfl (lv_at hl 1 rfl) ?_
  refine lv_iload_n hx hb dX8_replaced_23 rfl (lv_at hl 2 rfl) ?_
  refine lv_iload hx hb dX8_replaced_24 (lv_at hl 0 rfl) ?_
  obtain ⟨r3, hc_26, hf⟩ := qf_bd_e hf
  refine qw_cVR (rest := [.int (p3 * x2)]) (st1 := [.int r3, .int (p3 * x2)]) S0 V hl 0 gM_0 rfl (c_X8_couponsOf l hc_26) kg_X8_214 rfl ⟨rfl, rfl⟩ kd_X8_couponsOf ⟨Nat.le_of_ble_eq_true rfl, Nat.le_of_ble_eq_true rfl⟩ rfl rfl (Nat.le_of_ble_eq_true rfl) ⟨Nat.zero_le _, Nat.zero_le _⟩ rfl dX8_replaced_26 ?_
  refine lv_isub hx hb dX8_replaced_29 ?_
  refine lv_topi (fun x4 e_x4 => ?_)
  replace hf := qf_let_e e_x4 hf
  refine lv_istore (lv' := [(5, .int x4), (4, .int x1), (0, .ref (ad 0)), (1, .int p1), (2, .int p2), (3, .int p3)]) hx hb dX8_replaced_30 hl (by decide) rfl (fun ls hl => ?_)
  refine lv_iload hx hb dX8_replaced_32 (lv_at hl 0 rfl) ?_
  refine lv_if_gt (tgt := 39) hx hb dX8_replaced_34 (by decide) (fun c_34 => ?_) (fun c_34 => ?_)
  · replace hf := qf_t c_34 hf
    refine lv_aload_n hx hb dX8_replaced_39 rfl (lv_at hl 2 rfl) ?_
    refine gfM_0_5 S0 V kl_X8_19 dX8_replaced_40 ?_
    refine lv_bipush (v := 12) hx hb dX8_replaced_43 (by decide) ?_
    refine lv_iload hx hb dX8_replaced_45 (lv_at hl 1 rfl) ?_
    refine lv_iadd hx hb dX8_replaced_47 ?_
    have h_48 := qf_ld_in hf
    refine alM_4 S0 V h_48 dX8_replaced_48 ?_
    refine lv_topi (fun x5 e_x5 => ?_)
    replace hf := qf_ld_e e_x5 hf
    refine lv_if_ge (tgt := 54) hx hb dX8_replaced_49 (by decide) (fun c_49 => ?_) (fun c_49 => ?_)
    · replace hf := qf_t c_49 hf
      refine lv_iload hx hb dX8_replaced_54 (lv_at hl 0 rfl) ?_
      refine lv_aload_n hx hb dX8_replaced_56 rfl (lv_at hl 2 rfl) ?_
      refine gfM_0_5 S0 V kl_X8_19 dX8_replaced_57 ?_
      refine lv_bipush (v := 16) hx hb dX8_replaced_60 (by decide) ?_
      refine lv_iload hx hb dX8_replaced_62 (lv_at hl 1 rfl) ?_
      refine lv_iadd hx hb dX8_replaced_64 ?_
      have h_65 := qf_ld_in hf
      refine alM_4 S0 V h_65 dX8_replaced_65 ?_
      refine lv_topi (fun x6 e_x6 => ?_)
      replace hf := qf_ld_e e_x6 hf
      refine lv_imul hx hb dX8_replaced_66 ?_
      refine lv_topi (fun x7 e_x7 => ?_)
      replace hf := qf_let_e e_x7 hf
      refine lv_istore (lv' := [(6, .int x7), (5, .int x4), (4, .int x1), (0, .ref (ad 0)), (1, .int p1), (2, .int p2), (3, .int p3)]) hx hb dX8_replaced_67 hl (by decide) rfl (fun ls hl => ?_)
      refine lv_iload hx hb dX8_replaced_69 (lv_at hl 0 rfl) ?_
      refine lv_aload_n hx hb dX8_replaced_71 rfl (lv_at hl 3 rfl) ?_
      refine lv_iload_n hx hb dX8_replaced_72 rfl (lv_at hl 4 rfl) ?_
      refine lv_aload_n hx hb dX8_replaced_73 rfl (lv_at hl 3 rfl) ?_
      refine gfM_0_5 S0 V kl_X8_19 dX8_replaced_74 ?_
      refine lv_bipush (v := 12) hx hb dX8_replaced_77 (by decide) ?_
      refine lv_iload hx hb dX8_replaced_79 (lv_at hl 2 rfl) ?_
      refine lv_iadd hx hb dX8_replaced_81 ?_
      have h_82 := qf_ld_in hf
      refine alM_4 S0 V h_82 dX8_replaced_82 ?_
      refine lv_topi (fun x8 e_x8 => ?_)
      replace hf := qf_ld_e e_x8 hf
      obtain ⟨r9, hc_83, hf⟩ := qf_bd_e hf
      refine qw_cVR (rest := [.int x7]) (st1 := [.int r9, .int x7]) S0 V hl 0 gM_0 rfl (c_X8_couponsOf l hc_83) kg_X8_214 rfl ⟨rfl, rfl⟩ kd_X8_couponsOf ⟨Nat.le_of_ble_eq_true rfl, Nat.le_of_ble_eq_true rfl⟩ rfl rfl (Nat.le_of_ble_eq_true rfl) ⟨Nat.zero_le _, Nat.zero_le _⟩ rfl dX8_replaced_83 ?_
      refine lv_icmp_gt (tgt := 94) hx hb dX8_replaced_86 (by decide) (fun c_86 => ?_) (fun c_86 => ?_)
      · replace hf := qf_t c_86 hf
        refine lv_iconst (v := -1) hx hb dX8_replaced_94 (by decide) ?_
        have hE := Option.some.inj hf
        exact qw_iretR S0 hr hlocks hQ hE dX8_replaced_95
      · replace hf := qf_f c_86 hf
        refine lv_iload hx hb dX8_replaced_89 (lv_at hl 0 rfl) ?_
        refine lv_goto (tgt := 95) hx hb dX8_replaced_91 (by decide) ?_
        have hE := Option.some.inj hf
        exact qw_iretR S0 hr hlocks hQ hE dX8_replaced_95
    · replace hf := qf_f c_49 hf
      refine lv_iconst (v := -1) hx hb dX8_replaced_52 (by decide) ?_
      have hE := Option.some.inj hf
      exact qw_iretR S0 hr hlocks hQ hE dX8_replaced_53
  · replace hf := qf_f c_34 hf
    refine lv_iconst (v := 0) hx hb dX8_replaced_37 (by decide) ?_
    have hE := Option.some.inj hf
    exact qw_iretR S0 hr hlocks hQ hE dX8_replaced_38
theorem kd_X8_reason : yX8_reason.cls = RX8 ∧ yX8_reason.cls ≠ "java/lang/invoke/MethodHandle" ∧ yX8_reason.cls ≠ "java/lang/invoke/VarHandle" ∧ (parseMethodDescriptor yX8_reason.desc).map (fun d => d.parameters.length) = some 4 := by decide +kernel
def f_X8_reason (A : Nat → Nat → Int32) (p1 : Int32) (p2 : Int32) (p3 : Int32) (p4 : Int32) : Option (Int32) :=
  qf_bd (f_X8_isSuspendedNow A p2) fun r1 =>
  if r1 = 0 then (qf_ld 250 (A 0) (((145 : Int32) + ((6 : Int32) * p2)) + p3) fun x2 =>
    if p4 ≤ x2 then (qf_bd (f_X8_replaced A p1 p3 p4) fun r3 =>
      if 0 ≤ r3 then (some ((0 : Int32))) else (some ((3 : Int32)))) else (some ((2 : Int32)))) else (some ((1 : Int32)))
abbrev wz_X8_reason : List Cond := Cond.code yX8_reason cX8_reason 5 (some .int) :: qw_big
def rm_X8_reason : Room := { frames := 3, cells := 0, slots := 0, locals := 71 }
set_option maxHeartbeats 4000000 in
set_option maxRecDepth 100000 in
theorem c_X8_reason (l : Launch) {D : va_G} {cy : Nat → ClassId} {ad : Nat → Nat} {I : Nat → Int32} {A : Nat → Nat → Int32} {w : Int64} {p1 : Int32} {p2 : Int32} {p3 : Int32} {p4 : Int32} {rv : Int32} {sz : Nat} (hf : f_X8_reason A p1 p2 p3 p4 = some (rv)) : Met l yX8_reason wz_X8_reason rm_X8_reason (va_Pc [.ref (ad 0), .int p1, .int p2, .int p3, .int p4] (qw_Pre D cy (Wm cy ad I A w) sz)) (qw_R (some (.int rv))) 0 0 (fun _ => False) := by
  refine qw_of (cc := cX8_reason) (maxL := 5) (ret := (some .int)) (by decide) (Nat.le_of_ble_eq_true rfl) ?_
  intro p e s m args below meth c ls S0 hr hlocks hsz V hl
  have S0 : CallFix p m c cX8_reason 5 s args qw_big RX8 := S0
  have hx := S0.1; have hb := S0.2.1; have hown := S0.2.2.2.1; have hts := S0.2.2.2.2
  have hl : lv_has ls 5 [(0, .ref (ad 0)), (1, .int p1), (2, .int p2), (3, .int p3), (4, .int p4)] := hl
  obtain ⟨Q9, hQ⟩ : ∃ q, q = MQ below (qw_R (some (.int rv))) args s 0 0 (fun _ => False) := ⟨_, rfl⟩
  rw [← hQ]
  generalize va_A (Wm cy ad I A w) sz = Z9 at V
  unfold f_X8_reason at hf
  refine lv_aload_n hx hb dX8_reason_0 rfl (lv_at hl 0 rfl) ?_
  refine lv_iload_n hx hb dX8_reason_1 rfl (lv_at hl 2 rfl) ?_
  obtain ⟨r1, hc_2, hf⟩ := qf_bd_e hf
  refine qw_cVR (rest := []) (st1 := [.int r1]) S0 V hl 0 gM_0 rfl (c_X8_isSuspendedNow l hc_2) kg_X8_257 rfl ⟨rfl, rfl⟩ kd_X8_isSuspendedNow ⟨Nat.le_of_ble_eq_true rfl, Nat.le_of_ble_eq_true rfl⟩ rfl rfl (Nat.le_of_ble_eq_true rfl) ⟨Nat.zero_le _, Nat.zero_le _⟩ rfl dX8_reason_2 ?_
  refine lv_if_eq (tgt := 10) hx hb dX8_reason_5 (by decide) (fun c_5 => ?_) (fun c_5 => ?_)
  · replace hf := qf_t c_5 hf
    refine lv_aload_n hx hb dX8_reason_10 rfl (lv_at hl 0 rfl) ?_
    refine gfM_0_0 S0 V kl_X8_7 dX8_reason_11 ?_
    refine lv_sipush (v := 145) hx hb dX8_reason_14 (by decide) ?_
    refine lv_bipush (v := 6) hx hb dX8_reason_17 (by decide) ?_
    refine lv_iload_n hx hb dX8_reason_19 rfl (lv_at hl 2 rfl) ?_
    refine lv_imul hx hb dX8_reason_20 ?_
    refine lv_iadd hx hb dX8_reason_21 ?_
    refine lv_iload_n hx hb dX8_reason_22 rfl (lv_at hl 3 rfl) ?_
    refine lv_iadd hx hb dX8_reason_23 ?_
    have h_24 := qf_ld_in hf
    refine alM_1 S0 V h_24 dX8_reason_24 ?_
    refine lv_topi (fun x2 e_x2 => ?_)
    replace hf := qf_ld_e e_x2 hf
    refine lv_iload hx hb dX8_reason_25 (lv_at hl 4 rfl) ?_
    refine lv_icmp_ge (tgt := 32) hx hb dX8_reason_27 (by decide) (fun c_27 => ?_) (fun c_27 => ?_)
    · replace hf := qf_t c_27 hf
      refine lv_aload_n hx hb dX8_reason_32 rfl (lv_at hl 0 rfl) ?_
      refine lv_iload_n hx hb dX8_reason_33 rfl (lv_at hl 1 rfl) ?_
      refine lv_iload_n hx hb dX8_reason_34 rfl (lv_at hl 3 rfl) ?_
      refine lv_iload hx hb dX8_reason_35 (lv_at hl 4 rfl) ?_
      obtain ⟨r3, hc_37, hf⟩ := qf_bd_e hf
      refine qw_cVR (rest := []) (st1 := [.int r3]) S0 V hl 0 gM_0 rfl (c_X8_replaced l hc_37) kg_X8_263 rfl ⟨rfl, rfl⟩ kd_X8_replaced ⟨Nat.le_of_ble_eq_true rfl, Nat.le_of_ble_eq_true rfl⟩ rfl rfl (Nat.le_of_ble_eq_true rfl) ⟨Nat.zero_le _, Nat.zero_le _⟩ rfl dX8_reason_37 ?_
      refine lv_if_ge (tgt := 47) hx hb dX8_reason_40 (by decide) (fun c_40 => ?_) (fun c_40 => ?_)
      · replace hf := qf_t c_40 hf
        refine lv_iconst (v := 0) hx hb dX8_reason_47 (by decide) ?_
        have hE := Option.some.inj hf
        exact qw_iretR S0 hr hlocks hQ hE dX8_reason_48
      · replace hf := qf_f c_40 hf
        refine lv_iconst (v := 3) hx hb dX8_reason_43 (by decide) ?_
        refine lv_goto (tgt := 48) hx hb dX8_reason_44 (by decide) ?_
        have hE := Option.some.inj hf
        exact qw_iretR S0 hr hlocks hQ hE dX8_reason_48
    · replace hf := qf_f c_27 hf
      refine lv_iconst (v := 2) hx hb dX8_reason_30 (by decide) ?_
      have hE := Option.some.inj hf
      exact qw_iretR S0 hr hlocks hQ hE dX8_reason_31
  · replace hf := qf_f c_5 hf
    refine lv_iconst (v := 1) hx hb dX8_reason_8 (by decide) ?_
    have hE := Option.some.inj hf
    exact qw_iretR S0 hr hlocks hQ hE dX8_reason_9
theorem kd_X8_reasonFor : yX8_reasonFor.cls = RX8 ∧ yX8_reasonFor.cls ≠ "java/lang/invoke/MethodHandle" ∧ yX8_reasonFor.cls ≠ "java/lang/invoke/VarHandle" ∧ (parseMethodDescriptor yX8_reasonFor.desc).map (fun d => d.parameters.length) = some 4 := by decide +kernel
def f_X8_reasonFor_j30 (I : Nat → Int32) (A : Nat → Nat → Int32)  (y1 : Int32) (y2 : Int32) (y3 : Int32) (y4 : Int32) (s0 : Int32) : Option (Int32 × (Nat → Int32)) :=
  qf_bd2 (f_X8_fails I s0) fun r4 I5 =>
  if r4 = 0 then (qf_bd (f_X8_isUnits y4) fun r6 =>
    if r6 = 0 then (some ((-2 : Int32), I5)) else (qf_bd (f_X8_reason A y1 y2 y3 y4) fun r7 =>
      some (r7, I5))) else (some ((0 : Int32), I5))
def f_X8_reasonFor_j29 (I : Nat → Int32) (A : Nat → Nat → Int32)  (y1 : Int32) (y2 : Int32) (y3 : Int32) (y4 : Int32) : Option (Int32 × (Nat → Int32)) :=
  f_X8_reasonFor_j30 I A y1 y2 y3 y4 (0 : Int32)
def f_X8_reasonFor (A : Nat → Nat → Int32) (I : Nat → Int32) (p1 : Int32) (p2 : Int32) (p3 : Int32) (p4 : Int32) : Option (Int32 × (Nat → Int32)) :=
  qf_bd (f_X8_isHouse A p1) fun r1 =>
  if r1 = 0 then (f_X8_reasonFor_j29 I A p1 p2 p3 p4) else (qf_bd (f_X8_isShop A p2) fun r2 =>
    if r2 = 0 then (f_X8_reasonFor_j29 I A p1 p2 p3 p4) else (qf_bd (f_X8_isGood A p3) fun r3 =>
      if r3 = 0 then (f_X8_reasonFor_j29 I A p1 p2 p3 p4) else (f_X8_reasonFor_j30 I A p1 p2 p3 p4 (1 : Int32))))
abbrev wz_X8_reasonFor : List Cond := Cond.code yX8_reasonFor cX8_reasonFor 5 (some .int) :: qw_big
def rm_X8_reasonFor : Room := { frames := 4, cells := 0, slots := 0, locals := 95 }
set_option maxHeartbeats 4000000 in
set_option maxRecDepth 100000 in
theorem c_X8_reasonFor (l : Launch) {D : va_G} {cy : Nat → ClassId} {ad : Nat → Nat} {I : Nat → Int32} {A : Nat → Nat → Int32} {w : Int64} {p1 : Int32} {p2 : Int32} {p3 : Int32} {p4 : Int32} {rv : Int32} {I9 : Nat → Int32} {sz : Nat} (hf : f_X8_reasonFor A I p1 p2 p3 p4 = some (rv, I9)) : Met l yX8_reasonFor wz_X8_reasonFor rm_X8_reasonFor (va_Pc [.ref (ad 0), .int p1, .int p2, .int p3, .int p4] (qw_Pre D cy (Wm cy ad I A w) sz)) (qw_Q (some (.int rv)) D (Wm cy ad I9 A w) (va_A (Wm cy ad I A w) sz)) 0 0 (va_A (Wm cy ad I A w) sz) := by
  refine qw_of (cc := cX8_reasonFor) (maxL := 5) (ret := (some .int)) (by decide) (Nat.le_of_ble_eq_true rfl) ?_
  intro p e s m args below meth c ls S0 hr hlocks hsz V hl
  have S0 : CallFix p m c cX8_reasonFor 5 s args qw_big RX8 := S0
  have hx := S0.1; have hb := S0.2.1; have hown := S0.2.2.2.1; have hts := S0.2.2.2.2
  have hl : lv_has ls 5 [(0, .ref (ad 0)), (1, .int p1), (2, .int p2), (3, .int p3), (4, .int p4)] := hl
  generalize va_A (Wm cy ad I A w) sz = Z9 at V ⊢
  obtain ⟨Q9, hQ⟩ : ∃ q, q = MQ below (qw_Q (some (.int rv)) D (Wm cy ad I9 A w) Z9) args s 0 0 Z9 := ⟨_, rfl⟩
  rw [← hQ]
  clear hsz
  have J_30 : ∀   {y1 : Int32} {y2 : Int32} {y3 : Int32} {y4 : Int32} {s0 : Int32} {H : Heap} {locs : List Loc} {ls : Array Slot}, f_X8_reasonFor_j30 I A y1 y2 y3 y4 s0 = some (rv, I9) → qw_V D cy Z9 s (Wm cy ad I A w) H locs → lv_has ls 5 [(0, .ref (ad 0)), (1, .int y1), (2, .int y2), (3, .int y3), (4, .int y4)] → W p l e rm_X8_reasonFor s m args below meth c H locs 0 0 Q9 (F0 m 30 ls [.int s0, .ref (ad 0)]) := by
    intro y1 y2 y3 y4 s0 H locs ls hf V hl
    unfold f_X8_reasonFor_j30 at hf
    obtain ⟨r4, I5, hc_30, hf⟩ := qf_bd2_e hf
    refine qw_cV (rest := []) (st1 := [.int r4]) S0 V hl 0 gM_0 rfl (c_X8_fails l hc_30) kg_X8_201 rfl ⟨rfl, rfl⟩ kd_X8_fails ⟨Nat.le_of_ble_eq_true rfl, Nat.le_of_ble_eq_true rfl⟩ rfl rfl (Nat.le_of_ble_eq_true rfl) ⟨Nat.zero_le _, Nat.zero_le _⟩ rfl dX8_reasonFor_30 (fun H locs V => ?_)
    refine lv_if_eq (tgt := 38) hx hb dX8_reasonFor_33 (by decide) (fun c_33 => ?_) (fun c_33 => ?_)
    · replace hf := qf_t c_33 hf
      refine lv_iload hx hb dX8_reasonFor_38 (lv_at hl 4 rfl) ?_
      obtain ⟨r6, hc_40, hf⟩ := qf_bd_e hf
      refine qw_cSR (rest := []) (st1 := [.int r6]) S0 V hl (c_X8_isUnits l hc_40) kg_X8_267 rfl ⟨rfl, rfl⟩ kd_X8_isUnits ⟨Nat.le_of_ble_eq_true rfl, Nat.le_of_ble_eq_true rfl⟩ rfl rfl (Nat.le_of_ble_eq_true rfl) ⟨Nat.zero_le _, Nat.zero_le _⟩ rfl dX8_reasonFor_40 ?_
      refine lv_if_eq (tgt := 58) hx hb dX8_reasonFor_43 (by decide) (fun c_43 => ?_) (fun c_43 => ?_)
      · replace hf := qf_t c_43 hf
        refine lv_bipush (v := -2) hx hb dX8_reasonFor_58 (by decide) ?_
        have hE := Option.some.inj hf
        obtain ⟨e0, hE⟩ := qf_pr hE
        exact qw_ireti S0 hr hlocks hQ e0 (by rw [hE]) V dX8_reasonFor_60
      · replace hf := qf_f c_43 hf
        refine lv_aload_n hx hb dX8_reasonFor_46 rfl (lv_at hl 0 rfl) ?_
        refine lv_iload_n hx hb dX8_reasonFor_47 rfl (lv_at hl 1 rfl) ?_
        refine lv_iload_n hx hb dX8_reasonFor_48 rfl (lv_at hl 2 rfl) ?_
        refine lv_iload_n hx hb dX8_reasonFor_49 rfl (lv_at hl 3 rfl) ?_
        refine lv_iload hx hb dX8_reasonFor_50 (lv_at hl 4 rfl) ?_
        obtain ⟨r7, hc_52, hf⟩ := qf_bd_e hf
        refine qw_cVR (rest := []) (st1 := [.int r7]) S0 V hl 0 gM_0 rfl (c_X8_reason l hc_52) kg_X8_270 rfl ⟨rfl, rfl⟩ kd_X8_reason ⟨Nat.le_of_ble_eq_true rfl, Nat.le_of_ble_eq_true rfl⟩ rfl rfl (Nat.le_of_ble_eq_true rfl) ⟨Nat.zero_le _, Nat.zero_le _⟩ rfl dX8_reasonFor_52 ?_
        refine lv_goto (tgt := 60) hx hb dX8_reasonFor_55 (by decide) ?_
        have hE := Option.some.inj hf
        obtain ⟨e0, hE⟩ := qf_pr hE
        exact qw_ireti S0 hr hlocks hQ e0 (by rw [hE]) V dX8_reasonFor_60
    · replace hf := qf_f c_33 hf
      refine lv_iconst (v := 0) hx hb dX8_reasonFor_36 (by decide) ?_
      have hE := Option.some.inj hf
      obtain ⟨e0, hE⟩ := qf_pr hE
      exact qw_ireti S0 hr hlocks hQ e0 (by rw [hE]) V dX8_reasonFor_37
  have J_29 : ∀   {y1 : Int32} {y2 : Int32} {y3 : Int32} {y4 : Int32} {H : Heap} {locs : List Loc} {ls : Array Slot}, f_X8_reasonFor_j29 I A y1 y2 y3 y4 = some (rv, I9) → qw_V D cy Z9 s (Wm cy ad I A w) H locs → lv_has ls 5 [(0, .ref (ad 0)), (1, .int y1), (2, .int y2), (3, .int y3), (4, .int y4)] → W p l e rm_X8_reasonFor s m args below meth c H locs 0 0 Q9 (F0 m 29 ls [.ref (ad 0)]) := by
    intro y1 y2 y3 y4 H locs ls hf V hl
    unfold f_X8_reasonFor_j29 at hf
    refine lv_iconst (v := 0) hx hb dX8_reasonFor_29 (by decide) ?_
    exact J_30 hf V (lv_sub hl [0, 1, 2, 3, 4] rfl)
  unfold f_X8_reasonFor at hf
  refine lv_aload_n hx hb dX8_reasonFor_0 rfl (lv_at hl 0 rfl) ?_
  refine lv_aload_n hx hb dX8_reasonFor_1 rfl (lv_at hl 0 rfl) ?_
  refine lv_iload_n hx hb dX8_reasonFor_2 rfl (lv_at hl 1 rfl) ?_
  obtain ⟨r1, hc_3, hf⟩ := qf_bd_e hf
  refine qw_cVR (rest := [.ref (ad 0)]) (st1 := [.int r1, .ref (ad 0)]) S0 V hl 0 gM_0 rfl (c_X8_isHouse l hc_3) kg_X8_208 rfl ⟨rfl, rfl⟩ kd_X8_isHouse ⟨Nat.le_of_ble_eq_true rfl, Nat.le_of_ble_eq_true rfl⟩ rfl rfl (Nat.le_of_ble_eq_true rfl) ⟨Nat.zero_le _, Nat.zero_le _⟩ rfl dX8_reasonFor_3 ?_
  refine lv_if_eq (tgt := 29) hx hb dX8_reasonFor_6 (by decide) (fun c_6 => ?_) (fun c_6 => ?_)
  · replace hf := qf_t c_6 hf
    exact J_29 hf V (lv_sub hl [0, 1, 2, 3, 4] rfl)
  · replace hf := qf_f c_6 hf
    refine lv_aload_n hx hb dX8_reasonFor_9 rfl (lv_at hl 0 rfl) ?_
    refine lv_iload_n hx hb dX8_reasonFor_10 rfl (lv_at hl 2 rfl) ?_
    obtain ⟨r2, hc_11, hf⟩ := qf_bd_e hf
    refine qw_cVR (rest := [.ref (ad 0)]) (st1 := [.int r2, .ref (ad 0)]) S0 V hl 0 gM_0 rfl (c_X8_isShop l hc_11) kg_X8_254 rfl ⟨rfl, rfl⟩ kd_X8_isShop ⟨Nat.le_of_ble_eq_true rfl, Nat.le_of_ble_eq_true rfl⟩ rfl rfl (Nat.le_of_ble_eq_true rfl) ⟨Nat.zero_le _, Nat.zero_le _⟩ rfl dX8_reasonFor_11 ?_
    refine lv_if_eq (tgt := 29) hx hb dX8_reasonFor_14 (by decide) (fun c_14 => ?_) (fun c_14 => ?_)
    · replace hf := qf_t c_14 hf
      exact J_29 hf V (lv_sub hl [0, 1, 2, 3, 4] rfl)
    · replace hf := qf_f c_14 hf
      refine lv_aload_n hx hb dX8_reasonFor_17 rfl (lv_at hl 0 rfl) ?_
      refine lv_iload_n hx hb dX8_reasonFor_18 rfl (lv_at hl 3 rfl) ?_
      obtain ⟨r3, hc_19, hf⟩ := qf_bd_e hf
      refine qw_cVR (rest := [.ref (ad 0)]) (st1 := [.int r3, .ref (ad 0)]) S0 V hl 0 gM_0 rfl (c_X8_isGood l hc_19) kg_X8_205 rfl ⟨rfl, rfl⟩ kd_X8_isGood ⟨Nat.le_of_ble_eq_true rfl, Nat.le_of_ble_eq_true rfl⟩ rfl rfl (Nat.le_of_ble_eq_true rfl) ⟨Nat.zero_le _, Nat.zero_le _⟩ rfl dX8_reasonFor_19 ?_
      refine lv_if_eq (tgt := 29) hx hb dX8_reasonFor_22 (by decide) (fun c_22 => ?_) (fun c_22 => ?_)
      · replace hf := qf_t c_22 hf
        exact J_29 hf V (lv_sub hl [0, 1, 2, 3, 4] rfl)
      · replace hf := qf_f c_22 hf
        refine lv_iconst (v := 1) hx hb dX8_reasonFor_25 (by decide) ?_
        refine lv_goto (tgt := 30) hx hb dX8_reasonFor_26 (by decide) ?_
        exact J_30 hf V (lv_sub hl [0, 1, 2, 3, 4] rfl)
theorem kd_X8_mostNow : yX8_mostNow.cls = RX8 ∧ yX8_mostNow.cls ≠ "java/lang/invoke/MethodHandle" ∧ yX8_mostNow.cls ≠ "java/lang/invoke/VarHandle" ∧ (parseMethodDescriptor yX8_mostNow.desc).map (fun d => d.parameters.length) = some 3 := by decide +kernel
def f_X8_mostNow_j51 (A : Nat → Nat → Int32) (K8 : Int32 → Int32 → Option (Int32)) (y1 : Int32) (y2 : Int32) (y3 : Int32) (y4 : Int32) (y5 : Int32) : Option (Int32) :=
  K8 y4 y5
def f_X8_mostNow_l8 (A : Nat → Nat → Int32)  (y1 : Int32) (y2 : Int32) (y3 : Int32) : Nat → Int32 → Int32 → Option (Int32)
  | 0, _, _ => none
  | n + 1, y4, y5 =>
  if y5 ≤ y4 then (some (y4)) else (qf_let ((((y4 + y5) + (1 : Int32)) / (2 : Int32))) fun x1 =>
    qf_bd (f_X8_reason A y1 y2 y3 x1) fun r2 =>
    if r2 = 0 then (f_X8_mostNow_j51 A (fun z0 z1 => f_X8_mostNow_l8 A y1 y2 y3 n z0 z1) y1 y2 y3 x1 y5) else (qf_let ((x1 - (1 : Int32))) fun x3 =>
      f_X8_mostNow_j51 A (fun z0 z1 => f_X8_mostNow_l8 A y1 y2 y3 n z0 z1) y1 y2 y3 y4 x3))
def f_X8_mostNow (A : Nat → Nat → Int32) (p1 : Int32) (p2 : Int32) (p3 : Int32) : Option (Int32) :=
  f_X8_mostNow_l8 A p1 p2 p3 100000 (0 : Int32) (9999 : Int32)
abbrev wz_X8_mostNow : List Cond := Cond.code yX8_mostNow cX8_mostNow 7 (some .int) :: qw_big
def rm_X8_mostNow : Room := { frames := 4, cells := 0, slots := 0, locals := 95 }
set_option maxHeartbeats 4000000 in
set_option maxRecDepth 100000 in
theorem c_X8_mostNow (l : Launch) {D : va_G} {cy : Nat → ClassId} {ad : Nat → Nat} {I : Nat → Int32} {A : Nat → Nat → Int32} {w : Int64} {p1 : Int32} {p2 : Int32} {p3 : Int32} {rv : Int32} {sz : Nat} (hf : f_X8_mostNow A p1 p2 p3 = some (rv)) : Met l yX8_mostNow wz_X8_mostNow rm_X8_mostNow (va_Pc [.ref (ad 0), .int p1, .int p2, .int p3] (qw_Pre D cy (Wm cy ad I A w) sz)) (qw_R (some (.int rv))) 0 0 (fun _ => False) := by
  refine qw_of (cc := cX8_mostNow) (maxL := 7) (ret := (some .int)) (by decide) (Nat.le_of_ble_eq_true rfl) ?_
  intro p e s m args below meth c ls S0 hr hlocks hsz V hl
  have S0 : CallFix p m c cX8_mostNow 7 s args qw_big RX8 := S0
  have hx := S0.1; have hb := S0.2.1; have hown := S0.2.2.2.1; have hts := S0.2.2.2.2
  have hl : lv_has ls 7 [(0, .ref (ad 0)), (1, .int p1), (2, .int p2), (3, .int p3)] := hl
  obtain ⟨Q9, hQ⟩ : ∃ q, q = MQ below (qw_R (some (.int rv))) args s 0 0 (fun _ => False) := ⟨_, rfl⟩
  rw [← hQ]
  generalize va_A (Wm cy ad I A w) sz = Z9 at V
  have J_51 : ∀ {K8 : Int32 → Int32 → Option (Int32)} {y1 : Int32} {y2 : Int32} {y3 : Int32}  (hK8 : ∀  {y4 : Int32} {y5 : Int32} {ls : Array Slot}, K8 y4 y5 = some (rv) → lv_has ls 7 [(0, .ref (ad 0)), (1, .int y1), (2, .int y2), (3, .int y3), (4, .int y4), (5, .int y5)] → W p l e rm_X8_mostNow s m args below meth c s.heap [] 0 0 Q9 (F0 m 8 ls []))  {y4 : Int32} {y5 : Int32} {ls : Array Slot}, f_X8_mostNow_j51 A K8 y1 y2 y3 y4 y5 = some (rv) → lv_has ls 7 [(0, .ref (ad 0)), (1, .int y1), (2, .int y2), (3, .int y3), (4, .int y4), (5, .int y5)] → W p l e rm_X8_mostNow s m args below meth c s.heap [] 0 0 Q9 (F0 m 51 ls []) := by
    intro K8 y1 y2 y3 hK8 y4 y5 ls hf hl
    unfold f_X8_mostNow_j51 at hf
    refine lv_goto (tgt := 8) hx hb dX8_mostNow_51 (by decide) ?_
    exact hK8 hf (lv_sub hl [0, 1, 2, 3, 4, 5] rfl)
  have L_8 : ∀  {y1 : Int32} {y2 : Int32} {y3 : Int32} {n : Nat}  {y4 : Int32} {y5 : Int32} {ls : Array Slot}, f_X8_mostNow_l8 A y1 y2 y3 n y4 y5 = some (rv) → lv_has ls 7 [(0, .ref (ad 0)), (1, .int y1), (2, .int y2), (3, .int y3), (4, .int y4), (5, .int y5)] → W p l e rm_X8_mostNow s m args below meth c s.heap [] 0 0 Q9 (F0 m 8 ls []) := by
    intro y1 y2 y3 n
    induction n with
    | zero => intro y4 y5 ls hf hl; exact qf_no hf
    | succ n ih =>
      intro y4 y5 ls hf hl
      rw [f_X8_mostNow_l8] at hf
      refine lv_iload hx hb dX8_mostNow_8 (lv_at hl 4 rfl) ?_
      refine lv_iload hx hb dX8_mostNow_10 (lv_at hl 5 rfl) ?_
      refine lv_icmp_ge (tgt := 54) hx hb dX8_mostNow_12 (by decide) (fun c_12 => ?_) (fun c_12 => ?_)
      · replace hf := qf_t c_12 hf
        refine lv_iload hx hb dX8_mostNow_54 (lv_at hl 4 rfl) ?_
        have hE := Option.some.inj hf
        exact qw_iretR S0 hr hlocks hQ hE dX8_mostNow_56
      · replace hf := qf_f c_12 hf
        refine lv_iload hx hb dX8_mostNow_15 (lv_at hl 4 rfl) ?_
        refine lv_iload hx hb dX8_mostNow_17 (lv_at hl 5 rfl) ?_
        refine lv_iadd hx hb dX8_mostNow_19 ?_
        refine lv_iconst (v := 1) hx hb dX8_mostNow_20 (by decide) ?_
        refine lv_iadd hx hb dX8_mostNow_21 ?_
        refine lv_iconst (v := 2) hx hb dX8_mostNow_22 (by decide) ?_
        refine lv_idiv hx hb dX8_mostNow_23 (by decide) ?_
        refine lv_topi (fun x1 e_x1 => ?_)
        replace hf := qf_let_e e_x1 hf
        refine lv_istore (lv' := [(6, .int x1), (0, .ref (ad 0)), (1, .int y1), (2, .int y2), (3, .int y3), (4, .int y4), (5, .int y5)]) hx hb dX8_mostNow_24 hl (by decide) rfl (fun ls hl => ?_)
        refine lv_aload_n hx hb dX8_mostNow_26 rfl (lv_at hl 1 rfl) ?_
        refine lv_iload_n hx hb dX8_mostNow_27 rfl (lv_at hl 2 rfl) ?_
        refine lv_iload_n hx hb dX8_mostNow_28 rfl (lv_at hl 3 rfl) ?_
        refine lv_iload_n hx hb dX8_mostNow_29 rfl (lv_at hl 4 rfl) ?_
        refine lv_iload hx hb dX8_mostNow_30 (lv_at hl 0 rfl) ?_
        obtain ⟨r2, hc_32, hf⟩ := qf_bd_e hf
        refine qw_cVR (rest := []) (st1 := [.int r2]) S0 V hl 0 gM_0 rfl (c_X8_reason l hc_32) kg_X8_270 rfl ⟨rfl, rfl⟩ kd_X8_reason ⟨Nat.le_of_ble_eq_true rfl, Nat.le_of_ble_eq_true rfl⟩ rfl rfl (Nat.le_of_ble_eq_true rfl) ⟨Nat.zero_le _, Nat.zero_le _⟩ rfl dX8_mostNow_32 ?_
        refine lv_if_ne (tgt := 45) hx hb dX8_mostNow_35 (by decide) (fun c_35 => ?_) (fun c_35 => ?_)
        · replace hf := qf_f c_35 hf
          refine lv_iload hx hb dX8_mostNow_45 (lv_at hl 0 rfl) ?_
          refine lv_iconst (v := 1) hx hb dX8_mostNow_47 (by decide) ?_
          refine lv_isub hx hb dX8_mostNow_48 ?_
          refine lv_topi (fun x3 e_x3 => ?_)
          replace hf := qf_let_e e_x3 hf
          refine lv_istore (lv' := [(5, .int x3), (6, .int x1), (0, .ref (ad 0)), (1, .int y1), (2, .int y2), (3, .int y3), (4, .int y4)]) hx hb dX8_mostNow_49 hl (by decide) rfl (fun ls hl => ?_)
          exact J_51 (fun hf hl => ih hf hl) hf (lv_sub hl [2, 3, 4, 5, 6, 0] rfl)
        · replace hf := qf_t c_35 hf
          refine lv_iload hx hb dX8_mostNow_38 (lv_at hl 0 rfl) ?_
          refine lv_istore (lv' := [(4, .int x1), (6, .int x1), (0, .ref (ad 0)), (1, .int y1), (2, .int y2), (3, .int y3), (5, .int y5)]) hx hb dX8_mostNow_40 hl (by decide) rfl (fun ls hl => ?_)
          refine lv_goto (tgt := 51) hx hb dX8_mostNow_42 (by decide) ?_
          exact J_51 (fun hf hl => ih hf hl) hf (lv_sub hl [2, 3, 4, 5, 0, 6] rfl)
  unfold f_X8_mostNow at hf
  refine lv_iconst (v := 0) hx hb dX8_mostNow_0 (by decide) ?_
  refine lv_istore (lv' := [(4, .int (0 : Int32)), (0, .ref (ad 0)), (1, .int p1), (2, .int p2), (3, .int p3)]) hx hb dX8_mostNow_1 hl (by decide) rfl (fun ls hl => ?_)
  refine lv_sipush (v := 9999) hx hb dX8_mostNow_3 (by decide) ?_
  refine lv_istore (lv' := [(5, .int (9999 : Int32)), (4, .int (0 : Int32)), (0, .ref (ad 0)), (1, .int p1), (2, .int p2), (3, .int p3)]) hx hb dX8_mostNow_6 hl (by decide) rfl (fun ls hl => ?_)
  exact L_8 hf (lv_sub hl [2, 3, 4, 5, 1, 0] rfl)
theorem kd_X8_mostUnits : yX8_mostUnits.cls = RX8 ∧ yX8_mostUnits.cls ≠ "java/lang/invoke/MethodHandle" ∧ yX8_mostUnits.cls ≠ "java/lang/invoke/VarHandle" ∧ (parseMethodDescriptor yX8_mostUnits.desc).map (fun d => d.parameters.length) = some 3 := by decide +kernel
def f_X8_mostUnits_j30 (I : Nat → Int32) (A : Nat → Nat → Int32)  (y1 : Int32) (y2 : Int32) (y3 : Int32) (s0 : Int32) : Option (Int32 × (Nat → Int32)) :=
  qf_bd2 (f_X8_fails I s0) fun r4 I5 =>
  if r4 = 0 then (qf_bd (f_X8_mostNow A y1 y2 y3) fun r6 =>
    some (r6, I5)) else (some ((0 : Int32), I5))
def f_X8_mostUnits_j29 (I : Nat → Int32) (A : Nat → Nat → Int32)  (y1 : Int32) (y2 : Int32) (y3 : Int32) : Option (Int32 × (Nat → Int32)) :=
  f_X8_mostUnits_j30 I A y1 y2 y3 (0 : Int32)
def f_X8_mostUnits (A : Nat → Nat → Int32) (I : Nat → Int32) (p1 : Int32) (p2 : Int32) (p3 : Int32) : Option (Int32 × (Nat → Int32)) :=
  qf_bd (f_X8_isHouse A p1) fun r1 =>
  if r1 = 0 then (f_X8_mostUnits_j29 I A p1 p2 p3) else (qf_bd (f_X8_isShop A p2) fun r2 =>
    if r2 = 0 then (f_X8_mostUnits_j29 I A p1 p2 p3) else (qf_bd (f_X8_isGood A p3) fun r3 =>
      if r3 = 0 then (f_X8_mostUnits_j29 I A p1 p2 p3) else (f_X8_mostUnits_j30 I A p1 p2 p3 (1 : Int32))))
abbrev wz_X8_mostUnits : List Cond := Cond.code yX8_mostUnits cX8_mostUnits 4 (some .int) :: qw_big
def rm_X8_mostUnits : Room := { frames := 5, cells := 0, slots := 0, locals := 121 }
set_option maxHeartbeats 4000000 in
set_option maxRecDepth 100000 in
theorem c_X8_mostUnits (l : Launch) {D : va_G} {cy : Nat → ClassId} {ad : Nat → Nat} {I : Nat → Int32} {A : Nat → Nat → Int32} {w : Int64} {p1 : Int32} {p2 : Int32} {p3 : Int32} {rv : Int32} {I9 : Nat → Int32} {sz : Nat} (hf : f_X8_mostUnits A I p1 p2 p3 = some (rv, I9)) : Met l yX8_mostUnits wz_X8_mostUnits rm_X8_mostUnits (va_Pc [.ref (ad 0), .int p1, .int p2, .int p3] (qw_Pre D cy (Wm cy ad I A w) sz)) (qw_Q (some (.int rv)) D (Wm cy ad I9 A w) (va_A (Wm cy ad I A w) sz)) 0 0 (va_A (Wm cy ad I A w) sz) := by
  refine qw_of (cc := cX8_mostUnits) (maxL := 4) (ret := (some .int)) (by decide) (Nat.le_of_ble_eq_true rfl) ?_
  intro p e s m args below meth c ls S0 hr hlocks hsz V hl
  have S0 : CallFix p m c cX8_mostUnits 4 s args qw_big RX8 := S0
  have hx := S0.1; have hb := S0.2.1; have hown := S0.2.2.2.1; have hts := S0.2.2.2.2
  have hl : lv_has ls 4 [(0, .ref (ad 0)), (1, .int p1), (2, .int p2), (3, .int p3)] := hl
  generalize va_A (Wm cy ad I A w) sz = Z9 at V ⊢
  obtain ⟨Q9, hQ⟩ : ∃ q, q = MQ below (qw_Q (some (.int rv)) D (Wm cy ad I9 A w) Z9) args s 0 0 Z9 := ⟨_, rfl⟩
  rw [← hQ]
  clear hsz
  have J_30 : ∀   {y1 : Int32} {y2 : Int32} {y3 : Int32} {s0 : Int32} {H : Heap} {locs : List Loc} {ls : Array Slot}, f_X8_mostUnits_j30 I A y1 y2 y3 s0 = some (rv, I9) → qw_V D cy Z9 s (Wm cy ad I A w) H locs → lv_has ls 4 [(0, .ref (ad 0)), (1, .int y1), (2, .int y2), (3, .int y3)] → W p l e rm_X8_mostUnits s m args below meth c H locs 0 0 Q9 (F0 m 30 ls [.int s0, .ref (ad 0)]) := by
    intro y1 y2 y3 s0 H locs ls hf V hl
    unfold f_X8_mostUnits_j30 at hf
    obtain ⟨r4, I5, hc_30, hf⟩ := qf_bd2_e hf
    refine qw_cV (rest := []) (st1 := [.int r4]) S0 V hl 0 gM_0 rfl (c_X8_fails l hc_30) kg_X8_201 rfl ⟨rfl, rfl⟩ kd_X8_fails ⟨Nat.le_of_ble_eq_true rfl, Nat.le_of_ble_eq_true rfl⟩ rfl rfl (Nat.le_of_ble_eq_true rfl) ⟨Nat.zero_le _, Nat.zero_le _⟩ rfl dX8_mostUnits_30 (fun H locs V => ?_)
    refine lv_if_eq (tgt := 40) hx hb dX8_mostUnits_33 (by decide) (fun c_33 => ?_) (fun c_33 => ?_)
    · replace hf := qf_t c_33 hf
      refine lv_aload_n hx hb dX8_mostUnits_40 rfl (lv_at hl 0 rfl) ?_
      refine lv_iload_n hx hb dX8_mostUnits_41 rfl (lv_at hl 1 rfl) ?_
      refine lv_iload_n hx hb dX8_mostUnits_42 rfl (lv_at hl 2 rfl) ?_
      refine lv_iload_n hx hb dX8_mostUnits_43 rfl (lv_at hl 3 rfl) ?_
      obtain ⟨r6, hc_44, hf⟩ := qf_bd_e hf
      refine qw_cVR (rest := []) (st1 := [.int r6]) S0 V hl 0 gM_0 rfl (c_X8_mostNow l hc_44) kg_X8_274 rfl ⟨rfl, rfl⟩ kd_X8_mostNow ⟨Nat.le_of_ble_eq_true rfl, Nat.le_of_ble_eq_true rfl⟩ rfl rfl (Nat.le_of_ble_eq_true rfl) ⟨Nat.zero_le _, Nat.zero_le _⟩ rfl dX8_mostUnits_44 ?_
      have hE := Option.some.inj hf
      obtain ⟨e0, hE⟩ := qf_pr hE
      exact qw_ireti S0 hr hlocks hQ e0 (by rw [hE]) V dX8_mostUnits_47
    · replace hf := qf_f c_33 hf
      refine lv_iconst (v := 0) hx hb dX8_mostUnits_36 (by decide) ?_
      refine lv_goto (tgt := 47) hx hb dX8_mostUnits_37 (by decide) ?_
      have hE := Option.some.inj hf
      obtain ⟨e0, hE⟩ := qf_pr hE
      exact qw_ireti S0 hr hlocks hQ e0 (by rw [hE]) V dX8_mostUnits_47
  have J_29 : ∀   {y1 : Int32} {y2 : Int32} {y3 : Int32} {H : Heap} {locs : List Loc} {ls : Array Slot}, f_X8_mostUnits_j29 I A y1 y2 y3 = some (rv, I9) → qw_V D cy Z9 s (Wm cy ad I A w) H locs → lv_has ls 4 [(0, .ref (ad 0)), (1, .int y1), (2, .int y2), (3, .int y3)] → W p l e rm_X8_mostUnits s m args below meth c H locs 0 0 Q9 (F0 m 29 ls [.ref (ad 0)]) := by
    intro y1 y2 y3 H locs ls hf V hl
    unfold f_X8_mostUnits_j29 at hf
    refine lv_iconst (v := 0) hx hb dX8_mostUnits_29 (by decide) ?_
    exact J_30 hf V (lv_sub hl [0, 1, 2, 3] rfl)
  unfold f_X8_mostUnits at hf
  refine lv_aload_n hx hb dX8_mostUnits_0 rfl (lv_at hl 0 rfl) ?_
  refine lv_aload_n hx hb dX8_mostUnits_1 rfl (lv_at hl 0 rfl) ?_
  refine lv_iload_n hx hb dX8_mostUnits_2 rfl (lv_at hl 1 rfl) ?_
  obtain ⟨r1, hc_3, hf⟩ := qf_bd_e hf
  refine qw_cVR (rest := [.ref (ad 0)]) (st1 := [.int r1, .ref (ad 0)]) S0 V hl 0 gM_0 rfl (c_X8_isHouse l hc_3) kg_X8_208 rfl ⟨rfl, rfl⟩ kd_X8_isHouse ⟨Nat.le_of_ble_eq_true rfl, Nat.le_of_ble_eq_true rfl⟩ rfl rfl (Nat.le_of_ble_eq_true rfl) ⟨Nat.zero_le _, Nat.zero_le _⟩ rfl dX8_mostUnits_3 ?_
  refine lv_if_eq (tgt := 29) hx hb dX8_mostUnits_6 (by decide) (fun c_6 => ?_) (fun c_6 => ?_)
  · replace hf := qf_t c_6 hf
    exact J_29 hf V (lv_sub hl [0, 1, 2, 3] rfl)
  · replace hf := qf_f c_6 hf
    refine lv_aload_n hx hb dX8_mostUnits_9 rfl (lv_at hl 0 rfl) ?_
    refine lv_iload_n hx hb dX8_mostUnits_10 rfl (lv_at hl 2 rfl) ?_
    obtain ⟨r2, hc_11, hf⟩ := qf_bd_e hf
    refine qw_cVR (rest := [.ref (ad 0)]) (st1 := [.int r2, .ref (ad 0)]) S0 V hl 0 gM_0 rfl (c_X8_isShop l hc_11) kg_X8_254 rfl ⟨rfl, rfl⟩ kd_X8_isShop ⟨Nat.le_of_ble_eq_true rfl, Nat.le_of_ble_eq_true rfl⟩ rfl rfl (Nat.le_of_ble_eq_true rfl) ⟨Nat.zero_le _, Nat.zero_le _⟩ rfl dX8_mostUnits_11 ?_
    refine lv_if_eq (tgt := 29) hx hb dX8_mostUnits_14 (by decide) (fun c_14 => ?_) (fun c_14 => ?_)
    · replace hf := qf_t c_14 hf
      exact J_29 hf V (lv_sub hl [0, 1, 2, 3] rfl)
    · replace hf := qf_f c_14 hf
      refine lv_aload_n hx hb dX8_mostUnits_17 rfl (lv_at hl 0 rfl) ?_
      refine lv_iload_n hx hb dX8_mostUnits_18 rfl (lv_at hl 3 rfl) ?_
      obtain ⟨r3, hc_19, hf⟩ := qf_bd_e hf
      refine qw_cVR (rest := [.ref (ad 0)]) (st1 := [.int r3, .ref (ad 0)]) S0 V hl 0 gM_0 rfl (c_X8_isGood l hc_19) kg_X8_205 rfl ⟨rfl, rfl⟩ kd_X8_isGood ⟨Nat.le_of_ble_eq_true rfl, Nat.le_of_ble_eq_true rfl⟩ rfl rfl (Nat.le_of_ble_eq_true rfl) ⟨Nat.zero_le _, Nat.zero_le _⟩ rfl dX8_mostUnits_19 ?_
      refine lv_if_eq (tgt := 29) hx hb dX8_mostUnits_22 (by decide) (fun c_22 => ?_) (fun c_22 => ?_)
      · replace hf := qf_t c_22 hf
        exact J_29 hf V (lv_sub hl [0, 1, 2, 3] rfl)
      · replace hf := qf_f c_22 hf
        refine lv_iconst (v := 1) hx hb dX8_mostUnits_25 (by decide) ?_
        refine lv_goto (tgt := 30) hx hb dX8_mostUnits_26 (by decide) ?_
        exact J_30 hf V (lv_sub hl [0, 1, 2, 3] rfl)
theorem kd_X8_bestHouse : yX8_bestHouse.cls = RX8 ∧ yX8_bestHouse.cls ≠ "java/lang/invoke/MethodHandle" ∧ yX8_bestHouse.cls ≠ "java/lang/invoke/VarHandle" ∧ (parseMethodDescriptor yX8_bestHouse.desc).map (fun d => d.parameters.length) = some 2 := by decide +kernel
def f_X8_bestHouse_j78 (A : Nat → Nat → Int32) (K38 : (Nat → Int32) → Int32 → Int32 → Int32 → Option (Int32 × (Nat → Int32))) (I : Nat → Int32) (y1 : Int32) (y2 : Int32) (y3 : Int32) (y4 : Int32) (y5 : Int32) : Option (Int32 × (Nat → Int32)) :=
  qf_let (y5 + (1 : Int32)) fun x8 =>
  K38 I y3 y4 x8
def f_X8_bestHouse_l38 (A : Nat → Nat → Int32)  (y1 : Int32) (y2 : Int32) : Nat → (Nat → Int32) → Int32 → Int32 → Int32 → Option (Int32 × (Nat → Int32))
  | 0, _, _, _, _ => none
  | n + 1, I, y3, y4, y5 =>
  qf_ld 62 (A 3) (2 : Int32) fun x5 =>
  if x5 ≤ y5 then (some (y3, I)) else (qf_bd (f_X8_mostNow A y5 y1 y2) fun r6 =>
    if y4 < r6 then (qf_bd (f_X8_mostNow A y5 y1 y2) fun r7 =>
      f_X8_bestHouse_j78 A (fun z0 z1 z2 z3 => f_X8_bestHouse_l38 A y1 y2 n z0 z1 z2 z3) I y1 y2 y5 r7 y5) else (f_X8_bestHouse_j78 A (fun z0 z1 z2 z3 => f_X8_bestHouse_l38 A y1 y2 n z0 z1 z2 z3) I y1 y2 y3 y4 y5))
def f_X8_bestHouse_j22 (I : Nat → Int32) (A : Nat → Nat → Int32)  (y1 : Int32) (y2 : Int32) (s0 : Int32) : Option (Int32 × (Nat → Int32)) :=
  qf_bd2 (f_X8_fails I s0) fun r3 I4 =>
  if r3 = 0 then (f_X8_bestHouse_l38 A y1 y2 100000 I4 (-1 : Int32) (0 : Int32) (0 : Int32)) else (some ((0 : Int32), I4))
def f_X8_bestHouse_j21 (I : Nat → Int32) (A : Nat → Nat → Int32)  (y1 : Int32) (y2 : Int32) : Option (Int32 × (Nat → Int32)) :=
  f_X8_bestHouse_j22 I A y1 y2 (0 : Int32)
def f_X8_bestHouse (A : Nat → Nat → Int32) (I : Nat → Int32) (p1 : Int32) (p2 : Int32) : Option (Int32 × (Nat → Int32)) :=
  qf_bd (f_X8_isShop A p1) fun r1 =>
  if r1 = 0 then (f_X8_bestHouse_j21 I A p1 p2) else (qf_bd (f_X8_isGood A p2) fun r2 =>
    if r2 = 0 then (f_X8_bestHouse_j21 I A p1 p2) else (f_X8_bestHouse_j22 I A p1 p2 (1 : Int32)))
abbrev wz_X8_bestHouse : List Cond := Cond.code yX8_bestHouse cX8_bestHouse 6 (some .int) :: qw_big
def rm_X8_bestHouse : Room := { frames := 5, cells := 0, slots := 0, locals := 121 }
set_option maxHeartbeats 4000000 in
set_option maxRecDepth 100000 in
theorem c_X8_bestHouse (l : Launch) {D : va_G} {cy : Nat → ClassId} {ad : Nat → Nat} {I : Nat → Int32} {A : Nat → Nat → Int32} {w : Int64} {p1 : Int32} {p2 : Int32} {rv : Int32} {I9 : Nat → Int32} {sz : Nat} (hf : f_X8_bestHouse A I p1 p2 = some (rv, I9)) : Met l yX8_bestHouse wz_X8_bestHouse rm_X8_bestHouse (va_Pc [.ref (ad 0), .int p1, .int p2] (qw_Pre D cy (Wm cy ad I A w) sz)) (qw_Q (some (.int rv)) D (Wm cy ad I9 A w) (va_A (Wm cy ad I A w) sz)) 0 0 (va_A (Wm cy ad I A w) sz) := by
  refine qw_of (cc := cX8_bestHouse) (maxL := 6) (ret := (some .int)) (by decide) (Nat.le_of_ble_eq_true rfl) ?_
  intro p e s m args below meth c ls S0 hr hlocks hsz V hl
  have S0 : CallFix p m c cX8_bestHouse 6 s args qw_big RX8 := S0
  have hx := S0.1; have hb := S0.2.1; have hown := S0.2.2.2.1; have hts := S0.2.2.2.2
  have hl : lv_has ls 6 [(0, .ref (ad 0)), (1, .int p1), (2, .int p2)] := hl
  generalize va_A (Wm cy ad I A w) sz = Z9 at V ⊢
  obtain ⟨Q9, hQ⟩ : ∃ q, q = MQ below (qw_Q (some (.int rv)) D (Wm cy ad I9 A w) Z9) args s 0 0 Z9 := ⟨_, rfl⟩
  rw [← hQ]
  clear hsz
  have J_78 : ∀ {K38 : (Nat → Int32) → Int32 → Int32 → Int32 → Option (Int32 × (Nat → Int32))} {y1 : Int32} {y2 : Int32}  (hK38 : ∀ {I : Nat → Int32} {y3 : Int32} {y4 : Int32} {y5 : Int32} {H : Heap} {locs : List Loc} {ls : Array Slot}, K38 I y3 y4 y5 = some (rv, I9) → qw_V D cy Z9 s (Wm cy ad I A w) H locs → lv_has ls 6 [(0, .ref (ad 0)), (1, .int y1), (2, .int y2), (3, .int y3), (4, .int y4), (5, .int y5)] → W p l e rm_X8_bestHouse s m args below meth c H locs 0 0 Q9 (F0 m 38 ls [])) {I : Nat → Int32} {y3 : Int32} {y4 : Int32} {y5 : Int32} {H : Heap} {locs : List Loc} {ls : Array Slot}, f_X8_bestHouse_j78 A K38 I y1 y2 y3 y4 y5 = some (rv, I9) → qw_V D cy Z9 s (Wm cy ad I A w) H locs → lv_has ls 6 [(0, .ref (ad 0)), (1, .int y1), (2, .int y2), (3, .int y3), (4, .int y4), (5, .int y5)] → W p l e rm_X8_bestHouse s m args below meth c H locs 0 0 Q9 (F0 m 78 ls []) := by
    intro K38 y1 y2 hK38 I y3 y4 y5 H locs ls hf V hl
    unfold f_X8_bestHouse_j78 at hf
    obtain ⟨x8, e_x8⟩ : ∃ y : Int32, y = y5 + (1 : Int32) := ⟨_, rfl⟩
    refine lv_iinc (v := x8) (lv' := [(5, .int x8), (0, .ref (ad 0)), (1, .int y1), (2, .int y2), (3, .int y3), (4, .int y4)]) hx hb dX8_bestHouse_78 hl (k := 5) rfl (by rw [e_x8]; rfl) (by decide) rfl (fun ls hl => ?_)
    replace hf := qf_let_e e_x8 hf
    refine lv_goto (tgt := 38) hx hb dX8_bestHouse_81 (by decide) ?_
    exact hK38 hf V (lv_sub hl [1, 2, 3, 4, 5, 0] rfl)
  have L_38 : ∀  {y1 : Int32} {y2 : Int32} {n : Nat} {I : Nat → Int32} {y3 : Int32} {y4 : Int32} {y5 : Int32} {H : Heap} {locs : List Loc} {ls : Array Slot}, f_X8_bestHouse_l38 A y1 y2 n I y3 y4 y5 = some (rv, I9) → qw_V D cy Z9 s (Wm cy ad I A w) H locs → lv_has ls 6 [(0, .ref (ad 0)), (1, .int y1), (2, .int y2), (3, .int y3), (4, .int y4), (5, .int y5)] → W p l e rm_X8_bestHouse s m args below meth c H locs 0 0 Q9 (F0 m 38 ls []) := by
    intro y1 y2 n
    induction n with
    | zero => intro I y3 y4 y5 H locs ls hf V hl; exact qf_no hf
    | succ n ih =>
      intro I y3 y4 y5 H locs ls hf V hl
      rw [f_X8_bestHouse_l38] at hf
      refine lv_iload hx hb dX8_bestHouse_38 (lv_at hl 5 rfl) ?_
      refine lv_aload_n hx hb dX8_bestHouse_40 rfl (lv_at hl 0 rfl) ?_
      refine gfM_0_5 S0 V kl_X8_19 dX8_bestHouse_41 ?_
      refine lv_iconst (v := 2) hx hb dX8_bestHouse_44 (by decide) ?_
      have h_45 := qf_ld_in hf
      refine alM_4 S0 V h_45 dX8_bestHouse_45 ?_
      refine lv_topi (fun x5 e_x5 => ?_)
      replace hf := qf_ld_e e_x5 hf
      refine lv_icmp_ge (tgt := 84) hx hb dX8_bestHouse_46 (by decide) (fun c_46 => ?_) (fun c_46 => ?_)
      · replace hf := qf_t c_46 hf
        refine lv_iload_n hx hb dX8_bestHouse_84 rfl (lv_at hl 3 rfl) ?_
        have hE := Option.some.inj hf
        obtain ⟨e0, hE⟩ := qf_pr hE
        exact qw_ireti S0 hr hlocks hQ e0 (by rw [hE]) V dX8_bestHouse_85
      · replace hf := qf_f c_46 hf
        refine lv_aload_n hx hb dX8_bestHouse_49 rfl (lv_at hl 0 rfl) ?_
        refine lv_iload hx hb dX8_bestHouse_50 (lv_at hl 5 rfl) ?_
        refine lv_iload_n hx hb dX8_bestHouse_52 rfl (lv_at hl 1 rfl) ?_
        refine lv_iload_n hx hb dX8_bestHouse_53 rfl (lv_at hl 2 rfl) ?_
        obtain ⟨r6, hc_54, hf⟩ := qf_bd_e hf
        refine qw_cVR (rest := []) (st1 := [.int r6]) S0 V hl 0 gM_0 rfl (c_X8_mostNow l hc_54) kg_X8_274 rfl ⟨rfl, rfl⟩ kd_X8_mostNow ⟨Nat.le_of_ble_eq_true rfl, Nat.le_of_ble_eq_true rfl⟩ rfl rfl (Nat.le_of_ble_eq_true rfl) ⟨Nat.zero_le _, Nat.zero_le _⟩ rfl dX8_bestHouse_54 ?_
        refine lv_iload hx hb dX8_bestHouse_57 (lv_at hl 4 rfl) ?_
        refine lv_icmp_gt (tgt := 65) hx hb dX8_bestHouse_59 (by decide) (fun c_59 => ?_) (fun c_59 => ?_)
        · replace hf := qf_t c_59 hf
          refine lv_iload hx hb dX8_bestHouse_65 (lv_at hl 5 rfl) ?_
          refine lv_istore_n (lv' := [(3, .int y5), (0, .ref (ad 0)), (1, .int y1), (2, .int y2), (4, .int y4), (5, .int y5)]) hx hb dX8_bestHouse_67 rfl hl (by decide) rfl (fun ls hl => ?_)
          refine lv_aload_n hx hb dX8_bestHouse_68 rfl (lv_at hl 1 rfl) ?_
          refine lv_iload hx hb dX8_bestHouse_69 (lv_at hl 5 rfl) ?_
          refine lv_iload_n hx hb dX8_bestHouse_71 rfl (lv_at hl 2 rfl) ?_
          refine lv_iload_n hx hb dX8_bestHouse_72 rfl (lv_at hl 3 rfl) ?_
          obtain ⟨r7, hc_73, hf⟩ := qf_bd_e hf
          refine qw_cVR (rest := []) (st1 := [.int r7]) S0 V hl 0 gM_0 rfl (c_X8_mostNow l hc_73) kg_X8_274 rfl ⟨rfl, rfl⟩ kd_X8_mostNow ⟨Nat.le_of_ble_eq_true rfl, Nat.le_of_ble_eq_true rfl⟩ rfl rfl (Nat.le_of_ble_eq_true rfl) ⟨Nat.zero_le _, Nat.zero_le _⟩ rfl dX8_bestHouse_73 ?_
          refine lv_istore (lv' := [(4, .int r7), (3, .int y5), (0, .ref (ad 0)), (1, .int y1), (2, .int y2), (5, .int y5)]) hx hb dX8_bestHouse_76 hl (by decide) rfl (fun ls hl => ?_)
          exact J_78 (fun hf V hl => ih hf V hl) hf V (lv_sub hl [2, 3, 4, 1, 0, 5] rfl)
        · replace hf := qf_f c_59 hf
          refine lv_goto (tgt := 78) hx hb dX8_bestHouse_62 (by decide) ?_
          exact J_78 (fun hf V hl => ih hf V hl) hf V (lv_sub hl [0, 1, 2, 3, 4, 5] rfl)
  have J_22 : ∀   {y1 : Int32} {y2 : Int32} {s0 : Int32} {H : Heap} {locs : List Loc} {ls : Array Slot}, f_X8_bestHouse_j22 I A y1 y2 s0 = some (rv, I9) → qw_V D cy Z9 s (Wm cy ad I A w) H locs → lv_has ls 6 [(0, .ref (ad 0)), (1, .int y1), (2, .int y2)] → W p l e rm_X8_bestHouse s m args below meth c H locs 0 0 Q9 (F0 m 22 ls [.int s0, .ref (ad 0)]) := by
    intro y1 y2 s0 H locs ls hf V hl
    unfold f_X8_bestHouse_j22 at hf
    obtain ⟨r3, I4, hc_22, hf⟩ := qf_bd2_e hf
    refine qw_cV (rest := []) (st1 := [.int r3]) S0 V hl 0 gM_0 rfl (c_X8_fails l hc_22) kg_X8_201 rfl ⟨rfl, rfl⟩ kd_X8_fails ⟨Nat.le_of_ble_eq_true rfl, Nat.le_of_ble_eq_true rfl⟩ rfl rfl (Nat.le_of_ble_eq_true rfl) ⟨Nat.zero_le _, Nat.zero_le _⟩ rfl dX8_bestHouse_22 (fun H locs V => ?_)
    refine lv_if_eq (tgt := 30) hx hb dX8_bestHouse_25 (by decide) (fun c_25 => ?_) (fun c_25 => ?_)
    · replace hf := qf_t c_25 hf
      refine lv_iconst (v := -1) hx hb dX8_bestHouse_30 (by decide) ?_
      refine lv_istore_n (lv' := [(3, .int (-1 : Int32)), (0, .ref (ad 0)), (1, .int y1), (2, .int y2)]) hx hb dX8_bestHouse_31 rfl hl (by decide) rfl (fun ls hl => ?_)
      refine lv_iconst (v := 0) hx hb dX8_bestHouse_32 (by decide) ?_
      refine lv_istore (lv' := [(4, .int (0 : Int32)), (3, .int (-1 : Int32)), (0, .ref (ad 0)), (1, .int y1), (2, .int y2)]) hx hb dX8_bestHouse_33 hl (by decide) rfl (fun ls hl => ?_)
      refine lv_iconst (v := 0) hx hb dX8_bestHouse_35 (by decide) ?_
      refine lv_istore (lv' := [(5, .int (0 : Int32)), (4, .int (0 : Int32)), (3, .int (-1 : Int32)), (0, .ref (ad 0)), (1, .int y1), (2, .int y2)]) hx hb dX8_bestHouse_36 hl (by decide) rfl (fun ls hl => ?_)
      exact L_38 hf V (lv_sub hl [3, 4, 5, 2, 1, 0] rfl)
    · replace hf := qf_f c_25 hf
      refine lv_iconst (v := 0) hx hb dX8_bestHouse_28 (by decide) ?_
      have hE := Option.some.inj hf
      obtain ⟨e0, hE⟩ := qf_pr hE
      exact qw_ireti S0 hr hlocks hQ e0 (by rw [hE]) V dX8_bestHouse_29
  have J_21 : ∀   {y1 : Int32} {y2 : Int32} {H : Heap} {locs : List Loc} {ls : Array Slot}, f_X8_bestHouse_j21 I A y1 y2 = some (rv, I9) → qw_V D cy Z9 s (Wm cy ad I A w) H locs → lv_has ls 6 [(0, .ref (ad 0)), (1, .int y1), (2, .int y2)] → W p l e rm_X8_bestHouse s m args below meth c H locs 0 0 Q9 (F0 m 21 ls [.ref (ad 0)]) := by
    intro y1 y2 H locs ls hf V hl
    unfold f_X8_bestHouse_j21 at hf
    refine lv_iconst (v := 0) hx hb dX8_bestHouse_21 (by decide) ?_
    exact J_22 hf V (lv_sub hl [0, 1, 2] rfl)
  unfold f_X8_bestHouse at hf
  refine lv_aload_n hx hb dX8_bestHouse_0 rfl (lv_at hl 0 rfl) ?_
  refine lv_aload_n hx hb dX8_bestHouse_1 rfl (lv_at hl 0 rfl) ?_
  refine lv_iload_n hx hb dX8_bestHouse_2 rfl (lv_at hl 1 rfl) ?_
  obtain ⟨r1, hc_3, hf⟩ := qf_bd_e hf
  refine qw_cVR (rest := [.ref (ad 0)]) (st1 := [.int r1, .ref (ad 0)]) S0 V hl 0 gM_0 rfl (c_X8_isShop l hc_3) kg_X8_254 rfl ⟨rfl, rfl⟩ kd_X8_isShop ⟨Nat.le_of_ble_eq_true rfl, Nat.le_of_ble_eq_true rfl⟩ rfl rfl (Nat.le_of_ble_eq_true rfl) ⟨Nat.zero_le _, Nat.zero_le _⟩ rfl dX8_bestHouse_3 ?_
  refine lv_if_eq (tgt := 21) hx hb dX8_bestHouse_6 (by decide) (fun c_6 => ?_) (fun c_6 => ?_)
  · replace hf := qf_t c_6 hf
    exact J_21 hf V (lv_sub hl [0, 1, 2] rfl)
  · replace hf := qf_f c_6 hf
    refine lv_aload_n hx hb dX8_bestHouse_9 rfl (lv_at hl 0 rfl) ?_
    refine lv_iload_n hx hb dX8_bestHouse_10 rfl (lv_at hl 2 rfl) ?_
    obtain ⟨r2, hc_11, hf⟩ := qf_bd_e hf
    refine qw_cVR (rest := [.ref (ad 0)]) (st1 := [.int r2, .ref (ad 0)]) S0 V hl 0 gM_0 rfl (c_X8_isGood l hc_11) kg_X8_205 rfl ⟨rfl, rfl⟩ kd_X8_isGood ⟨Nat.le_of_ble_eq_true rfl, Nat.le_of_ble_eq_true rfl⟩ rfl rfl (Nat.le_of_ble_eq_true rfl) ⟨Nat.zero_le _, Nat.zero_le _⟩ rfl dX8_bestHouse_11 ?_
    refine lv_if_eq (tgt := 21) hx hb dX8_bestHouse_14 (by decide) (fun c_14 => ?_) (fun c_14 => ?_)
    · replace hf := qf_t c_14 hf
      exact J_21 hf V (lv_sub hl [0, 1, 2] rfl)
    · replace hf := qf_f c_14 hf
      refine lv_iconst (v := 1) hx hb dX8_bestHouse_17 (by decide) ?_
      refine lv_goto (tgt := 22) hx hb dX8_bestHouse_18 (by decide) ?_
      exact J_22 hf V (lv_sub hl [0, 1, 2] rfl)
theorem kd_X8_mostDeliverable : yX8_mostDeliverable.cls = RX8 ∧ yX8_mostDeliverable.cls ≠ "java/lang/invoke/MethodHandle" ∧ yX8_mostDeliverable.cls ≠ "java/lang/invoke/VarHandle" ∧ (parseMethodDescriptor yX8_mostDeliverable.desc).map (fun d => d.parameters.length) = some 2 := by decide +kernel
def f_X8_mostDeliverable_j22 (I : Nat → Int32) (A : Nat → Nat → Int32)  (y1 : Int32) (y2 : Int32) (s0 : Int32) : Option (Int32 × (Nat → Int32)) :=
  qf_bd2 (f_X8_fails I s0) fun r3 I4 =>
  if r3 = 0 then (qf_ld 62 (A 3) ((20 : Int32) + y2) fun x5 =>
    qf_ld 250 (A 0) (((169 : Int32) + ((4 : Int32) * y1)) + x5) fun x6 =>
    qf_ld 62 (A 3) ((26 : Int32) + y2) fun x7 =>
    qf_ck (¬ x7 = 0) <|
    qf_let ((x6 / x7)) fun x8 =>
    qf_ld 250 (A 0) (((145 : Int32) + ((6 : Int32) * y1)) + y2) fun x9 =>
    qf_bd (f_X8_lesser x8 ((99999 : Int32) - x9)) fun r10 =>
    qf_bd (f_X8_lesser (9999 : Int32) r10) fun r11 =>
    some (r11, I4)) else (some ((0 : Int32), I4))
def f_X8_mostDeliverable_j21 (I : Nat → Int32) (A : Nat → Nat → Int32)  (y1 : Int32) (y2 : Int32) : Option (Int32 × (Nat → Int32)) :=
  f_X8_mostDeliverable_j22 I A y1 y2 (0 : Int32)
def f_X8_mostDeliverable (A : Nat → Nat → Int32) (I : Nat → Int32) (p1 : Int32) (p2 : Int32) : Option (Int32 × (Nat → Int32)) :=
  qf_bd (f_X8_isShop A p1) fun r1 =>
  if r1 = 0 then (f_X8_mostDeliverable_j21 I A p1 p2) else (qf_bd (f_X8_isGood A p2) fun r2 =>
    if r2 = 0 then (f_X8_mostDeliverable_j21 I A p1 p2) else (f_X8_mostDeliverable_j22 I A p1 p2 (1 : Int32)))
abbrev wz_X8_mostDeliverable : List Cond := Cond.code yX8_mostDeliverable cX8_mostDeliverable 4 (some .int) :: qw_big
def rm_X8_mostDeliverable : Room := { frames := 2, cells := 0, slots := 0, locals := 43 }
set_option maxHeartbeats 4000000 in
set_option maxRecDepth 100000 in
theorem c_X8_mostDeliverable (l : Launch) {D : va_G} {cy : Nat → ClassId} {ad : Nat → Nat} {I : Nat → Int32} {A : Nat → Nat → Int32} {w : Int64} {p1 : Int32} {p2 : Int32} {rv : Int32} {I9 : Nat → Int32} {sz : Nat} (hf : f_X8_mostDeliverable A I p1 p2 = some (rv, I9)) : Met l yX8_mostDeliverable wz_X8_mostDeliverable rm_X8_mostDeliverable (va_Pc [.ref (ad 0), .int p1, .int p2] (qw_Pre D cy (Wm cy ad I A w) sz)) (qw_Q (some (.int rv)) D (Wm cy ad I9 A w) (va_A (Wm cy ad I A w) sz)) 0 0 (va_A (Wm cy ad I A w) sz) := by
  refine qw_of (cc := cX8_mostDeliverable) (maxL := 4) (ret := (some .int)) (by decide) (Nat.le_of_ble_eq_true rfl) ?_
  intro p e s m args below meth c ls S0 hr hlocks hsz V hl
  have S0 : CallFix p m c cX8_mostDeliverable 4 s args qw_big RX8 := S0
  have hx := S0.1; have hb := S0.2.1; have hown := S0.2.2.2.1; have hts := S0.2.2.2.2
  have hl : lv_has ls 4 [(0, .ref (ad 0)), (1, .int p1), (2, .int p2)] := hl
  generalize va_A (Wm cy ad I A w) sz = Z9 at V ⊢
  obtain ⟨Q9, hQ⟩ : ∃ q, q = MQ below (qw_Q (some (.int rv)) D (Wm cy ad I9 A w) Z9) args s 0 0 Z9 := ⟨_, rfl⟩
  rw [← hQ]
  clear hsz
  have J_22 : ∀   {y1 : Int32} {y2 : Int32} {s0 : Int32} {H : Heap} {locs : List Loc} {ls : Array Slot}, f_X8_mostDeliverable_j22 I A y1 y2 s0 = some (rv, I9) → qw_V D cy Z9 s (Wm cy ad I A w) H locs → lv_has ls 4 [(0, .ref (ad 0)), (1, .int y1), (2, .int y2)] → W p l e rm_X8_mostDeliverable s m args below meth c H locs 0 0 Q9 (F0 m 22 ls [.int s0, .ref (ad 0)]) := by
    intro y1 y2 s0 H locs ls hf V hl
    unfold f_X8_mostDeliverable_j22 at hf
    obtain ⟨r3, I4, hc_22, hf⟩ := qf_bd2_e hf
    refine qw_cV (rest := []) (st1 := [.int r3]) S0 V hl 0 gM_0 rfl (c_X8_fails l hc_22) kg_X8_201 rfl ⟨rfl, rfl⟩ kd_X8_fails ⟨Nat.le_of_ble_eq_true rfl, Nat.le_of_ble_eq_true rfl⟩ rfl rfl (Nat.le_of_ble_eq_true rfl) ⟨Nat.zero_le _, Nat.zero_le _⟩ rfl dX8_mostDeliverable_22 (fun H locs V => ?_)
    refine lv_if_eq (tgt := 30) hx hb dX8_mostDeliverable_25 (by decide) (fun c_25 => ?_) (fun c_25 => ?_)
    · replace hf := qf_t c_25 hf
      refine lv_aload_n hx hb dX8_mostDeliverable_30 rfl (lv_at hl 0 rfl) ?_
      refine gfM_0_0 S0 V kl_X8_7 dX8_mostDeliverable_31 ?_
      refine lv_sipush (v := 169) hx hb dX8_mostDeliverable_34 (by decide) ?_
      refine lv_iconst (v := 4) hx hb dX8_mostDeliverable_37 (by decide) ?_
      refine lv_iload_n hx hb dX8_mostDeliverable_38 rfl (lv_at hl 1 rfl) ?_
      refine lv_imul hx hb dX8_mostDeliverable_39 ?_
      refine lv_iadd hx hb dX8_mostDeliverable_40 ?_
      refine lv_aload_n hx hb dX8_mostDeliverable_41 rfl (lv_at hl 0 rfl) ?_
      refine gfM_0_5 S0 V kl_X8_19 dX8_mostDeliverable_42 ?_
      refine lv_bipush (v := 20) hx hb dX8_mostDeliverable_45 (by decide) ?_
      refine lv_iload_n hx hb dX8_mostDeliverable_47 rfl (lv_at hl 2 rfl) ?_
      refine lv_iadd hx hb dX8_mostDeliverable_48 ?_
      have h_49 := qf_ld_in hf
      refine alM_4 S0 V h_49 dX8_mostDeliverable_49 ?_
      refine lv_topi (fun x5 e_x5 => ?_)
      replace hf := qf_ld_e e_x5 hf
      refine lv_iadd hx hb dX8_mostDeliverable_50 ?_
      have h_51 := qf_ld_in hf
      refine alM_1 S0 V h_51 dX8_mostDeliverable_51 ?_
      refine lv_topi (fun x6 e_x6 => ?_)
      replace hf := qf_ld_e e_x6 hf
      refine lv_aload_n hx hb dX8_mostDeliverable_52 rfl (lv_at hl 0 rfl) ?_
      refine gfM_0_5 S0 V kl_X8_19 dX8_mostDeliverable_53 ?_
      refine lv_bipush (v := 26) hx hb dX8_mostDeliverable_56 (by decide) ?_
      refine lv_iload_n hx hb dX8_mostDeliverable_58 rfl (lv_at hl 2 rfl) ?_
      refine lv_iadd hx hb dX8_mostDeliverable_59 ?_
      have h_60 := qf_ld_in hf
      refine alM_4 S0 V h_60 dX8_mostDeliverable_60 ?_
      refine lv_topi (fun x7 e_x7 => ?_)
      replace hf := qf_ld_e e_x7 hf
      obtain ⟨h_61, hf⟩ := qf_ck_e hf
      refine lv_idiv hx hb dX8_mostDeliverable_61 h_61 ?_
      refine lv_topi (fun x8 e_x8 => ?_)
      replace hf := qf_let_e e_x8 hf
      refine lv_istore_n (lv' := [(3, .int x8), (0, .ref (ad 0)), (1, .int y1), (2, .int y2)]) hx hb dX8_mostDeliverable_62 rfl hl (by decide) rfl (fun ls hl => ?_)
      refine lv_sipush (v := 9999) hx hb dX8_mostDeliverable_63 (by decide) ?_
      refine lv_iload_n hx hb dX8_mostDeliverable_66 rfl (lv_at hl 0 rfl) ?_
      refine lv_ldcw (v := 99999) hx hb hown (hts _ kct_X8_277) dX8_mostDeliverable_67 ?_
      refine lv_aload_n hx hb dX8_mostDeliverable_70 rfl (lv_at hl 1 rfl) ?_
      refine gfM_0_0 S0 V kl_X8_7 dX8_mostDeliverable_71 ?_
      refine lv_sipush (v := 145) hx hb dX8_mostDeliverable_74 (by decide) ?_
      refine lv_bipush (v := 6) hx hb dX8_mostDeliverable_77 (by decide) ?_
      refine lv_iload_n hx hb dX8_mostDeliverable_79 rfl (lv_at hl 2 rfl) ?_
      refine lv_imul hx hb dX8_mostDeliverable_80 ?_
      refine lv_iadd hx hb dX8_mostDeliverable_81 ?_
      refine lv_iload_n hx hb dX8_mostDeliverable_82 rfl (lv_at hl 3 rfl) ?_
      refine lv_iadd hx hb dX8_mostDeliverable_83 ?_
      have h_84 := qf_ld_in hf
      refine alM_1 S0 V h_84 dX8_mostDeliverable_84 ?_
      refine lv_topi (fun x9 e_x9 => ?_)
      replace hf := qf_ld_e e_x9 hf
      refine lv_isub hx hb dX8_mostDeliverable_85 ?_
      obtain ⟨r10, hc_86, hf⟩ := qf_bd_e hf
      refine qw_cSR (rest := [.int (9999 : Int32)]) (st1 := [.int r10, .int (9999 : Int32)]) S0 V hl (c_X8_lesser l hc_86) kg_X8_241 rfl ⟨rfl, rfl⟩ kd_X8_lesser ⟨Nat.le_of_ble_eq_true rfl, Nat.le_of_ble_eq_true rfl⟩ rfl rfl (Nat.le_of_ble_eq_true rfl) ⟨Nat.zero_le _, Nat.zero_le _⟩ rfl dX8_mostDeliverable_86 ?_
      obtain ⟨r11, hc_89, hf⟩ := qf_bd_e hf
      refine qw_cSR (rest := []) (st1 := [.int r11]) S0 V hl (c_X8_lesser l hc_89) kg_X8_241 rfl ⟨rfl, rfl⟩ kd_X8_lesser ⟨Nat.le_of_ble_eq_true rfl, Nat.le_of_ble_eq_true rfl⟩ rfl rfl (Nat.le_of_ble_eq_true rfl) ⟨Nat.zero_le _, Nat.zero_le _⟩ rfl dX8_mostDeliverable_89 ?_
      have hE := Option.some.inj hf
      obtain ⟨e0, hE⟩ := qf_pr hE
      exact qw_ireti S0 hr hlocks hQ e0 (by rw [hE]) V dX8_mostDeliverable_92
    · replace hf := qf_f c_25 hf
      refine lv_iconst (v := 0) hx hb dX8_mostDeliverable_28 (by decide) ?_
      have hE := Option.some.inj hf
      obtain ⟨e0, hE⟩ := qf_pr hE
      exact qw_ireti S0 hr hlocks hQ e0 (by rw [hE]) V dX8_mostDeliverable_29
  have J_21 : ∀   {y1 : Int32} {y2 : Int32} {H : Heap} {locs : List Loc} {ls : Array Slot}, f_X8_mostDeliverable_j21 I A y1 y2 = some (rv, I9) → qw_V D cy Z9 s (Wm cy ad I A w) H locs → lv_has ls 4 [(0, .ref (ad 0)), (1, .int y1), (2, .int y2)] → W p l e rm_X8_mostDeliverable s m args below meth c H locs 0 0 Q9 (F0 m 21 ls [.ref (ad 0)]) := by
    intro y1 y2 H locs ls hf V hl
    unfold f_X8_mostDeliverable_j21 at hf
    refine lv_iconst (v := 0) hx hb dX8_mostDeliverable_21 (by decide) ?_
    exact J_22 hf V (lv_sub hl [0, 1, 2] rfl)
  unfold f_X8_mostDeliverable at hf
  refine lv_aload_n hx hb dX8_mostDeliverable_0 rfl (lv_at hl 0 rfl) ?_
  refine lv_aload_n hx hb dX8_mostDeliverable_1 rfl (lv_at hl 0 rfl) ?_
  refine lv_iload_n hx hb dX8_mostDeliverable_2 rfl (lv_at hl 1 rfl) ?_
  obtain ⟨r1, hc_3, hf⟩ := qf_bd_e hf
  refine qw_cVR (rest := [.ref (ad 0)]) (st1 := [.int r1, .ref (ad 0)]) S0 V hl 0 gM_0 rfl (c_X8_isShop l hc_3) kg_X8_254 rfl ⟨rfl, rfl⟩ kd_X8_isShop ⟨Nat.le_of_ble_eq_true rfl, Nat.le_of_ble_eq_true rfl⟩ rfl rfl (Nat.le_of_ble_eq_true rfl) ⟨Nat.zero_le _, Nat.zero_le _⟩ rfl dX8_mostDeliverable_3 ?_
  refine lv_if_eq (tgt := 21) hx hb dX8_mostDeliverable_6 (by decide) (fun c_6 => ?_) (fun c_6 => ?_)
  · replace hf := qf_t c_6 hf
    exact J_21 hf V (lv_sub hl [0, 1, 2] rfl)
  · replace hf := qf_f c_6 hf
    refine lv_aload_n hx hb dX8_mostDeliverable_9 rfl (lv_at hl 0 rfl) ?_
    refine lv_iload_n hx hb dX8_mostDeliverable_10 rfl (lv_at hl 2 rfl) ?_
    obtain ⟨r2, hc_11, hf⟩ := qf_bd_e hf
    refine qw_cVR (rest := [.ref (ad 0)]) (st1 := [.int r2, .ref (ad 0)]) S0 V hl 0 gM_0 rfl (c_X8_isGood l hc_11) kg_X8_205 rfl ⟨rfl, rfl⟩ kd_X8_isGood ⟨Nat.le_of_ble_eq_true rfl, Nat.le_of_ble_eq_true rfl⟩ rfl rfl (Nat.le_of_ble_eq_true rfl) ⟨Nat.zero_le _, Nat.zero_le _⟩ rfl dX8_mostDeliverable_11 ?_
    refine lv_if_eq (tgt := 21) hx hb dX8_mostDeliverable_14 (by decide) (fun c_14 => ?_) (fun c_14 => ?_)
    · replace hf := qf_t c_14 hf
      exact J_21 hf V (lv_sub hl [0, 1, 2] rfl)
    · replace hf := qf_f c_14 hf
      refine lv_iconst (v := 1) hx hb dX8_mostDeliverable_17 (by decide) ?_
      refine lv_goto (tgt := 22) hx hb dX8_mostDeliverable_18 (by decide) ?_
      exact J_22 hf V (lv_sub hl [0, 1, 2] rfl)
theorem kd_X8_swapChain : yX8_swapChain.cls = RX8 ∧ yX8_swapChain.cls ≠ "java/lang/invoke/MethodHandle" ∧ yX8_swapChain.cls ≠ "java/lang/invoke/VarHandle" ∧ (parseMethodDescriptor yX8_swapChain.desc).map (fun d => d.parameters.length) = some 1 := by decide +kernel
def f_X8_swapChain_l31 (A : Nat → Nat → Int32)   : Nat → (Nat → Int32) → Int32 → Int32 → Int32 → Option (Int32 × (Nat → Int32))
  | 0, _, _, _, _ => none
  | n + 1, I, y2, y3, y4 =>
  if y4 < 0 then (some (y3, I)) else (if ((y2 >>> (y4 &&& 31)) &&& (1 : Int32)) = 0 then (qf_let ((y2 ||| ((1 : Int32) <<< (y4 &&& 31)))) fun x6 =>
      qf_let (y3 + (1 : Int32)) fun x7 =>
      qf_ld 62 (A 3) ((12 : Int32) + y4) fun x8 =>
      f_X8_swapChain_l31 A n I x6 x7 x8) else (some (y3, I)))
def f_X8_swapChain (A : Nat → Nat → Int32) (I : Nat → Int32) (p1 : Int32) : Option (Int32 × (Nat → Int32)) :=
  qf_bd (f_X8_isGroup A p1) fun r1 =>
  qf_bd2 (f_X8_fails I r1) fun r2 I3 =>
  if r2 = 0 then (qf_let (((1 : Int32) <<< (p1 &&& 31))) fun x4 =>
    qf_ld 62 (A 3) ((12 : Int32) + p1) fun x5 =>
    f_X8_swapChain_l31 A 100000 I3 x4 (0 : Int32) x5) else (some ((0 : Int32), I3))
abbrev wz_X8_swapChain : List Cond := Cond.code yX8_swapChain cX8_swapChain 5 (some .int) :: qw_big
def rm_X8_swapChain : Room := { frames := 2, cells := 0, slots := 0, locals := 43 }
set_option maxHeartbeats 4000000 in
set_option maxRecDepth 100000 in
theorem c_X8_swapChain (l : Launch) {D : va_G} {cy : Nat → ClassId} {ad : Nat → Nat} {I : Nat → Int32} {A : Nat → Nat → Int32} {w : Int64} {p1 : Int32} {rv : Int32} {I9 : Nat → Int32} {sz : Nat} (hf : f_X8_swapChain A I p1 = some (rv, I9)) : Met l yX8_swapChain wz_X8_swapChain rm_X8_swapChain (va_Pc [.ref (ad 0), .int p1] (qw_Pre D cy (Wm cy ad I A w) sz)) (qw_Q (some (.int rv)) D (Wm cy ad I9 A w) (va_A (Wm cy ad I A w) sz)) 0 0 (va_A (Wm cy ad I A w) sz) := by
  refine qw_of (cc := cX8_swapChain) (maxL := 5) (ret := (some .int)) (by decide) (Nat.le_of_ble_eq_true rfl) ?_
  intro p e s m args below meth c ls S0 hr hlocks hsz V hl
  have S0 : CallFix p m c cX8_swapChain 5 s args qw_big RX8 := S0
  have hx := S0.1; have hb := S0.2.1; have hown := S0.2.2.2.1; have hts := S0.2.2.2.2
  have hl : lv_has ls 5 [(0, .ref (ad 0)), (1, .int p1)] := hl
  generalize va_A (Wm cy ad I A w) sz = Z9 at V ⊢
  obtain ⟨Q9, hQ⟩ : ∃ q, q = MQ below (qw_Q (some (.int rv)) D (Wm cy ad I9 A w) Z9) args s 0 0 Z9 := ⟨_, rfl⟩
  rw [← hQ]
  clear hsz
  have L_31 : ∀   {n : Nat} {I : Nat → Int32} {y2 : Int32} {y3 : Int32} {y4 : Int32} {H : Heap} {locs : List Loc} {ls : Array Slot}, f_X8_swapChain_l31 A n I y2 y3 y4 = some (rv, I9) → qw_V D cy Z9 s (Wm cy ad I A w) H locs → lv_has ls 5 [(0, .ref (ad 0)), (2, .int y2), (3, .int y3), (4, .int y4)] → W p l e rm_X8_swapChain s m args below meth c H locs 0 0 Q9 (F0 m 31 ls []) := by
    intro n
    induction n with
    | zero => intro I y2 y3 y4 H locs ls hf V hl; exact qf_no hf
    | succ n ih =>
      intro I y2 y3 y4 H locs ls hf V hl
      rw [f_X8_swapChain_l31] at hf
      refine lv_iload hx hb dX8_swapChain_31 (lv_at hl 3 rfl) ?_
      refine lv_if_lt (tgt := 70) hx hb dX8_swapChain_33 (by decide) (fun c_33 => ?_) (fun c_33 => ?_)
      · replace hf := qf_t c_33 hf
        refine lv_iload_n hx hb dX8_swapChain_70 rfl (lv_at hl 2 rfl) ?_
        have hE := Option.some.inj hf
        obtain ⟨e0, hE⟩ := qf_pr hE
        exact qw_ireti S0 hr hlocks hQ e0 (by rw [hE]) V dX8_swapChain_71
      · replace hf := qf_f c_33 hf
        refine lv_iload_n hx hb dX8_swapChain_36 rfl (lv_at hl 1 rfl) ?_
        refine lv_iload hx hb dX8_swapChain_37 (lv_at hl 3 rfl) ?_
        refine lv_ishr hx hb dX8_swapChain_39 ?_
        refine lv_iconst (v := 1) hx hb dX8_swapChain_40 (by decide) ?_
        refine lv_iand hx hb dX8_swapChain_41 ?_
        refine lv_if_ne (tgt := 70) hx hb dX8_swapChain_42 (by decide) (fun c_42 => ?_) (fun c_42 => ?_)
        · replace hf := qf_f c_42 hf
          refine lv_iload_n hx hb dX8_swapChain_70 rfl (lv_at hl 2 rfl) ?_
          have hE := Option.some.inj hf
          obtain ⟨e0, hE⟩ := qf_pr hE
          exact qw_ireti S0 hr hlocks hQ e0 (by rw [hE]) V dX8_swapChain_71
        · replace hf := qf_t c_42 hf
          refine lv_iload_n hx hb dX8_swapChain_45 rfl (lv_at hl 1 rfl) ?_
          refine lv_iconst (v := 1) hx hb dX8_swapChain_46 (by decide) ?_
          refine lv_iload hx hb dX8_swapChain_47 (lv_at hl 3 rfl) ?_
          refine lv_ishl hx hb dX8_swapChain_49 ?_
          refine lv_ior hx hb dX8_swapChain_50 ?_
          refine lv_topi (fun x6 e_x6 => ?_)
          replace hf := qf_let_e e_x6 hf
          refine lv_istore_n (lv' := [(2, .int x6), (0, .ref (ad 0)), (3, .int y3), (4, .int y4)]) hx hb dX8_swapChain_51 rfl hl (by decide) rfl (fun ls hl => ?_)
          obtain ⟨x7, e_x7⟩ : ∃ y : Int32, y = y3 + (1 : Int32) := ⟨_, rfl⟩
          refine lv_iinc (v := x7) (lv' := [(3, .int x7), (2, .int x6), (0, .ref (ad 0)), (4, .int y4)]) hx hb dX8_swapChain_52 hl (k := 2) rfl (by rw [e_x7]; rfl) (by decide) rfl (fun ls hl => ?_)
          replace hf := qf_let_e e_x7 hf
          refine lv_aload_n hx hb dX8_swapChain_55 rfl (lv_at hl 2 rfl) ?_
          refine gfM_0_5 S0 V kl_X8_19 dX8_swapChain_56 ?_
          refine lv_bipush (v := 12) hx hb dX8_swapChain_59 (by decide) ?_
          refine lv_iload hx hb dX8_swapChain_61 (lv_at hl 3 rfl) ?_
          refine lv_iadd hx hb dX8_swapChain_63 ?_
          have h_64 := qf_ld_in hf
          refine alM_4 S0 V h_64 dX8_swapChain_64 ?_
          refine lv_topi (fun x8 e_x8 => ?_)
          replace hf := qf_ld_e e_x8 hf
          refine lv_istore (lv' := [(4, .int x8), (3, .int x7), (2, .int x6), (0, .ref (ad 0))]) hx hb dX8_swapChain_65 hl (by decide) rfl (fun ls hl => ?_)
          refine lv_goto (tgt := 31) hx hb dX8_swapChain_67 (by decide) ?_
          exact ih hf V (lv_sub hl [3, 2, 1, 0] rfl)
  unfold f_X8_swapChain at hf
  refine lv_aload_n hx hb dX8_swapChain_0 rfl (lv_at hl 0 rfl) ?_
  refine lv_aload_n hx hb dX8_swapChain_1 rfl (lv_at hl 0 rfl) ?_
  refine lv_iload_n hx hb dX8_swapChain_2 rfl (lv_at hl 1 rfl) ?_
  obtain ⟨r1, hc_3, hf⟩ := qf_bd_e hf
  refine qw_cVR (rest := [.ref (ad 0)]) (st1 := [.int r1, .ref (ad 0)]) S0 V hl 0 gM_0 rfl (c_X8_isGroup l hc_3) kg_X8_197 rfl ⟨rfl, rfl⟩ kd_X8_isGroup ⟨Nat.le_of_ble_eq_true rfl, Nat.le_of_ble_eq_true rfl⟩ rfl rfl (Nat.le_of_ble_eq_true rfl) ⟨Nat.zero_le _, Nat.zero_le _⟩ rfl dX8_swapChain_3 ?_
  obtain ⟨r2, I3, hc_6, hf⟩ := qf_bd2_e hf
  refine qw_cV (rest := []) (st1 := [.int r2]) S0 V hl 0 gM_0 rfl (c_X8_fails l hc_6) kg_X8_201 rfl ⟨rfl, rfl⟩ kd_X8_fails ⟨Nat.le_of_ble_eq_true rfl, Nat.le_of_ble_eq_true rfl⟩ rfl rfl (Nat.le_of_ble_eq_true rfl) ⟨Nat.zero_le _, Nat.zero_le _⟩ rfl dX8_swapChain_6 (fun H locs V => ?_)
  refine lv_if_eq (tgt := 14) hx hb dX8_swapChain_9 (by decide) (fun c_9 => ?_) (fun c_9 => ?_)
  · replace hf := qf_t c_9 hf
    refine lv_iconst (v := 1) hx hb dX8_swapChain_14 (by decide) ?_
    refine lv_iload_n hx hb dX8_swapChain_15 rfl (lv_at hl 1 rfl) ?_
    refine lv_ishl hx hb dX8_swapChain_16 ?_
    refine lv_topi (fun x4 e_x4 => ?_)
    replace hf := qf_let_e e_x4 hf
    refine lv_istore_n (lv' := [(2, .int x4), (0, .ref (ad 0)), (1, .int p1)]) hx hb dX8_swapChain_17 rfl hl (by decide) rfl (fun ls hl => ?_)
    refine lv_iconst (v := 0) hx hb dX8_swapChain_18 (by decide) ?_
    refine lv_istore_n (lv' := [(3, .int (0 : Int32)), (2, .int x4), (0, .ref (ad 0)), (1, .int p1)]) hx hb dX8_swapChain_19 rfl hl (by decide) rfl (fun ls hl => ?_)
    refine lv_aload_n hx hb dX8_swapChain_20 rfl (lv_at hl 2 rfl) ?_
    refine gfM_0_5 S0 V kl_X8_19 dX8_swapChain_21 ?_
    refine lv_bipush (v := 12) hx hb dX8_swapChain_24 (by decide) ?_
    refine lv_iload_n hx hb dX8_swapChain_26 rfl (lv_at hl 3 rfl) ?_
    refine lv_iadd hx hb dX8_swapChain_27 ?_
    have h_28 := qf_ld_in hf
    refine alM_4 S0 V h_28 dX8_swapChain_28 ?_
    refine lv_topi (fun x5 e_x5 => ?_)
    replace hf := qf_ld_e e_x5 hf
    refine lv_istore (lv' := [(4, .int x5), (3, .int (0 : Int32)), (2, .int x4), (0, .ref (ad 0)), (1, .int p1)]) hx hb dX8_swapChain_29 hl (by decide) rfl (fun ls hl => ?_)
    exact L_31 hf V (lv_sub hl [3, 2, 1, 0] rfl)
  · replace hf := qf_f c_9 hf
    refine lv_iconst (v := 0) hx hb dX8_swapChain_12 (by decide) ?_
    have hE := Option.some.inj hf
    obtain ⟨e0, hE⟩ := qf_pr hE
    exact qw_ireti S0 hr hlocks hQ e0 (by rw [hE]) V dX8_swapChain_13
theorem kd_X8_substituted : yX8_substituted.cls = RX8 ∧ yX8_substituted.cls ≠ "java/lang/invoke/MethodHandle" ∧ yX8_substituted.cls ≠ "java/lang/invoke/VarHandle" ∧ (parseMethodDescriptor yX8_substituted.desc).map (fun d => d.parameters.length) = some 3 := by decide +kernel
def f_X8_substituted_j22 (I : Nat → Int32) (A : Nat → Nat → Int32)  (y1 : Int32) (y2 : Int32) (y3 : Int32) (s0 : Int32) : Option (Int32 × (Nat → Int32)) :=
  qf_bd2 (f_X8_fails I s0) fun r3 I4 =>
  if r3 = 0 then (qf_bd (f_X8_isUnits y3) fun r5 =>
    if r5 = 0 then (some ((-2 : Int32), I4)) else (qf_bd (f_X8_replaced A y1 y2 y3) fun r6 =>
      some (r6, I4))) else (some ((0 : Int32), I4))
def f_X8_substituted_j21 (I : Nat → Int32) (A : Nat → Nat → Int32)  (y1 : Int32) (y2 : Int32) (y3 : Int32) : Option (Int32 × (Nat → Int32)) :=
  f_X8_substituted_j22 I A y1 y2 y3 (0 : Int32)
def f_X8_substituted (A : Nat → Nat → Int32) (I : Nat → Int32) (p1 : Int32) (p2 : Int32) (p3 : Int32) : Option (Int32 × (Nat → Int32)) :=
  qf_bd (f_X8_isHouse A p1) fun r1 =>
  if r1 = 0 then (f_X8_substituted_j21 I A p1 p2 p3) else (qf_bd (f_X8_isGood A p2) fun r2 =>
    if r2 = 0 then (f_X8_substituted_j21 I A p1 p2 p3) else (f_X8_substituted_j22 I A p1 p2 p3 (1 : Int32)))
abbrev wz_X8_substituted : List Cond := Cond.code yX8_substituted cX8_substituted 4 (some .int) :: qw_big
def rm_X8_substituted : Room := { frames := 3, cells := 0, slots := 0, locals := 71 }
set_option maxHeartbeats 4000000 in
set_option maxRecDepth 100000 in
theorem c_X8_substituted (l : Launch) {D : va_G} {cy : Nat → ClassId} {ad : Nat → Nat} {I : Nat → Int32} {A : Nat → Nat → Int32} {w : Int64} {p1 : Int32} {p2 : Int32} {p3 : Int32} {rv : Int32} {I9 : Nat → Int32} {sz : Nat} (hf : f_X8_substituted A I p1 p2 p3 = some (rv, I9)) : Met l yX8_substituted wz_X8_substituted rm_X8_substituted (va_Pc [.ref (ad 0), .int p1, .int p2, .int p3] (qw_Pre D cy (Wm cy ad I A w) sz)) (qw_Q (some (.int rv)) D (Wm cy ad I9 A w) (va_A (Wm cy ad I A w) sz)) 0 0 (va_A (Wm cy ad I A w) sz) := by
  refine qw_of (cc := cX8_substituted) (maxL := 4) (ret := (some .int)) (by decide) (Nat.le_of_ble_eq_true rfl) ?_
  intro p e s m args below meth c ls S0 hr hlocks hsz V hl
  have S0 : CallFix p m c cX8_substituted 4 s args qw_big RX8 := S0
  have hx := S0.1; have hb := S0.2.1; have hown := S0.2.2.2.1; have hts := S0.2.2.2.2
  have hl : lv_has ls 4 [(0, .ref (ad 0)), (1, .int p1), (2, .int p2), (3, .int p3)] := hl
  generalize va_A (Wm cy ad I A w) sz = Z9 at V ⊢
  obtain ⟨Q9, hQ⟩ : ∃ q, q = MQ below (qw_Q (some (.int rv)) D (Wm cy ad I9 A w) Z9) args s 0 0 Z9 := ⟨_, rfl⟩
  rw [← hQ]
  clear hsz
  have J_22 : ∀   {y1 : Int32} {y2 : Int32} {y3 : Int32} {s0 : Int32} {H : Heap} {locs : List Loc} {ls : Array Slot}, f_X8_substituted_j22 I A y1 y2 y3 s0 = some (rv, I9) → qw_V D cy Z9 s (Wm cy ad I A w) H locs → lv_has ls 4 [(0, .ref (ad 0)), (1, .int y1), (2, .int y2), (3, .int y3)] → W p l e rm_X8_substituted s m args below meth c H locs 0 0 Q9 (F0 m 22 ls [.int s0, .ref (ad 0)]) := by
    intro y1 y2 y3 s0 H locs ls hf V hl
    unfold f_X8_substituted_j22 at hf
    obtain ⟨r3, I4, hc_22, hf⟩ := qf_bd2_e hf
    refine qw_cV (rest := []) (st1 := [.int r3]) S0 V hl 0 gM_0 rfl (c_X8_fails l hc_22) kg_X8_201 rfl ⟨rfl, rfl⟩ kd_X8_fails ⟨Nat.le_of_ble_eq_true rfl, Nat.le_of_ble_eq_true rfl⟩ rfl rfl (Nat.le_of_ble_eq_true rfl) ⟨Nat.zero_le _, Nat.zero_le _⟩ rfl dX8_substituted_22 (fun H locs V => ?_)
    refine lv_if_eq (tgt := 30) hx hb dX8_substituted_25 (by decide) (fun c_25 => ?_) (fun c_25 => ?_)
    · replace hf := qf_t c_25 hf
      refine lv_iload_n hx hb dX8_substituted_30 rfl (lv_at hl 3 rfl) ?_
      obtain ⟨r5, hc_31, hf⟩ := qf_bd_e hf
      refine qw_cSR (rest := []) (st1 := [.int r5]) S0 V hl (c_X8_isUnits l hc_31) kg_X8_267 rfl ⟨rfl, rfl⟩ kd_X8_isUnits ⟨Nat.le_of_ble_eq_true rfl, Nat.le_of_ble_eq_true rfl⟩ rfl rfl (Nat.le_of_ble_eq_true rfl) ⟨Nat.zero_le _, Nat.zero_le _⟩ rfl dX8_substituted_31 ?_
      refine lv_if_eq (tgt := 47) hx hb dX8_substituted_34 (by decide) (fun c_34 => ?_) (fun c_34 => ?_)
      · replace hf := qf_t c_34 hf
        refine lv_bipush (v := -2) hx hb dX8_substituted_47 (by decide) ?_
        have hE := Option.some.inj hf
        obtain ⟨e0, hE⟩ := qf_pr hE
        exact qw_ireti S0 hr hlocks hQ e0 (by rw [hE]) V dX8_substituted_49
      · replace hf := qf_f c_34 hf
        refine lv_aload_n hx hb dX8_substituted_37 rfl (lv_at hl 0 rfl) ?_
        refine lv_iload_n hx hb dX8_substituted_38 rfl (lv_at hl 1 rfl) ?_
        refine lv_iload_n hx hb dX8_substituted_39 rfl (lv_at hl 2 rfl) ?_
        refine lv_iload_n hx hb dX8_substituted_40 rfl (lv_at hl 3 rfl) ?_
        obtain ⟨r6, hc_41, hf⟩ := qf_bd_e hf
        refine qw_cVR (rest := []) (st1 := [.int r6]) S0 V hl 0 gM_0 rfl (c_X8_replaced l hc_41) kg_X8_263 rfl ⟨rfl, rfl⟩ kd_X8_replaced ⟨Nat.le_of_ble_eq_true rfl, Nat.le_of_ble_eq_true rfl⟩ rfl rfl (Nat.le_of_ble_eq_true rfl) ⟨Nat.zero_le _, Nat.zero_le _⟩ rfl dX8_substituted_41 ?_
        refine lv_goto (tgt := 49) hx hb dX8_substituted_44 (by decide) ?_
        have hE := Option.some.inj hf
        obtain ⟨e0, hE⟩ := qf_pr hE
        exact qw_ireti S0 hr hlocks hQ e0 (by rw [hE]) V dX8_substituted_49
    · replace hf := qf_f c_25 hf
      refine lv_iconst (v := 0) hx hb dX8_substituted_28 (by decide) ?_
      have hE := Option.some.inj hf
      obtain ⟨e0, hE⟩ := qf_pr hE
      exact qw_ireti S0 hr hlocks hQ e0 (by rw [hE]) V dX8_substituted_29
  have J_21 : ∀   {y1 : Int32} {y2 : Int32} {y3 : Int32} {H : Heap} {locs : List Loc} {ls : Array Slot}, f_X8_substituted_j21 I A y1 y2 y3 = some (rv, I9) → qw_V D cy Z9 s (Wm cy ad I A w) H locs → lv_has ls 4 [(0, .ref (ad 0)), (1, .int y1), (2, .int y2), (3, .int y3)] → W p l e rm_X8_substituted s m args below meth c H locs 0 0 Q9 (F0 m 21 ls [.ref (ad 0)]) := by
    intro y1 y2 y3 H locs ls hf V hl
    unfold f_X8_substituted_j21 at hf
    refine lv_iconst (v := 0) hx hb dX8_substituted_21 (by decide) ?_
    exact J_22 hf V (lv_sub hl [0, 1, 2, 3] rfl)
  unfold f_X8_substituted at hf
  refine lv_aload_n hx hb dX8_substituted_0 rfl (lv_at hl 0 rfl) ?_
  refine lv_aload_n hx hb dX8_substituted_1 rfl (lv_at hl 0 rfl) ?_
  refine lv_iload_n hx hb dX8_substituted_2 rfl (lv_at hl 1 rfl) ?_
  obtain ⟨r1, hc_3, hf⟩ := qf_bd_e hf
  refine qw_cVR (rest := [.ref (ad 0)]) (st1 := [.int r1, .ref (ad 0)]) S0 V hl 0 gM_0 rfl (c_X8_isHouse l hc_3) kg_X8_208 rfl ⟨rfl, rfl⟩ kd_X8_isHouse ⟨Nat.le_of_ble_eq_true rfl, Nat.le_of_ble_eq_true rfl⟩ rfl rfl (Nat.le_of_ble_eq_true rfl) ⟨Nat.zero_le _, Nat.zero_le _⟩ rfl dX8_substituted_3 ?_
  refine lv_if_eq (tgt := 21) hx hb dX8_substituted_6 (by decide) (fun c_6 => ?_) (fun c_6 => ?_)
  · replace hf := qf_t c_6 hf
    exact J_21 hf V (lv_sub hl [0, 1, 2, 3] rfl)
  · replace hf := qf_f c_6 hf
    refine lv_aload_n hx hb dX8_substituted_9 rfl (lv_at hl 0 rfl) ?_
    refine lv_iload_n hx hb dX8_substituted_10 rfl (lv_at hl 2 rfl) ?_
    obtain ⟨r2, hc_11, hf⟩ := qf_bd_e hf
    refine qw_cVR (rest := [.ref (ad 0)]) (st1 := [.int r2, .ref (ad 0)]) S0 V hl 0 gM_0 rfl (c_X8_isGood l hc_11) kg_X8_205 rfl ⟨rfl, rfl⟩ kd_X8_isGood ⟨Nat.le_of_ble_eq_true rfl, Nat.le_of_ble_eq_true rfl⟩ rfl rfl (Nat.le_of_ble_eq_true rfl) ⟨Nat.zero_le _, Nat.zero_le _⟩ rfl dX8_substituted_11 ?_
    refine lv_if_eq (tgt := 21) hx hb dX8_substituted_14 (by decide) (fun c_14 => ?_) (fun c_14 => ?_)
    · replace hf := qf_t c_14 hf
      exact J_21 hf V (lv_sub hl [0, 1, 2, 3] rfl)
    · replace hf := qf_f c_14 hf
      refine lv_iconst (v := 1) hx hb dX8_substituted_17 (by decide) ?_
      refine lv_goto (tgt := 22) hx hb dX8_substituted_18 (by decide) ?_
      exact J_22 hf V (lv_sub hl [0, 1, 2, 3] rfl)
theorem kd_X8_served : yX8_served.cls = RX8 ∧ yX8_served.cls ≠ "java/lang/invoke/MethodHandle" ∧ yX8_served.cls ≠ "java/lang/invoke/VarHandle" ∧ (parseMethodDescriptor yX8_served.desc).map (fun d => d.parameters.length) = some 3 := by decide +kernel
def f_X8_served_j111 (A : Nat → Nat → Int32) (K63 : (Nat → Int32) → Int32 → Int32 → Int32 → Option (Int32 × (Nat → Int32))) (I : Nat → Int32) (y1 : Int32) (y2 : Int32) (y3 : Int32) (y4 : Int32) (y5 : Int32) (y6 : Int32) : Option (Int32 × (Nat → Int32)) :=
  qf_let (y6 + (1 : Int32)) fun x12 =>
  K63 I y4 y5 x12
def f_X8_served_l63 (A : Nat → Nat → Int32)  (y1 : Int32) (y2 : Int32) (y3 : Int32) : Nat → (Nat → Int32) → Int32 → Int32 → Int32 → Option (Int32 × (Nat → Int32))
  | 0, _, _, _, _ => none
  | n + 1, I, y4, y5, y6 =>
  qf_ld 62 (A 3) (2 : Int32) fun x7 =>
  if x7 ≤ y6 then (some (y5, I)) else (qf_bd (f_X8_isSuspendedNow A y1) fun r8 =>
    if r8 = 0 then (if y4 < y3 then (f_X8_served_j111 A (fun z0 z1 z2 z3 => f_X8_served_l63 A y1 y2 y3 n z0 z1 z2 z3) I y1 y2 y3 y4 y5 y6) else (qf_bd (f_X8_replaced A y6 y2 y3) fun r9 =>
        if 0 ≤ r9 then (qf_let ((y4 - y3)) fun x10 =>
          qf_let (y5 + (1 : Int32)) fun x11 =>
          f_X8_served_j111 A (fun z0 z1 z2 z3 => f_X8_served_l63 A y1 y2 y3 n z0 z1 z2 z3) I y1 y2 y3 x10 x11 y6) else (f_X8_served_j111 A (fun z0 z1 z2 z3 => f_X8_served_l63 A y1 y2 y3 n z0 z1 z2 z3) I y1 y2 y3 y4 y5 y6))) else (f_X8_served_j111 A (fun z0 z1 z2 z3 => f_X8_served_l63 A y1 y2 y3 n z0 z1 z2 z3) I y1 y2 y3 y4 y5 y6))
def f_X8_served_j22 (I : Nat → Int32) (A : Nat → Nat → Int32)  (y1 : Int32) (y2 : Int32) (y3 : Int32) (s0 : Int32) : Option (Int32 × (Nat → Int32)) :=
  qf_bd2 (f_X8_fails I s0) fun r3 I4 =>
  if r3 = 0 then (qf_bd (f_X8_isUnits y3) fun r5 =>
    if r5 = 0 then (some ((-2 : Int32), I4)) else (qf_ld 250 (A 0) (((145 : Int32) + ((6 : Int32) * y1)) + y2) fun x6 =>
      f_X8_served_l63 A y1 y2 y3 100000 I4 x6 (0 : Int32) (0 : Int32))) else (some ((0 : Int32), I4))
def f_X8_served_j21 (I : Nat → Int32) (A : Nat → Nat → Int32)  (y1 : Int32) (y2 : Int32) (y3 : Int32) : Option (Int32 × (Nat → Int32)) :=
  f_X8_served_j22 I A y1 y2 y3 (0 : Int32)
def f_X8_served (A : Nat → Nat → Int32) (I : Nat → Int32) (p1 : Int32) (p2 : Int32) (p3 : Int32) : Option (Int32 × (Nat → Int32)) :=
  qf_bd (f_X8_isShop A p1) fun r1 =>
  if r1 = 0 then (f_X8_served_j21 I A p1 p2 p3) else (qf_bd (f_X8_isGood A p2) fun r2 =>
    if r2 = 0 then (f_X8_served_j21 I A p1 p2 p3) else (f_X8_served_j22 I A p1 p2 p3 (1 : Int32)))
abbrev wz_X8_served : List Cond := Cond.code yX8_served cX8_served 7 (some .int) :: qw_big
def rm_X8_served : Room := { frames := 3, cells := 0, slots := 0, locals := 71 }
set_option maxHeartbeats 4000000 in
set_option maxRecDepth 100000 in
theorem c_X8_served (l : Launch) {D : va_G} {cy : Nat → ClassId} {ad : Nat → Nat} {I : Nat → Int32} {A : Nat → Nat → Int32} {w : Int64} {p1 : Int32} {p2 : Int32} {p3 : Int32} {rv : Int32} {I9 : Nat → Int32} {sz : Nat} (hf : f_X8_served A I p1 p2 p3 = some (rv, I9)) : Met l yX8_served wz_X8_served rm_X8_served (va_Pc [.ref (ad 0), .int p1, .int p2, .int p3] (qw_Pre D cy (Wm cy ad I A w) sz)) (qw_Q (some (.int rv)) D (Wm cy ad I9 A w) (va_A (Wm cy ad I A w) sz)) 0 0 (va_A (Wm cy ad I A w) sz) := by
  refine qw_of (cc := cX8_served) (maxL := 7) (ret := (some .int)) (by decide) (Nat.le_of_ble_eq_true rfl) ?_
  intro p e s m args below meth c ls S0 hr hlocks hsz V hl
  have S0 : CallFix p m c cX8_served 7 s args qw_big RX8 := S0
  have hx := S0.1; have hb := S0.2.1; have hown := S0.2.2.2.1; have hts := S0.2.2.2.2
  have hl : lv_has ls 7 [(0, .ref (ad 0)), (1, .int p1), (2, .int p2), (3, .int p3)] := hl
  generalize va_A (Wm cy ad I A w) sz = Z9 at V ⊢
  obtain ⟨Q9, hQ⟩ : ∃ q, q = MQ below (qw_Q (some (.int rv)) D (Wm cy ad I9 A w) Z9) args s 0 0 Z9 := ⟨_, rfl⟩
  rw [← hQ]
  clear hsz
  have J_111 : ∀ {K63 : (Nat → Int32) → Int32 → Int32 → Int32 → Option (Int32 × (Nat → Int32))} {y1 : Int32} {y2 : Int32} {y3 : Int32}  (hK63 : ∀ {I : Nat → Int32} {y4 : Int32} {y5 : Int32} {y6 : Int32} {H : Heap} {locs : List Loc} {ls : Array Slot}, K63 I y4 y5 y6 = some (rv, I9) → qw_V D cy Z9 s (Wm cy ad I A w) H locs → lv_has ls 7 [(0, .ref (ad 0)), (1, .int y1), (2, .int y2), (3, .int y3), (4, .int y4), (5, .int y5), (6, .int y6)] → W p l e rm_X8_served s m args below meth c H locs 0 0 Q9 (F0 m 63 ls [])) {I : Nat → Int32} {y4 : Int32} {y5 : Int32} {y6 : Int32} {H : Heap} {locs : List Loc} {ls : Array Slot}, f_X8_served_j111 A K63 I y1 y2 y3 y4 y5 y6 = some (rv, I9) → qw_V D cy Z9 s (Wm cy ad I A w) H locs → lv_has ls 7 [(0, .ref (ad 0)), (1, .int y1), (2, .int y2), (3, .int y3), (4, .int y4), (5, .int y5), (6, .int y6)] → W p l e rm_X8_served s m args below meth c H locs 0 0 Q9 (F0 m 111 ls []) := by
    intro K63 y1 y2 y3 hK63 I y4 y5 y6 H locs ls hf V hl
    unfold f_X8_served_j111 at hf
    obtain ⟨x12, e_x12⟩ : ∃ y : Int32, y = y6 + (1 : Int32) := ⟨_, rfl⟩
    refine lv_iinc (v := x12) (lv' := [(6, .int x12), (0, .ref (ad 0)), (1, .int y1), (2, .int y2), (3, .int y3), (4, .int y4), (5, .int y5)]) hx hb dX8_served_111 hl (k := 6) rfl (by rw [e_x12]; rfl) (by decide) rfl (fun ls hl => ?_)
    replace hf := qf_let_e e_x12 hf
    refine lv_goto (tgt := 63) hx hb dX8_served_114 (by decide) ?_
    exact hK63 hf V (lv_sub hl [1, 2, 3, 4, 5, 6, 0] rfl)
  have L_63 : ∀  {y1 : Int32} {y2 : Int32} {y3 : Int32} {n : Nat} {I : Nat → Int32} {y4 : Int32} {y5 : Int32} {y6 : Int32} {H : Heap} {locs : List Loc} {ls : Array Slot}, f_X8_served_l63 A y1 y2 y3 n I y4 y5 y6 = some (rv, I9) → qw_V D cy Z9 s (Wm cy ad I A w) H locs → lv_has ls 7 [(0, .ref (ad 0)), (1, .int y1), (2, .int y2), (3, .int y3), (4, .int y4), (5, .int y5), (6, .int y6)] → W p l e rm_X8_served s m args below meth c H locs 0 0 Q9 (F0 m 63 ls []) := by
    intro y1 y2 y3 n
    induction n with
    | zero => intro I y4 y5 y6 H locs ls hf V hl; exact qf_no hf
    | succ n ih =>
      intro I y4 y5 y6 H locs ls hf V hl
      rw [f_X8_served_l63] at hf
      refine lv_iload hx hb dX8_served_63 (lv_at hl 6 rfl) ?_
      refine lv_aload_n hx hb dX8_served_65 rfl (lv_at hl 0 rfl) ?_
      refine gfM_0_5 S0 V kl_X8_19 dX8_served_66 ?_
      refine lv_iconst (v := 2) hx hb dX8_served_69 (by decide) ?_
      have h_70 := qf_ld_in hf
      refine alM_4 S0 V h_70 dX8_served_70 ?_
      refine lv_topi (fun x7 e_x7 => ?_)
      replace hf := qf_ld_e e_x7 hf
      refine lv_icmp_ge (tgt := 117) hx hb dX8_served_71 (by decide) (fun c_71 => ?_) (fun c_71 => ?_)
      · replace hf := qf_t c_71 hf
        refine lv_iload hx hb dX8_served_117 (lv_at hl 5 rfl) ?_
        have hE := Option.some.inj hf
        obtain ⟨e0, hE⟩ := qf_pr hE
        exact qw_ireti S0 hr hlocks hQ e0 (by rw [hE]) V dX8_served_119
      · replace hf := qf_f c_71 hf
        refine lv_aload_n hx hb dX8_served_74 rfl (lv_at hl 0 rfl) ?_
        refine lv_iload_n hx hb dX8_served_75 rfl (lv_at hl 1 rfl) ?_
        obtain ⟨r8, hc_76, hf⟩ := qf_bd_e hf
        refine qw_cVR (rest := []) (st1 := [.int r8]) S0 V hl 0 gM_0 rfl (c_X8_isSuspendedNow l hc_76) kg_X8_257 rfl ⟨rfl, rfl⟩ kd_X8_isSuspendedNow ⟨Nat.le_of_ble_eq_true rfl, Nat.le_of_ble_eq_true rfl⟩ rfl rfl (Nat.le_of_ble_eq_true rfl) ⟨Nat.zero_le _, Nat.zero_le _⟩ rfl dX8_served_76 ?_
        refine lv_if_ne (tgt := 111) hx hb dX8_served_79 (by decide) (fun c_79 => ?_) (fun c_79 => ?_)
        · replace hf := qf_f c_79 hf
          exact J_111 (fun hf V hl => ih hf V hl) hf V (lv_sub hl [0, 1, 2, 3, 4, 5, 6] rfl)
        · replace hf := qf_t c_79 hf
          refine lv_iload hx hb dX8_served_82 (lv_at hl 4 rfl) ?_
          refine lv_iload_n hx hb dX8_served_84 rfl (lv_at hl 3 rfl) ?_
          refine lv_icmp_lt (tgt := 111) hx hb dX8_served_85 (by decide) (fun c_85 => ?_) (fun c_85 => ?_)
          · replace hf := qf_t c_85 hf
            exact J_111 (fun hf V hl => ih hf V hl) hf V (lv_sub hl [0, 1, 2, 3, 4, 5, 6] rfl)
          · replace hf := qf_f c_85 hf
            refine lv_aload_n hx hb dX8_served_88 rfl (lv_at hl 0 rfl) ?_
            refine lv_iload hx hb dX8_served_89 (lv_at hl 6 rfl) ?_
            refine lv_iload_n hx hb dX8_served_91 rfl (lv_at hl 2 rfl) ?_
            refine lv_iload_n hx hb dX8_served_92 rfl (lv_at hl 3 rfl) ?_
            obtain ⟨r9, hc_93, hf⟩ := qf_bd_e hf
            refine qw_cVR (rest := []) (st1 := [.int r9]) S0 V hl 0 gM_0 rfl (c_X8_replaced l hc_93) kg_X8_263 rfl ⟨rfl, rfl⟩ kd_X8_replaced ⟨Nat.le_of_ble_eq_true rfl, Nat.le_of_ble_eq_true rfl⟩ rfl rfl (Nat.le_of_ble_eq_true rfl) ⟨Nat.zero_le _, Nat.zero_le _⟩ rfl dX8_served_93 ?_
            refine lv_if_ge (tgt := 102) hx hb dX8_served_96 (by decide) (fun c_96 => ?_) (fun c_96 => ?_)
            · replace hf := qf_t c_96 hf
              refine lv_iload hx hb dX8_served_102 (lv_at hl 4 rfl) ?_
              refine lv_iload_n hx hb dX8_served_104 rfl (lv_at hl 3 rfl) ?_
              refine lv_isub hx hb dX8_served_105 ?_
              refine lv_topi (fun x10 e_x10 => ?_)
              replace hf := qf_let_e e_x10 hf
              refine lv_istore (lv' := [(4, .int x10), (0, .ref (ad 0)), (1, .int y1), (2, .int y2), (3, .int y3), (5, .int y5), (6, .int y6)]) hx hb dX8_served_106 hl (by decide) rfl (fun ls hl => ?_)
              obtain ⟨x11, e_x11⟩ : ∃ y : Int32, y = y5 + (1 : Int32) := ⟨_, rfl⟩
              refine lv_iinc (v := x11) (lv' := [(5, .int x11), (4, .int x10), (0, .ref (ad 0)), (1, .int y1), (2, .int y2), (3, .int y3), (6, .int y6)]) hx hb dX8_served_108 hl (k := 5) rfl (by rw [e_x11]; rfl) (by decide) rfl (fun ls hl => ?_)
              replace hf := qf_let_e e_x11 hf
              exact J_111 (fun hf V hl => ih hf V hl) hf V (lv_sub hl [2, 3, 4, 5, 1, 0, 6] rfl)
            · replace hf := qf_f c_96 hf
              refine lv_goto (tgt := 111) hx hb dX8_served_99 (by decide) ?_
              exact J_111 (fun hf V hl => ih hf V hl) hf V (lv_sub hl [0, 1, 2, 3, 4, 5, 6] rfl)
  have J_22 : ∀   {y1 : Int32} {y2 : Int32} {y3 : Int32} {s0 : Int32} {H : Heap} {locs : List Loc} {ls : Array Slot}, f_X8_served_j22 I A y1 y2 y3 s0 = some (rv, I9) → qw_V D cy Z9 s (Wm cy ad I A w) H locs → lv_has ls 7 [(0, .ref (ad 0)), (1, .int y1), (2, .int y2), (3, .int y3)] → W p l e rm_X8_served s m args below meth c H locs 0 0 Q9 (F0 m 22 ls [.int s0, .ref (ad 0)]) := by
    intro y1 y2 y3 s0 H locs ls hf V hl
    unfold f_X8_served_j22 at hf
    obtain ⟨r3, I4, hc_22, hf⟩ := qf_bd2_e hf
    refine qw_cV (rest := []) (st1 := [.int r3]) S0 V hl 0 gM_0 rfl (c_X8_fails l hc_22) kg_X8_201 rfl ⟨rfl, rfl⟩ kd_X8_fails ⟨Nat.le_of_ble_eq_true rfl, Nat.le_of_ble_eq_true rfl⟩ rfl rfl (Nat.le_of_ble_eq_true rfl) ⟨Nat.zero_le _, Nat.zero_le _⟩ rfl dX8_served_22 (fun H locs V => ?_)
    refine lv_if_eq (tgt := 30) hx hb dX8_served_25 (by decide) (fun c_25 => ?_) (fun c_25 => ?_)
    · replace hf := qf_t c_25 hf
      refine lv_iload_n hx hb dX8_served_30 rfl (lv_at hl 3 rfl) ?_
      obtain ⟨r5, hc_31, hf⟩ := qf_bd_e hf
      refine qw_cSR (rest := []) (st1 := [.int r5]) S0 V hl (c_X8_isUnits l hc_31) kg_X8_267 rfl ⟨rfl, rfl⟩ kd_X8_isUnits ⟨Nat.le_of_ble_eq_true rfl, Nat.le_of_ble_eq_true rfl⟩ rfl rfl (Nat.le_of_ble_eq_true rfl) ⟨Nat.zero_le _, Nat.zero_le _⟩ rfl dX8_served_31 ?_
      refine lv_if_ne (tgt := 40) hx hb dX8_served_34 (by decide) (fun c_34 => ?_) (fun c_34 => ?_)
      · replace hf := qf_f c_34 hf
        refine lv_aload_n hx hb dX8_served_40 rfl (lv_at hl 0 rfl) ?_
        refine gfM_0_0 S0 V kl_X8_7 dX8_served_41 ?_
        refine lv_sipush (v := 145) hx hb dX8_served_44 (by decide) ?_
        refine lv_bipush (v := 6) hx hb dX8_served_47 (by decide) ?_
        refine lv_iload_n hx hb dX8_served_49 rfl (lv_at hl 1 rfl) ?_
        refine lv_imul hx hb dX8_served_50 ?_
        refine lv_iadd hx hb dX8_served_51 ?_
        refine lv_iload_n hx hb dX8_served_52 rfl (lv_at hl 2 rfl) ?_
        refine lv_iadd hx hb dX8_served_53 ?_
        have h_54 := qf_ld_in hf
        refine alM_1 S0 V h_54 dX8_served_54 ?_
        refine lv_topi (fun x6 e_x6 => ?_)
        replace hf := qf_ld_e e_x6 hf
        refine lv_istore (lv' := [(4, .int x6), (0, .ref (ad 0)), (1, .int y1), (2, .int y2), (3, .int y3)]) hx hb dX8_served_55 hl (by decide) rfl (fun ls hl => ?_)
        refine lv_iconst (v := 0) hx hb dX8_served_57 (by decide) ?_
        refine lv_istore (lv' := [(5, .int (0 : Int32)), (4, .int x6), (0, .ref (ad 0)), (1, .int y1), (2, .int y2), (3, .int y3)]) hx hb dX8_served_58 hl (by decide) rfl (fun ls hl => ?_)
        refine lv_iconst (v := 0) hx hb dX8_served_60 (by decide) ?_
        refine lv_istore (lv' := [(6, .int (0 : Int32)), (5, .int (0 : Int32)), (4, .int x6), (0, .ref (ad 0)), (1, .int y1), (2, .int y2), (3, .int y3)]) hx hb dX8_served_61 hl (by decide) rfl (fun ls hl => ?_)
        exact L_63 hf V (lv_sub hl [3, 4, 5, 6, 2, 1, 0] rfl)
      · replace hf := qf_t c_34 hf
        refine lv_bipush (v := -2) hx hb dX8_served_37 (by decide) ?_
        have hE := Option.some.inj hf
        obtain ⟨e0, hE⟩ := qf_pr hE
        exact qw_ireti S0 hr hlocks hQ e0 (by rw [hE]) V dX8_served_39
    · replace hf := qf_f c_25 hf
      refine lv_iconst (v := 0) hx hb dX8_served_28 (by decide) ?_
      have hE := Option.some.inj hf
      obtain ⟨e0, hE⟩ := qf_pr hE
      exact qw_ireti S0 hr hlocks hQ e0 (by rw [hE]) V dX8_served_29
  have J_21 : ∀   {y1 : Int32} {y2 : Int32} {y3 : Int32} {H : Heap} {locs : List Loc} {ls : Array Slot}, f_X8_served_j21 I A y1 y2 y3 = some (rv, I9) → qw_V D cy Z9 s (Wm cy ad I A w) H locs → lv_has ls 7 [(0, .ref (ad 0)), (1, .int y1), (2, .int y2), (3, .int y3)] → W p l e rm_X8_served s m args below meth c H locs 0 0 Q9 (F0 m 21 ls [.ref (ad 0)]) := by
    intro y1 y2 y3 H locs ls hf V hl
    unfold f_X8_served_j21 at hf
    refine lv_iconst (v := 0) hx hb dX8_served_21 (by decide) ?_
    exact J_22 hf V (lv_sub hl [0, 1, 2, 3] rfl)
  unfold f_X8_served at hf
  refine lv_aload_n hx hb dX8_served_0 rfl (lv_at hl 0 rfl) ?_
  refine lv_aload_n hx hb dX8_served_1 rfl (lv_at hl 0 rfl) ?_
  refine lv_iload_n hx hb dX8_served_2 rfl (lv_at hl 1 rfl) ?_
  obtain ⟨r1, hc_3, hf⟩ := qf_bd_e hf
  refine qw_cVR (rest := [.ref (ad 0)]) (st1 := [.int r1, .ref (ad 0)]) S0 V hl 0 gM_0 rfl (c_X8_isShop l hc_3) kg_X8_254 rfl ⟨rfl, rfl⟩ kd_X8_isShop ⟨Nat.le_of_ble_eq_true rfl, Nat.le_of_ble_eq_true rfl⟩ rfl rfl (Nat.le_of_ble_eq_true rfl) ⟨Nat.zero_le _, Nat.zero_le _⟩ rfl dX8_served_3 ?_
  refine lv_if_eq (tgt := 21) hx hb dX8_served_6 (by decide) (fun c_6 => ?_) (fun c_6 => ?_)
  · replace hf := qf_t c_6 hf
    exact J_21 hf V (lv_sub hl [0, 1, 2, 3] rfl)
  · replace hf := qf_f c_6 hf
    refine lv_aload_n hx hb dX8_served_9 rfl (lv_at hl 0 rfl) ?_
    refine lv_iload_n hx hb dX8_served_10 rfl (lv_at hl 2 rfl) ?_
    obtain ⟨r2, hc_11, hf⟩ := qf_bd_e hf
    refine qw_cVR (rest := [.ref (ad 0)]) (st1 := [.int r2, .ref (ad 0)]) S0 V hl 0 gM_0 rfl (c_X8_isGood l hc_11) kg_X8_205 rfl ⟨rfl, rfl⟩ kd_X8_isGood ⟨Nat.le_of_ble_eq_true rfl, Nat.le_of_ble_eq_true rfl⟩ rfl rfl (Nat.le_of_ble_eq_true rfl) ⟨Nat.zero_le _, Nat.zero_le _⟩ rfl dX8_served_11 ?_
    refine lv_if_eq (tgt := 21) hx hb dX8_served_14 (by decide) (fun c_14 => ?_) (fun c_14 => ?_)
    · replace hf := qf_t c_14 hf
      exact J_21 hf V (lv_sub hl [0, 1, 2, 3] rfl)
    · replace hf := qf_f c_14 hf
      refine lv_iconst (v := 1) hx hb dX8_served_17 (by decide) ?_
      refine lv_goto (tgt := 22) hx hb dX8_served_18 (by decide) ?_
      exact J_22 hf V (lv_sub hl [0, 1, 2, 3] rfl)
theorem kd_X8_waitFor : yX8_waitFor.cls = RX8 ∧ yX8_waitFor.cls ≠ "java/lang/invoke/MethodHandle" ∧ yX8_waitFor.cls ≠ "java/lang/invoke/VarHandle" ∧ (parseMethodDescriptor yX8_waitFor.desc).map (fun d => d.parameters.length) = some 3 := by decide +kernel
def f_X8_waitFor_j99   (I : Nat → Int32) (A : Nat → Nat → Int32) (y5 : Int32) : Option (Int32 × (Nat → Int32) × (Nat → Nat → Int32)) :=
  if (50 : Int32) < y5 then (some ((-1 : Int32), I, A)) else (some (y5, I, A))
def f_X8_waitFor_l61   (y1 : Int32) (y2 : Int32) (y3 : Int32) (y4 : Int32) : Nat → (Nat → Int32) → (Nat → Nat → Int32) → Int32 → Option (Int32 × (Nat → Int32) × (Nat → Nat → Int32))
  | 0, _, _, _ => none
  | n + 1, I, A, y5 =>
  if (50 : Int32) < y5 then (f_X8_waitFor_j99 I A y5) else (qf_bd (f_X8_sumLater A) fun r8 =>
    qf_ld 62 (A 3) ((26 : Int32) + y2) fun x9 =>
    if (y3 * x9) ≤ r8 then (f_X8_waitFor_j99 I A y5) else (qf_bd (f_X8_passLater A y1 y4) fun A10 =>
      qf_let (y5 + (1 : Int32)) fun x11 =>
      f_X8_waitFor_l61 y1 y2 y3 y4 n I A10 x11))
def f_X8_waitFor_j22 (I : Nat → Int32) (A : Nat → Nat → Int32)  (y1 : Int32) (y2 : Int32) (y3 : Int32) (s0 : Int32) : Option (Int32 × (Nat → Int32) × (Nat → Nat → Int32)) :=
  qf_bd2 (f_X8_fails I s0) fun r3 I4 =>
  if r3 = 0 then (qf_bd (f_X8_isUnits y3) fun r5 =>
    if r5 = 0 then (some ((-2 : Int32), I4, A)) else (qf_ld 62 (A 3) ((20 : Int32) + y2) fun x6 =>
      qf_bd (f_X8_layLater A y1 x6) fun A7 =>
      f_X8_waitFor_l61 y1 y2 y3 x6 100000 I4 A7 (0 : Int32))) else (some ((0 : Int32), I4, A))
def f_X8_waitFor_j21 (I : Nat → Int32) (A : Nat → Nat → Int32)  (y1 : Int32) (y2 : Int32) (y3 : Int32) : Option (Int32 × (Nat → Int32) × (Nat → Nat → Int32)) :=
  f_X8_waitFor_j22 I A y1 y2 y3 (0 : Int32)
def f_X8_waitFor (I : Nat → Int32) (A : Nat → Nat → Int32) (p1 : Int32) (p2 : Int32) (p3 : Int32) : Option (Int32 × (Nat → Int32) × (Nat → Nat → Int32)) :=
  qf_bd (f_X8_isHouse A p1) fun r1 =>
  if r1 = 0 then (f_X8_waitFor_j21 I A p1 p2 p3) else (qf_bd (f_X8_isGood A p2) fun r2 =>
    if r2 = 0 then (f_X8_waitFor_j21 I A p1 p2 p3) else (f_X8_waitFor_j22 I A p1 p2 p3 (1 : Int32)))
abbrev wz_X8_waitFor : List Cond := Cond.code yX8_waitFor cX8_waitFor 6 (some .int) :: qw_big
def rm_X8_waitFor : Room := { frames := 2, cells := 0, slots := 0, locals := 45 }
set_option maxHeartbeats 4000000 in
set_option maxRecDepth 100000 in
theorem c_X8_waitFor (l : Launch) {D : va_G} {cy : Nat → ClassId} {ad : Nat → Nat} {I : Nat → Int32} {A : Nat → Nat → Int32} {w : Int64} {p1 : Int32} {p2 : Int32} {p3 : Int32} {rv : Int32} {I9 : Nat → Int32} {A9 : Nat → Nat → Int32} {sz : Nat} (hf : f_X8_waitFor I A p1 p2 p3 = some (rv, I9, A9)) : Met l yX8_waitFor wz_X8_waitFor rm_X8_waitFor (va_Pc [.ref (ad 0), .int p1, .int p2, .int p3] (qw_Pre D cy (Wm cy ad I A w) sz)) (qw_Q (some (.int rv)) D (Wm cy ad I9 A9 w) (va_A (Wm cy ad I A w) sz)) 0 0 (va_A (Wm cy ad I A w) sz) := by
  refine qw_of (cc := cX8_waitFor) (maxL := 6) (ret := (some .int)) (by decide) (Nat.le_of_ble_eq_true rfl) ?_
  intro p e s m args below meth c ls S0 hr hlocks hsz V hl
  have S0 : CallFix p m c cX8_waitFor 6 s args qw_big RX8 := S0
  have hx := S0.1; have hb := S0.2.1; have hown := S0.2.2.2.1; have hts := S0.2.2.2.2
  have hl : lv_has ls 6 [(0, .ref (ad 0)), (1, .int p1), (2, .int p2), (3, .int p3)] := hl
  generalize va_A (Wm cy ad I A w) sz = Z9 at V ⊢
  obtain ⟨Q9, hQ⟩ : ∃ q, q = MQ below (qw_Q (some (.int rv)) D (Wm cy ad I9 A9 w) Z9) args s 0 0 Z9 := ⟨_, rfl⟩
  rw [← hQ]
  clear hsz
  have J_99 : ∀  {I : Nat → Int32} {A : Nat → Nat → Int32} {y5 : Int32} {H : Heap} {locs : List Loc} {ls : Array Slot}, f_X8_waitFor_j99 I A y5 = some (rv, I9, A9) → qw_V D cy Z9 s (Wm cy ad I A w) H locs → lv_has ls 6 [(5, .int y5)] → W p l e rm_X8_waitFor s m args below meth c H locs 0 0 Q9 (F0 m 99 ls []) := by
    intro I A y5 H locs ls hf V hl
    unfold f_X8_waitFor_j99 at hf
    refine lv_iload hx hb dX8_waitFor_99 (lv_at hl 0 rfl) ?_
    refine lv_bipush (v := 50) hx hb dX8_waitFor_101 (by decide) ?_
    refine lv_icmp_gt (tgt := 111) hx hb dX8_waitFor_103 (by decide) (fun c_103 => ?_) (fun c_103 => ?_)
    · replace hf := qf_t c_103 hf
      refine lv_iconst (v := -1) hx hb dX8_waitFor_111 (by decide) ?_
      have hE := Option.some.inj hf
      obtain ⟨e0, hE⟩ := qf_pr hE
      obtain ⟨e1, hE⟩ := qf_pr hE
      exact qw_ireti S0 hr hlocks hQ e0 (by rw [e1, hE]) V dX8_waitFor_112
    · replace hf := qf_f c_103 hf
      refine lv_iload hx hb dX8_waitFor_106 (lv_at hl 0 rfl) ?_
      refine lv_goto (tgt := 112) hx hb dX8_waitFor_108 (by decide) ?_
      have hE := Option.some.inj hf
      obtain ⟨e0, hE⟩ := qf_pr hE
      obtain ⟨e1, hE⟩ := qf_pr hE
      exact qw_ireti S0 hr hlocks hQ e0 (by rw [e1, hE]) V dX8_waitFor_112
  have L_61 : ∀  {y1 : Int32} {y2 : Int32} {y3 : Int32} {y4 : Int32} {n : Nat} {I : Nat → Int32} {A : Nat → Nat → Int32} {y5 : Int32} {H : Heap} {locs : List Loc} {ls : Array Slot}, f_X8_waitFor_l61 y1 y2 y3 y4 n I A y5 = some (rv, I9, A9) → qw_V D cy Z9 s (Wm cy ad I A w) H locs → lv_has ls 6 [(0, .ref (ad 0)), (1, .int y1), (2, .int y2), (3, .int y3), (4, .int y4), (5, .int y5)] → W p l e rm_X8_waitFor s m args below meth c H locs 0 0 Q9 (F0 m 61 ls []) := by
    intro y1 y2 y3 y4 n
    induction n with
    | zero => intro I A y5 H locs ls hf V hl; exact qf_no hf
    | succ n ih =>
      intro I A y5 H locs ls hf V hl
      rw [f_X8_waitFor_l61] at hf
      refine lv_iload hx hb dX8_waitFor_61 (lv_at hl 5 rfl) ?_
      refine lv_bipush (v := 50) hx hb dX8_waitFor_63 (by decide) ?_
      refine lv_icmp_gt (tgt := 99) hx hb dX8_waitFor_65 (by decide) (fun c_65 => ?_) (fun c_65 => ?_)
      · replace hf := qf_t c_65 hf
        exact J_99 hf V (lv_sub hl [5] rfl)
      · replace hf := qf_f c_65 hf
        refine lv_aload_n hx hb dX8_waitFor_68 rfl (lv_at hl 0 rfl) ?_
        obtain ⟨r8, hc_69, hf⟩ := qf_bd_e hf
        refine qw_cVR (rest := []) (st1 := [.int r8]) S0 V hl 0 gM_0 rfl (c_X8_sumLater l hc_69) kg_X8_229 rfl ⟨rfl, rfl⟩ kd_X8_sumLater ⟨Nat.le_of_ble_eq_true rfl, Nat.le_of_ble_eq_true rfl⟩ rfl rfl (Nat.le_of_ble_eq_true rfl) ⟨Nat.zero_le _, Nat.zero_le _⟩ rfl dX8_waitFor_69 ?_
        refine lv_iload_n hx hb dX8_waitFor_72 rfl (lv_at hl 3 rfl) ?_
        refine lv_aload_n hx hb dX8_waitFor_73 rfl (lv_at hl 0 rfl) ?_
        refine gfM_0_5 S0 V kl_X8_19 dX8_waitFor_74 ?_
        refine lv_bipush (v := 26) hx hb dX8_waitFor_77 (by decide) ?_
        refine lv_iload_n hx hb dX8_waitFor_79 rfl (lv_at hl 2 rfl) ?_
        refine lv_iadd hx hb dX8_waitFor_80 ?_
        have h_81 := qf_ld_in hf
        refine alM_4 S0 V h_81 dX8_waitFor_81 ?_
        refine lv_topi (fun x9 e_x9 => ?_)
        replace hf := qf_ld_e e_x9 hf
        refine lv_imul hx hb dX8_waitFor_82 ?_
        refine lv_icmp_ge (tgt := 99) hx hb dX8_waitFor_83 (by decide) (fun c_83 => ?_) (fun c_83 => ?_)
        · replace hf := qf_t c_83 hf
          exact J_99 hf V (lv_sub hl [5] rfl)
        · replace hf := qf_f c_83 hf
          refine lv_aload_n hx hb dX8_waitFor_86 rfl (lv_at hl 0 rfl) ?_
          refine lv_iload_n hx hb dX8_waitFor_87 rfl (lv_at hl 1 rfl) ?_
          refine lv_iload hx hb dX8_waitFor_88 (lv_at hl 4 rfl) ?_
          obtain ⟨A10, hc_90, hf⟩ := qf_bd_e hf
          refine qw_cV (rest := []) (st1 := []) S0 V hl 0 gM_0 rfl (c_X8_passLater l hc_90) kg_X8_226 rfl ⟨rfl, rfl⟩ kd_X8_passLater ⟨Nat.le_of_ble_eq_true rfl, Nat.le_of_ble_eq_true rfl⟩ rfl rfl (Nat.le_of_ble_eq_true rfl) ⟨Nat.zero_le _, Nat.zero_le _⟩ rfl dX8_waitFor_90 (fun H locs V => ?_)
          obtain ⟨x11, e_x11⟩ : ∃ y : Int32, y = y5 + (1 : Int32) := ⟨_, rfl⟩
          refine lv_iinc (v := x11) (lv' := [(5, .int x11), (0, .ref (ad 0)), (1, .int y1), (2, .int y2), (3, .int y3), (4, .int y4)]) hx hb dX8_waitFor_93 hl (k := 5) rfl (by rw [e_x11]; rfl) (by decide) rfl (fun ls hl => ?_)
          replace hf := qf_let_e e_x11 hf
          refine lv_goto (tgt := 61) hx hb dX8_waitFor_96 (by decide) ?_
          exact ih hf V (lv_sub hl [1, 2, 3, 4, 5, 0] rfl)
  have J_22 : ∀   {y1 : Int32} {y2 : Int32} {y3 : Int32} {s0 : Int32} {H : Heap} {locs : List Loc} {ls : Array Slot}, f_X8_waitFor_j22 I A y1 y2 y3 s0 = some (rv, I9, A9) → qw_V D cy Z9 s (Wm cy ad I A w) H locs → lv_has ls 6 [(0, .ref (ad 0)), (1, .int y1), (2, .int y2), (3, .int y3)] → W p l e rm_X8_waitFor s m args below meth c H locs 0 0 Q9 (F0 m 22 ls [.int s0, .ref (ad 0)]) := by
    intro y1 y2 y3 s0 H locs ls hf V hl
    unfold f_X8_waitFor_j22 at hf
    obtain ⟨r3, I4, hc_22, hf⟩ := qf_bd2_e hf
    refine qw_cV (rest := []) (st1 := [.int r3]) S0 V hl 0 gM_0 rfl (c_X8_fails l hc_22) kg_X8_201 rfl ⟨rfl, rfl⟩ kd_X8_fails ⟨Nat.le_of_ble_eq_true rfl, Nat.le_of_ble_eq_true rfl⟩ rfl rfl (Nat.le_of_ble_eq_true rfl) ⟨Nat.zero_le _, Nat.zero_le _⟩ rfl dX8_waitFor_22 (fun H locs V => ?_)
    refine lv_if_eq (tgt := 30) hx hb dX8_waitFor_25 (by decide) (fun c_25 => ?_) (fun c_25 => ?_)
    · replace hf := qf_t c_25 hf
      refine lv_iload_n hx hb dX8_waitFor_30 rfl (lv_at hl 3 rfl) ?_
      obtain ⟨r5, hc_31, hf⟩ := qf_bd_e hf
      refine qw_cSR (rest := []) (st1 := [.int r5]) S0 V hl (c_X8_isUnits l hc_31) kg_X8_267 rfl ⟨rfl, rfl⟩ kd_X8_isUnits ⟨Nat.le_of_ble_eq_true rfl, Nat.le_of_ble_eq_true rfl⟩ rfl rfl (Nat.le_of_ble_eq_true rfl) ⟨Nat.zero_le _, Nat.zero_le _⟩ rfl dX8_waitFor_31 ?_
      refine lv_if_ne (tgt := 40) hx hb dX8_waitFor_34 (by decide) (fun c_34 => ?_) (fun c_34 => ?_)
      · replace hf := qf_f c_34 hf
        refine lv_aload_n hx hb dX8_waitFor_40 rfl (lv_at hl 0 rfl) ?_
        refine gfM_0_5 S0 V kl_X8_19 dX8_waitFor_41 ?_
        refine lv_bipush (v := 20) hx hb dX8_waitFor_44 (by decide) ?_
        refine lv_iload_n hx hb dX8_waitFor_46 rfl (lv_at hl 2 rfl) ?_
        refine lv_iadd hx hb dX8_waitFor_47 ?_
        have h_48 := qf_ld_in hf
        refine alM_4 S0 V h_48 dX8_waitFor_48 ?_
        refine lv_topi (fun x6 e_x6 => ?_)
        replace hf := qf_ld_e e_x6 hf
        refine lv_istore (lv' := [(4, .int x6), (0, .ref (ad 0)), (1, .int y1), (2, .int y2), (3, .int y3)]) hx hb dX8_waitFor_49 hl (by decide) rfl (fun ls hl => ?_)
        refine lv_aload_n hx hb dX8_waitFor_51 rfl (lv_at hl 1 rfl) ?_
        refine lv_iload_n hx hb dX8_waitFor_52 rfl (lv_at hl 2 rfl) ?_
        refine lv_iload hx hb dX8_waitFor_53 (lv_at hl 0 rfl) ?_
        obtain ⟨A7, hc_55, hf⟩ := qf_bd_e hf
        refine qw_cV (rest := []) (st1 := []) S0 V hl 0 gM_0 rfl (c_X8_layLater l hc_55) kg_X8_223 rfl ⟨rfl, rfl⟩ kd_X8_layLater ⟨Nat.le_of_ble_eq_true rfl, Nat.le_of_ble_eq_true rfl⟩ rfl rfl (Nat.le_of_ble_eq_true rfl) ⟨Nat.zero_le _, Nat.zero_le _⟩ rfl dX8_waitFor_55 (fun H locs V => ?_)
        refine lv_iconst (v := 0) hx hb dX8_waitFor_58 (by decide) ?_
        refine lv_istore (lv' := [(5, .int (0 : Int32)), (4, .int x6), (0, .ref (ad 0)), (1, .int y1), (2, .int y2), (3, .int y3)]) hx hb dX8_waitFor_59 hl (by decide) rfl (fun ls hl => ?_)
        exact L_61 hf V (lv_sub hl [2, 3, 4, 5, 1, 0] rfl)
      · replace hf := qf_t c_34 hf
        refine lv_bipush (v := -2) hx hb dX8_waitFor_37 (by decide) ?_
        have hE := Option.some.inj hf
        obtain ⟨e0, hE⟩ := qf_pr hE
        obtain ⟨e1, hE⟩ := qf_pr hE
        exact qw_ireti S0 hr hlocks hQ e0 (by rw [e1, hE]) V dX8_waitFor_39
    · replace hf := qf_f c_25 hf
      refine lv_iconst (v := 0) hx hb dX8_waitFor_28 (by decide) ?_
      have hE := Option.some.inj hf
      obtain ⟨e0, hE⟩ := qf_pr hE
      obtain ⟨e1, hE⟩ := qf_pr hE
      exact qw_ireti S0 hr hlocks hQ e0 (by rw [e1, hE]) V dX8_waitFor_29
  have J_21 : ∀   {y1 : Int32} {y2 : Int32} {y3 : Int32} {H : Heap} {locs : List Loc} {ls : Array Slot}, f_X8_waitFor_j21 I A y1 y2 y3 = some (rv, I9, A9) → qw_V D cy Z9 s (Wm cy ad I A w) H locs → lv_has ls 6 [(0, .ref (ad 0)), (1, .int y1), (2, .int y2), (3, .int y3)] → W p l e rm_X8_waitFor s m args below meth c H locs 0 0 Q9 (F0 m 21 ls [.ref (ad 0)]) := by
    intro y1 y2 y3 H locs ls hf V hl
    unfold f_X8_waitFor_j21 at hf
    refine lv_iconst (v := 0) hx hb dX8_waitFor_21 (by decide) ?_
    exact J_22 hf V (lv_sub hl [0, 1, 2, 3] rfl)
  unfold f_X8_waitFor at hf
  refine lv_aload_n hx hb dX8_waitFor_0 rfl (lv_at hl 0 rfl) ?_
  refine lv_aload_n hx hb dX8_waitFor_1 rfl (lv_at hl 0 rfl) ?_
  refine lv_iload_n hx hb dX8_waitFor_2 rfl (lv_at hl 1 rfl) ?_
  obtain ⟨r1, hc_3, hf⟩ := qf_bd_e hf
  refine qw_cVR (rest := [.ref (ad 0)]) (st1 := [.int r1, .ref (ad 0)]) S0 V hl 0 gM_0 rfl (c_X8_isHouse l hc_3) kg_X8_208 rfl ⟨rfl, rfl⟩ kd_X8_isHouse ⟨Nat.le_of_ble_eq_true rfl, Nat.le_of_ble_eq_true rfl⟩ rfl rfl (Nat.le_of_ble_eq_true rfl) ⟨Nat.zero_le _, Nat.zero_le _⟩ rfl dX8_waitFor_3 ?_
  refine lv_if_eq (tgt := 21) hx hb dX8_waitFor_6 (by decide) (fun c_6 => ?_) (fun c_6 => ?_)
  · replace hf := qf_t c_6 hf
    exact J_21 hf V (lv_sub hl [0, 1, 2, 3] rfl)
  · replace hf := qf_f c_6 hf
    refine lv_aload_n hx hb dX8_waitFor_9 rfl (lv_at hl 0 rfl) ?_
    refine lv_iload_n hx hb dX8_waitFor_10 rfl (lv_at hl 2 rfl) ?_
    obtain ⟨r2, hc_11, hf⟩ := qf_bd_e hf
    refine qw_cVR (rest := [.ref (ad 0)]) (st1 := [.int r2, .ref (ad 0)]) S0 V hl 0 gM_0 rfl (c_X8_isGood l hc_11) kg_X8_205 rfl ⟨rfl, rfl⟩ kd_X8_isGood ⟨Nat.le_of_ble_eq_true rfl, Nat.le_of_ble_eq_true rfl⟩ rfl rfl (Nat.le_of_ble_eq_true rfl) ⟨Nat.zero_le _, Nat.zero_le _⟩ rfl dX8_waitFor_11 ?_
    refine lv_if_eq (tgt := 21) hx hb dX8_waitFor_14 (by decide) (fun c_14 => ?_) (fun c_14 => ?_)
    · replace hf := qf_t c_14 hf
      exact J_21 hf V (lv_sub hl [0, 1, 2, 3] rfl)
    · replace hf := qf_f c_14 hf
      refine lv_iconst (v := 1) hx hb dX8_waitFor_17 (by decide) ?_
      refine lv_goto (tgt := 22) hx hb dX8_waitFor_18 (by decide) ?_
      exact J_22 hf V (lv_sub hl [0, 1, 2, 3] rfl)
theorem kd_X8_supplyPeriods : yX8_supplyPeriods.cls = RX8 ∧ yX8_supplyPeriods.cls ≠ "java/lang/invoke/MethodHandle" ∧ yX8_supplyPeriods.cls ≠ "java/lang/invoke/VarHandle" ∧ (parseMethodDescriptor yX8_supplyPeriods.desc).map (fun d => d.parameters.length) = some 3 := by decide +kernel
def f_X8_supplyPeriods_l97  (K74 : (Nat → Int32) → (Nat → Nat → Int32) → Int32 → Option (Int32 × (Nat → Int32) × (Nat → Nat → Int32))) (y1 : Int32) (y4 : Int32) (y5 : Int32) (y6 : Int32) : Nat → (Nat → Int32) → (Nat → Nat → Int32) → Int32 → Int32 → Option (Int32 × (Nat → Int32) × (Nat → Nat → Int32))
  | 0, _, _, _, _ => none
  | n + 1, I, A, y7, y8 =>
  if (5 : Int32) ≤ y8 then (qf_bd (f_X8_passLater A y1 y4) fun A11 =>
    qf_let (y6 + (1 : Int32)) fun x12 =>
    K74 I A11 x12) else (qf_ld 5 (A 6) y8 fun x13 =>
    qf_bd (f_X8_lesser x13 y7) fun r14 =>
    qf_ld 5 (A 6) y8 fun x15 =>
    qf_st 5 y8 fun i17 =>
    qf_let (qf_up A 6 (upd (A 6) i17 (x15 - r14))) fun A16 =>
    qf_let ((y7 - r14)) fun x18 =>
    qf_let (y8 + (1 : Int32)) fun x19 =>
    f_X8_supplyPeriods_l97 K74 y1 y4 y5 y6 n I A16 x18 x19)
def f_X8_supplyPeriods_l74   (y1 : Int32) (y4 : Int32) (y5 : Int32) : Nat → (Nat → Int32) → (Nat → Nat → Int32) → Int32 → Option (Int32 × (Nat → Int32) × (Nat → Nat → Int32))
  | 0, _, _, _ => none
  | n + 1, I, A, y6 =>
  if (50 : Int32) ≤ y6 then (some (y6, I, A)) else (qf_bd (f_X8_sumLater A) fun r10 =>
    if r10 < y5 then (some (y6, I, A)) else (f_X8_supplyPeriods_l97 (fun z0 z1 z2 => f_X8_supplyPeriods_l74 y1 y4 y5 n z0 z1 z2) y1 y4 y5 y6 100000 I A y5 (0 : Int32)))
def f_X8_supplyPeriods_j22 (I : Nat → Int32) (A : Nat → Nat → Int32)  (y1 : Int32) (y2 : Int32) (y3 : Int32) (s0 : Int32) : Option (Int32 × (Nat → Int32) × (Nat → Nat → Int32)) :=
  qf_bd2 (f_X8_fails I s0) fun r3 I4 =>
  if r3 = 0 then (qf_bd (f_X8_isUnits y3) fun r5 =>
    if r5 = 0 then (some ((-2 : Int32), I4, A)) else (qf_ld 62 (A 3) ((20 : Int32) + y2) fun x6 =>
      qf_ld 62 (A 3) ((26 : Int32) + y2) fun x7 =>
      qf_let ((y3 * x7)) fun x8 =>
      qf_bd (f_X8_layLater A y1 x6) fun A9 =>
      f_X8_supplyPeriods_l74 y1 x6 x8 100000 I4 A9 (0 : Int32))) else (some ((0 : Int32), I4, A))
def f_X8_supplyPeriods_j21 (I : Nat → Int32) (A : Nat → Nat → Int32)  (y1 : Int32) (y2 : Int32) (y3 : Int32) : Option (Int32 × (Nat → Int32) × (Nat → Nat → Int32)) :=
  f_X8_supplyPeriods_j22 I A y1 y2 y3 (0 : Int32)
def f_X8_supplyPeriods (I : Nat → Int32) (A : Nat → Nat → Int32) (p1 : Int32) (p2 : Int32) (p3 : Int32) : Option (Int32 × (Nat → Int32) × (Nat → Nat → Int32)) :=
  qf_bd (f_X8_isHouse A p1) fun r1 =>
  if r1 = 0 then (f_X8_supplyPeriods_j21 I A p1 p2 p3) else (qf_bd (f_X8_isGood A p2) fun r2 =>
    if r2 = 0 then (f_X8_supplyPeriods_j21 I A p1 p2 p3) else (f_X8_supplyPeriods_j22 I A p1 p2 p3 (1 : Int32)))
abbrev wz_X8_supplyPeriods : List Cond := Cond.code yX8_supplyPeriods cX8_supplyPeriods 10 (some .int) :: qw_big
def rm_X8_supplyPeriods : Room := { frames := 2, cells := 0, slots := 0, locals := 45 }
set_option maxHeartbeats 4000000 in
set_option maxRecDepth 100000 in
theorem c_X8_supplyPeriods (l : Launch) {D : va_G} {cy : Nat → ClassId} {ad : Nat → Nat} {I : Nat → Int32} {A : Nat → Nat → Int32} {w : Int64} {p1 : Int32} {p2 : Int32} {p3 : Int32} {rv : Int32} {I9 : Nat → Int32} {A9 : Nat → Nat → Int32} {sz : Nat} (hf : f_X8_supplyPeriods I A p1 p2 p3 = some (rv, I9, A9)) : Met l yX8_supplyPeriods wz_X8_supplyPeriods rm_X8_supplyPeriods (va_Pc [.ref (ad 0), .int p1, .int p2, .int p3] (qw_Pre D cy (Wm cy ad I A w) sz)) (qw_Q (some (.int rv)) D (Wm cy ad I9 A9 w) (va_A (Wm cy ad I A w) sz)) 0 0 (va_A (Wm cy ad I A w) sz) := by
  refine qw_of (cc := cX8_supplyPeriods) (maxL := 10) (ret := (some .int)) (by decide) (Nat.le_of_ble_eq_true rfl) ?_
  intro p e s m args below meth c ls S0 hr hlocks hsz V hl
  have S0 : CallFix p m c cX8_supplyPeriods 10 s args qw_big RX8 := S0
  have hx := S0.1; have hb := S0.2.1; have hown := S0.2.2.2.1; have hts := S0.2.2.2.2
  have hl : lv_has ls 10 [(0, .ref (ad 0)), (1, .int p1), (2, .int p2), (3, .int p3)] := hl
  generalize va_A (Wm cy ad I A w) sz = Z9 at V ⊢
  obtain ⟨Q9, hQ⟩ : ∃ q, q = MQ below (qw_Q (some (.int rv)) D (Wm cy ad I9 A9 w) Z9) args s 0 0 Z9 := ⟨_, rfl⟩
  rw [← hQ]
  clear hsz
  have L_97 : ∀ {K74 : (Nat → Int32) → (Nat → Nat → Int32) → Int32 → Option (Int32 × (Nat → Int32) × (Nat → Nat → Int32))} {y1 : Int32} {y4 : Int32} {y5 : Int32}  (hK74 : ∀ {I : Nat → Int32} {A : Nat → Nat → Int32} {y6 : Int32} {H : Heap} {locs : List Loc} {ls : Array Slot}, K74 I A y6 = some (rv, I9, A9) → qw_V D cy Z9 s (Wm cy ad I A w) H locs → lv_has ls 10 [(0, .ref (ad 0)), (1, .int y1), (4, .int y4), (5, .int y5), (6, .int y6)] → W p l e rm_X8_supplyPeriods s m args below meth c H locs 0 0 Q9 (F0 m 74 ls [])) {y6 : Int32} {n : Nat} {I : Nat → Int32} {A : Nat → Nat → Int32} {y7 : Int32} {y8 : Int32} {H : Heap} {locs : List Loc} {ls : Array Slot}, f_X8_supplyPeriods_l97 K74 y1 y4 y5 y6 n I A y7 y8 = some (rv, I9, A9) → qw_V D cy Z9 s (Wm cy ad I A w) H locs → lv_has ls 10 [(0, .ref (ad 0)), (1, .int y1), (4, .int y4), (5, .int y5), (6, .int y6), (7, .int y7), (8, .int y8)] → W p l e rm_X8_supplyPeriods s m args below meth c H locs 0 0 Q9 (F0 m 97 ls []) := by
    intro K74 y1 y4 y5 hK74 y6 n
    induction n with
    | zero => intro I A y7 y8 H locs ls hf V hl; exact qf_no hf
    | succ n ih =>
      intro I A y7 y8 H locs ls hf V hl
      rw [f_X8_supplyPeriods_l97] at hf
      refine lv_iload hx hb dX8_supplyPeriods_97 (lv_at hl 6 rfl) ?_
      refine lv_iconst (v := 5) hx hb dX8_supplyPeriods_99 (by decide) ?_
      refine lv_icmp_ge (tgt := 142) hx hb dX8_supplyPeriods_100 (by decide) (fun c_100 => ?_) (fun c_100 => ?_)
      · replace hf := qf_t c_100 hf
        refine lv_aload_n hx hb dX8_supplyPeriods_142 rfl (lv_at hl 0 rfl) ?_
        refine lv_iload_n hx hb dX8_supplyPeriods_143 rfl (lv_at hl 1 rfl) ?_
        refine lv_iload hx hb dX8_supplyPeriods_144 (lv_at hl 2 rfl) ?_
        obtain ⟨A11, hc_146, hf⟩ := qf_bd_e hf
        refine qw_cV (rest := []) (st1 := []) S0 V hl 0 gM_0 rfl (c_X8_passLater l hc_146) kg_X8_226 rfl ⟨rfl, rfl⟩ kd_X8_passLater ⟨Nat.le_of_ble_eq_true rfl, Nat.le_of_ble_eq_true rfl⟩ rfl rfl (Nat.le_of_ble_eq_true rfl) ⟨Nat.zero_le _, Nat.zero_le _⟩ rfl dX8_supplyPeriods_146 (fun H locs V => ?_)
        obtain ⟨x12, e_x12⟩ : ∃ y : Int32, y = y6 + (1 : Int32) := ⟨_, rfl⟩
        refine lv_iinc (v := x12) (lv' := [(6, .int x12), (0, .ref (ad 0)), (1, .int y1), (4, .int y4), (5, .int y5), (7, .int y7), (8, .int y8)]) hx hb dX8_supplyPeriods_149 hl (k := 4) rfl (by rw [e_x12]; rfl) (by decide) rfl (fun ls hl => ?_)
        replace hf := qf_let_e e_x12 hf
        refine lv_goto (tgt := 74) hx hb dX8_supplyPeriods_152 (by decide) ?_
        exact hK74 hf V (lv_sub hl [1, 2, 3, 4, 0] rfl)
      · replace hf := qf_f c_100 hf
        refine lv_aload_n hx hb dX8_supplyPeriods_103 rfl (lv_at hl 0 rfl) ?_
        refine gfM_0_19 S0 V kl_X8_33 dX8_supplyPeriods_104 ?_
        refine lv_iload hx hb dX8_supplyPeriods_107 (lv_at hl 6 rfl) ?_
        have h_109 := qf_ld_in hf
        refine alM_7 S0 V h_109 dX8_supplyPeriods_109 ?_
        refine lv_topi (fun x13 e_x13 => ?_)
        replace hf := qf_ld_e e_x13 hf
        refine lv_iload hx hb dX8_supplyPeriods_110 (lv_at hl 5 rfl) ?_
        obtain ⟨r14, hc_112, hf⟩ := qf_bd_e hf
        refine qw_cSR (rest := []) (st1 := [.int r14]) S0 V hl (c_X8_lesser l hc_112) kg_X8_241 rfl ⟨rfl, rfl⟩ kd_X8_lesser ⟨Nat.le_of_ble_eq_true rfl, Nat.le_of_ble_eq_true rfl⟩ rfl rfl (Nat.le_of_ble_eq_true rfl) ⟨Nat.zero_le _, Nat.zero_le _⟩ rfl dX8_supplyPeriods_112 ?_
        refine lv_istore (lv' := [(9, .int r14), (0, .ref (ad 0)), (1, .int y1), (4, .int y4), (5, .int y5), (6, .int y6), (7, .int y7), (8, .int y8)]) hx hb dX8_supplyPeriods_115 hl (by decide) rfl (fun ls hl => ?_)
        refine lv_aload_n hx hb dX8_supplyPeriods_117 rfl (lv_at hl 1 rfl) ?_
        refine gfM_0_19 S0 V kl_X8_33 dX8_supplyPeriods_118 ?_
        refine lv_iload hx hb dX8_supplyPeriods_121 (lv_at hl 7 rfl) ?_
        refine lv_dup2_11 hx hb dX8_supplyPeriods_123 rfl rfl ?_
        have h_124 := qf_ld_in hf
        refine alM_7 S0 V h_124 dX8_supplyPeriods_124 ?_
        refine lv_topi (fun x15 e_x15 => ?_)
        replace hf := qf_ld_e e_x15 hf
        refine lv_iload hx hb dX8_supplyPeriods_125 (lv_at hl 0 rfl) ?_
        refine lv_isub hx hb dX8_supplyPeriods_127 ?_
        have h_128 := qf_st_in hf
        replace hf := qf_st_e hf
        refine asM_7 S0 V h_128 dX8_supplyPeriods_128 (fun H locs A16 e_A16 V => ?_)
        replace hf := qf_let_e e_A16 hf
        refine lv_iload hx hb dX8_supplyPeriods_129 (lv_at hl 6 rfl) ?_
        refine lv_iload hx hb dX8_supplyPeriods_131 (lv_at hl 0 rfl) ?_
        refine lv_isub hx hb dX8_supplyPeriods_133 ?_
        refine lv_topi (fun x18 e_x18 => ?_)
        replace hf := qf_let_e e_x18 hf
        refine lv_istore (lv' := [(7, .int x18), (9, .int r14), (0, .ref (ad 0)), (1, .int y1), (4, .int y4), (5, .int y5), (6, .int y6), (8, .int y8)]) hx hb dX8_supplyPeriods_134 hl (by decide) rfl (fun ls hl => ?_)
        obtain ⟨x19, e_x19⟩ : ∃ y : Int32, y = y8 + (1 : Int32) := ⟨_, rfl⟩
        refine lv_iinc (v := x19) (lv' := [(8, .int x19), (7, .int x18), (9, .int r14), (0, .ref (ad 0)), (1, .int y1), (4, .int y4), (5, .int y5), (6, .int y6)]) hx hb dX8_supplyPeriods_136 hl (k := 7) rfl (by rw [e_x19]; rfl) (by decide) rfl (fun ls hl => ?_)
        replace hf := qf_let_e e_x19 hf
        refine lv_goto (tgt := 97) hx hb dX8_supplyPeriods_139 (by decide) ?_
        exact ih hf V (lv_sub hl [3, 4, 5, 6, 7, 1, 0] rfl)
  have L_74 : ∀  {y1 : Int32} {y4 : Int32} {y5 : Int32} {n : Nat} {I : Nat → Int32} {A : Nat → Nat → Int32} {y6 : Int32} {H : Heap} {locs : List Loc} {ls : Array Slot}, f_X8_supplyPeriods_l74 y1 y4 y5 n I A y6 = some (rv, I9, A9) → qw_V D cy Z9 s (Wm cy ad I A w) H locs → lv_has ls 10 [(0, .ref (ad 0)), (1, .int y1), (4, .int y4), (5, .int y5), (6, .int y6)] → W p l e rm_X8_supplyPeriods s m args below meth c H locs 0 0 Q9 (F0 m 74 ls []) := by
    intro y1 y4 y5 n
    induction n with
    | zero => intro I A y6 H locs ls hf V hl; exact qf_no hf
    | succ n ih =>
      intro I A y6 H locs ls hf V hl
      rw [f_X8_supplyPeriods_l74] at hf
      refine lv_iload hx hb dX8_supplyPeriods_74 (lv_at hl 4 rfl) ?_
      refine lv_bipush (v := 50) hx hb dX8_supplyPeriods_76 (by decide) ?_
      refine lv_icmp_ge (tgt := 155) hx hb dX8_supplyPeriods_78 (by decide) (fun c_78 => ?_) (fun c_78 => ?_)
      · replace hf := qf_t c_78 hf
        refine lv_iload hx hb dX8_supplyPeriods_155 (lv_at hl 4 rfl) ?_
        have hE := Option.some.inj hf
        obtain ⟨e0, hE⟩ := qf_pr hE
        obtain ⟨e1, hE⟩ := qf_pr hE
        exact qw_ireti S0 hr hlocks hQ e0 (by rw [e1, hE]) V dX8_supplyPeriods_157
      · replace hf := qf_f c_78 hf
        refine lv_aload_n hx hb dX8_supplyPeriods_81 rfl (lv_at hl 0 rfl) ?_
        obtain ⟨r10, hc_82, hf⟩ := qf_bd_e hf
        refine qw_cVR (rest := []) (st1 := [.int r10]) S0 V hl 0 gM_0 rfl (c_X8_sumLater l hc_82) kg_X8_229 rfl ⟨rfl, rfl⟩ kd_X8_sumLater ⟨Nat.le_of_ble_eq_true rfl, Nat.le_of_ble_eq_true rfl⟩ rfl rfl (Nat.le_of_ble_eq_true rfl) ⟨Nat.zero_le _, Nat.zero_le _⟩ rfl dX8_supplyPeriods_82 ?_
        refine lv_iload hx hb dX8_supplyPeriods_85 (lv_at hl 3 rfl) ?_
        refine lv_icmp_lt (tgt := 155) hx hb dX8_supplyPeriods_87 (by decide) (fun c_87 => ?_) (fun c_87 => ?_)
        · replace hf := qf_t c_87 hf
          refine lv_iload hx hb dX8_supplyPeriods_155 (lv_at hl 4 rfl) ?_
          have hE := Option.some.inj hf
          obtain ⟨e0, hE⟩ := qf_pr hE
          obtain ⟨e1, hE⟩ := qf_pr hE
          exact qw_ireti S0 hr hlocks hQ e0 (by rw [e1, hE]) V dX8_supplyPeriods_157
        · replace hf := qf_f c_87 hf
          refine lv_iload hx hb dX8_supplyPeriods_90 (lv_at hl 3 rfl) ?_
          refine lv_istore (lv' := [(7, .int y5), (0, .ref (ad 0)), (1, .int y1), (4, .int y4), (5, .int y5), (6, .int y6)]) hx hb dX8_supplyPeriods_92 hl (by decide) rfl (fun ls hl => ?_)
          refine lv_iconst (v := 0) hx hb dX8_supplyPeriods_94 (by decide) ?_
          refine lv_istore (lv' := [(8, .int (0 : Int32)), (7, .int y5), (0, .ref (ad 0)), (1, .int y1), (4, .int y4), (5, .int y5), (6, .int y6)]) hx hb dX8_supplyPeriods_95 hl (by decide) rfl (fun ls hl => ?_)
          exact L_97 (fun hf V hl => ih hf V hl) hf V (lv_sub hl [2, 3, 4, 5, 6, 1, 0] rfl)
  have J_22 : ∀   {y1 : Int32} {y2 : Int32} {y3 : Int32} {s0 : Int32} {H : Heap} {locs : List Loc} {ls : Array Slot}, f_X8_supplyPeriods_j22 I A y1 y2 y3 s0 = some (rv, I9, A9) → qw_V D cy Z9 s (Wm cy ad I A w) H locs → lv_has ls 10 [(0, .ref (ad 0)), (1, .int y1), (2, .int y2), (3, .int y3)] → W p l e rm_X8_supplyPeriods s m args below meth c H locs 0 0 Q9 (F0 m 22 ls [.int s0, .ref (ad 0)]) := by
    intro y1 y2 y3 s0 H locs ls hf V hl
    unfold f_X8_supplyPeriods_j22 at hf
    obtain ⟨r3, I4, hc_22, hf⟩ := qf_bd2_e hf
    refine qw_cV (rest := []) (st1 := [.int r3]) S0 V hl 0 gM_0 rfl (c_X8_fails l hc_22) kg_X8_201 rfl ⟨rfl, rfl⟩ kd_X8_fails ⟨Nat.le_of_ble_eq_true rfl, Nat.le_of_ble_eq_true rfl⟩ rfl rfl (Nat.le_of_ble_eq_true rfl) ⟨Nat.zero_le _, Nat.zero_le _⟩ rfl dX8_supplyPeriods_22 (fun H locs V => ?_)
    refine lv_if_eq (tgt := 30) hx hb dX8_supplyPeriods_25 (by decide) (fun c_25 => ?_) (fun c_25 => ?_)
    · replace hf := qf_t c_25 hf
      refine lv_iload_n hx hb dX8_supplyPeriods_30 rfl (lv_at hl 3 rfl) ?_
      obtain ⟨r5, hc_31, hf⟩ := qf_bd_e hf
      refine qw_cSR (rest := []) (st1 := [.int r5]) S0 V hl (c_X8_isUnits l hc_31) kg_X8_267 rfl ⟨rfl, rfl⟩ kd_X8_isUnits ⟨Nat.le_of_ble_eq_true rfl, Nat.le_of_ble_eq_true rfl⟩ rfl rfl (Nat.le_of_ble_eq_true rfl) ⟨Nat.zero_le _, Nat.zero_le _⟩ rfl dX8_supplyPeriods_31 ?_
      refine lv_if_ne (tgt := 40) hx hb dX8_supplyPeriods_34 (by decide) (fun c_34 => ?_) (fun c_34 => ?_)
      · replace hf := qf_f c_34 hf
        refine lv_aload_n hx hb dX8_supplyPeriods_40 rfl (lv_at hl 0 rfl) ?_
        refine gfM_0_5 S0 V kl_X8_19 dX8_supplyPeriods_41 ?_
        refine lv_bipush (v := 20) hx hb dX8_supplyPeriods_44 (by decide) ?_
        refine lv_iload_n hx hb dX8_supplyPeriods_46 rfl (lv_at hl 2 rfl) ?_
        refine lv_iadd hx hb dX8_supplyPeriods_47 ?_
        have h_48 := qf_ld_in hf
        refine alM_4 S0 V h_48 dX8_supplyPeriods_48 ?_
        refine lv_topi (fun x6 e_x6 => ?_)
        replace hf := qf_ld_e e_x6 hf
        refine lv_istore (lv' := [(4, .int x6), (0, .ref (ad 0)), (1, .int y1), (2, .int y2), (3, .int y3)]) hx hb dX8_supplyPeriods_49 hl (by decide) rfl (fun ls hl => ?_)
        refine lv_iload_n hx hb dX8_supplyPeriods_51 rfl (lv_at hl 4 rfl) ?_
        refine lv_aload_n hx hb dX8_supplyPeriods_52 rfl (lv_at hl 1 rfl) ?_
        refine gfM_0_5 S0 V kl_X8_19 dX8_supplyPeriods_53 ?_
        refine lv_bipush (v := 26) hx hb dX8_supplyPeriods_56 (by decide) ?_
        refine lv_iload_n hx hb dX8_supplyPeriods_58 rfl (lv_at hl 3 rfl) ?_
        refine lv_iadd hx hb dX8_supplyPeriods_59 ?_
        have h_60 := qf_ld_in hf
        refine alM_4 S0 V h_60 dX8_supplyPeriods_60 ?_
        refine lv_topi (fun x7 e_x7 => ?_)
        replace hf := qf_ld_e e_x7 hf
        refine lv_imul hx hb dX8_supplyPeriods_61 ?_
        refine lv_topi (fun x8 e_x8 => ?_)
        replace hf := qf_let_e e_x8 hf
        refine lv_istore (lv' := [(5, .int x8), (4, .int x6), (0, .ref (ad 0)), (1, .int y1), (2, .int y2), (3, .int y3)]) hx hb dX8_supplyPeriods_62 hl (by decide) rfl (fun ls hl => ?_)
        refine lv_aload_n hx hb dX8_supplyPeriods_64 rfl (lv_at hl 2 rfl) ?_
        refine lv_iload_n hx hb dX8_supplyPeriods_65 rfl (lv_at hl 3 rfl) ?_
        refine lv_iload hx hb dX8_supplyPeriods_66 (lv_at hl 1 rfl) ?_
        obtain ⟨A9, hc_68, hf⟩ := qf_bd_e hf
        refine qw_cV (rest := []) (st1 := []) S0 V hl 0 gM_0 rfl (c_X8_layLater l hc_68) kg_X8_223 rfl ⟨rfl, rfl⟩ kd_X8_layLater ⟨Nat.le_of_ble_eq_true rfl, Nat.le_of_ble_eq_true rfl⟩ rfl rfl (Nat.le_of_ble_eq_true rfl) ⟨Nat.zero_le _, Nat.zero_le _⟩ rfl dX8_supplyPeriods_68 (fun H locs V => ?_)
        refine lv_iconst (v := 0) hx hb dX8_supplyPeriods_71 (by decide) ?_
        refine lv_istore (lv' := [(6, .int (0 : Int32)), (5, .int x8), (4, .int x6), (0, .ref (ad 0)), (1, .int y1), (2, .int y2), (3, .int y3)]) hx hb dX8_supplyPeriods_72 hl (by decide) rfl (fun ls hl => ?_)
        exact L_74 hf V (lv_sub hl [3, 4, 2, 1, 0] rfl)
      · replace hf := qf_t c_34 hf
        refine lv_bipush (v := -2) hx hb dX8_supplyPeriods_37 (by decide) ?_
        have hE := Option.some.inj hf
        obtain ⟨e0, hE⟩ := qf_pr hE
        obtain ⟨e1, hE⟩ := qf_pr hE
        exact qw_ireti S0 hr hlocks hQ e0 (by rw [e1, hE]) V dX8_supplyPeriods_39
    · replace hf := qf_f c_25 hf
      refine lv_iconst (v := 0) hx hb dX8_supplyPeriods_28 (by decide) ?_
      have hE := Option.some.inj hf
      obtain ⟨e0, hE⟩ := qf_pr hE
      obtain ⟨e1, hE⟩ := qf_pr hE
      exact qw_ireti S0 hr hlocks hQ e0 (by rw [e1, hE]) V dX8_supplyPeriods_29
  have J_21 : ∀   {y1 : Int32} {y2 : Int32} {y3 : Int32} {H : Heap} {locs : List Loc} {ls : Array Slot}, f_X8_supplyPeriods_j21 I A y1 y2 y3 = some (rv, I9, A9) → qw_V D cy Z9 s (Wm cy ad I A w) H locs → lv_has ls 10 [(0, .ref (ad 0)), (1, .int y1), (2, .int y2), (3, .int y3)] → W p l e rm_X8_supplyPeriods s m args below meth c H locs 0 0 Q9 (F0 m 21 ls [.ref (ad 0)]) := by
    intro y1 y2 y3 H locs ls hf V hl
    unfold f_X8_supplyPeriods_j21 at hf
    refine lv_iconst (v := 0) hx hb dX8_supplyPeriods_21 (by decide) ?_
    exact J_22 hf V (lv_sub hl [0, 1, 2, 3] rfl)
  unfold f_X8_supplyPeriods at hf
  refine lv_aload_n hx hb dX8_supplyPeriods_0 rfl (lv_at hl 0 rfl) ?_
  refine lv_aload_n hx hb dX8_supplyPeriods_1 rfl (lv_at hl 0 rfl) ?_
  refine lv_iload_n hx hb dX8_supplyPeriods_2 rfl (lv_at hl 1 rfl) ?_
  obtain ⟨r1, hc_3, hf⟩ := qf_bd_e hf
  refine qw_cVR (rest := [.ref (ad 0)]) (st1 := [.int r1, .ref (ad 0)]) S0 V hl 0 gM_0 rfl (c_X8_isHouse l hc_3) kg_X8_208 rfl ⟨rfl, rfl⟩ kd_X8_isHouse ⟨Nat.le_of_ble_eq_true rfl, Nat.le_of_ble_eq_true rfl⟩ rfl rfl (Nat.le_of_ble_eq_true rfl) ⟨Nat.zero_le _, Nat.zero_le _⟩ rfl dX8_supplyPeriods_3 ?_
  refine lv_if_eq (tgt := 21) hx hb dX8_supplyPeriods_6 (by decide) (fun c_6 => ?_) (fun c_6 => ?_)
  · replace hf := qf_t c_6 hf
    exact J_21 hf V (lv_sub hl [0, 1, 2, 3] rfl)
  · replace hf := qf_f c_6 hf
    refine lv_aload_n hx hb dX8_supplyPeriods_9 rfl (lv_at hl 0 rfl) ?_
    refine lv_iload_n hx hb dX8_supplyPeriods_10 rfl (lv_at hl 2 rfl) ?_
    obtain ⟨r2, hc_11, hf⟩ := qf_bd_e hf
    refine qw_cVR (rest := [.ref (ad 0)]) (st1 := [.int r2, .ref (ad 0)]) S0 V hl 0 gM_0 rfl (c_X8_isGood l hc_11) kg_X8_205 rfl ⟨rfl, rfl⟩ kd_X8_isGood ⟨Nat.le_of_ble_eq_true rfl, Nat.le_of_ble_eq_true rfl⟩ rfl rfl (Nat.le_of_ble_eq_true rfl) ⟨Nat.zero_le _, Nat.zero_le _⟩ rfl dX8_supplyPeriods_11 ?_
    refine lv_if_eq (tgt := 21) hx hb dX8_supplyPeriods_14 (by decide) (fun c_14 => ?_) (fun c_14 => ?_)
    · replace hf := qf_t c_14 hf
      exact J_21 hf V (lv_sub hl [0, 1, 2, 3] rfl)
    · replace hf := qf_f c_14 hf
      refine lv_iconst (v := 1) hx hb dX8_supplyPeriods_17 (by decide) ?_
      refine lv_goto (tgt := 22) hx hb dX8_supplyPeriods_18 (by decide) ?_
      exact J_22 hf V (lv_sub hl [0, 1, 2, 3] rfl)
theorem kd_X8_bestShop : yX8_bestShop.cls = RX8 ∧ yX8_bestShop.cls ≠ "java/lang/invoke/MethodHandle" ∧ yX8_bestShop.cls ≠ "java/lang/invoke/VarHandle" ∧ (parseMethodDescriptor yX8_bestShop.desc).map (fun d => d.parameters.length) = some 1 := by decide +kernel
def f_X8_bestShop_j84 (A : Nat → Nat → Int32) (K21 : (Nat → Int32) → Int32 → Int32 → Int32 → Option (Int32 × (Nat → Int32))) (I : Nat → Int32) (y1 : Int32) (y2 : Int32) (y3 : Int32) (y4 : Int32) : Option (Int32 × (Nat → Int32)) :=
  qf_let (y4 + (1 : Int32)) fun x8 =>
  K21 I y2 y3 x8
def f_X8_bestShop_l21 (A : Nat → Nat → Int32)  (y1 : Int32) : Nat → (Nat → Int32) → Int32 → Int32 → Int32 → Option (Int32 × (Nat → Int32))
  | 0, _, _, _, _ => none
  | n + 1, I, y2, y3, y4 =>
  qf_ld 62 (A 3) (3 : Int32) fun x4 =>
  if x4 ≤ y4 then (some (y2, I)) else (qf_bd (f_X8_isSuspendedNow A y4) fun r5 =>
    if r5 = 0 then (qf_ld 250 (A 0) (((145 : Int32) + ((6 : Int32) * y4)) + y1) fun x6 =>
      if y3 < x6 then (qf_ld 250 (A 0) (((145 : Int32) + ((6 : Int32) * y4)) + y1) fun x7 =>
        f_X8_bestShop_j84 A (fun z0 z1 z2 z3 => f_X8_bestShop_l21 A y1 n z0 z1 z2 z3) I y1 y4 x7 y4) else (f_X8_bestShop_j84 A (fun z0 z1 z2 z3 => f_X8_bestShop_l21 A y1 n z0 z1 z2 z3) I y1 y2 y3 y4)) else (f_X8_bestShop_j84 A (fun z0 z1 z2 z3 => f_X8_bestShop_l21 A y1 n z0 z1 z2 z3) I y1 y2 y3 y4))
def f_X8_bestShop (A : Nat → Nat → Int32) (I : Nat → Int32) (p1 : Int32) : Option (Int32 × (Nat → Int32)) :=
  qf_bd (f_X8_isGood A p1) fun r1 =>
  qf_bd2 (f_X8_fails I r1) fun r2 I3 =>
  if r2 = 0 then (f_X8_bestShop_l21 A p1 100000 I3 (-1 : Int32) (0 : Int32) (0 : Int32)) else (some ((0 : Int32), I3))
abbrev wz_X8_bestShop : List Cond := Cond.code yX8_bestShop cX8_bestShop 5 (some .int) :: qw_big
def rm_X8_bestShop : Room := { frames := 2, cells := 0, slots := 0, locals := 43 }
set_option maxHeartbeats 4000000 in
set_option maxRecDepth 100000 in
theorem c_X8_bestShop (l : Launch) {D : va_G} {cy : Nat → ClassId} {ad : Nat → Nat} {I : Nat → Int32} {A : Nat → Nat → Int32} {w : Int64} {p1 : Int32} {rv : Int32} {I9 : Nat → Int32} {sz : Nat} (hf : f_X8_bestShop A I p1 = some (rv, I9)) : Met l yX8_bestShop wz_X8_bestShop rm_X8_bestShop (va_Pc [.ref (ad 0), .int p1] (qw_Pre D cy (Wm cy ad I A w) sz)) (qw_Q (some (.int rv)) D (Wm cy ad I9 A w) (va_A (Wm cy ad I A w) sz)) 0 0 (va_A (Wm cy ad I A w) sz) := by
  refine qw_of (cc := cX8_bestShop) (maxL := 5) (ret := (some .int)) (by decide) (Nat.le_of_ble_eq_true rfl) ?_
  intro p e s m args below meth c ls S0 hr hlocks hsz V hl
  have S0 : CallFix p m c cX8_bestShop 5 s args qw_big RX8 := S0
  have hx := S0.1; have hb := S0.2.1; have hown := S0.2.2.2.1; have hts := S0.2.2.2.2
  have hl : lv_has ls 5 [(0, .ref (ad 0)), (1, .int p1)] := hl
  generalize va_A (Wm cy ad I A w) sz = Z9 at V ⊢
  obtain ⟨Q9, hQ⟩ : ∃ q, q = MQ below (qw_Q (some (.int rv)) D (Wm cy ad I9 A w) Z9) args s 0 0 Z9 := ⟨_, rfl⟩
  rw [← hQ]
  clear hsz
  have J_84 : ∀ {K21 : (Nat → Int32) → Int32 → Int32 → Int32 → Option (Int32 × (Nat → Int32))} {y1 : Int32}  (hK21 : ∀ {I : Nat → Int32} {y2 : Int32} {y3 : Int32} {y4 : Int32} {H : Heap} {locs : List Loc} {ls : Array Slot}, K21 I y2 y3 y4 = some (rv, I9) → qw_V D cy Z9 s (Wm cy ad I A w) H locs → lv_has ls 5 [(0, .ref (ad 0)), (1, .int y1), (2, .int y2), (3, .int y3), (4, .int y4)] → W p l e rm_X8_bestShop s m args below meth c H locs 0 0 Q9 (F0 m 21 ls [])) {I : Nat → Int32} {y2 : Int32} {y3 : Int32} {y4 : Int32} {H : Heap} {locs : List Loc} {ls : Array Slot}, f_X8_bestShop_j84 A K21 I y1 y2 y3 y4 = some (rv, I9) → qw_V D cy Z9 s (Wm cy ad I A w) H locs → lv_has ls 5 [(0, .ref (ad 0)), (1, .int y1), (2, .int y2), (3, .int y3), (4, .int y4)] → W p l e rm_X8_bestShop s m args below meth c H locs 0 0 Q9 (F0 m 84 ls []) := by
    intro K21 y1 hK21 I y2 y3 y4 H locs ls hf V hl
    unfold f_X8_bestShop_j84 at hf
    obtain ⟨x8, e_x8⟩ : ∃ y : Int32, y = y4 + (1 : Int32) := ⟨_, rfl⟩
    refine lv_iinc (v := x8) (lv' := [(4, .int x8), (0, .ref (ad 0)), (1, .int y1), (2, .int y2), (3, .int y3)]) hx hb dX8_bestShop_84 hl (k := 4) rfl (by rw [e_x8]; rfl) (by decide) rfl (fun ls hl => ?_)
    replace hf := qf_let_e e_x8 hf
    refine lv_goto (tgt := 21) hx hb dX8_bestShop_87 (by decide) ?_
    exact hK21 hf V (lv_sub hl [1, 2, 3, 4, 0] rfl)
  have L_21 : ∀  {y1 : Int32} {n : Nat} {I : Nat → Int32} {y2 : Int32} {y3 : Int32} {y4 : Int32} {H : Heap} {locs : List Loc} {ls : Array Slot}, f_X8_bestShop_l21 A y1 n I y2 y3 y4 = some (rv, I9) → qw_V D cy Z9 s (Wm cy ad I A w) H locs → lv_has ls 5 [(0, .ref (ad 0)), (1, .int y1), (2, .int y2), (3, .int y3), (4, .int y4)] → W p l e rm_X8_bestShop s m args below meth c H locs 0 0 Q9 (F0 m 21 ls []) := by
    intro y1 n
    induction n with
    | zero => intro I y2 y3 y4 H locs ls hf V hl; exact qf_no hf
    | succ n ih =>
      intro I y2 y3 y4 H locs ls hf V hl
      rw [f_X8_bestShop_l21] at hf
      refine lv_iload hx hb dX8_bestShop_21 (lv_at hl 4 rfl) ?_
      refine lv_aload_n hx hb dX8_bestShop_23 rfl (lv_at hl 0 rfl) ?_
      refine gfM_0_5 S0 V kl_X8_19 dX8_bestShop_24 ?_
      refine lv_iconst (v := 3) hx hb dX8_bestShop_27 (by decide) ?_
      have h_28 := qf_ld_in hf
      refine alM_4 S0 V h_28 dX8_bestShop_28 ?_
      refine lv_topi (fun x4 e_x4 => ?_)
      replace hf := qf_ld_e e_x4 hf
      refine lv_icmp_ge (tgt := 90) hx hb dX8_bestShop_29 (by decide) (fun c_29 => ?_) (fun c_29 => ?_)
      · replace hf := qf_t c_29 hf
        refine lv_iload_n hx hb dX8_bestShop_90 rfl (lv_at hl 2 rfl) ?_
        have hE := Option.some.inj hf
        obtain ⟨e0, hE⟩ := qf_pr hE
        exact qw_ireti S0 hr hlocks hQ e0 (by rw [hE]) V dX8_bestShop_91
      · replace hf := qf_f c_29 hf
        refine lv_aload_n hx hb dX8_bestShop_32 rfl (lv_at hl 0 rfl) ?_
        refine lv_iload hx hb dX8_bestShop_33 (lv_at hl 4 rfl) ?_
        obtain ⟨r5, hc_35, hf⟩ := qf_bd_e hf
        refine qw_cVR (rest := []) (st1 := [.int r5]) S0 V hl 0 gM_0 rfl (c_X8_isSuspendedNow l hc_35) kg_X8_257 rfl ⟨rfl, rfl⟩ kd_X8_isSuspendedNow ⟨Nat.le_of_ble_eq_true rfl, Nat.le_of_ble_eq_true rfl⟩ rfl rfl (Nat.le_of_ble_eq_true rfl) ⟨Nat.zero_le _, Nat.zero_le _⟩ rfl dX8_bestShop_35 ?_
        refine lv_if_ne (tgt := 84) hx hb dX8_bestShop_38 (by decide) (fun c_38 => ?_) (fun c_38 => ?_)
        · replace hf := qf_f c_38 hf
          exact J_84 (fun hf V hl => ih hf V hl) hf V (lv_sub hl [0, 1, 2, 3, 4] rfl)
        · replace hf := qf_t c_38 hf
          refine lv_aload_n hx hb dX8_bestShop_41 rfl (lv_at hl 0 rfl) ?_
          refine gfM_0_0 S0 V kl_X8_7 dX8_bestShop_42 ?_
          refine lv_sipush (v := 145) hx hb dX8_bestShop_45 (by decide) ?_
          refine lv_bipush (v := 6) hx hb dX8_bestShop_48 (by decide) ?_
          refine lv_iload hx hb dX8_bestShop_50 (lv_at hl 4 rfl) ?_
          refine lv_imul hx hb dX8_bestShop_52 ?_
          refine lv_iadd hx hb dX8_bestShop_53 ?_
          refine lv_iload_n hx hb dX8_bestShop_54 rfl (lv_at hl 1 rfl) ?_
          refine lv_iadd hx hb dX8_bestShop_55 ?_
          have h_56 := qf_ld_in hf
          refine alM_1 S0 V h_56 dX8_bestShop_56 ?_
          refine lv_topi (fun x6 e_x6 => ?_)
          replace hf := qf_ld_e e_x6 hf
          refine lv_iload_n hx hb dX8_bestShop_57 rfl (lv_at hl 3 rfl) ?_
          refine lv_icmp_gt (tgt := 64) hx hb dX8_bestShop_58 (by decide) (fun c_58 => ?_) (fun c_58 => ?_)
          · replace hf := qf_t c_58 hf
            refine lv_iload hx hb dX8_bestShop_64 (lv_at hl 4 rfl) ?_
            refine lv_istore_n (lv' := [(2, .int y4), (0, .ref (ad 0)), (1, .int y1), (3, .int y3), (4, .int y4)]) hx hb dX8_bestShop_66 rfl hl (by decide) rfl (fun ls hl => ?_)
            refine lv_aload_n hx hb dX8_bestShop_67 rfl (lv_at hl 1 rfl) ?_
            refine gfM_0_0 S0 V kl_X8_7 dX8_bestShop_68 ?_
            refine lv_sipush (v := 145) hx hb dX8_bestShop_71 (by decide) ?_
            refine lv_bipush (v := 6) hx hb dX8_bestShop_74 (by decide) ?_
            refine lv_iload hx hb dX8_bestShop_76 (lv_at hl 4 rfl) ?_
            refine lv_imul hx hb dX8_bestShop_78 ?_
            refine lv_iadd hx hb dX8_bestShop_79 ?_
            refine lv_iload_n hx hb dX8_bestShop_80 rfl (lv_at hl 2 rfl) ?_
            refine lv_iadd hx hb dX8_bestShop_81 ?_
            have h_82 := qf_ld_in hf
            refine alM_1 S0 V h_82 dX8_bestShop_82 ?_
            refine lv_topi (fun x7 e_x7 => ?_)
            replace hf := qf_ld_e e_x7 hf
            refine lv_istore_n (lv' := [(3, .int x7), (2, .int y4), (0, .ref (ad 0)), (1, .int y1), (4, .int y4)]) hx hb dX8_bestShop_83 rfl hl (by decide) rfl (fun ls hl => ?_)
            exact J_84 (fun hf V hl => ih hf V hl) hf V (lv_sub hl [2, 3, 1, 0, 4] rfl)
          · replace hf := qf_f c_58 hf
            refine lv_goto (tgt := 84) hx hb dX8_bestShop_61 (by decide) ?_
            exact J_84 (fun hf V hl => ih hf V hl) hf V (lv_sub hl [0, 1, 2, 3, 4] rfl)
  unfold f_X8_bestShop at hf
  refine lv_aload_n hx hb dX8_bestShop_0 rfl (lv_at hl 0 rfl) ?_
  refine lv_aload_n hx hb dX8_bestShop_1 rfl (lv_at hl 0 rfl) ?_
  refine lv_iload_n hx hb dX8_bestShop_2 rfl (lv_at hl 1 rfl) ?_
  obtain ⟨r1, hc_3, hf⟩ := qf_bd_e hf
  refine qw_cVR (rest := [.ref (ad 0)]) (st1 := [.int r1, .ref (ad 0)]) S0 V hl 0 gM_0 rfl (c_X8_isGood l hc_3) kg_X8_205 rfl ⟨rfl, rfl⟩ kd_X8_isGood ⟨Nat.le_of_ble_eq_true rfl, Nat.le_of_ble_eq_true rfl⟩ rfl rfl (Nat.le_of_ble_eq_true rfl) ⟨Nat.zero_le _, Nat.zero_le _⟩ rfl dX8_bestShop_3 ?_
  obtain ⟨r2, I3, hc_6, hf⟩ := qf_bd2_e hf
  refine qw_cV (rest := []) (st1 := [.int r2]) S0 V hl 0 gM_0 rfl (c_X8_fails l hc_6) kg_X8_201 rfl ⟨rfl, rfl⟩ kd_X8_fails ⟨Nat.le_of_ble_eq_true rfl, Nat.le_of_ble_eq_true rfl⟩ rfl rfl (Nat.le_of_ble_eq_true rfl) ⟨Nat.zero_le _, Nat.zero_le _⟩ rfl dX8_bestShop_6 (fun H locs V => ?_)
  refine lv_if_eq (tgt := 14) hx hb dX8_bestShop_9 (by decide) (fun c_9 => ?_) (fun c_9 => ?_)
  · replace hf := qf_t c_9 hf
    refine lv_iconst (v := -1) hx hb dX8_bestShop_14 (by decide) ?_
    refine lv_istore_n (lv' := [(2, .int (-1 : Int32)), (0, .ref (ad 0)), (1, .int p1)]) hx hb dX8_bestShop_15 rfl hl (by decide) rfl (fun ls hl => ?_)
    refine lv_iconst (v := 0) hx hb dX8_bestShop_16 (by decide) ?_
    refine lv_istore_n (lv' := [(3, .int (0 : Int32)), (2, .int (-1 : Int32)), (0, .ref (ad 0)), (1, .int p1)]) hx hb dX8_bestShop_17 rfl hl (by decide) rfl (fun ls hl => ?_)
    refine lv_iconst (v := 0) hx hb dX8_bestShop_18 (by decide) ?_
    refine lv_istore (lv' := [(4, .int (0 : Int32)), (3, .int (0 : Int32)), (2, .int (-1 : Int32)), (0, .ref (ad 0)), (1, .int p1)]) hx hb dX8_bestShop_19 hl (by decide) rfl (fun ls hl => ?_)
    exact L_21 hf V (lv_sub hl [3, 4, 2, 1, 0] rfl)
  · replace hf := qf_f c_9 hf
    refine lv_iconst (v := 0) hx hb dX8_bestShop_12 (by decide) ?_
    have hE := Option.some.inj hf
    obtain ⟨e0, hE⟩ := qf_pr hE
    exact qw_ireti S0 hr hlocks hQ e0 (by rw [hE]) V dX8_bestShop_13
theorem kd_X8_buy : yX8_buy.cls = RX8 ∧ yX8_buy.cls ≠ "java/lang/invoke/MethodHandle" ∧ yX8_buy.cls ≠ "java/lang/invoke/VarHandle" ∧ (parseMethodDescriptor yX8_buy.desc).map (fun d => d.parameters.length) = some 4 := by decide +kernel
def f_X8_buy_j198   (I : Nat → Int32) (A : Nat → Nat → Int32) (y1 : Int32) (y2 : Int32) (y3 : Int32) (y4 : Int32) (y6 : Int32) (y7 : Int32) : Option (Int32 × (Nat → Int32) × (Nat → Nat → Int32)) :=
  qf_ld 250 (A 0) (((145 : Int32) + ((6 : Int32) * y2)) + y3) fun x25 =>
  qf_st 250 (((145 : Int32) + ((6 : Int32) * y2)) + y3) fun i27 =>
  qf_let (qf_up A 0 (upd (A 0) i27 (x25 - y4))) fun A26 =>
  qf_ld 250 (A26 0) (((189 : Int32) + ((6 : Int32) * y2)) + y3) fun x28 =>
  qf_st 250 (((189 : Int32) + ((6 : Int32) * y2)) + y3) fun i30 =>
  qf_let (qf_up A26 0 (upd (A26 0) i30 (x28 + y4))) fun A29 =>
  qf_ld 250 (A29 0) (((169 : Int32) + ((4 : Int32) * y2)) + y6) fun x31 =>
  qf_st 250 (((169 : Int32) + ((4 : Int32) * y2)) + y6) fun i33 =>
  qf_let (qf_up A29 0 (upd (A29 0) i33 (x31 + y7))) fun A32 =>
  qf_bd (f_X8_couponsOf A32 y1 y6) fun r34 =>
  some (r34, I, A32)
def f_X8_buy (I : Nat → Int32) (A : Nat → Nat → Int32) (p1 : Int32) (p2 : Int32) (p3 : Int32) (p4 : Int32) : Option (Int32 × (Nat → Int32) × (Nat → Nat → Int32)) :=
  qf_let (upd I 1 (0 : Int32)) fun I1 =>
  qf_bd (f_X8_isHouse A p1) fun r2 =>
  if r2 = 0 then (some ((-1 : Int32), I1, A)) else (qf_bd (f_X8_isShop A p2) fun r3 =>
    if r3 = 0 then (some ((-1 : Int32), I1, A)) else (qf_bd (f_X8_isGood A p3) fun r4 =>
      if r4 = 0 then (some ((-1 : Int32), I1, A)) else (qf_bd (f_X8_isUnits p4) fun r5 =>
        if r5 = 0 then (some ((-2 : Int32), I1, A)) else (qf_bd (f_X8_reason A p1 p2 p3 p4) fun r6 =>
          if r6 ≤ 0 then (qf_bd2 (f_X8_remember I1 A) fun I7 A8 =>
            qf_ld 62 (A8 3) ((20 : Int32) + p3) fun x9 =>
            qf_ld 62 (A8 3) ((26 : Int32) + p3) fun x10 =>
            qf_let ((p4 * x10)) fun x11 =>
            qf_bd (f_X8_replaced A8 p1 p3 p4) fun r12 =>
            qf_bd (f_X8_couponsOf A8 p1 x9) fun r13 =>
            qf_bd (f_X8_lesser x11 r13) fun r14 =>
            qf_bd (f_X8_takeCoupons A8 p1 x9 r14 (-1 : Int32)) fun A15 =>
            qf_ld 250 (A15 0) ((241 : Int32) + x9) fun x16 =>
            qf_st 250 ((241 : Int32) + x9) fun i18 =>
            qf_let (qf_up A15 0 (upd (A15 0) i18 (x16 + r14))) fun A17 =>
            if r12 ≤ 0 then (f_X8_buy_j198 I7 A17 p1 p2 p3 p4 x9 x11) else (qf_ld 62 (A17 3) ((12 : Int32) + x9) fun x19 =>
              qf_bd (f_X8_takeCoupons A17 p1 x19 r12 (-1 : Int32)) fun A20 =>
              qf_ld 62 (A20 3) ((12 : Int32) + x9) fun x21 =>
              qf_ld 250 (A20 0) ((241 : Int32) + x21) fun x22 =>
              qf_st 250 ((241 : Int32) + x21) fun i24 =>
              qf_let (qf_up A20 0 (upd (A20 0) i24 (x22 + r12))) fun A23 =>
              f_X8_buy_j198 I7 A23 p1 p2 p3 p4 x9 x11)) else (if r6 = (3 : Int32) then (some ((-5 : Int32), I1, A)) else (some ((-6 : Int32), I1, A)))))))
abbrev wz_X8_buy : List Cond := Cond.code yX8_buy cX8_buy 10 (some .int) :: qw_big
def rm_X8_buy : Room := { frames := 4, cells := 0, slots := 0, locals := 95 }
set_option maxHeartbeats 4000000 in
set_option maxRecDepth 100000 in
theorem c_X8_buy (l : Launch) {D : va_G} {cy : Nat → ClassId} {ad : Nat → Nat} {I : Nat → Int32} {A : Nat → Nat → Int32} {w : Int64} {p1 : Int32} {p2 : Int32} {p3 : Int32} {p4 : Int32} {rv : Int32} {I9 : Nat → Int32} {A9 : Nat → Nat → Int32} {sz : Nat} (hf : f_X8_buy I A p1 p2 p3 p4 = some (rv, I9, A9)) : Met l yX8_buy wz_X8_buy rm_X8_buy (va_Pc [.ref (ad 0), .int p1, .int p2, .int p3, .int p4] (qw_Pre D cy (Wm cy ad I A w) sz)) (qw_Q (some (.int rv)) D (Wm cy ad I9 A9 w) (va_A (Wm cy ad I A w) sz)) 0 0 (va_A (Wm cy ad I A w) sz) := by
  refine qw_of (cc := cX8_buy) (maxL := 10) (ret := (some .int)) (by decide) (Nat.le_of_ble_eq_true rfl) ?_
  intro p e s m args below meth c ls S0 hr hlocks hsz V hl
  have S0 : CallFix p m c cX8_buy 10 s args qw_big RX8 := S0
  have hx := S0.1; have hb := S0.2.1; have hown := S0.2.2.2.1; have hts := S0.2.2.2.2
  have hl : lv_has ls 10 [(0, .ref (ad 0)), (1, .int p1), (2, .int p2), (3, .int p3), (4, .int p4)] := hl
  generalize va_A (Wm cy ad I A w) sz = Z9 at V ⊢
  obtain ⟨Q9, hQ⟩ : ∃ q, q = MQ below (qw_Q (some (.int rv)) D (Wm cy ad I9 A9 w) Z9) args s 0 0 Z9 := ⟨_, rfl⟩
  rw [← hQ]
  clear hsz
  have J_198 : ∀  {I : Nat → Int32} {A : Nat → Nat → Int32} {y1 : Int32} {y2 : Int32} {y3 : Int32} {y4 : Int32} {y6 : Int32} {y7 : Int32} {H : Heap} {locs : List Loc} {ls : Array Slot}, f_X8_buy_j198 I A y1 y2 y3 y4 y6 y7 = some (rv, I9, A9) → qw_V D cy Z9 s (Wm cy ad I A w) H locs → lv_has ls 10 [(0, .ref (ad 0)), (1, .int y1), (2, .int y2), (3, .int y3), (4, .int y4), (6, .int y6), (7, .int y7)] → W p l e rm_X8_buy s m args below meth c H locs 0 0 Q9 (F0 m 198 ls []) := by
    intro I A y1 y2 y3 y4 y6 y7 H locs ls hf V hl
    unfold f_X8_buy_j198 at hf
    refine lv_aload_n hx hb dX8_buy_198 rfl (lv_at hl 0 rfl) ?_
    refine gfM_0_0 S0 V kl_X8_7 dX8_buy_199 ?_
    refine lv_sipush (v := 145) hx hb dX8_buy_202 (by decide) ?_
    refine lv_bipush (v := 6) hx hb dX8_buy_205 (by decide) ?_
    refine lv_iload_n hx hb dX8_buy_207 rfl (lv_at hl 2 rfl) ?_
    refine lv_imul hx hb dX8_buy_208 ?_
    refine lv_iadd hx hb dX8_buy_209 ?_
    refine lv_iload_n hx hb dX8_buy_210 rfl (lv_at hl 3 rfl) ?_
    refine lv_iadd hx hb dX8_buy_211 ?_
    refine lv_dup2_11 hx hb dX8_buy_212 rfl rfl ?_
    have h_213 := qf_ld_in hf
    refine alM_1 S0 V h_213 dX8_buy_213 ?_
    refine lv_topi (fun x25 e_x25 => ?_)
    replace hf := qf_ld_e e_x25 hf
    refine lv_iload hx hb dX8_buy_214 (lv_at hl 4 rfl) ?_
    refine lv_isub hx hb dX8_buy_216 ?_
    have h_217 := qf_st_in hf
    replace hf := qf_st_e hf
    refine asM_1 S0 V h_217 dX8_buy_217 (fun H locs A26 e_A26 V => ?_)
    replace hf := qf_let_e e_A26 hf
    refine lv_aload_n hx hb dX8_buy_218 rfl (lv_at hl 0 rfl) ?_
    refine gfM_0_0 S0 V kl_X8_7 dX8_buy_219 ?_
    refine lv_sipush (v := 189) hx hb dX8_buy_222 (by decide) ?_
    refine lv_bipush (v := 6) hx hb dX8_buy_225 (by decide) ?_
    refine lv_iload_n hx hb dX8_buy_227 rfl (lv_at hl 2 rfl) ?_
    refine lv_imul hx hb dX8_buy_228 ?_
    refine lv_iadd hx hb dX8_buy_229 ?_
    refine lv_iload_n hx hb dX8_buy_230 rfl (lv_at hl 3 rfl) ?_
    refine lv_iadd hx hb dX8_buy_231 ?_
    refine lv_dup2_11 hx hb dX8_buy_232 rfl rfl ?_
    have h_233 := qf_ld_in hf
    refine alM_1 S0 V h_233 dX8_buy_233 ?_
    refine lv_topi (fun x28 e_x28 => ?_)
    replace hf := qf_ld_e e_x28 hf
    refine lv_iload hx hb dX8_buy_234 (lv_at hl 4 rfl) ?_
    refine lv_iadd hx hb dX8_buy_236 ?_
    have h_237 := qf_st_in hf
    replace hf := qf_st_e hf
    refine asM_1 S0 V h_237 dX8_buy_237 (fun H locs A29 e_A29 V => ?_)
    replace hf := qf_let_e e_A29 hf
    refine lv_aload_n hx hb dX8_buy_238 rfl (lv_at hl 0 rfl) ?_
    refine gfM_0_0 S0 V kl_X8_7 dX8_buy_239 ?_
    refine lv_sipush (v := 169) hx hb dX8_buy_242 (by decide) ?_
    refine lv_iconst (v := 4) hx hb dX8_buy_245 (by decide) ?_
    refine lv_iload_n hx hb dX8_buy_246 rfl (lv_at hl 2 rfl) ?_
    refine lv_imul hx hb dX8_buy_247 ?_
    refine lv_iadd hx hb dX8_buy_248 ?_
    refine lv_iload hx hb dX8_buy_249 (lv_at hl 5 rfl) ?_
    refine lv_iadd hx hb dX8_buy_251 ?_
    refine lv_dup2_11 hx hb dX8_buy_252 rfl rfl ?_
    have h_253 := qf_ld_in hf
    refine alM_1 S0 V h_253 dX8_buy_253 ?_
    refine lv_topi (fun x31 e_x31 => ?_)
    replace hf := qf_ld_e e_x31 hf
    refine lv_iload hx hb dX8_buy_254 (lv_at hl 6 rfl) ?_
    refine lv_iadd hx hb dX8_buy_256 ?_
    have h_257 := qf_st_in hf
    replace hf := qf_st_e hf
    refine asM_1 S0 V h_257 dX8_buy_257 (fun H locs A32 e_A32 V => ?_)
    replace hf := qf_let_e e_A32 hf
    refine lv_aload_n hx hb dX8_buy_258 rfl (lv_at hl 0 rfl) ?_
    refine lv_iload_n hx hb dX8_buy_259 rfl (lv_at hl 1 rfl) ?_
    refine lv_iload hx hb dX8_buy_260 (lv_at hl 5 rfl) ?_
    obtain ⟨r34, hc_262, hf⟩ := qf_bd_e hf
    refine qw_cVR (rest := []) (st1 := [.int r34]) S0 V hl 0 gM_0 rfl (c_X8_couponsOf l hc_262) kg_X8_214 rfl ⟨rfl, rfl⟩ kd_X8_couponsOf ⟨Nat.le_of_ble_eq_true rfl, Nat.le_of_ble_eq_true rfl⟩ rfl rfl (Nat.le_of_ble_eq_true rfl) ⟨Nat.zero_le _, Nat.zero_le _⟩ rfl dX8_buy_262 ?_
    have hE := Option.some.inj hf
    obtain ⟨e0, hE⟩ := qf_pr hE
    obtain ⟨e1, hE⟩ := qf_pr hE
    exact qw_ireti S0 hr hlocks hQ e0 (by rw [e1, hE]) V dX8_buy_265
  unfold f_X8_buy at hf
  refine lv_aload_n hx hb dX8_buy_0 rfl (lv_at hl 0 rfl) ?_
  refine lv_iconst (v := 0) hx hb dX8_buy_1 (by decide) ?_
  refine pfM_0_4 S0 V kl_X8_49 dX8_buy_2 (fun H locs I1 e_I1 V => ?_)
  replace hf := qf_let_e e_I1 hf
  refine lv_aload_n hx hb dX8_buy_5 rfl (lv_at hl 0 rfl) ?_
  refine lv_iload_n hx hb dX8_buy_6 rfl (lv_at hl 1 rfl) ?_
  obtain ⟨r2, hc_7, hf⟩ := qf_bd_e hf
  refine qw_cVR (rest := []) (st1 := [.int r2]) S0 V hl 0 gM_0 rfl (c_X8_isHouse l hc_7) kg_X8_208 rfl ⟨rfl, rfl⟩ kd_X8_isHouse ⟨Nat.le_of_ble_eq_true rfl, Nat.le_of_ble_eq_true rfl⟩ rfl rfl (Nat.le_of_ble_eq_true rfl) ⟨Nat.zero_le _, Nat.zero_le _⟩ rfl dX8_buy_7 ?_
  refine lv_if_eq (tgt := 29) hx hb dX8_buy_10 (by decide) (fun c_10 => ?_) (fun c_10 => ?_)
  · replace hf := qf_t c_10 hf
    refine lv_iconst (v := -1) hx hb dX8_buy_29 (by decide) ?_
    have hE := Option.some.inj hf
    obtain ⟨e0, hE⟩ := qf_pr hE
    obtain ⟨e1, hE⟩ := qf_pr hE
    exact qw_ireti S0 hr hlocks hQ e0 (by rw [e1, hE]) V dX8_buy_30
  · replace hf := qf_f c_10 hf
    refine lv_aload_n hx hb dX8_buy_13 rfl (lv_at hl 0 rfl) ?_
    refine lv_iload_n hx hb dX8_buy_14 rfl (lv_at hl 2 rfl) ?_
    obtain ⟨r3, hc_15, hf⟩ := qf_bd_e hf
    refine qw_cVR (rest := []) (st1 := [.int r3]) S0 V hl 0 gM_0 rfl (c_X8_isShop l hc_15) kg_X8_254 rfl ⟨rfl, rfl⟩ kd_X8_isShop ⟨Nat.le_of_ble_eq_true rfl, Nat.le_of_ble_eq_true rfl⟩ rfl rfl (Nat.le_of_ble_eq_true rfl) ⟨Nat.zero_le _, Nat.zero_le _⟩ rfl dX8_buy_15 ?_
    refine lv_if_eq (tgt := 29) hx hb dX8_buy_18 (by decide) (fun c_18 => ?_) (fun c_18 => ?_)
    · replace hf := qf_t c_18 hf
      refine lv_iconst (v := -1) hx hb dX8_buy_29 (by decide) ?_
      have hE := Option.some.inj hf
      obtain ⟨e0, hE⟩ := qf_pr hE
      obtain ⟨e1, hE⟩ := qf_pr hE
      exact qw_ireti S0 hr hlocks hQ e0 (by rw [e1, hE]) V dX8_buy_30
    · replace hf := qf_f c_18 hf
      refine lv_aload_n hx hb dX8_buy_21 rfl (lv_at hl 0 rfl) ?_
      refine lv_iload_n hx hb dX8_buy_22 rfl (lv_at hl 3 rfl) ?_
      obtain ⟨r4, hc_23, hf⟩ := qf_bd_e hf
      refine qw_cVR (rest := []) (st1 := [.int r4]) S0 V hl 0 gM_0 rfl (c_X8_isGood l hc_23) kg_X8_205 rfl ⟨rfl, rfl⟩ kd_X8_isGood ⟨Nat.le_of_ble_eq_true rfl, Nat.le_of_ble_eq_true rfl⟩ rfl rfl (Nat.le_of_ble_eq_true rfl) ⟨Nat.zero_le _, Nat.zero_le _⟩ rfl dX8_buy_23 ?_
      refine lv_if_ne (tgt := 31) hx hb dX8_buy_26 (by decide) (fun c_26 => ?_) (fun c_26 => ?_)
      · replace hf := qf_f c_26 hf
        refine lv_iload hx hb dX8_buy_31 (lv_at hl 4 rfl) ?_
        obtain ⟨r5, hc_33, hf⟩ := qf_bd_e hf
        refine qw_cSR (rest := []) (st1 := [.int r5]) S0 V hl (c_X8_isUnits l hc_33) kg_X8_267 rfl ⟨rfl, rfl⟩ kd_X8_isUnits ⟨Nat.le_of_ble_eq_true rfl, Nat.le_of_ble_eq_true rfl⟩ rfl rfl (Nat.le_of_ble_eq_true rfl) ⟨Nat.zero_le _, Nat.zero_le _⟩ rfl dX8_buy_33 ?_
        refine lv_if_ne (tgt := 42) hx hb dX8_buy_36 (by decide) (fun c_36 => ?_) (fun c_36 => ?_)
        · replace hf := qf_f c_36 hf
          refine lv_aload_n hx hb dX8_buy_42 rfl (lv_at hl 0 rfl) ?_
          refine lv_iload_n hx hb dX8_buy_43 rfl (lv_at hl 1 rfl) ?_
          refine lv_iload_n hx hb dX8_buy_44 rfl (lv_at hl 2 rfl) ?_
          refine lv_iload_n hx hb dX8_buy_45 rfl (lv_at hl 3 rfl) ?_
          refine lv_iload hx hb dX8_buy_46 (lv_at hl 4 rfl) ?_
          obtain ⟨r6, hc_48, hf⟩ := qf_bd_e hf
          refine qw_cVR (rest := []) (st1 := [.int r6]) S0 V hl 0 gM_0 rfl (c_X8_reason l hc_48) kg_X8_270 rfl ⟨rfl, rfl⟩ kd_X8_reason ⟨Nat.le_of_ble_eq_true rfl, Nat.le_of_ble_eq_true rfl⟩ rfl rfl (Nat.le_of_ble_eq_true rfl) ⟨Nat.zero_le _, Nat.zero_le _⟩ rfl dX8_buy_48 ?_
          refine lv_istore (lv' := [(5, .int r6), (0, .ref (ad 0)), (1, .int p1), (2, .int p2), (3, .int p3), (4, .int p4)]) hx hb dX8_buy_51 hl (by decide) rfl (fun ls hl => ?_)
          refine lv_iload hx hb dX8_buy_53 (lv_at hl 0 rfl) ?_
          refine lv_if_le (tgt := 72) hx hb dX8_buy_55 (by decide) (fun c_55 => ?_) (fun c_55 => ?_)
          · replace hf := qf_t c_55 hf
            refine lv_aload_n hx hb dX8_buy_72 rfl (lv_at hl 1 rfl) ?_
            obtain ⟨I7, A8, hc_73, hf⟩ := qf_bd2_e hf
            refine qw_cV (rest := []) (st1 := []) S0 V hl 0 gM_0 rfl (c_X8_remember l hc_73) kg_X8_235 rfl ⟨rfl, rfl⟩ kd_X8_remember ⟨Nat.le_of_ble_eq_true rfl, Nat.le_of_ble_eq_true rfl⟩ rfl rfl (Nat.le_of_ble_eq_true rfl) ⟨Nat.zero_le _, Nat.zero_le _⟩ rfl dX8_buy_73 (fun H locs V => ?_)
            refine lv_aload_n hx hb dX8_buy_76 rfl (lv_at hl 1 rfl) ?_
            refine gfM_0_5 S0 V kl_X8_19 dX8_buy_77 ?_
            refine lv_bipush (v := 20) hx hb dX8_buy_80 (by decide) ?_
            refine lv_iload_n hx hb dX8_buy_82 rfl (lv_at hl 4 rfl) ?_
            refine lv_iadd hx hb dX8_buy_83 ?_
            have h_84 := qf_ld_in hf
            refine alM_4 S0 V h_84 dX8_buy_84 ?_
            refine lv_topi (fun x9 e_x9 => ?_)
            replace hf := qf_ld_e e_x9 hf
            refine lv_istore (lv' := [(6, .int x9), (5, .int r6), (0, .ref (ad 0)), (1, .int p1), (2, .int p2), (3, .int p3), (4, .int p4)]) hx hb dX8_buy_85 hl (by decide) rfl (fun ls hl => ?_)
            refine lv_iload hx hb dX8_buy_87 (lv_at hl 6 rfl) ?_
            refine lv_aload_n hx hb dX8_buy_89 rfl (lv_at hl 2 rfl) ?_
            refine gfM_0_5 S0 V kl_X8_19 dX8_buy_90 ?_
            refine lv_bipush (v := 26) hx hb dX8_buy_93 (by decide) ?_
            refine lv_iload_n hx hb dX8_buy_95 rfl (lv_at hl 5 rfl) ?_
            refine lv_iadd hx hb dX8_buy_96 ?_
            have h_97 := qf_ld_in hf
            refine alM_4 S0 V h_97 dX8_buy_97 ?_
            refine lv_topi (fun x10 e_x10 => ?_)
            replace hf := qf_ld_e e_x10 hf
            refine lv_imul hx hb dX8_buy_98 ?_
            refine lv_topi (fun x11 e_x11 => ?_)
            replace hf := qf_let_e e_x11 hf
            refine lv_istore (lv' := [(7, .int x11), (6, .int x9), (5, .int r6), (0, .ref (ad 0)), (1, .int p1), (2, .int p2), (3, .int p3), (4, .int p4)]) hx hb dX8_buy_99 hl (by decide) rfl (fun ls hl => ?_)
            refine lv_aload_n hx hb dX8_buy_101 rfl (lv_at hl 3 rfl) ?_
            refine lv_iload_n hx hb dX8_buy_102 rfl (lv_at hl 4 rfl) ?_
            refine lv_iload_n hx hb dX8_buy_103 rfl (lv_at hl 6 rfl) ?_
            refine lv_iload hx hb dX8_buy_104 (lv_at hl 7 rfl) ?_
            obtain ⟨r12, hc_106, hf⟩ := qf_bd_e hf
            refine qw_cVR (rest := []) (st1 := [.int r12]) S0 V hl 0 gM_0 rfl (c_X8_replaced l hc_106) kg_X8_263 rfl ⟨rfl, rfl⟩ kd_X8_replaced ⟨Nat.le_of_ble_eq_true rfl, Nat.le_of_ble_eq_true rfl⟩ rfl rfl (Nat.le_of_ble_eq_true rfl) ⟨Nat.zero_le _, Nat.zero_le _⟩ rfl dX8_buy_106 ?_
            refine lv_istore (lv' := [(8, .int r12), (7, .int x11), (6, .int x9), (5, .int r6), (0, .ref (ad 0)), (1, .int p1), (2, .int p2), (3, .int p3), (4, .int p4)]) hx hb dX8_buy_109 hl (by decide) rfl (fun ls hl => ?_)
            refine lv_iload hx hb dX8_buy_111 (lv_at hl 1 rfl) ?_
            refine lv_aload_n hx hb dX8_buy_113 rfl (lv_at hl 4 rfl) ?_
            refine lv_iload_n hx hb dX8_buy_114 rfl (lv_at hl 5 rfl) ?_
            refine lv_iload hx hb dX8_buy_115 (lv_at hl 2 rfl) ?_
            obtain ⟨r13, hc_117, hf⟩ := qf_bd_e hf
            refine qw_cVR (rest := [.int x11]) (st1 := [.int r13, .int x11]) S0 V hl 0 gM_0 rfl (c_X8_couponsOf l hc_117) kg_X8_214 rfl ⟨rfl, rfl⟩ kd_X8_couponsOf ⟨Nat.le_of_ble_eq_true rfl, Nat.le_of_ble_eq_true rfl⟩ rfl rfl (Nat.le_of_ble_eq_true rfl) ⟨Nat.zero_le _, Nat.zero_le _⟩ rfl dX8_buy_117 ?_
            obtain ⟨r14, hc_120, hf⟩ := qf_bd_e hf
            refine qw_cSR (rest := []) (st1 := [.int r14]) S0 V hl (c_X8_lesser l hc_120) kg_X8_241 rfl ⟨rfl, rfl⟩ kd_X8_lesser ⟨Nat.le_of_ble_eq_true rfl, Nat.le_of_ble_eq_true rfl⟩ rfl rfl (Nat.le_of_ble_eq_true rfl) ⟨Nat.zero_le _, Nat.zero_le _⟩ rfl dX8_buy_120 ?_
            refine lv_istore (lv' := [(9, .int r14), (8, .int r12), (7, .int x11), (6, .int x9), (5, .int r6), (0, .ref (ad 0)), (1, .int p1), (2, .int p2), (3, .int p3), (4, .int p4)]) hx hb dX8_buy_123 hl (by decide) rfl (fun ls hl => ?_)
            refine lv_aload_n hx hb dX8_buy_125 rfl (lv_at hl 5 rfl) ?_
            refine lv_iload_n hx hb dX8_buy_126 rfl (lv_at hl 6 rfl) ?_
            refine lv_iload hx hb dX8_buy_127 (lv_at hl 3 rfl) ?_
            refine lv_iload hx hb dX8_buy_129 (lv_at hl 0 rfl) ?_
            refine lv_iconst (v := -1) hx hb dX8_buy_131 (by decide) ?_
            obtain ⟨A15, hc_132, hf⟩ := qf_bd_e hf
            refine qw_cV (rest := []) (st1 := []) S0 V hl 0 gM_0 rfl (c_X8_takeCoupons l hc_132) kg_X8_250 rfl ⟨rfl, rfl⟩ kd_X8_takeCoupons ⟨Nat.le_of_ble_eq_true rfl, Nat.le_of_ble_eq_true rfl⟩ rfl rfl (Nat.le_of_ble_eq_true rfl) ⟨Nat.zero_le _, Nat.zero_le _⟩ rfl dX8_buy_132 (fun H locs V => ?_)
            refine lv_aload_n hx hb dX8_buy_135 rfl (lv_at hl 5 rfl) ?_
            refine gfM_0_0 S0 V kl_X8_7 dX8_buy_136 ?_
            refine lv_sipush (v := 241) hx hb dX8_buy_139 (by decide) ?_
            refine lv_iload hx hb dX8_buy_142 (lv_at hl 3 rfl) ?_
            refine lv_iadd hx hb dX8_buy_144 ?_
            refine lv_dup2_11 hx hb dX8_buy_145 rfl rfl ?_
            have h_146 := qf_ld_in hf
            refine alM_1 S0 V h_146 dX8_buy_146 ?_
            refine lv_topi (fun x16 e_x16 => ?_)
            replace hf := qf_ld_e e_x16 hf
            refine lv_iload hx hb dX8_buy_147 (lv_at hl 0 rfl) ?_
            refine lv_iadd hx hb dX8_buy_149 ?_
            have h_150 := qf_st_in hf
            replace hf := qf_st_e hf
            refine asM_1 S0 V h_150 dX8_buy_150 (fun H locs A17 e_A17 V => ?_)
            replace hf := qf_let_e e_A17 hf
            refine lv_iload hx hb dX8_buy_151 (lv_at hl 1 rfl) ?_
            refine lv_if_le (tgt := 198) hx hb dX8_buy_153 (by decide) (fun c_153 => ?_) (fun c_153 => ?_)
            · replace hf := qf_t c_153 hf
              exact J_198 hf V (lv_sub hl [5, 6, 7, 8, 9, 3, 2] rfl)
            · replace hf := qf_f c_153 hf
              refine lv_aload_n hx hb dX8_buy_156 rfl (lv_at hl 5 rfl) ?_
              refine lv_iload_n hx hb dX8_buy_157 rfl (lv_at hl 6 rfl) ?_
              refine lv_aload_n hx hb dX8_buy_158 rfl (lv_at hl 5 rfl) ?_
              refine gfM_0_5 S0 V kl_X8_19 dX8_buy_159 ?_
              refine lv_bipush (v := 12) hx hb dX8_buy_162 (by decide) ?_
              refine lv_iload hx hb dX8_buy_164 (lv_at hl 3 rfl) ?_
              refine lv_iadd hx hb dX8_buy_166 ?_
              have h_167 := qf_ld_in hf
              refine alM_4 S0 V h_167 dX8_buy_167 ?_
              refine lv_topi (fun x19 e_x19 => ?_)
              replace hf := qf_ld_e e_x19 hf
              refine lv_iload hx hb dX8_buy_168 (lv_at hl 1 rfl) ?_
              refine lv_iconst (v := -1) hx hb dX8_buy_170 (by decide) ?_
              obtain ⟨A20, hc_171, hf⟩ := qf_bd_e hf
              refine qw_cV (rest := []) (st1 := []) S0 V hl 0 gM_0 rfl (c_X8_takeCoupons l hc_171) kg_X8_250 rfl ⟨rfl, rfl⟩ kd_X8_takeCoupons ⟨Nat.le_of_ble_eq_true rfl, Nat.le_of_ble_eq_true rfl⟩ rfl rfl (Nat.le_of_ble_eq_true rfl) ⟨Nat.zero_le _, Nat.zero_le _⟩ rfl dX8_buy_171 (fun H locs V => ?_)
              refine lv_aload_n hx hb dX8_buy_174 rfl (lv_at hl 5 rfl) ?_
              refine gfM_0_0 S0 V kl_X8_7 dX8_buy_175 ?_
              refine lv_sipush (v := 241) hx hb dX8_buy_178 (by decide) ?_
              refine lv_aload_n hx hb dX8_buy_181 rfl (lv_at hl 5 rfl) ?_
              refine gfM_0_5 S0 V kl_X8_19 dX8_buy_182 ?_
              refine lv_bipush (v := 12) hx hb dX8_buy_185 (by decide) ?_
              refine lv_iload hx hb dX8_buy_187 (lv_at hl 3 rfl) ?_
              refine lv_iadd hx hb dX8_buy_189 ?_
              have h_190 := qf_ld_in hf
              refine alM_4 S0 V h_190 dX8_buy_190 ?_
              refine lv_topi (fun x21 e_x21 => ?_)
              replace hf := qf_ld_e e_x21 hf
              refine lv_iadd hx hb dX8_buy_191 ?_
              refine lv_dup2_11 hx hb dX8_buy_192 rfl rfl ?_
              have h_193 := qf_ld_in hf
              refine alM_1 S0 V h_193 dX8_buy_193 ?_
              refine lv_topi (fun x22 e_x22 => ?_)
              replace hf := qf_ld_e e_x22 hf
              refine lv_iload hx hb dX8_buy_194 (lv_at hl 1 rfl) ?_
              refine lv_iadd hx hb dX8_buy_196 ?_
              have h_197 := qf_st_in hf
              replace hf := qf_st_e hf
              refine asM_1 S0 V h_197 dX8_buy_197 (fun H locs A23 e_A23 V => ?_)
              replace hf := qf_let_e e_A23 hf
              exact J_198 hf V (lv_sub hl [5, 6, 7, 8, 9, 3, 2] rfl)
          · replace hf := qf_f c_55 hf
            refine lv_iload hx hb dX8_buy_58 (lv_at hl 0 rfl) ?_
            refine lv_iconst (v := 3) hx hb dX8_buy_60 (by decide) ?_
            refine lv_icmp_ne (tgt := 69) hx hb dX8_buy_61 (by decide) (fun c_61 => ?_) (fun c_61 => ?_)
            · replace hf := qf_f c_61 hf
              refine lv_bipush (v := -6) hx hb dX8_buy_69 (by decide) ?_
              have hE := Option.some.inj hf
              obtain ⟨e0, hE⟩ := qf_pr hE
              obtain ⟨e1, hE⟩ := qf_pr hE
              exact qw_ireti S0 hr hlocks hQ e0 (by rw [e1, hE]) V dX8_buy_71
            · replace hf := qf_t c_61 hf
              refine lv_bipush (v := -5) hx hb dX8_buy_64 (by decide) ?_
              refine lv_goto (tgt := 71) hx hb dX8_buy_66 (by decide) ?_
              have hE := Option.some.inj hf
              obtain ⟨e0, hE⟩ := qf_pr hE
              obtain ⟨e1, hE⟩ := qf_pr hE
              exact qw_ireti S0 hr hlocks hQ e0 (by rw [e1, hE]) V dX8_buy_71
        · replace hf := qf_t c_36 hf
          refine lv_bipush (v := -2) hx hb dX8_buy_39 (by decide) ?_
          have hE := Option.some.inj hf
          obtain ⟨e0, hE⟩ := qf_pr hE
          obtain ⟨e1, hE⟩ := qf_pr hE
          exact qw_ireti S0 hr hlocks hQ e0 (by rw [e1, hE]) V dX8_buy_41
      · replace hf := qf_t c_26 hf
        refine lv_iconst (v := -1) hx hb dX8_buy_29 (by decide) ?_
        have hE := Option.some.inj hf
        obtain ⟨e0, hE⟩ := qf_pr hE
        obtain ⟨e1, hE⟩ := qf_pr hE
        exact qw_ireti S0 hr hlocks hQ e0 (by rw [e1, hE]) V dX8_buy_30
theorem kd_X8_deliver : yX8_deliver.cls = RX8 ∧ yX8_deliver.cls ≠ "java/lang/invoke/MethodHandle" ∧ yX8_deliver.cls ≠ "java/lang/invoke/VarHandle" ∧ (parseMethodDescriptor yX8_deliver.desc).map (fun d => d.parameters.length) = some 3 := by decide +kernel
def f_X8_deliver (I : Nat → Int32) (A : Nat → Nat → Int32) (p1 : Int32) (p2 : Int32) (p3 : Int32) : Option (Int32 × (Nat → Int32) × (Nat → Nat → Int32)) :=
  qf_let (upd I 1 (0 : Int32)) fun I1 =>
  qf_bd (f_X8_isShop A p1) fun r2 =>
  if r2 = 0 then (some ((-1 : Int32), I1, A)) else (qf_bd (f_X8_isGood A p2) fun r3 =>
    if r3 = 0 then (some ((-1 : Int32), I1, A)) else (qf_bd (f_X8_isUnits p3) fun r4 =>
      if r4 = 0 then (some ((-2 : Int32), I1, A)) else (qf_ld 62 (A 3) ((20 : Int32) + p2) fun x5 =>
        qf_let ((((169 : Int32) + ((4 : Int32) * p1)) + x5)) fun x6 =>
        qf_ld 250 (A 0) x6 fun x7 =>
        qf_ld 62 (A 3) ((26 : Int32) + p2) fun x8 =>
        if (p3 * x8) ≤ x7 then (qf_ld 250 (A 0) (((145 : Int32) + ((6 : Int32) * p1)) + p2) fun x9 =>
          if (x9 + p3) ≤ (99999 : Int32) then (qf_bd2 (f_X8_remember I1 A) fun I10 A11 =>
            qf_ld 250 (A11 0) x6 fun x12 =>
            qf_ld 62 (A11 3) ((26 : Int32) + p2) fun x13 =>
            qf_st 250 x6 fun i15 =>
            qf_let (qf_up A11 0 (upd (A11 0) i15 (x12 - (p3 * x13)))) fun A14 =>
            qf_ld 250 (A14 0) (((145 : Int32) + ((6 : Int32) * p1)) + p2) fun x16 =>
            qf_st 250 (((145 : Int32) + ((6 : Int32) * p1)) + p2) fun i18 =>
            qf_let (qf_up A14 0 (upd (A14 0) i18 (x16 + p3))) fun A17 =>
            qf_ld 250 (A17 0) (((213 : Int32) + ((6 : Int32) * p1)) + p2) fun x19 =>
            qf_st 250 (((213 : Int32) + ((6 : Int32) * p1)) + p2) fun i21 =>
            qf_let (qf_up A17 0 (upd (A17 0) i21 (x19 + p3))) fun A20 =>
            qf_ld 250 (A20 0) (((145 : Int32) + ((6 : Int32) * p1)) + p2) fun x22 =>
            some (x22, I10, A20)) else (some ((-3 : Int32), I1, A))) else (some ((-5 : Int32), I1, A)))))
abbrev wz_X8_deliver : List Cond := Cond.code yX8_deliver cX8_deliver 5 (some .int) :: qw_big
def rm_X8_deliver : Room := { frames := 2, cells := 0, slots := 0, locals := 43 }
set_option maxHeartbeats 4000000 in
set_option maxRecDepth 100000 in
theorem c_X8_deliver (l : Launch) {D : va_G} {cy : Nat → ClassId} {ad : Nat → Nat} {I : Nat → Int32} {A : Nat → Nat → Int32} {w : Int64} {p1 : Int32} {p2 : Int32} {p3 : Int32} {rv : Int32} {I9 : Nat → Int32} {A9 : Nat → Nat → Int32} {sz : Nat} (hf : f_X8_deliver I A p1 p2 p3 = some (rv, I9, A9)) : Met l yX8_deliver wz_X8_deliver rm_X8_deliver (va_Pc [.ref (ad 0), .int p1, .int p2, .int p3] (qw_Pre D cy (Wm cy ad I A w) sz)) (qw_Q (some (.int rv)) D (Wm cy ad I9 A9 w) (va_A (Wm cy ad I A w) sz)) 0 0 (va_A (Wm cy ad I A w) sz) := by
  refine qw_of (cc := cX8_deliver) (maxL := 5) (ret := (some .int)) (by decide) (Nat.le_of_ble_eq_true rfl) ?_
  intro p e s m args below meth c ls S0 hr hlocks hsz V hl
  have S0 : CallFix p m c cX8_deliver 5 s args qw_big RX8 := S0
  have hx := S0.1; have hb := S0.2.1; have hown := S0.2.2.2.1; have hts := S0.2.2.2.2
  have hl : lv_has ls 5 [(0, .ref (ad 0)), (1, .int p1), (2, .int p2), (3, .int p3)] := hl
  generalize va_A (Wm cy ad I A w) sz = Z9 at V ⊢
  obtain ⟨Q9, hQ⟩ : ∃ q, q = MQ below (qw_Q (some (.int rv)) D (Wm cy ad I9 A9 w) Z9) args s 0 0 Z9 := ⟨_, rfl⟩
  rw [← hQ]
  clear hsz
  unfold f_X8_deliver at hf
  refine lv_aload_n hx hb dX8_deliver_0 rfl (lv_at hl 0 rfl) ?_
  refine lv_iconst (v := 0) hx hb dX8_deliver_1 (by decide) ?_
  refine pfM_0_4 S0 V kl_X8_49 dX8_deliver_2 (fun H locs I1 e_I1 V => ?_)
  replace hf := qf_let_e e_I1 hf
  refine lv_aload_n hx hb dX8_deliver_5 rfl (lv_at hl 0 rfl) ?_
  refine lv_iload_n hx hb dX8_deliver_6 rfl (lv_at hl 1 rfl) ?_
  obtain ⟨r2, hc_7, hf⟩ := qf_bd_e hf
  refine qw_cVR (rest := []) (st1 := [.int r2]) S0 V hl 0 gM_0 rfl (c_X8_isShop l hc_7) kg_X8_254 rfl ⟨rfl, rfl⟩ kd_X8_isShop ⟨Nat.le_of_ble_eq_true rfl, Nat.le_of_ble_eq_true rfl⟩ rfl rfl (Nat.le_of_ble_eq_true rfl) ⟨Nat.zero_le _, Nat.zero_le _⟩ rfl dX8_deliver_7 ?_
  refine lv_if_eq (tgt := 21) hx hb dX8_deliver_10 (by decide) (fun c_10 => ?_) (fun c_10 => ?_)
  · replace hf := qf_t c_10 hf
    refine lv_iconst (v := -1) hx hb dX8_deliver_21 (by decide) ?_
    have hE := Option.some.inj hf
    obtain ⟨e0, hE⟩ := qf_pr hE
    obtain ⟨e1, hE⟩ := qf_pr hE
    exact qw_ireti S0 hr hlocks hQ e0 (by rw [e1, hE]) V dX8_deliver_22
  · replace hf := qf_f c_10 hf
    refine lv_aload_n hx hb dX8_deliver_13 rfl (lv_at hl 0 rfl) ?_
    refine lv_iload_n hx hb dX8_deliver_14 rfl (lv_at hl 2 rfl) ?_
    obtain ⟨r3, hc_15, hf⟩ := qf_bd_e hf
    refine qw_cVR (rest := []) (st1 := [.int r3]) S0 V hl 0 gM_0 rfl (c_X8_isGood l hc_15) kg_X8_205 rfl ⟨rfl, rfl⟩ kd_X8_isGood ⟨Nat.le_of_ble_eq_true rfl, Nat.le_of_ble_eq_true rfl⟩ rfl rfl (Nat.le_of_ble_eq_true rfl) ⟨Nat.zero_le _, Nat.zero_le _⟩ rfl dX8_deliver_15 ?_
    refine lv_if_ne (tgt := 23) hx hb dX8_deliver_18 (by decide) (fun c_18 => ?_) (fun c_18 => ?_)
    · replace hf := qf_f c_18 hf
      refine lv_iload_n hx hb dX8_deliver_23 rfl (lv_at hl 3 rfl) ?_
      obtain ⟨r4, hc_24, hf⟩ := qf_bd_e hf
      refine qw_cSR (rest := []) (st1 := [.int r4]) S0 V hl (c_X8_isUnits l hc_24) kg_X8_267 rfl ⟨rfl, rfl⟩ kd_X8_isUnits ⟨Nat.le_of_ble_eq_true rfl, Nat.le_of_ble_eq_true rfl⟩ rfl rfl (Nat.le_of_ble_eq_true rfl) ⟨Nat.zero_le _, Nat.zero_le _⟩ rfl dX8_deliver_24 ?_
      refine lv_if_ne (tgt := 33) hx hb dX8_deliver_27 (by decide) (fun c_27 => ?_) (fun c_27 => ?_)
      · replace hf := qf_f c_27 hf
        refine lv_sipush (v := 169) hx hb dX8_deliver_33 (by decide) ?_
        refine lv_iconst (v := 4) hx hb dX8_deliver_36 (by decide) ?_
        refine lv_iload_n hx hb dX8_deliver_37 rfl (lv_at hl 1 rfl) ?_
        refine lv_imul hx hb dX8_deliver_38 ?_
        refine lv_iadd hx hb dX8_deliver_39 ?_
        refine lv_aload_n hx hb dX8_deliver_40 rfl (lv_at hl 0 rfl) ?_
        refine gfM_0_5 S0 V kl_X8_19 dX8_deliver_41 ?_
        refine lv_bipush (v := 20) hx hb dX8_deliver_44 (by decide) ?_
        refine lv_iload_n hx hb dX8_deliver_46 rfl (lv_at hl 2 rfl) ?_
        refine lv_iadd hx hb dX8_deliver_47 ?_
        have h_48 := qf_ld_in hf
        refine alM_4 S0 V h_48 dX8_deliver_48 ?_
        refine lv_topi (fun x5 e_x5 => ?_)
        replace hf := qf_ld_e e_x5 hf
        refine lv_iadd hx hb dX8_deliver_49 ?_
        refine lv_topi (fun x6 e_x6 => ?_)
        replace hf := qf_let_e e_x6 hf
        refine lv_istore (lv' := [(4, .int x6), (0, .ref (ad 0)), (1, .int p1), (2, .int p2), (3, .int p3)]) hx hb dX8_deliver_50 hl (by decide) rfl (fun ls hl => ?_)
        refine lv_aload_n hx hb dX8_deliver_52 rfl (lv_at hl 1 rfl) ?_
        refine gfM_0_0 S0 V kl_X8_7 dX8_deliver_53 ?_
        refine lv_iload hx hb dX8_deliver_56 (lv_at hl 0 rfl) ?_
        have h_58 := qf_ld_in hf
        refine alM_1 S0 V h_58 dX8_deliver_58 ?_
        refine lv_topi (fun x7 e_x7 => ?_)
        replace hf := qf_ld_e e_x7 hf
        refine lv_iload_n hx hb dX8_deliver_59 rfl (lv_at hl 4 rfl) ?_
        refine lv_aload_n hx hb dX8_deliver_60 rfl (lv_at hl 1 rfl) ?_
        refine gfM_0_5 S0 V kl_X8_19 dX8_deliver_61 ?_
        refine lv_bipush (v := 26) hx hb dX8_deliver_64 (by decide) ?_
        refine lv_iload_n hx hb dX8_deliver_66 rfl (lv_at hl 3 rfl) ?_
        refine lv_iadd hx hb dX8_deliver_67 ?_
        have h_68 := qf_ld_in hf
        refine alM_4 S0 V h_68 dX8_deliver_68 ?_
        refine lv_topi (fun x8 e_x8 => ?_)
        replace hf := qf_ld_e e_x8 hf
        refine lv_imul hx hb dX8_deliver_69 ?_
        refine lv_icmp_ge (tgt := 76) hx hb dX8_deliver_70 (by decide) (fun c_70 => ?_) (fun c_70 => ?_)
        · replace hf := qf_t c_70 hf
          refine lv_aload_n hx hb dX8_deliver_76 rfl (lv_at hl 1 rfl) ?_
          refine gfM_0_0 S0 V kl_X8_7 dX8_deliver_77 ?_
          refine lv_sipush (v := 145) hx hb dX8_deliver_80 (by decide) ?_
          refine lv_bipush (v := 6) hx hb dX8_deliver_83 (by decide) ?_
          refine lv_iload_n hx hb dX8_deliver_85 rfl (lv_at hl 2 rfl) ?_
          refine lv_imul hx hb dX8_deliver_86 ?_
          refine lv_iadd hx hb dX8_deliver_87 ?_
          refine lv_iload_n hx hb dX8_deliver_88 rfl (lv_at hl 3 rfl) ?_
          refine lv_iadd hx hb dX8_deliver_89 ?_
          have h_90 := qf_ld_in hf
          refine alM_1 S0 V h_90 dX8_deliver_90 ?_
          refine lv_topi (fun x9 e_x9 => ?_)
          replace hf := qf_ld_e e_x9 hf
          refine lv_iload_n hx hb dX8_deliver_91 rfl (lv_at hl 4 rfl) ?_
          refine lv_iadd hx hb dX8_deliver_92 ?_
          refine lv_ldcw (v := 99999) hx hb hown (hts _ kct_X8_277) dX8_deliver_93 ?_
          refine lv_icmp_le (tgt := 102) hx hb dX8_deliver_96 (by decide) (fun c_96 => ?_) (fun c_96 => ?_)
          · replace hf := qf_t c_96 hf
            refine lv_aload_n hx hb dX8_deliver_102 rfl (lv_at hl 1 rfl) ?_
            obtain ⟨I10, A11, hc_103, hf⟩ := qf_bd2_e hf
            refine qw_cV (rest := []) (st1 := []) S0 V hl 0 gM_0 rfl (c_X8_remember l hc_103) kg_X8_235 rfl ⟨rfl, rfl⟩ kd_X8_remember ⟨Nat.le_of_ble_eq_true rfl, Nat.le_of_ble_eq_true rfl⟩ rfl rfl (Nat.le_of_ble_eq_true rfl) ⟨Nat.zero_le _, Nat.zero_le _⟩ rfl dX8_deliver_103 (fun H locs V => ?_)
            refine lv_aload_n hx hb dX8_deliver_106 rfl (lv_at hl 1 rfl) ?_
            refine gfM_0_0 S0 V kl_X8_7 dX8_deliver_107 ?_
            refine lv_iload hx hb dX8_deliver_110 (lv_at hl 0 rfl) ?_
            refine lv_dup2_11 hx hb dX8_deliver_112 rfl rfl ?_
            have h_113 := qf_ld_in hf
            refine alM_1 S0 V h_113 dX8_deliver_113 ?_
            refine lv_topi (fun x12 e_x12 => ?_)
            replace hf := qf_ld_e e_x12 hf
            refine lv_iload_n hx hb dX8_deliver_114 rfl (lv_at hl 4 rfl) ?_
            refine lv_aload_n hx hb dX8_deliver_115 rfl (lv_at hl 1 rfl) ?_
            refine gfM_0_5 S0 V kl_X8_19 dX8_deliver_116 ?_
            refine lv_bipush (v := 26) hx hb dX8_deliver_119 (by decide) ?_
            refine lv_iload_n hx hb dX8_deliver_121 rfl (lv_at hl 3 rfl) ?_
            refine lv_iadd hx hb dX8_deliver_122 ?_
            have h_123 := qf_ld_in hf
            refine alM_4 S0 V h_123 dX8_deliver_123 ?_
            refine lv_topi (fun x13 e_x13 => ?_)
            replace hf := qf_ld_e e_x13 hf
            refine lv_imul hx hb dX8_deliver_124 ?_
            refine lv_isub hx hb dX8_deliver_125 ?_
            have h_126 := qf_st_in hf
            replace hf := qf_st_e hf
            refine asM_1 S0 V h_126 dX8_deliver_126 (fun H locs A14 e_A14 V => ?_)
            replace hf := qf_let_e e_A14 hf
            refine lv_aload_n hx hb dX8_deliver_127 rfl (lv_at hl 1 rfl) ?_
            refine gfM_0_0 S0 V kl_X8_7 dX8_deliver_128 ?_
            refine lv_sipush (v := 145) hx hb dX8_deliver_131 (by decide) ?_
            refine lv_bipush (v := 6) hx hb dX8_deliver_134 (by decide) ?_
            refine lv_iload_n hx hb dX8_deliver_136 rfl (lv_at hl 2 rfl) ?_
            refine lv_imul hx hb dX8_deliver_137 ?_
            refine lv_iadd hx hb dX8_deliver_138 ?_
            refine lv_iload_n hx hb dX8_deliver_139 rfl (lv_at hl 3 rfl) ?_
            refine lv_iadd hx hb dX8_deliver_140 ?_
            refine lv_dup2_11 hx hb dX8_deliver_141 rfl rfl ?_
            have h_142 := qf_ld_in hf
            refine alM_1 S0 V h_142 dX8_deliver_142 ?_
            refine lv_topi (fun x16 e_x16 => ?_)
            replace hf := qf_ld_e e_x16 hf
            refine lv_iload_n hx hb dX8_deliver_143 rfl (lv_at hl 4 rfl) ?_
            refine lv_iadd hx hb dX8_deliver_144 ?_
            have h_145 := qf_st_in hf
            replace hf := qf_st_e hf
            refine asM_1 S0 V h_145 dX8_deliver_145 (fun H locs A17 e_A17 V => ?_)
            replace hf := qf_let_e e_A17 hf
            refine lv_aload_n hx hb dX8_deliver_146 rfl (lv_at hl 1 rfl) ?_
            refine gfM_0_0 S0 V kl_X8_7 dX8_deliver_147 ?_
            refine lv_sipush (v := 213) hx hb dX8_deliver_150 (by decide) ?_
            refine lv_bipush (v := 6) hx hb dX8_deliver_153 (by decide) ?_
            refine lv_iload_n hx hb dX8_deliver_155 rfl (lv_at hl 2 rfl) ?_
            refine lv_imul hx hb dX8_deliver_156 ?_
            refine lv_iadd hx hb dX8_deliver_157 ?_
            refine lv_iload_n hx hb dX8_deliver_158 rfl (lv_at hl 3 rfl) ?_
            refine lv_iadd hx hb dX8_deliver_159 ?_
            refine lv_dup2_11 hx hb dX8_deliver_160 rfl rfl ?_
            have h_161 := qf_ld_in hf
            refine alM_1 S0 V h_161 dX8_deliver_161 ?_
            refine lv_topi (fun x19 e_x19 => ?_)
            replace hf := qf_ld_e e_x19 hf
            refine lv_iload_n hx hb dX8_deliver_162 rfl (lv_at hl 4 rfl) ?_
            refine lv_iadd hx hb dX8_deliver_163 ?_
            have h_164 := qf_st_in hf
            replace hf := qf_st_e hf
            refine asM_1 S0 V h_164 dX8_deliver_164 (fun H locs A20 e_A20 V => ?_)
            replace hf := qf_let_e e_A20 hf
            refine lv_aload_n hx hb dX8_deliver_165 rfl (lv_at hl 1 rfl) ?_
            refine gfM_0_0 S0 V kl_X8_7 dX8_deliver_166 ?_
            refine lv_sipush (v := 145) hx hb dX8_deliver_169 (by decide) ?_
            refine lv_bipush (v := 6) hx hb dX8_deliver_172 (by decide) ?_
            refine lv_iload_n hx hb dX8_deliver_174 rfl (lv_at hl 2 rfl) ?_
            refine lv_imul hx hb dX8_deliver_175 ?_
            refine lv_iadd hx hb dX8_deliver_176 ?_
            refine lv_iload_n hx hb dX8_deliver_177 rfl (lv_at hl 3 rfl) ?_
            refine lv_iadd hx hb dX8_deliver_178 ?_
            have h_179 := qf_ld_in hf
            refine alM_1 S0 V h_179 dX8_deliver_179 ?_
            refine lv_topi (fun x22 e_x22 => ?_)
            replace hf := qf_ld_e e_x22 hf
            have hE := Option.some.inj hf
            obtain ⟨e0, hE⟩ := qf_pr hE
            obtain ⟨e1, hE⟩ := qf_pr hE
            exact qw_ireti S0 hr hlocks hQ e0 (by rw [e1, hE]) V dX8_deliver_180
          · replace hf := qf_f c_96 hf
            refine lv_bipush (v := -3) hx hb dX8_deliver_99 (by decide) ?_
            have hE := Option.some.inj hf
            obtain ⟨e0, hE⟩ := qf_pr hE
            obtain ⟨e1, hE⟩ := qf_pr hE
            exact qw_ireti S0 hr hlocks hQ e0 (by rw [e1, hE]) V dX8_deliver_101
        · replace hf := qf_f c_70 hf
          refine lv_bipush (v := -5) hx hb dX8_deliver_73 (by decide) ?_
          have hE := Option.some.inj hf
          obtain ⟨e0, hE⟩ := qf_pr hE
          obtain ⟨e1, hE⟩ := qf_pr hE
          exact qw_ireti S0 hr hlocks hQ e0 (by rw [e1, hE]) V dX8_deliver_75
      · replace hf := qf_t c_27 hf
        refine lv_bipush (v := -2) hx hb dX8_deliver_30 (by decide) ?_
        have hE := Option.some.inj hf
        obtain ⟨e0, hE⟩ := qf_pr hE
        obtain ⟨e1, hE⟩ := qf_pr hE
        exact qw_ireti S0 hr hlocks hQ e0 (by rw [e1, hE]) V dX8_deliver_32
    · replace hf := qf_t c_18 hf
      refine lv_iconst (v := -1) hx hb dX8_deliver_21 (by decide) ?_
      have hE := Option.some.inj hf
      obtain ⟨e0, hE⟩ := qf_pr hE
      obtain ⟨e1, hE⟩ := qf_pr hE
      exact qw_ireti S0 hr hlocks hQ e0 (by rw [e1, hE]) V dX8_deliver_22
theorem kd_X8_audit : yX8_audit.cls = RX8 ∧ yX8_audit.cls ≠ "java/lang/invoke/MethodHandle" ∧ yX8_audit.cls ≠ "java/lang/invoke/VarHandle" ∧ (parseMethodDescriptor yX8_audit.desc).map (fun d => d.parameters.length) = some 3 := by decide +kernel
def f_X8_audit_j84   (I : Nat → Int32) (A : Nat → Nat → Int32) (y1 : Int32) (y2 : Int32) (y3 : Int32) (s0 : Int32) (s1 : Int32) (s2 : Int32) : Option (Int32 × (Nat → Int32) × (Nat → Nat → Int32)) :=
  qf_ld 62 (A 3) ((26 : Int32) + y2) fun x10 =>
  qf_st 250 s2 fun i12 =>
  qf_let (qf_up A 0 (upd (A 0) i12 (s1 + (s0 * x10)))) fun A11 =>
  qf_st 250 (((145 : Int32) + ((6 : Int32) * y1)) + y2) fun i14 =>
  qf_let (qf_up A11 0 (upd (A11 0) i14 y3)) fun A13 =>
  qf_ld 250 (A13 0) ((185 : Int32) + y1) fun x15 =>
  some (x15, I, A13)
def f_X8_audit (I : Nat → Int32) (A : Nat → Nat → Int32) (p1 : Int32) (p2 : Int32) (p3 : Int32) : Option (Int32 × (Nat → Int32) × (Nat → Nat → Int32)) :=
  qf_let (upd I 1 (0 : Int32)) fun I1 =>
  qf_bd (f_X8_isShop A p1) fun r2 =>
  if r2 = 0 then (some ((-1 : Int32), I1, A)) else (qf_bd (f_X8_isGood A p2) fun r3 =>
    if r3 = 0 then (some ((-1 : Int32), I1, A)) else (qf_bd (f_X8_inRange p3 (0 : Int32) (99999 : Int32)) fun r4 =>
      if r4 = 0 then (some ((-2 : Int32), I1, A)) else (qf_bd2 (f_X8_remember I1 A) fun I5 A6 =>
        qf_ld 250 (A6 0) (((145 : Int32) + ((6 : Int32) * p1)) + p2) fun x7 =>
        qf_let ((p3 - x7)) fun x8 =>
        qf_ld 250 (A6 0) ((185 : Int32) + p1) fun x9 =>
        if 0 ≤ x8 then (f_X8_audit_j84 I5 A6 p1 p2 p3 x8 x9 ((185 : Int32) + p1)) else (f_X8_audit_j84 I5 A6 p1 p2 p3 (-x8) x9 ((185 : Int32) + p1)))))
abbrev wz_X8_audit : List Cond := Cond.code yX8_audit cX8_audit 5 (some .int) :: qw_big
def rm_X8_audit : Room := { frames := 2, cells := 0, slots := 0, locals := 43 }
set_option maxHeartbeats 4000000 in
set_option maxRecDepth 100000 in
theorem c_X8_audit (l : Launch) {D : va_G} {cy : Nat → ClassId} {ad : Nat → Nat} {I : Nat → Int32} {A : Nat → Nat → Int32} {w : Int64} {p1 : Int32} {p2 : Int32} {p3 : Int32} {rv : Int32} {I9 : Nat → Int32} {A9 : Nat → Nat → Int32} {sz : Nat} (hf : f_X8_audit I A p1 p2 p3 = some (rv, I9, A9)) : Met l yX8_audit wz_X8_audit rm_X8_audit (va_Pc [.ref (ad 0), .int p1, .int p2, .int p3] (qw_Pre D cy (Wm cy ad I A w) sz)) (qw_Q (some (.int rv)) D (Wm cy ad I9 A9 w) (va_A (Wm cy ad I A w) sz)) 0 0 (va_A (Wm cy ad I A w) sz) := by
  refine qw_of (cc := cX8_audit) (maxL := 5) (ret := (some .int)) (by decide) (Nat.le_of_ble_eq_true rfl) ?_
  intro p e s m args below meth c ls S0 hr hlocks hsz V hl
  have S0 : CallFix p m c cX8_audit 5 s args qw_big RX8 := S0
  have hx := S0.1; have hb := S0.2.1; have hown := S0.2.2.2.1; have hts := S0.2.2.2.2
  have hl : lv_has ls 5 [(0, .ref (ad 0)), (1, .int p1), (2, .int p2), (3, .int p3)] := hl
  generalize va_A (Wm cy ad I A w) sz = Z9 at V ⊢
  obtain ⟨Q9, hQ⟩ : ∃ q, q = MQ below (qw_Q (some (.int rv)) D (Wm cy ad I9 A9 w) Z9) args s 0 0 Z9 := ⟨_, rfl⟩
  rw [← hQ]
  clear hsz
  have J_84 : ∀  {I : Nat → Int32} {A : Nat → Nat → Int32} {y1 : Int32} {y2 : Int32} {y3 : Int32} {s0 : Int32} {s1 : Int32} {s2 : Int32} {H : Heap} {locs : List Loc} {ls : Array Slot}, f_X8_audit_j84 I A y1 y2 y3 s0 s1 s2 = some (rv, I9, A9) → qw_V D cy Z9 s (Wm cy ad I A w) H locs → lv_has ls 5 [(0, .ref (ad 0)), (1, .int y1), (2, .int y2), (3, .int y3)] → W p l e rm_X8_audit s m args below meth c H locs 0 0 Q9 (F0 m 84 ls [.int s0, .int s1, .int s2, .ref (ad 1)]) := by
    intro I A y1 y2 y3 s0 s1 s2 H locs ls hf V hl
    unfold f_X8_audit_j84 at hf
    refine lv_aload_n hx hb dX8_audit_84 rfl (lv_at hl 0 rfl) ?_
    refine gfM_0_5 S0 V kl_X8_19 dX8_audit_85 ?_
    refine lv_bipush (v := 26) hx hb dX8_audit_88 (by decide) ?_
    refine lv_iload_n hx hb dX8_audit_90 rfl (lv_at hl 2 rfl) ?_
    refine lv_iadd hx hb dX8_audit_91 ?_
    have h_92 := qf_ld_in hf
    refine alM_4 S0 V h_92 dX8_audit_92 ?_
    refine lv_topi (fun x10 e_x10 => ?_)
    replace hf := qf_ld_e e_x10 hf
    refine lv_imul hx hb dX8_audit_93 ?_
    refine lv_iadd hx hb dX8_audit_94 ?_
    have h_95 := qf_st_in hf
    replace hf := qf_st_e hf
    refine asM_1 S0 V h_95 dX8_audit_95 (fun H locs A11 e_A11 V => ?_)
    replace hf := qf_let_e e_A11 hf
    refine lv_aload_n hx hb dX8_audit_96 rfl (lv_at hl 0 rfl) ?_
    refine gfM_0_0 S0 V kl_X8_7 dX8_audit_97 ?_
    refine lv_sipush (v := 145) hx hb dX8_audit_100 (by decide) ?_
    refine lv_bipush (v := 6) hx hb dX8_audit_103 (by decide) ?_
    refine lv_iload_n hx hb dX8_audit_105 rfl (lv_at hl 1 rfl) ?_
    refine lv_imul hx hb dX8_audit_106 ?_
    refine lv_iadd hx hb dX8_audit_107 ?_
    refine lv_iload_n hx hb dX8_audit_108 rfl (lv_at hl 2 rfl) ?_
    refine lv_iadd hx hb dX8_audit_109 ?_
    refine lv_iload_n hx hb dX8_audit_110 rfl (lv_at hl 3 rfl) ?_
    have h_111 := qf_st_in hf
    replace hf := qf_st_e hf
    refine asM_1 S0 V h_111 dX8_audit_111 (fun H locs A13 e_A13 V => ?_)
    replace hf := qf_let_e e_A13 hf
    refine lv_aload_n hx hb dX8_audit_112 rfl (lv_at hl 0 rfl) ?_
    refine gfM_0_0 S0 V kl_X8_7 dX8_audit_113 ?_
    refine lv_sipush (v := 185) hx hb dX8_audit_116 (by decide) ?_
    refine lv_iload_n hx hb dX8_audit_119 rfl (lv_at hl 1 rfl) ?_
    refine lv_iadd hx hb dX8_audit_120 ?_
    have h_121 := qf_ld_in hf
    refine alM_1 S0 V h_121 dX8_audit_121 ?_
    refine lv_topi (fun x15 e_x15 => ?_)
    replace hf := qf_ld_e e_x15 hf
    have hE := Option.some.inj hf
    obtain ⟨e0, hE⟩ := qf_pr hE
    obtain ⟨e1, hE⟩ := qf_pr hE
    exact qw_ireti S0 hr hlocks hQ e0 (by rw [e1, hE]) V dX8_audit_122
  unfold f_X8_audit at hf
  refine lv_aload_n hx hb dX8_audit_0 rfl (lv_at hl 0 rfl) ?_
  refine lv_iconst (v := 0) hx hb dX8_audit_1 (by decide) ?_
  refine pfM_0_4 S0 V kl_X8_49 dX8_audit_2 (fun H locs I1 e_I1 V => ?_)
  replace hf := qf_let_e e_I1 hf
  refine lv_aload_n hx hb dX8_audit_5 rfl (lv_at hl 0 rfl) ?_
  refine lv_iload_n hx hb dX8_audit_6 rfl (lv_at hl 1 rfl) ?_
  obtain ⟨r2, hc_7, hf⟩ := qf_bd_e hf
  refine qw_cVR (rest := []) (st1 := [.int r2]) S0 V hl 0 gM_0 rfl (c_X8_isShop l hc_7) kg_X8_254 rfl ⟨rfl, rfl⟩ kd_X8_isShop ⟨Nat.le_of_ble_eq_true rfl, Nat.le_of_ble_eq_true rfl⟩ rfl rfl (Nat.le_of_ble_eq_true rfl) ⟨Nat.zero_le _, Nat.zero_le _⟩ rfl dX8_audit_7 ?_
  refine lv_if_eq (tgt := 21) hx hb dX8_audit_10 (by decide) (fun c_10 => ?_) (fun c_10 => ?_)
  · replace hf := qf_t c_10 hf
    refine lv_iconst (v := -1) hx hb dX8_audit_21 (by decide) ?_
    have hE := Option.some.inj hf
    obtain ⟨e0, hE⟩ := qf_pr hE
    obtain ⟨e1, hE⟩ := qf_pr hE
    exact qw_ireti S0 hr hlocks hQ e0 (by rw [e1, hE]) V dX8_audit_22
  · replace hf := qf_f c_10 hf
    refine lv_aload_n hx hb dX8_audit_13 rfl (lv_at hl 0 rfl) ?_
    refine lv_iload_n hx hb dX8_audit_14 rfl (lv_at hl 2 rfl) ?_
    obtain ⟨r3, hc_15, hf⟩ := qf_bd_e hf
    refine qw_cVR (rest := []) (st1 := [.int r3]) S0 V hl 0 gM_0 rfl (c_X8_isGood l hc_15) kg_X8_205 rfl ⟨rfl, rfl⟩ kd_X8_isGood ⟨Nat.le_of_ble_eq_true rfl, Nat.le_of_ble_eq_true rfl⟩ rfl rfl (Nat.le_of_ble_eq_true rfl) ⟨Nat.zero_le _, Nat.zero_le _⟩ rfl dX8_audit_15 ?_
    refine lv_if_ne (tgt := 23) hx hb dX8_audit_18 (by decide) (fun c_18 => ?_) (fun c_18 => ?_)
    · replace hf := qf_f c_18 hf
      refine lv_iload_n hx hb dX8_audit_23 rfl (lv_at hl 3 rfl) ?_
      refine lv_iconst (v := 0) hx hb dX8_audit_24 (by decide) ?_
      refine lv_ldcw (v := 99999) hx hb hown (hts _ kct_X8_277) dX8_audit_25 ?_
      obtain ⟨r4, hc_28, hf⟩ := qf_bd_e hf
      refine qw_cSR (rest := []) (st1 := [.int r4]) S0 V hl (c_X8_inRange l hc_28) kg_X8_85 rfl ⟨rfl, rfl⟩ kd_X8_inRange ⟨Nat.le_of_ble_eq_true rfl, Nat.le_of_ble_eq_true rfl⟩ rfl rfl (Nat.le_of_ble_eq_true rfl) ⟨Nat.zero_le _, Nat.zero_le _⟩ rfl dX8_audit_28 ?_
      refine lv_if_ne (tgt := 37) hx hb dX8_audit_31 (by decide) (fun c_31 => ?_) (fun c_31 => ?_)
      · replace hf := qf_f c_31 hf
        refine lv_aload_n hx hb dX8_audit_37 rfl (lv_at hl 0 rfl) ?_
        obtain ⟨I5, A6, hc_38, hf⟩ := qf_bd2_e hf
        refine qw_cV (rest := []) (st1 := []) S0 V hl 0 gM_0 rfl (c_X8_remember l hc_38) kg_X8_235 rfl ⟨rfl, rfl⟩ kd_X8_remember ⟨Nat.le_of_ble_eq_true rfl, Nat.le_of_ble_eq_true rfl⟩ rfl rfl (Nat.le_of_ble_eq_true rfl) ⟨Nat.zero_le _, Nat.zero_le _⟩ rfl dX8_audit_38 (fun H locs V => ?_)
        refine lv_iload_n hx hb dX8_audit_41 rfl (lv_at hl 3 rfl) ?_
        refine lv_aload_n hx hb dX8_audit_42 rfl (lv_at hl 0 rfl) ?_
        refine gfM_0_0 S0 V kl_X8_7 dX8_audit_43 ?_
        refine lv_sipush (v := 145) hx hb dX8_audit_46 (by decide) ?_
        refine lv_bipush (v := 6) hx hb dX8_audit_49 (by decide) ?_
        refine lv_iload_n hx hb dX8_audit_51 rfl (lv_at hl 1 rfl) ?_
        refine lv_imul hx hb dX8_audit_52 ?_
        refine lv_iadd hx hb dX8_audit_53 ?_
        refine lv_iload_n hx hb dX8_audit_54 rfl (lv_at hl 2 rfl) ?_
        refine lv_iadd hx hb dX8_audit_55 ?_
        have h_56 := qf_ld_in hf
        refine alM_1 S0 V h_56 dX8_audit_56 ?_
        refine lv_topi (fun x7 e_x7 => ?_)
        replace hf := qf_ld_e e_x7 hf
        refine lv_isub hx hb dX8_audit_57 ?_
        refine lv_topi (fun x8 e_x8 => ?_)
        replace hf := qf_let_e e_x8 hf
        refine lv_istore (lv' := [(4, .int x8), (0, .ref (ad 0)), (1, .int p1), (2, .int p2), (3, .int p3)]) hx hb dX8_audit_58 hl (by decide) rfl (fun ls hl => ?_)
        refine lv_aload_n hx hb dX8_audit_60 rfl (lv_at hl 1 rfl) ?_
        refine gfM_0_0 S0 V kl_X8_7 dX8_audit_61 ?_
        refine lv_sipush (v := 185) hx hb dX8_audit_64 (by decide) ?_
        refine lv_iload_n hx hb dX8_audit_67 rfl (lv_at hl 2 rfl) ?_
        refine lv_iadd hx hb dX8_audit_68 ?_
        refine lv_dup2_11 hx hb dX8_audit_69 rfl rfl ?_
        have h_70 := qf_ld_in hf
        refine alM_1 S0 V h_70 dX8_audit_70 ?_
        refine lv_topi (fun x9 e_x9 => ?_)
        replace hf := qf_ld_e e_x9 hf
        refine lv_iload hx hb dX8_audit_71 (lv_at hl 0 rfl) ?_
        refine lv_if_ge (tgt := 82) hx hb dX8_audit_73 (by decide) (fun c_73 => ?_) (fun c_73 => ?_)
        · replace hf := qf_t c_73 hf
          refine lv_iload hx hb dX8_audit_82 (lv_at hl 0 rfl) ?_
          exact J_84 hf V (lv_sub hl [1, 2, 3, 4] rfl)
        · replace hf := qf_f c_73 hf
          refine lv_iload hx hb dX8_audit_76 (lv_at hl 0 rfl) ?_
          refine lv_ineg hx hb dX8_audit_78 ?_
          refine lv_goto (tgt := 84) hx hb dX8_audit_79 (by decide) ?_
          exact J_84 hf V (lv_sub hl [1, 2, 3, 4] rfl)
      · replace hf := qf_t c_31 hf
        refine lv_bipush (v := -2) hx hb dX8_audit_34 (by decide) ?_
        have hE := Option.some.inj hf
        obtain ⟨e0, hE⟩ := qf_pr hE
        obtain ⟨e1, hE⟩ := qf_pr hE
        exact qw_ireti S0 hr hlocks hQ e0 (by rw [e1, hE]) V dX8_audit_36
    · replace hf := qf_t c_18 hf
      refine lv_iconst (v := -1) hx hb dX8_audit_21 (by decide) ?_
      have hE := Option.some.inj hf
      obtain ⟨e0, hE⟩ := qf_pr hE
      obtain ⟨e1, hE⟩ := qf_pr hE
      exact qw_ireti S0 hr hlocks hQ e0 (by rw [e1, hE]) V dX8_audit_22
theorem kd_X8_change : yX8_change.cls = RX8 ∧ yX8_change.cls ≠ "java/lang/invoke/MethodHandle" ∧ yX8_change.cls ≠ "java/lang/invoke/VarHandle" ∧ (parseMethodDescriptor yX8_change.desc).map (fun d => d.parameters.length) = some 2 := by decide +kernel
def f_X8_change (I : Nat → Int32) (A : Nat → Nat → Int32) (p1 : Int32) (p2 : Int32) : Option (Int32 × (Nat → Int32) × (Nat → Nat → Int32)) :=
  qf_bd2 (f_X8_remember I A) fun I1 A2 =>
  qf_ld 250 (A2 0) p1 fun x3 =>
  qf_st 250 p1 fun i5 =>
  qf_let (qf_up A2 0 (upd (A2 0) i5 p2)) fun A4 =>
  some (x3, I1, A4)
abbrev wz_X8_change : List Cond := Cond.code yX8_change cX8_change 4 (some .int) :: qw_big
def rm_X8_change : Room := { frames := 1, cells := 0, slots := 0, locals := 21 }
set_option maxHeartbeats 4000000 in
set_option maxRecDepth 100000 in
theorem c_X8_change (l : Launch) {D : va_G} {cy : Nat → ClassId} {ad : Nat → Nat} {I : Nat → Int32} {A : Nat → Nat → Int32} {w : Int64} {p1 : Int32} {p2 : Int32} {rv : Int32} {I9 : Nat → Int32} {A9 : Nat → Nat → Int32} {sz : Nat} (hf : f_X8_change I A p1 p2 = some (rv, I9, A9)) : Met l yX8_change wz_X8_change rm_X8_change (va_Pc [.ref (ad 0), .int p1, .int p2] (qw_Pre D cy (Wm cy ad I A w) sz)) (qw_Q (some (.int rv)) D (Wm cy ad I9 A9 w) (va_A (Wm cy ad I A w) sz)) 0 0 (va_A (Wm cy ad I A w) sz) := by
  refine qw_of (cc := cX8_change) (maxL := 4) (ret := (some .int)) (by decide) (Nat.le_of_ble_eq_true rfl) ?_
  intro p e s m args below meth c ls S0 hr hlocks hsz V hl
  have S0 : CallFix p m c cX8_change 4 s args qw_big RX8 := S0
  have hx := S0.1; have hb := S0.2.1; have hown := S0.2.2.2.1; have hts := S0.2.2.2.2
  have hl : lv_has ls 4 [(0, .ref (ad 0)), (1, .int p1), (2, .int p2)] := hl
  generalize va_A (Wm cy ad I A w) sz = Z9 at V ⊢
  obtain ⟨Q9, hQ⟩ : ∃ q, q = MQ below (qw_Q (some (.int rv)) D (Wm cy ad I9 A9 w) Z9) args s 0 0 Z9 := ⟨_, rfl⟩
  rw [← hQ]
  clear hsz
  unfold f_X8_change at hf
  refine lv_aload_n hx hb dX8_change_0 rfl (lv_at hl 0 rfl) ?_
  obtain ⟨I1, A2, hc_1, hf⟩ := qf_bd2_e hf
  refine qw_cV (rest := []) (st1 := []) S0 V hl 0 gM_0 rfl (c_X8_remember l hc_1) kg_X8_235 rfl ⟨rfl, rfl⟩ kd_X8_remember ⟨Nat.le_of_ble_eq_true rfl, Nat.le_of_ble_eq_true rfl⟩ rfl rfl (Nat.le_of_ble_eq_true rfl) ⟨Nat.zero_le _, Nat.zero_le _⟩ rfl dX8_change_1 (fun H locs V => ?_)
  refine lv_aload_n hx hb dX8_change_4 rfl (lv_at hl 0 rfl) ?_
  refine gfM_0_0 S0 V kl_X8_7 dX8_change_5 ?_
  refine lv_iload_n hx hb dX8_change_8 rfl (lv_at hl 1 rfl) ?_
  have h_9 := qf_ld_in hf
  refine alM_1 S0 V h_9 dX8_change_9 ?_
  refine lv_topi (fun x3 e_x3 => ?_)
  replace hf := qf_ld_e e_x3 hf
  refine lv_istore_n (lv' := [(3, .int x3), (0, .ref (ad 0)), (1, .int p1), (2, .int p2)]) hx hb dX8_change_10 rfl hl (by decide) rfl (fun ls hl => ?_)
  refine lv_aload_n hx hb dX8_change_11 rfl (lv_at hl 1 rfl) ?_
  refine gfM_0_0 S0 V kl_X8_7 dX8_change_12 ?_
  refine lv_iload_n hx hb dX8_change_15 rfl (lv_at hl 2 rfl) ?_
  refine lv_iload_n hx hb dX8_change_16 rfl (lv_at hl 3 rfl) ?_
  have h_17 := qf_st_in hf
  replace hf := qf_st_e hf
  refine asM_1 S0 V h_17 dX8_change_17 (fun H locs A4 e_A4 V => ?_)
  replace hf := qf_let_e e_A4 hf
  refine lv_iload_n hx hb dX8_change_18 rfl (lv_at hl 0 rfl) ?_
  have hE := Option.some.inj hf
  obtain ⟨e0, hE⟩ := qf_pr hE
  obtain ⟨e1, hE⟩ := qf_pr hE
  exact qw_ireti S0 hr hlocks hQ e0 (by rw [e1, hE]) V dX8_change_19
theorem kd_X8_pardon : yX8_pardon.cls = RX8 ∧ yX8_pardon.cls ≠ "java/lang/invoke/MethodHandle" ∧ yX8_pardon.cls ≠ "java/lang/invoke/VarHandle" ∧ (parseMethodDescriptor yX8_pardon.desc).map (fun d => d.parameters.length) = some 1 := by decide +kernel
def f_X8_pardon (I : Nat → Int32) (A : Nat → Nat → Int32) (p1 : Int32) : Option (Int32 × (Nat → Int32) × (Nat → Nat → Int32)) :=
  qf_let (upd I 1 (0 : Int32)) fun I1 =>
  qf_bd (f_X8_isShop A p1) fun r2 =>
  if r2 = 0 then (some ((-1 : Int32), I1, A)) else (qf_bd3 (f_X8_change I1 A ((185 : Int32) + p1) (0 : Int32)) fun r3 I4 A5 =>
    some (r3, I4, A5))
abbrev wz_X8_pardon : List Cond := Cond.code yX8_pardon cX8_pardon 2 (some .int) :: qw_big
def rm_X8_pardon : Room := { frames := 2, cells := 0, slots := 0, locals := 44 }
set_option maxHeartbeats 4000000 in
set_option maxRecDepth 100000 in
theorem c_X8_pardon (l : Launch) {D : va_G} {cy : Nat → ClassId} {ad : Nat → Nat} {I : Nat → Int32} {A : Nat → Nat → Int32} {w : Int64} {p1 : Int32} {rv : Int32} {I9 : Nat → Int32} {A9 : Nat → Nat → Int32} {sz : Nat} (hf : f_X8_pardon I A p1 = some (rv, I9, A9)) : Met l yX8_pardon wz_X8_pardon rm_X8_pardon (va_Pc [.ref (ad 0), .int p1] (qw_Pre D cy (Wm cy ad I A w) sz)) (qw_Q (some (.int rv)) D (Wm cy ad I9 A9 w) (va_A (Wm cy ad I A w) sz)) 0 0 (va_A (Wm cy ad I A w) sz) := by
  refine qw_of (cc := cX8_pardon) (maxL := 2) (ret := (some .int)) (by decide) (Nat.le_of_ble_eq_true rfl) ?_
  intro p e s m args below meth c ls S0 hr hlocks hsz V hl
  have S0 : CallFix p m c cX8_pardon 2 s args qw_big RX8 := S0
  have hx := S0.1; have hb := S0.2.1; have hown := S0.2.2.2.1; have hts := S0.2.2.2.2
  have hl : lv_has ls 2 [(0, .ref (ad 0)), (1, .int p1)] := hl
  generalize va_A (Wm cy ad I A w) sz = Z9 at V ⊢
  obtain ⟨Q9, hQ⟩ : ∃ q, q = MQ below (qw_Q (some (.int rv)) D (Wm cy ad I9 A9 w) Z9) args s 0 0 Z9 := ⟨_, rfl⟩
  rw [← hQ]
  clear hsz
  unfold f_X8_pardon at hf
  refine lv_aload_n hx hb dX8_pardon_0 rfl (lv_at hl 0 rfl) ?_
  refine lv_iconst (v := 0) hx hb dX8_pardon_1 (by decide) ?_
  refine pfM_0_4 S0 V kl_X8_49 dX8_pardon_2 (fun H locs I1 e_I1 V => ?_)
  replace hf := qf_let_e e_I1 hf
  refine lv_aload_n hx hb dX8_pardon_5 rfl (lv_at hl 0 rfl) ?_
  refine lv_iload_n hx hb dX8_pardon_6 rfl (lv_at hl 1 rfl) ?_
  obtain ⟨r2, hc_7, hf⟩ := qf_bd_e hf
  refine qw_cVR (rest := []) (st1 := [.int r2]) S0 V hl 0 gM_0 rfl (c_X8_isShop l hc_7) kg_X8_254 rfl ⟨rfl, rfl⟩ kd_X8_isShop ⟨Nat.le_of_ble_eq_true rfl, Nat.le_of_ble_eq_true rfl⟩ rfl rfl (Nat.le_of_ble_eq_true rfl) ⟨Nat.zero_le _, Nat.zero_le _⟩ rfl dX8_pardon_7 ?_
  refine lv_if_eq (tgt := 26) hx hb dX8_pardon_10 (by decide) (fun c_10 => ?_) (fun c_10 => ?_)
  · replace hf := qf_t c_10 hf
    refine lv_iconst (v := -1) hx hb dX8_pardon_26 (by decide) ?_
    have hE := Option.some.inj hf
    obtain ⟨e0, hE⟩ := qf_pr hE
    obtain ⟨e1, hE⟩ := qf_pr hE
    exact qw_ireti S0 hr hlocks hQ e0 (by rw [e1, hE]) V dX8_pardon_27
  · replace hf := qf_f c_10 hf
    refine lv_aload_n hx hb dX8_pardon_13 rfl (lv_at hl 0 rfl) ?_
    refine lv_sipush (v := 185) hx hb dX8_pardon_14 (by decide) ?_
    refine lv_iload_n hx hb dX8_pardon_17 rfl (lv_at hl 1 rfl) ?_
    refine lv_iadd hx hb dX8_pardon_18 ?_
    refine lv_iconst (v := 0) hx hb dX8_pardon_19 (by decide) ?_
    obtain ⟨r3, I4, A5, hc_20, hf⟩ := qf_bd3_e hf
    refine qw_cV (rest := []) (st1 := [.int r3]) S0 V hl 0 gM_0 rfl (c_X8_change l hc_20) kg_X8_278 rfl ⟨rfl, rfl⟩ kd_X8_change ⟨Nat.le_of_ble_eq_true rfl, Nat.le_of_ble_eq_true rfl⟩ rfl rfl (Nat.le_of_ble_eq_true rfl) ⟨Nat.zero_le _, Nat.zero_le _⟩ rfl dX8_pardon_20 (fun H locs V => ?_)
    refine lv_goto (tgt := 27) hx hb dX8_pardon_23 (by decide) ?_
    have hE := Option.some.inj hf
    obtain ⟨e0, hE⟩ := qf_pr hE
    obtain ⟨e1, hE⟩ := qf_pr hE
    exact qw_ireti S0 hr hlocks hQ e0 (by rw [e1, hE]) V dX8_pardon_27
theorem kd_X8_setRation : yX8_setRation.cls = RX8 ∧ yX8_setRation.cls ≠ "java/lang/invoke/MethodHandle" ∧ yX8_setRation.cls ≠ "java/lang/invoke/VarHandle" ∧ (parseMethodDescriptor yX8_setRation.desc).map (fun d => d.parameters.length) = some 2 := by decide +kernel
def f_X8_setRation (I : Nat → Int32) (A : Nat → Nat → Int32) (p1 : Int32) (p2 : Int32) : Option (Int32 × (Nat → Int32) × (Nat → Nat → Int32)) :=
  qf_let (upd I 1 (0 : Int32)) fun I1 =>
  qf_bd (f_X8_isGroup A p1) fun r2 =>
  if r2 = 0 then (some ((-1 : Int32), I1, A)) else (qf_bd (f_X8_inRange p2 (0 : Int32) (99 : Int32)) fun r3 =>
    if r3 = 0 then (some ((-2 : Int32), I1, A)) else (qf_bd3 (f_X8_change I1 A ((3 : Int32) + p1) p2) fun r4 I5 A6 =>
      some (r4, I5, A6)))
abbrev wz_X8_setRation : List Cond := Cond.code yX8_setRation cX8_setRation 3 (some .int) :: qw_big
def rm_X8_setRation : Room := { frames := 2, cells := 0, slots := 0, locals := 44 }
set_option maxHeartbeats 4000000 in
set_option maxRecDepth 100000 in
theorem c_X8_setRation (l : Launch) {D : va_G} {cy : Nat → ClassId} {ad : Nat → Nat} {I : Nat → Int32} {A : Nat → Nat → Int32} {w : Int64} {p1 : Int32} {p2 : Int32} {rv : Int32} {I9 : Nat → Int32} {A9 : Nat → Nat → Int32} {sz : Nat} (hf : f_X8_setRation I A p1 p2 = some (rv, I9, A9)) : Met l yX8_setRation wz_X8_setRation rm_X8_setRation (va_Pc [.ref (ad 0), .int p1, .int p2] (qw_Pre D cy (Wm cy ad I A w) sz)) (qw_Q (some (.int rv)) D (Wm cy ad I9 A9 w) (va_A (Wm cy ad I A w) sz)) 0 0 (va_A (Wm cy ad I A w) sz) := by
  refine qw_of (cc := cX8_setRation) (maxL := 3) (ret := (some .int)) (by decide) (Nat.le_of_ble_eq_true rfl) ?_
  intro p e s m args below meth c ls S0 hr hlocks hsz V hl
  have S0 : CallFix p m c cX8_setRation 3 s args qw_big RX8 := S0
  have hx := S0.1; have hb := S0.2.1; have hown := S0.2.2.2.1; have hts := S0.2.2.2.2
  have hl : lv_has ls 3 [(0, .ref (ad 0)), (1, .int p1), (2, .int p2)] := hl
  generalize va_A (Wm cy ad I A w) sz = Z9 at V ⊢
  obtain ⟨Q9, hQ⟩ : ∃ q, q = MQ below (qw_Q (some (.int rv)) D (Wm cy ad I9 A9 w) Z9) args s 0 0 Z9 := ⟨_, rfl⟩
  rw [← hQ]
  clear hsz
  unfold f_X8_setRation at hf
  refine lv_aload_n hx hb dX8_setRation_0 rfl (lv_at hl 0 rfl) ?_
  refine lv_iconst (v := 0) hx hb dX8_setRation_1 (by decide) ?_
  refine pfM_0_4 S0 V kl_X8_49 dX8_setRation_2 (fun H locs I1 e_I1 V => ?_)
  replace hf := qf_let_e e_I1 hf
  refine lv_aload_n hx hb dX8_setRation_5 rfl (lv_at hl 0 rfl) ?_
  refine lv_iload_n hx hb dX8_setRation_6 rfl (lv_at hl 1 rfl) ?_
  obtain ⟨r2, hc_7, hf⟩ := qf_bd_e hf
  refine qw_cVR (rest := []) (st1 := [.int r2]) S0 V hl 0 gM_0 rfl (c_X8_isGroup l hc_7) kg_X8_197 rfl ⟨rfl, rfl⟩ kd_X8_isGroup ⟨Nat.le_of_ble_eq_true rfl, Nat.le_of_ble_eq_true rfl⟩ rfl rfl (Nat.le_of_ble_eq_true rfl) ⟨Nat.zero_le _, Nat.zero_le _⟩ rfl dX8_setRation_7 ?_
  refine lv_if_ne (tgt := 15) hx hb dX8_setRation_10 (by decide) (fun c_10 => ?_) (fun c_10 => ?_)
  · replace hf := qf_f c_10 hf
    refine lv_iload_n hx hb dX8_setRation_15 rfl (lv_at hl 2 rfl) ?_
    refine lv_iconst (v := 0) hx hb dX8_setRation_16 (by decide) ?_
    refine lv_bipush (v := 99) hx hb dX8_setRation_17 (by decide) ?_
    obtain ⟨r3, hc_19, hf⟩ := qf_bd_e hf
    refine qw_cSR (rest := []) (st1 := [.int r3]) S0 V hl (c_X8_inRange l hc_19) kg_X8_85 rfl ⟨rfl, rfl⟩ kd_X8_inRange ⟨Nat.le_of_ble_eq_true rfl, Nat.le_of_ble_eq_true rfl⟩ rfl rfl (Nat.le_of_ble_eq_true rfl) ⟨Nat.zero_le _, Nat.zero_le _⟩ rfl dX8_setRation_19 ?_
    refine lv_if_eq (tgt := 36) hx hb dX8_setRation_22 (by decide) (fun c_22 => ?_) (fun c_22 => ?_)
    · replace hf := qf_t c_22 hf
      refine lv_bipush (v := -2) hx hb dX8_setRation_36 (by decide) ?_
      have hE := Option.some.inj hf
      obtain ⟨e0, hE⟩ := qf_pr hE
      obtain ⟨e1, hE⟩ := qf_pr hE
      exact qw_ireti S0 hr hlocks hQ e0 (by rw [e1, hE]) V dX8_setRation_38
    · replace hf := qf_f c_22 hf
      refine lv_aload_n hx hb dX8_setRation_25 rfl (lv_at hl 0 rfl) ?_
      refine lv_iconst (v := 3) hx hb dX8_setRation_26 (by decide) ?_
      refine lv_iload_n hx hb dX8_setRation_27 rfl (lv_at hl 1 rfl) ?_
      refine lv_iadd hx hb dX8_setRation_28 ?_
      refine lv_iload_n hx hb dX8_setRation_29 rfl (lv_at hl 2 rfl) ?_
      obtain ⟨r4, I5, A6, hc_30, hf⟩ := qf_bd3_e hf
      refine qw_cV (rest := []) (st1 := [.int r4]) S0 V hl 0 gM_0 rfl (c_X8_change l hc_30) kg_X8_278 rfl ⟨rfl, rfl⟩ kd_X8_change ⟨Nat.le_of_ble_eq_true rfl, Nat.le_of_ble_eq_true rfl⟩ rfl rfl (Nat.le_of_ble_eq_true rfl) ⟨Nat.zero_le _, Nat.zero_le _⟩ rfl dX8_setRation_30 (fun H locs V => ?_)
      refine lv_goto (tgt := 38) hx hb dX8_setRation_33 (by decide) ?_
      have hE := Option.some.inj hf
      obtain ⟨e0, hE⟩ := qf_pr hE
      obtain ⟨e1, hE⟩ := qf_pr hE
      exact qw_ireti S0 hr hlocks hQ e0 (by rw [e1, hE]) V dX8_setRation_38
  · replace hf := qf_t c_10 hf
    refine lv_iconst (v := -1) hx hb dX8_setRation_13 (by decide) ?_
    have hE := Option.some.inj hf
    obtain ⟨e0, hE⟩ := qf_pr hE
    obtain ⟨e1, hE⟩ := qf_pr hE
    exact qw_ireti S0 hr hlocks hQ e0 (by rw [e1, hE]) V dX8_setRation_14
theorem kd_X8_setSize : yX8_setSize.cls = RX8 ∧ yX8_setSize.cls ≠ "java/lang/invoke/MethodHandle" ∧ yX8_setSize.cls ≠ "java/lang/invoke/VarHandle" ∧ (parseMethodDescriptor yX8_setSize.desc).map (fun d => d.parameters.length) = some 2 := by decide +kernel
def f_X8_setSize (I : Nat → Int32) (A : Nat → Nat → Int32) (p1 : Int32) (p2 : Int32) : Option (Int32 × (Nat → Int32) × (Nat → Nat → Int32)) :=
  qf_let (upd I 1 (0 : Int32)) fun I1 =>
  qf_bd (f_X8_isHouse A p1) fun r2 =>
  if r2 = 0 then (some ((-1 : Int32), I1, A)) else (qf_bd (f_X8_inRange p2 (1 : Int32) (9 : Int32)) fun r3 =>
    if r3 = 0 then (some ((-2 : Int32), I1, A)) else (qf_bd3 (f_X8_change I1 A ((7 : Int32) + p1) p2) fun r4 I5 A6 =>
      some (r4, I5, A6)))
abbrev wz_X8_setSize : List Cond := Cond.code yX8_setSize cX8_setSize 3 (some .int) :: qw_big
def rm_X8_setSize : Room := { frames := 2, cells := 0, slots := 0, locals := 44 }
set_option maxHeartbeats 4000000 in
set_option maxRecDepth 100000 in
theorem c_X8_setSize (l : Launch) {D : va_G} {cy : Nat → ClassId} {ad : Nat → Nat} {I : Nat → Int32} {A : Nat → Nat → Int32} {w : Int64} {p1 : Int32} {p2 : Int32} {rv : Int32} {I9 : Nat → Int32} {A9 : Nat → Nat → Int32} {sz : Nat} (hf : f_X8_setSize I A p1 p2 = some (rv, I9, A9)) : Met l yX8_setSize wz_X8_setSize rm_X8_setSize (va_Pc [.ref (ad 0), .int p1, .int p2] (qw_Pre D cy (Wm cy ad I A w) sz)) (qw_Q (some (.int rv)) D (Wm cy ad I9 A9 w) (va_A (Wm cy ad I A w) sz)) 0 0 (va_A (Wm cy ad I A w) sz) := by
  refine qw_of (cc := cX8_setSize) (maxL := 3) (ret := (some .int)) (by decide) (Nat.le_of_ble_eq_true rfl) ?_
  intro p e s m args below meth c ls S0 hr hlocks hsz V hl
  have S0 : CallFix p m c cX8_setSize 3 s args qw_big RX8 := S0
  have hx := S0.1; have hb := S0.2.1; have hown := S0.2.2.2.1; have hts := S0.2.2.2.2
  have hl : lv_has ls 3 [(0, .ref (ad 0)), (1, .int p1), (2, .int p2)] := hl
  generalize va_A (Wm cy ad I A w) sz = Z9 at V ⊢
  obtain ⟨Q9, hQ⟩ : ∃ q, q = MQ below (qw_Q (some (.int rv)) D (Wm cy ad I9 A9 w) Z9) args s 0 0 Z9 := ⟨_, rfl⟩
  rw [← hQ]
  clear hsz
  unfold f_X8_setSize at hf
  refine lv_aload_n hx hb dX8_setSize_0 rfl (lv_at hl 0 rfl) ?_
  refine lv_iconst (v := 0) hx hb dX8_setSize_1 (by decide) ?_
  refine pfM_0_4 S0 V kl_X8_49 dX8_setSize_2 (fun H locs I1 e_I1 V => ?_)
  replace hf := qf_let_e e_I1 hf
  refine lv_aload_n hx hb dX8_setSize_5 rfl (lv_at hl 0 rfl) ?_
  refine lv_iload_n hx hb dX8_setSize_6 rfl (lv_at hl 1 rfl) ?_
  obtain ⟨r2, hc_7, hf⟩ := qf_bd_e hf
  refine qw_cVR (rest := []) (st1 := [.int r2]) S0 V hl 0 gM_0 rfl (c_X8_isHouse l hc_7) kg_X8_208 rfl ⟨rfl, rfl⟩ kd_X8_isHouse ⟨Nat.le_of_ble_eq_true rfl, Nat.le_of_ble_eq_true rfl⟩ rfl rfl (Nat.le_of_ble_eq_true rfl) ⟨Nat.zero_le _, Nat.zero_le _⟩ rfl dX8_setSize_7 ?_
  refine lv_if_ne (tgt := 15) hx hb dX8_setSize_10 (by decide) (fun c_10 => ?_) (fun c_10 => ?_)
  · replace hf := qf_f c_10 hf
    refine lv_iload_n hx hb dX8_setSize_15 rfl (lv_at hl 2 rfl) ?_
    refine lv_iconst (v := 1) hx hb dX8_setSize_16 (by decide) ?_
    refine lv_bipush (v := 9) hx hb dX8_setSize_17 (by decide) ?_
    obtain ⟨r3, hc_19, hf⟩ := qf_bd_e hf
    refine qw_cSR (rest := []) (st1 := [.int r3]) S0 V hl (c_X8_inRange l hc_19) kg_X8_85 rfl ⟨rfl, rfl⟩ kd_X8_inRange ⟨Nat.le_of_ble_eq_true rfl, Nat.le_of_ble_eq_true rfl⟩ rfl rfl (Nat.le_of_ble_eq_true rfl) ⟨Nat.zero_le _, Nat.zero_le _⟩ rfl dX8_setSize_19 ?_
    refine lv_if_eq (tgt := 37) hx hb dX8_setSize_22 (by decide) (fun c_22 => ?_) (fun c_22 => ?_)
    · replace hf := qf_t c_22 hf
      refine lv_bipush (v := -2) hx hb dX8_setSize_37 (by decide) ?_
      have hE := Option.some.inj hf
      obtain ⟨e0, hE⟩ := qf_pr hE
      obtain ⟨e1, hE⟩ := qf_pr hE
      exact qw_ireti S0 hr hlocks hQ e0 (by rw [e1, hE]) V dX8_setSize_39
    · replace hf := qf_f c_22 hf
      refine lv_aload_n hx hb dX8_setSize_25 rfl (lv_at hl 0 rfl) ?_
      refine lv_bipush (v := 7) hx hb dX8_setSize_26 (by decide) ?_
      refine lv_iload_n hx hb dX8_setSize_28 rfl (lv_at hl 1 rfl) ?_
      refine lv_iadd hx hb dX8_setSize_29 ?_
      refine lv_iload_n hx hb dX8_setSize_30 rfl (lv_at hl 2 rfl) ?_
      obtain ⟨r4, I5, A6, hc_31, hf⟩ := qf_bd3_e hf
      refine qw_cV (rest := []) (st1 := [.int r4]) S0 V hl 0 gM_0 rfl (c_X8_change l hc_31) kg_X8_278 rfl ⟨rfl, rfl⟩ kd_X8_change ⟨Nat.le_of_ble_eq_true rfl, Nat.le_of_ble_eq_true rfl⟩ rfl rfl (Nat.le_of_ble_eq_true rfl) ⟨Nat.zero_le _, Nat.zero_le _⟩ rfl dX8_setSize_31 (fun H locs V => ?_)
      refine lv_goto (tgt := 39) hx hb dX8_setSize_34 (by decide) ?_
      have hE := Option.some.inj hf
      obtain ⟨e0, hE⟩ := qf_pr hE
      obtain ⟨e1, hE⟩ := qf_pr hE
      exact qw_ireti S0 hr hlocks hQ e0 (by rw [e1, hE]) V dX8_setSize_39
  · replace hf := qf_t c_10 hf
    refine lv_iconst (v := -1) hx hb dX8_setSize_13 (by decide) ?_
    have hE := Option.some.inj hf
    obtain ⟨e0, hE⟩ := qf_pr hE
    obtain ⟨e1, hE⟩ := qf_pr hE
    exact qw_ireti S0 hr hlocks hQ e0 (by rw [e1, hE]) V dX8_setSize_14
theorem kd_X8_setSetting : yX8_setSetting.cls = RX8 ∧ yX8_setSetting.cls ≠ "java/lang/invoke/MethodHandle" ∧ yX8_setSetting.cls ≠ "java/lang/invoke/VarHandle" ∧ (parseMethodDescriptor yX8_setSetting.desc).map (fun d => d.parameters.length) = some 2 := by decide +kernel
def f_X8_setSetting (I : Nat → Int32) (A : Nat → Nat → Int32) (p1 : Int32) (p2 : Int32) : Option (Int32 × (Nat → Int32) × (Nat → Nat → Int32)) :=
  qf_let (upd I 1 (0 : Int32)) fun I1 =>
  qf_bd (f_X8_inRange p1 (0 : Int32) (2 : Int32)) fun r2 =>
  if r2 = 0 then (some ((-2 : Int32), I1, A)) else (qf_bd (f_X8_mostOf p1) fun r3 =>
    qf_bd (f_X8_inRange p2 (0 : Int32) r3) fun r4 =>
    if r4 = 0 then (some ((-2 : Int32), I1, A)) else (qf_bd3 (f_X8_change I1 A p1 p2) fun r5 I6 A7 =>
      some (r5, I6, A7)))
abbrev wz_X8_setSetting : List Cond := Cond.code yX8_setSetting cX8_setSetting 3 (some .int) :: qw_big
def rm_X8_setSetting : Room := { frames := 2, cells := 0, slots := 0, locals := 44 }
set_option maxHeartbeats 4000000 in
set_option maxRecDepth 100000 in
theorem c_X8_setSetting (l : Launch) {D : va_G} {cy : Nat → ClassId} {ad : Nat → Nat} {I : Nat → Int32} {A : Nat → Nat → Int32} {w : Int64} {p1 : Int32} {p2 : Int32} {rv : Int32} {I9 : Nat → Int32} {A9 : Nat → Nat → Int32} {sz : Nat} (hf : f_X8_setSetting I A p1 p2 = some (rv, I9, A9)) : Met l yX8_setSetting wz_X8_setSetting rm_X8_setSetting (va_Pc [.ref (ad 0), .int p1, .int p2] (qw_Pre D cy (Wm cy ad I A w) sz)) (qw_Q (some (.int rv)) D (Wm cy ad I9 A9 w) (va_A (Wm cy ad I A w) sz)) 0 0 (va_A (Wm cy ad I A w) sz) := by
  refine qw_of (cc := cX8_setSetting) (maxL := 3) (ret := (some .int)) (by decide) (Nat.le_of_ble_eq_true rfl) ?_
  intro p e s m args below meth c ls S0 hr hlocks hsz V hl
  have S0 : CallFix p m c cX8_setSetting 3 s args qw_big RX8 := S0
  have hx := S0.1; have hb := S0.2.1; have hown := S0.2.2.2.1; have hts := S0.2.2.2.2
  have hl : lv_has ls 3 [(0, .ref (ad 0)), (1, .int p1), (2, .int p2)] := hl
  generalize va_A (Wm cy ad I A w) sz = Z9 at V ⊢
  obtain ⟨Q9, hQ⟩ : ∃ q, q = MQ below (qw_Q (some (.int rv)) D (Wm cy ad I9 A9 w) Z9) args s 0 0 Z9 := ⟨_, rfl⟩
  rw [← hQ]
  clear hsz
  unfold f_X8_setSetting at hf
  refine lv_aload_n hx hb dX8_setSetting_0 rfl (lv_at hl 0 rfl) ?_
  refine lv_iconst (v := 0) hx hb dX8_setSetting_1 (by decide) ?_
  refine pfM_0_4 S0 V kl_X8_49 dX8_setSetting_2 (fun H locs I1 e_I1 V => ?_)
  replace hf := qf_let_e e_I1 hf
  refine lv_iload_n hx hb dX8_setSetting_5 rfl (lv_at hl 1 rfl) ?_
  refine lv_iconst (v := 0) hx hb dX8_setSetting_6 (by decide) ?_
  refine lv_iconst (v := 2) hx hb dX8_setSetting_7 (by decide) ?_
  obtain ⟨r2, hc_8, hf⟩ := qf_bd_e hf
  refine qw_cSR (rest := []) (st1 := [.int r2]) S0 V hl (c_X8_inRange l hc_8) kg_X8_85 rfl ⟨rfl, rfl⟩ kd_X8_inRange ⟨Nat.le_of_ble_eq_true rfl, Nat.le_of_ble_eq_true rfl⟩ rfl rfl (Nat.le_of_ble_eq_true rfl) ⟨Nat.zero_le _, Nat.zero_le _⟩ rfl dX8_setSetting_8 ?_
  refine lv_if_eq (tgt := 35) hx hb dX8_setSetting_11 (by decide) (fun c_11 => ?_) (fun c_11 => ?_)
  · replace hf := qf_t c_11 hf
    refine lv_bipush (v := -2) hx hb dX8_setSetting_35 (by decide) ?_
    have hE := Option.some.inj hf
    obtain ⟨e0, hE⟩ := qf_pr hE
    obtain ⟨e1, hE⟩ := qf_pr hE
    exact qw_ireti S0 hr hlocks hQ e0 (by rw [e1, hE]) V dX8_setSetting_37
  · replace hf := qf_f c_11 hf
    refine lv_iload_n hx hb dX8_setSetting_14 rfl (lv_at hl 2 rfl) ?_
    refine lv_iconst (v := 0) hx hb dX8_setSetting_15 (by decide) ?_
    refine lv_iload_n hx hb dX8_setSetting_16 rfl (lv_at hl 1 rfl) ?_
    obtain ⟨r3, hc_17, hf⟩ := qf_bd_e hf
    refine qw_cSR (rest := [.int (0 : Int32), .int p2]) (st1 := [.int r3, .int (0 : Int32), .int p2]) S0 V hl (c_X8_mostOf l hc_17) kg_X8_161 rfl ⟨rfl, rfl⟩ kd_X8_mostOf ⟨Nat.le_of_ble_eq_true rfl, Nat.le_of_ble_eq_true rfl⟩ rfl rfl (Nat.le_of_ble_eq_true rfl) ⟨Nat.zero_le _, Nat.zero_le _⟩ rfl dX8_setSetting_17 ?_
    obtain ⟨r4, hc_20, hf⟩ := qf_bd_e hf
    refine qw_cSR (rest := []) (st1 := [.int r4]) S0 V hl (c_X8_inRange l hc_20) kg_X8_85 rfl ⟨rfl, rfl⟩ kd_X8_inRange ⟨Nat.le_of_ble_eq_true rfl, Nat.le_of_ble_eq_true rfl⟩ rfl rfl (Nat.le_of_ble_eq_true rfl) ⟨Nat.zero_le _, Nat.zero_le _⟩ rfl dX8_setSetting_20 ?_
    refine lv_if_eq (tgt := 35) hx hb dX8_setSetting_23 (by decide) (fun c_23 => ?_) (fun c_23 => ?_)
    · replace hf := qf_t c_23 hf
      refine lv_bipush (v := -2) hx hb dX8_setSetting_35 (by decide) ?_
      have hE := Option.some.inj hf
      obtain ⟨e0, hE⟩ := qf_pr hE
      obtain ⟨e1, hE⟩ := qf_pr hE
      exact qw_ireti S0 hr hlocks hQ e0 (by rw [e1, hE]) V dX8_setSetting_37
    · replace hf := qf_f c_23 hf
      refine lv_aload_n hx hb dX8_setSetting_26 rfl (lv_at hl 0 rfl) ?_
      refine lv_iload_n hx hb dX8_setSetting_27 rfl (lv_at hl 1 rfl) ?_
      refine lv_iload_n hx hb dX8_setSetting_28 rfl (lv_at hl 2 rfl) ?_
      obtain ⟨r5, I6, A7, hc_29, hf⟩ := qf_bd3_e hf
      refine qw_cV (rest := []) (st1 := [.int r5]) S0 V hl 0 gM_0 rfl (c_X8_change l hc_29) kg_X8_278 rfl ⟨rfl, rfl⟩ kd_X8_change ⟨Nat.le_of_ble_eq_true rfl, Nat.le_of_ble_eq_true rfl⟩ rfl rfl (Nat.le_of_ble_eq_true rfl) ⟨Nat.zero_le _, Nat.zero_le _⟩ rfl dX8_setSetting_29 (fun H locs V => ?_)
      refine lv_goto (tgt := 37) hx hb dX8_setSetting_32 (by decide) ?_
      have hE := Option.some.inj hf
      obtain ⟨e0, hE⟩ := qf_pr hE
      obtain ⟨e1, hE⟩ := qf_pr hE
      exact qw_ireti S0 hr hlocks hQ e0 (by rw [e1, hE]) V dX8_setSetting_37
theorem kd_X8_isTooLarge : yX8_isTooLarge.cls = RX8 ∧ yX8_isTooLarge.cls ≠ "java/lang/invoke/MethodHandle" ∧ yX8_isTooLarge.cls ≠ "java/lang/invoke/VarHandle" ∧ (parseMethodDescriptor yX8_isTooLarge.desc).map (fun d => d.parameters.length) = some 1 := by decide +kernel
def f_X8_isTooLarge_l2 (A : Nat → Nat → Int32)  (y1 : Int32) : Nat → Int32 → Option (Int32)
  | 0, _ => none
  | n + 1, y2 =>
  qf_ld 62 (A 3) (0 : Int32) fun x1 =>
  if x1 ≤ y2 then (some ((0 : Int32))) else (qf_bd (f_X8_couponsOf A y1 y2) fun r2 =>
    if r2 ≤ (400 : Int32) then (qf_let (y2 + (1 : Int32)) fun x3 =>
      f_X8_isTooLarge_l2 A y1 n x3) else (some ((1 : Int32))))
def f_X8_isTooLarge (A : Nat → Nat → Int32) (p1 : Int32) : Option (Int32) :=
  f_X8_isTooLarge_l2 A p1 100000 (0 : Int32)
abbrev wz_X8_isTooLarge : List Cond := Cond.code yX8_isTooLarge cX8_isTooLarge 3 (some .boolean) :: qw_big
def rm_X8_isTooLarge : Room := { frames := 2, cells := 0, slots := 0, locals := 45 }
set_option maxHeartbeats 4000000 in
set_option maxRecDepth 100000 in
theorem c_X8_isTooLarge (l : Launch) {D : va_G} {cy : Nat → ClassId} {ad : Nat → Nat} {I : Nat → Int32} {A : Nat → Nat → Int32} {w : Int64} {p1 : Int32} {rv : Int32} {sz : Nat} (hf : f_X8_isTooLarge A p1 = some (rv)) : Met l yX8_isTooLarge wz_X8_isTooLarge rm_X8_isTooLarge (va_Pc [.ref (ad 0), .int p1] (qw_Pre D cy (Wm cy ad I A w) sz)) (qw_R (some (.int rv))) 0 0 (fun _ => False) := by
  refine qw_of (cc := cX8_isTooLarge) (maxL := 3) (ret := (some .boolean)) (by decide) (Nat.le_of_ble_eq_true rfl) ?_
  intro p e s m args below meth c ls S0 hr hlocks hsz V hl
  have S0 : CallFix p m c cX8_isTooLarge 3 s args qw_big RX8 := S0
  have hx := S0.1; have hb := S0.2.1; have hown := S0.2.2.2.1; have hts := S0.2.2.2.2
  have hl : lv_has ls 3 [(0, .ref (ad 0)), (1, .int p1)] := hl
  obtain ⟨Q9, hQ⟩ : ∃ q, q = MQ below (qw_R (some (.int rv))) args s 0 0 (fun _ => False) := ⟨_, rfl⟩
  rw [← hQ]
  generalize va_A (Wm cy ad I A w) sz = Z9 at V
  have L_2 : ∀  {y1 : Int32} {n : Nat}  {y2 : Int32} {ls : Array Slot}, f_X8_isTooLarge_l2 A y1 n y2 = some (rv) → lv_has ls 3 [(0, .ref (ad 0)), (1, .int y1), (2, .int y2)] → W p l e rm_X8_isTooLarge s m args below meth c s.heap [] 0 0 Q9 (F0 m 2 ls []) := by
    intro y1 n
    induction n with
    | zero => intro y2 ls hf hl; exact qf_no hf
    | succ n ih =>
      intro y2 ls hf hl
      rw [f_X8_isTooLarge_l2] at hf
      refine lv_iload_n hx hb dX8_isTooLarge_2 rfl (lv_at hl 2 rfl) ?_
      refine lv_aload_n hx hb dX8_isTooLarge_3 rfl (lv_at hl 0 rfl) ?_
      refine gfM_0_5 S0 V kl_X8_19 dX8_isTooLarge_4 ?_
      refine lv_iconst (v := 0) hx hb dX8_isTooLarge_7 (by decide) ?_
      have h_8 := qf_ld_in hf
      refine alM_4 S0 V h_8 dX8_isTooLarge_8 ?_
      refine lv_topi (fun x1 e_x1 => ?_)
      replace hf := qf_ld_e e_x1 hf
      refine lv_icmp_ge (tgt := 32) hx hb dX8_isTooLarge_9 (by decide) (fun c_9 => ?_) (fun c_9 => ?_)
      · replace hf := qf_t c_9 hf
        refine lv_iconst (v := 0) hx hb dX8_isTooLarge_32 (by decide) ?_
        have hE := Option.some.inj hf
        exact qw_zretR S0 hr hlocks hQ rfl hE dX8_isTooLarge_33
      · replace hf := qf_f c_9 hf
        refine lv_aload_n hx hb dX8_isTooLarge_12 rfl (lv_at hl 0 rfl) ?_
        refine lv_iload_n hx hb dX8_isTooLarge_13 rfl (lv_at hl 1 rfl) ?_
        refine lv_iload_n hx hb dX8_isTooLarge_14 rfl (lv_at hl 2 rfl) ?_
        obtain ⟨r2, hc_15, hf⟩ := qf_bd_e hf
        refine qw_cVR (rest := []) (st1 := [.int r2]) S0 V hl 0 gM_0 rfl (c_X8_couponsOf l hc_15) kg_X8_214 rfl ⟨rfl, rfl⟩ kd_X8_couponsOf ⟨Nat.le_of_ble_eq_true rfl, Nat.le_of_ble_eq_true rfl⟩ rfl rfl (Nat.le_of_ble_eq_true rfl) ⟨Nat.zero_le _, Nat.zero_le _⟩ rfl dX8_isTooLarge_15 ?_
        refine lv_sipush (v := 400) hx hb dX8_isTooLarge_18 (by decide) ?_
        refine lv_icmp_le (tgt := 26) hx hb dX8_isTooLarge_21 (by decide) (fun c_21 => ?_) (fun c_21 => ?_)
        · replace hf := qf_t c_21 hf
          obtain ⟨x3, e_x3⟩ : ∃ y : Int32, y = y2 + (1 : Int32) := ⟨_, rfl⟩
          refine lv_iinc (v := x3) (lv' := [(2, .int x3), (0, .ref (ad 0)), (1, .int y1)]) hx hb dX8_isTooLarge_26 hl (k := 2) rfl (by rw [e_x3]; rfl) (by decide) rfl (fun ls hl => ?_)
          replace hf := qf_let_e e_x3 hf
          refine lv_goto (tgt := 2) hx hb dX8_isTooLarge_29 (by decide) ?_
          exact ih hf (lv_sub hl [1, 2, 0] rfl)
        · replace hf := qf_f c_21 hf
          refine lv_iconst (v := 1) hx hb dX8_isTooLarge_24 (by decide) ?_
          have hE := Option.some.inj hf
          exact qw_zretR S0 hr hlocks hQ rfl hE dX8_isTooLarge_25
  unfold f_X8_isTooLarge at hf
  refine lv_iconst (v := 0) hx hb dX8_isTooLarge_0 (by decide) ?_
  refine lv_istore_n (lv' := [(2, .int (0 : Int32)), (0, .ref (ad 0)), (1, .int p1)]) hx hb dX8_isTooLarge_1 rfl hl (by decide) rfl (fun ls hl => ?_)
  exact L_2 hf (lv_sub hl [1, 2, 0] rfl)
theorem kd_X8_worthWith : yX8_worthWith.cls = RX8 ∧ yX8_worthWith.cls ≠ "java/lang/invoke/MethodHandle" ∧ yX8_worthWith.cls ≠ "java/lang/invoke/VarHandle" ∧ (parseMethodDescriptor yX8_worthWith.desc).map (fun d => d.parameters.length) = some 3 := by decide +kernel
def f_X8_worthWith (A : Nat → Nat → Int32) (p1 : Int32) (p2 : Int32) (p3 : Int32) : Option (Int32) :=
  qf_ld 62 (A 3) ((32 : Int32) + p1) fun x1 =>
  qf_ld 62 (A 3) ((26 : Int32) + p1) fun x2 =>
  qf_ld 62 (A 3) ((26 : Int32) + p1) fun x3 =>
  qf_ld 2807 (A 7) ((((401 : Int32) * (p1 + (1 : Int32))) + p3) - (p2 * x3)) fun x4 =>
  some (((p2 * (((1000 : Int32) * x1) - x2)) + x4))
abbrev wz_X8_worthWith : List Cond := Cond.code yX8_worthWith cX8_worthWith 4 (some .int) :: qw_big
def rm_X8_worthWith : Room := { frames := 0, cells := 0, slots := 0, locals := 0 }
set_option maxHeartbeats 4000000 in
set_option maxRecDepth 100000 in
theorem c_X8_worthWith (l : Launch) {D : va_G} {cy : Nat → ClassId} {ad : Nat → Nat} {I : Nat → Int32} {A : Nat → Nat → Int32} {w : Int64} {p1 : Int32} {p2 : Int32} {p3 : Int32} {rv : Int32} {sz : Nat} (hf : f_X8_worthWith A p1 p2 p3 = some (rv)) : Met l yX8_worthWith wz_X8_worthWith rm_X8_worthWith (va_Pc [.ref (ad 0), .int p1, .int p2, .int p3] (qw_Pre D cy (Wm cy ad I A w) sz)) (qw_R (some (.int rv))) 0 0 (fun _ => False) := by
  refine qw_of (cc := cX8_worthWith) (maxL := 4) (ret := (some .int)) (by decide) (Nat.le_of_ble_eq_true rfl) ?_
  intro p e s m args below meth c ls S0 hr hlocks hsz V hl
  have S0 : CallFix p m c cX8_worthWith 4 s args qw_big RX8 := S0
  have hx := S0.1; have hb := S0.2.1; have hown := S0.2.2.2.1; have hts := S0.2.2.2.2
  have hl : lv_has ls 4 [(0, .ref (ad 0)), (1, .int p1), (2, .int p2), (3, .int p3)] := hl
  obtain ⟨Q9, hQ⟩ : ∃ q, q = MQ below (qw_R (some (.int rv))) args s 0 0 (fun _ => False) := ⟨_, rfl⟩
  rw [← hQ]
  generalize va_A (Wm cy ad I A w) sz = Z9 at V
  unfold f_X8_worthWith at hf
  refine lv_iload_n hx hb dX8_worthWith_0 rfl (lv_at hl 2 rfl) ?_
  refine lv_sipush (v := 1000) hx hb dX8_worthWith_1 (by decide) ?_
  refine lv_aload_n hx hb dX8_worthWith_4 rfl (lv_at hl 0 rfl) ?_
  refine gfM_0_5 S0 V kl_X8_19 dX8_worthWith_5 ?_
  refine lv_bipush (v := 32) hx hb dX8_worthWith_8 (by decide) ?_
  refine lv_iload_n hx hb dX8_worthWith_10 rfl (lv_at hl 1 rfl) ?_
  refine lv_iadd hx hb dX8_worthWith_11 ?_
  have h_12 := qf_ld_in hf
  refine alM_4 S0 V h_12 dX8_worthWith_12 ?_
  refine lv_topi (fun x1 e_x1 => ?_)
  replace hf := qf_ld_e e_x1 hf
  refine lv_imul hx hb dX8_worthWith_13 ?_
  refine lv_aload_n hx hb dX8_worthWith_14 rfl (lv_at hl 0 rfl) ?_
  refine gfM_0_5 S0 V kl_X8_19 dX8_worthWith_15 ?_
  refine lv_bipush (v := 26) hx hb dX8_worthWith_18 (by decide) ?_
  refine lv_iload_n hx hb dX8_worthWith_20 rfl (lv_at hl 1 rfl) ?_
  refine lv_iadd hx hb dX8_worthWith_21 ?_
  have h_22 := qf_ld_in hf
  refine alM_4 S0 V h_22 dX8_worthWith_22 ?_
  refine lv_topi (fun x2 e_x2 => ?_)
  replace hf := qf_ld_e e_x2 hf
  refine lv_isub hx hb dX8_worthWith_23 ?_
  refine lv_imul hx hb dX8_worthWith_24 ?_
  refine lv_aload_n hx hb dX8_worthWith_25 rfl (lv_at hl 0 rfl) ?_
  refine gfM_0_20 S0 V kl_X8_36 dX8_worthWith_26 ?_
  refine lv_sipush (v := 401) hx hb dX8_worthWith_29 (by decide) ?_
  refine lv_iload_n hx hb dX8_worthWith_32 rfl (lv_at hl 1 rfl) ?_
  refine lv_iconst (v := 1) hx hb dX8_worthWith_33 (by decide) ?_
  refine lv_iadd hx hb dX8_worthWith_34 ?_
  refine lv_imul hx hb dX8_worthWith_35 ?_
  refine lv_iload_n hx hb dX8_worthWith_36 rfl (lv_at hl 3 rfl) ?_
  refine lv_iadd hx hb dX8_worthWith_37 ?_
  refine lv_iload_n hx hb dX8_worthWith_38 rfl (lv_at hl 2 rfl) ?_
  refine lv_aload_n hx hb dX8_worthWith_39 rfl (lv_at hl 0 rfl) ?_
  refine gfM_0_5 S0 V kl_X8_19 dX8_worthWith_40 ?_
  refine lv_bipush (v := 26) hx hb dX8_worthWith_43 (by decide) ?_
  refine lv_iload_n hx hb dX8_worthWith_45 rfl (lv_at hl 1 rfl) ?_
  refine lv_iadd hx hb dX8_worthWith_46 ?_
  have h_47 := qf_ld_in hf
  refine alM_4 S0 V h_47 dX8_worthWith_47 ?_
  refine lv_topi (fun x3 e_x3 => ?_)
  replace hf := qf_ld_e e_x3 hf
  refine lv_imul hx hb dX8_worthWith_48 ?_
  refine lv_isub hx hb dX8_worthWith_49 ?_
  have h_50 := qf_ld_in hf
  refine alM_8 S0 V h_50 dX8_worthWith_50 ?_
  refine lv_topi (fun x4 e_x4 => ?_)
  replace hf := qf_ld_e e_x4 hf
  refine lv_iadd hx hb dX8_worthWith_51 ?_
  have hE := Option.some.inj hf
  exact qw_iretR S0 hr hlocks hQ hE dX8_worthWith_52
theorem kd_X8_mostIn : yX8_mostIn.cls = RX8 ∧ yX8_mostIn.cls ≠ "java/lang/invoke/MethodHandle" ∧ yX8_mostIn.cls ≠ "java/lang/invoke/VarHandle" ∧ (parseMethodDescriptor yX8_mostIn.desc).map (fun d => d.parameters.length) = some 3 := by decide +kernel
def f_X8_mostIn (A : Nat → Nat → Int32) (p1 : Int32) (p2 : Int32) (p3 : Int32) : Option (Int32) :=
  qf_ld 250 (A 0) (((145 : Int32) + ((6 : Int32) * p1)) + p2) fun x1 =>
  qf_ld 62 (A 3) ((26 : Int32) + p2) fun x2 =>
  qf_ck (¬ x2 = 0) <|
  qf_bd (f_X8_lesser x1 (p3 / x2)) fun r3 =>
  some (r3)
abbrev wz_X8_mostIn : List Cond := Cond.code yX8_mostIn cX8_mostIn 4 (some .int) :: qw_big
def rm_X8_mostIn : Room := { frames := 1, cells := 0, slots := 0, locals := 21 }
set_option maxHeartbeats 4000000 in
set_option maxRecDepth 100000 in
theorem c_X8_mostIn (l : Launch) {D : va_G} {cy : Nat → ClassId} {ad : Nat → Nat} {I : Nat → Int32} {A : Nat → Nat → Int32} {w : Int64} {p1 : Int32} {p2 : Int32} {p3 : Int32} {rv : Int32} {sz : Nat} (hf : f_X8_mostIn A p1 p2 p3 = some (rv)) : Met l yX8_mostIn wz_X8_mostIn rm_X8_mostIn (va_Pc [.ref (ad 0), .int p1, .int p2, .int p3] (qw_Pre D cy (Wm cy ad I A w) sz)) (qw_R (some (.int rv))) 0 0 (fun _ => False) := by
  refine qw_of (cc := cX8_mostIn) (maxL := 4) (ret := (some .int)) (by decide) (Nat.le_of_ble_eq_true rfl) ?_
  intro p e s m args below meth c ls S0 hr hlocks hsz V hl
  have S0 : CallFix p m c cX8_mostIn 4 s args qw_big RX8 := S0
  have hx := S0.1; have hb := S0.2.1; have hown := S0.2.2.2.1; have hts := S0.2.2.2.2
  have hl : lv_has ls 4 [(0, .ref (ad 0)), (1, .int p1), (2, .int p2), (3, .int p3)] := hl
  obtain ⟨Q9, hQ⟩ : ∃ q, q = MQ below (qw_R (some (.int rv))) args s 0 0 (fun _ => False) := ⟨_, rfl⟩
  rw [← hQ]
  generalize va_A (Wm cy ad I A w) sz = Z9 at V
  unfold f_X8_mostIn at hf
  refine lv_aload_n hx hb dX8_mostIn_0 rfl (lv_at hl 0 rfl) ?_
  refine gfM_0_0 S0 V kl_X8_7 dX8_mostIn_1 ?_
  refine lv_sipush (v := 145) hx hb dX8_mostIn_4 (by decide) ?_
  refine lv_bipush (v := 6) hx hb dX8_mostIn_7 (by decide) ?_
  refine lv_iload_n hx hb dX8_mostIn_9 rfl (lv_at hl 1 rfl) ?_
  refine lv_imul hx hb dX8_mostIn_10 ?_
  refine lv_iadd hx hb dX8_mostIn_11 ?_
  refine lv_iload_n hx hb dX8_mostIn_12 rfl (lv_at hl 2 rfl) ?_
  refine lv_iadd hx hb dX8_mostIn_13 ?_
  have h_14 := qf_ld_in hf
  refine alM_1 S0 V h_14 dX8_mostIn_14 ?_
  refine lv_topi (fun x1 e_x1 => ?_)
  replace hf := qf_ld_e e_x1 hf
  refine lv_iload_n hx hb dX8_mostIn_15 rfl (lv_at hl 3 rfl) ?_
  refine lv_aload_n hx hb dX8_mostIn_16 rfl (lv_at hl 0 rfl) ?_
  refine gfM_0_5 S0 V kl_X8_19 dX8_mostIn_17 ?_
  refine lv_bipush (v := 26) hx hb dX8_mostIn_20 (by decide) ?_
  refine lv_iload_n hx hb dX8_mostIn_22 rfl (lv_at hl 2 rfl) ?_
  refine lv_iadd hx hb dX8_mostIn_23 ?_
  have h_24 := qf_ld_in hf
  refine alM_4 S0 V h_24 dX8_mostIn_24 ?_
  refine lv_topi (fun x2 e_x2 => ?_)
  replace hf := qf_ld_e e_x2 hf
  obtain ⟨h_25, hf⟩ := qf_ck_e hf
  refine lv_idiv hx hb dX8_mostIn_25 h_25 ?_
  obtain ⟨r3, hc_26, hf⟩ := qf_bd_e hf
  refine qw_cSR (rest := []) (st1 := [.int r3]) S0 V hl (c_X8_lesser l hc_26) kg_X8_241 rfl ⟨rfl, rfl⟩ kd_X8_lesser ⟨Nat.le_of_ble_eq_true rfl, Nat.le_of_ble_eq_true rfl⟩ rfl rfl (Nat.le_of_ble_eq_true rfl) ⟨Nat.zero_le _, Nat.zero_le _⟩ rfl dX8_mostIn_26 ?_
  have hE := Option.some.inj hf
  exact qw_iretR S0 hr hlocks hQ hE dX8_mostIn_29
theorem kd_X8_layWorth : yX8_layWorth.cls = RX8 ∧ yX8_layWorth.cls ≠ "java/lang/invoke/MethodHandle" ∧ yX8_layWorth.cls ≠ "java/lang/invoke/VarHandle" ∧ (parseMethodDescriptor yX8_layWorth.desc).map (fun d => d.parameters.length) = some 3 := by decide +kernel
def f_X8_layWorth_j146  (K30 : (Nat → Nat → Int32) → Int32 → Option ((Nat → Nat → Int32))) (K38 : (Nat → Nat → Int32) → Int32 → Option ((Nat → Nat → Int32))) (K114 : (Nat → Nat → Int32) → Int32 → Int32 → Option ((Nat → Nat → Int32))) (A : Nat → Nat → Int32) (y1 : Int32) (y2 : Int32) (y3 : Int32) (y4 : Int32) (y5 : Int32) (y6 : Int32) (y8 : Int32) : Option ((Nat → Nat → Int32)) :=
  qf_let (y8 + (-1 : Int32)) fun x14 =>
  K114 A y6 x14
def f_X8_layWorth_l114  (K30 : (Nat → Nat → Int32) → Int32 → Option ((Nat → Nat → Int32))) (K38 : (Nat → Nat → Int32) → Int32 → Option ((Nat → Nat → Int32))) (y1 : Int32) (y2 : Int32) (y3 : Int32) (y4 : Int32) (y5 : Int32) : Nat → (Nat → Nat → Int32) → Int32 → Int32 → Option ((Nat → Nat → Int32))
  | 0, _, _, _ => none
  | n + 1, A, y6, y8 =>
  if y8 ≤ 0 then (qf_st 2807 (((401 : Int32) * y4) + y5) fun i10 =>
    qf_let (qf_up A 7 (upd (A 7) i10 y6)) fun A9 =>
    qf_let (y5 + (1 : Int32)) fun x11 =>
    K38 A9 x11) else (qf_bd (f_X8_worthWith A y4 y8 y5) fun r12 =>
    if r12 ≤ y6 then (f_X8_layWorth_j146 K30 K38 (fun z0 z1 z2 => f_X8_layWorth_l114 K30 K38 y1 y2 y3 y4 y5 n z0 z1 z2) A y1 y2 y3 y4 y5 y6 y8) else (qf_bd (f_X8_worthWith A y4 y8 y5) fun r13 =>
      f_X8_layWorth_j146 K30 K38 (fun z0 z1 z2 => f_X8_layWorth_l114 K30 K38 y1 y2 y3 y4 y5 n z0 z1 z2) A y1 y2 y3 y4 y5 r13 y8))
def f_X8_layWorth_j112  (K30 : (Nat → Nat → Int32) → Int32 → Option ((Nat → Nat → Int32))) (K38 : (Nat → Nat → Int32) → Int32 → Option ((Nat → Nat → Int32))) (A : Nat → Nat → Int32) (y1 : Int32) (y2 : Int32) (y3 : Int32) (y4 : Int32) (y5 : Int32) (y6 : Int32) (s0 : Int32) : Option ((Nat → Nat → Int32)) :=
  f_X8_layWorth_l114 K30 K38 y1 y2 y3 y4 y5 100000 A y6 s0
def f_X8_layWorth_j92  (K30 : (Nat → Nat → Int32) → Int32 → Option ((Nat → Nat → Int32))) (K38 : (Nat → Nat → Int32) → Int32 → Option ((Nat → Nat → Int32))) (A : Nat → Nat → Int32) (y1 : Int32) (y2 : Int32) (y3 : Int32) (y4 : Int32) (y5 : Int32) (y6 : Int32) (s0 : Int32) : Option ((Nat → Nat → Int32)) :=
  if s0 = 0 then (f_X8_layWorth_j112 K30 K38 A y1 y2 y3 y4 y5 y6 (0 : Int32)) else (qf_bd (f_X8_mostIn A y1 y4 y5) fun r8 =>
    f_X8_layWorth_j112 K30 K38 A y1 y2 y3 y4 y5 y6 r8)
def f_X8_layWorth_j91  (K30 : (Nat → Nat → Int32) → Int32 → Option ((Nat → Nat → Int32))) (K38 : (Nat → Nat → Int32) → Int32 → Option ((Nat → Nat → Int32))) (A : Nat → Nat → Int32) (y1 : Int32) (y2 : Int32) (y3 : Int32) (y4 : Int32) (y5 : Int32) (y6 : Int32) : Option ((Nat → Nat → Int32)) :=
  f_X8_layWorth_j92 K30 K38 A y1 y2 y3 y4 y5 y6 (0 : Int32)
def f_X8_layWorth_l38  (K30 : (Nat → Nat → Int32) → Int32 → Option ((Nat → Nat → Int32))) (y1 : Int32) (y2 : Int32) (y3 : Int32) (y4 : Int32) : Nat → (Nat → Nat → Int32) → Int32 → Option ((Nat → Nat → Int32))
  | 0, _, _ => none
  | n + 1, A, y5 =>
  if y3 < y5 then (qf_let (y4 + (-1 : Int32)) fun x4 =>
    K30 A x4) else (qf_ld 2807 (A 7) (((401 : Int32) * (y4 + (1 : Int32))) + y5) fun x5 =>
    qf_ld 62 (A 3) (1 : Int32) fun x6 =>
    if x6 ≤ y4 then (f_X8_layWorth_j91 K30 (fun z0 z1 => f_X8_layWorth_l38 K30 y1 y2 y3 y4 n z0 z1) A y1 y2 y3 y4 y5 x5) else (qf_ld 62 (A 3) ((20 : Int32) + y4) fun x7 =>
      if x7 = y2 then (f_X8_layWorth_j92 K30 (fun z0 z1 => f_X8_layWorth_l38 K30 y1 y2 y3 y4 n z0 z1) A y1 y2 y3 y4 y5 x5 (1 : Int32)) else (f_X8_layWorth_j91 K30 (fun z0 z1 => f_X8_layWorth_l38 K30 y1 y2 y3 y4 n z0 z1) A y1 y2 y3 y4 y5 x5)))
def f_X8_layWorth_l30   (y1 : Int32) (y2 : Int32) (y3 : Int32) : Nat → (Nat → Nat → Int32) → Int32 → Option ((Nat → Nat → Int32))
  | 0, _, _ => none
  | n + 1, A, y4 =>
  if y4 < 0 then (some (A)) else (f_X8_layWorth_l38 (fun z0 z1 => f_X8_layWorth_l30 y1 y2 y3 n z0 z1) y1 y2 y3 y4 100000 A (0 : Int32))
def f_X8_layWorth_l3   (y1 : Int32) (y2 : Int32) (y3 : Int32) : Nat → (Nat → Nat → Int32) → Int32 → Option ((Nat → Nat → Int32))
  | 0, _, _ => none
  | n + 1, A, y4 =>
  if y3 < y4 then (f_X8_layWorth_l30 y1 y2 y3 100000 A (5 : Int32)) else (qf_st 2807 ((2406 : Int32) + y4) fun i2 =>
    qf_let (qf_up A 7 (upd (A 7) i2 (0 : Int32))) fun A1 =>
    qf_let (y4 + (1 : Int32)) fun x3 =>
    f_X8_layWorth_l3 y1 y2 y3 n A1 x3)
def f_X8_layWorth (A : Nat → Nat → Int32) (p1 : Int32) (p2 : Int32) (p3 : Int32) : Option ((Nat → Nat → Int32)) :=
  f_X8_layWorth_l3 p1 p2 p3 100000 A (0 : Int32)
abbrev wz_X8_layWorth : List Cond := Cond.code yX8_layWorth cX8_layWorth 9 none :: qw_big
def rm_X8_layWorth : Room := { frames := 2, cells := 0, slots := 0, locals := 44 }
set_option maxHeartbeats 4000000 in
set_option maxRecDepth 100000 in
theorem c_X8_layWorth (l : Launch) {D : va_G} {cy : Nat → ClassId} {ad : Nat → Nat} {I : Nat → Int32} {A : Nat → Nat → Int32} {w : Int64} {p1 : Int32} {p2 : Int32} {p3 : Int32} {A9 : Nat → Nat → Int32} {sz : Nat} (hf : f_X8_layWorth A p1 p2 p3 = some (A9)) : Met l yX8_layWorth wz_X8_layWorth rm_X8_layWorth (va_Pc [.ref (ad 0), .int p1, .int p2, .int p3] (qw_Pre D cy (Wm cy ad I A w) sz)) (qw_Q none D (Wm cy ad I A9 w) (va_A (Wm cy ad I A w) sz)) 0 0 (va_A (Wm cy ad I A w) sz) := by
  refine qw_of (cc := cX8_layWorth) (maxL := 9) (ret := none) (by decide) (Nat.le_of_ble_eq_true rfl) ?_
  intro p e s m args below meth c ls S0 hr hlocks hsz V hl
  have S0 : CallFix p m c cX8_layWorth 9 s args qw_big RX8 := S0
  have hx := S0.1; have hb := S0.2.1; have hown := S0.2.2.2.1; have hts := S0.2.2.2.2
  have hl : lv_has ls 9 [(0, .ref (ad 0)), (1, .int p1), (2, .int p2), (3, .int p3)] := hl
  generalize va_A (Wm cy ad I A w) sz = Z9 at V ⊢
  obtain ⟨Q9, hQ⟩ : ∃ q, q = MQ below (qw_Q none D (Wm cy ad I A9 w) Z9) args s 0 0 Z9 := ⟨_, rfl⟩
  rw [← hQ]
  clear hsz
  have J_146 : ∀ {K30 : (Nat → Nat → Int32) → Int32 → Option ((Nat → Nat → Int32))} {K38 : (Nat → Nat → Int32) → Int32 → Option ((Nat → Nat → Int32))} {K114 : (Nat → Nat → Int32) → Int32 → Int32 → Option ((Nat → Nat → Int32))} {y1 : Int32} {y2 : Int32} {y3 : Int32} {y4 : Int32} {y5 : Int32}  (hK30 : ∀ {A : Nat → Nat → Int32} {y4 : Int32} {H : Heap} {locs : List Loc} {ls : Array Slot}, K30 A y4 = some (A9) → qw_V D cy Z9 s (Wm cy ad I A w) H locs → lv_has ls 9 [(0, .ref (ad 0)), (1, .int y1), (2, .int y2), (3, .int y3), (4, .int y4)] → W p l e rm_X8_layWorth s m args below meth c H locs 0 0 Q9 (F0 m 30 ls [])) (hK38 : ∀ {A : Nat → Nat → Int32} {y5 : Int32} {H : Heap} {locs : List Loc} {ls : Array Slot}, K38 A y5 = some (A9) → qw_V D cy Z9 s (Wm cy ad I A w) H locs → lv_has ls 9 [(0, .ref (ad 0)), (1, .int y1), (2, .int y2), (3, .int y3), (4, .int y4), (5, .int y5)] → W p l e rm_X8_layWorth s m args below meth c H locs 0 0 Q9 (F0 m 38 ls [])) (hK114 : ∀ {A : Nat → Nat → Int32} {y6 : Int32} {y8 : Int32} {H : Heap} {locs : List Loc} {ls : Array Slot}, K114 A y6 y8 = some (A9) → qw_V D cy Z9 s (Wm cy ad I A w) H locs → lv_has ls 9 [(0, .ref (ad 0)), (1, .int y1), (2, .int y2), (3, .int y3), (4, .int y4), (5, .int y5), (6, .int y6), (8, .int y8)] → W p l e rm_X8_layWorth s m args below meth c H locs 0 0 Q9 (F0 m 114 ls [])) {A : Nat → Nat → Int32} {y6 : Int32} {y8 : Int32} {H : Heap} {locs : List Loc} {ls : Array Slot}, f_X8_layWorth_j146 K30 K38 K114 A y1 y2 y3 y4 y5 y6 y8 = some (A9) → qw_V D cy Z9 s (Wm cy ad I A w) H locs → lv_has ls 9 [(0, .ref (ad 0)), (1, .int y1), (2, .int y2), (3, .int y3), (4, .int y4), (5, .int y5), (6, .int y6), (8, .int y8)] → W p l e rm_X8_layWorth s m args below meth c H locs 0 0 Q9 (F0 m 146 ls []) := by
    intro K30 K38 K114 y1 y2 y3 y4 y5 hK30 hK38 hK114 A y6 y8 H locs ls hf V hl
    unfold f_X8_layWorth_j146 at hf
    obtain ⟨x14, e_x14⟩ : ∃ y : Int32, y = y8 + (-1 : Int32) := ⟨_, rfl⟩
    refine lv_iinc (v := x14) (lv' := [(8, .int x14), (0, .ref (ad 0)), (1, .int y1), (2, .int y2), (3, .int y3), (4, .int y4), (5, .int y5), (6, .int y6)]) hx hb dX8_layWorth_146 hl (k := 7) rfl (by rw [e_x14]; rfl) (by decide) rfl (fun ls hl => ?_)
    replace hf := qf_let_e e_x14 hf
    refine lv_goto (tgt := 114) hx hb dX8_layWorth_149 (by decide) ?_
    exact hK114 hf V (lv_sub hl [1, 2, 3, 4, 5, 6, 7, 0] rfl)
  have L_114 : ∀ {K30 : (Nat → Nat → Int32) → Int32 → Option ((Nat → Nat → Int32))} {K38 : (Nat → Nat → Int32) → Int32 → Option ((Nat → Nat → Int32))} {y1 : Int32} {y2 : Int32} {y3 : Int32} {y4 : Int32}  (hK30 : ∀ {A : Nat → Nat → Int32} {y4 : Int32} {H : Heap} {locs : List Loc} {ls : Array Slot}, K30 A y4 = some (A9) → qw_V D cy Z9 s (Wm cy ad I A w) H locs → lv_has ls 9 [(0, .ref (ad 0)), (1, .int y1), (2, .int y2), (3, .int y3), (4, .int y4)] → W p l e rm_X8_layWorth s m args below meth c H locs 0 0 Q9 (F0 m 30 ls [])) (hK38 : ∀ {A : Nat → Nat → Int32} {y5 : Int32} {H : Heap} {locs : List Loc} {ls : Array Slot}, K38 A y5 = some (A9) → qw_V D cy Z9 s (Wm cy ad I A w) H locs → lv_has ls 9 [(0, .ref (ad 0)), (1, .int y1), (2, .int y2), (3, .int y3), (4, .int y4), (5, .int y5)] → W p l e rm_X8_layWorth s m args below meth c H locs 0 0 Q9 (F0 m 38 ls [])) {y5 : Int32} {n : Nat} {A : Nat → Nat → Int32} {y6 : Int32} {y8 : Int32} {H : Heap} {locs : List Loc} {ls : Array Slot}, f_X8_layWorth_l114 K30 K38 y1 y2 y3 y4 y5 n A y6 y8 = some (A9) → qw_V D cy Z9 s (Wm cy ad I A w) H locs → lv_has ls 9 [(0, .ref (ad 0)), (1, .int y1), (2, .int y2), (3, .int y3), (4, .int y4), (5, .int y5), (6, .int y6), (8, .int y8)] → W p l e rm_X8_layWorth s m args below meth c H locs 0 0 Q9 (F0 m 114 ls []) := by
    intro K30 K38 y1 y2 y3 y4 hK30 hK38 y5 n
    induction n with
    | zero => intro A y6 y8 H locs ls hf V hl; exact qf_no hf
    | succ n ih =>
      intro A y6 y8 H locs ls hf V hl
      rw [f_X8_layWorth_l114] at hf
      refine lv_iload hx hb dX8_layWorth_114 (lv_at hl 7 rfl) ?_
      refine lv_if_le (tgt := 152) hx hb dX8_layWorth_116 (by decide) (fun c_116 => ?_) (fun c_116 => ?_)
      · replace hf := qf_t c_116 hf
        refine lv_aload_n hx hb dX8_layWorth_152 rfl (lv_at hl 0 rfl) ?_
        refine gfM_0_20 S0 V kl_X8_36 dX8_layWorth_153 ?_
        refine lv_sipush (v := 401) hx hb dX8_layWorth_156 (by decide) ?_
        refine lv_iload hx hb dX8_layWorth_159 (lv_at hl 4 rfl) ?_
        refine lv_imul hx hb dX8_layWorth_161 ?_
        refine lv_iload hx hb dX8_layWorth_162 (lv_at hl 5 rfl) ?_
        refine lv_iadd hx hb dX8_layWorth_164 ?_
        refine lv_iload hx hb dX8_layWorth_165 (lv_at hl 6 rfl) ?_
        have h_167 := qf_st_in hf
        replace hf := qf_st_e hf
        refine asM_8 S0 V h_167 dX8_layWorth_167 (fun H locs A9 e_A9 V => ?_)
        replace hf := qf_let_e e_A9 hf
        obtain ⟨x11, e_x11⟩ : ∃ y : Int32, y = y5 + (1 : Int32) := ⟨_, rfl⟩
        refine lv_iinc (v := x11) (lv' := [(5, .int x11), (0, .ref (ad 0)), (1, .int y1), (2, .int y2), (3, .int y3), (4, .int y4), (6, .int y6), (8, .int y8)]) hx hb dX8_layWorth_168 hl (k := 5) rfl (by rw [e_x11]; rfl) (by decide) rfl (fun ls hl => ?_)
        replace hf := qf_let_e e_x11 hf
        refine lv_goto (tgt := 38) hx hb dX8_layWorth_171 (by decide) ?_
        exact hK38 hf V (lv_sub hl [1, 2, 3, 4, 5, 0] rfl)
      · replace hf := qf_f c_116 hf
        refine lv_aload_n hx hb dX8_layWorth_119 rfl (lv_at hl 0 rfl) ?_
        refine lv_iload hx hb dX8_layWorth_120 (lv_at hl 4 rfl) ?_
        refine lv_iload hx hb dX8_layWorth_122 (lv_at hl 7 rfl) ?_
        refine lv_iload hx hb dX8_layWorth_124 (lv_at hl 5 rfl) ?_
        obtain ⟨r12, hc_126, hf⟩ := qf_bd_e hf
        refine qw_cVR (rest := []) (st1 := [.int r12]) S0 V hl 0 gM_0 rfl (c_X8_worthWith l hc_126) kg_X8_284 rfl ⟨rfl, rfl⟩ kd_X8_worthWith ⟨Nat.le_of_ble_eq_true rfl, Nat.le_of_ble_eq_true rfl⟩ rfl rfl (Nat.le_of_ble_eq_true rfl) ⟨Nat.zero_le _, Nat.zero_le _⟩ rfl dX8_layWorth_126 ?_
        refine lv_iload hx hb dX8_layWorth_129 (lv_at hl 6 rfl) ?_
        refine lv_icmp_le (tgt := 146) hx hb dX8_layWorth_131 (by decide) (fun c_131 => ?_) (fun c_131 => ?_)
        · replace hf := qf_t c_131 hf
          exact J_146 hK30 hK38 (fun hf V hl => ih hf V hl) hf V (lv_sub hl [0, 1, 2, 3, 4, 5, 6, 7] rfl)
        · replace hf := qf_f c_131 hf
          refine lv_aload_n hx hb dX8_layWorth_134 rfl (lv_at hl 0 rfl) ?_
          refine lv_iload hx hb dX8_layWorth_135 (lv_at hl 4 rfl) ?_
          refine lv_iload hx hb dX8_layWorth_137 (lv_at hl 7 rfl) ?_
          refine lv_iload hx hb dX8_layWorth_139 (lv_at hl 5 rfl) ?_
          obtain ⟨r13, hc_141, hf⟩ := qf_bd_e hf
          refine qw_cVR (rest := []) (st1 := [.int r13]) S0 V hl 0 gM_0 rfl (c_X8_worthWith l hc_141) kg_X8_284 rfl ⟨rfl, rfl⟩ kd_X8_worthWith ⟨Nat.le_of_ble_eq_true rfl, Nat.le_of_ble_eq_true rfl⟩ rfl rfl (Nat.le_of_ble_eq_true rfl) ⟨Nat.zero_le _, Nat.zero_le _⟩ rfl dX8_layWorth_141 ?_
          refine lv_istore (lv' := [(6, .int r13), (0, .ref (ad 0)), (1, .int y1), (2, .int y2), (3, .int y3), (4, .int y4), (5, .int y5), (8, .int y8)]) hx hb dX8_layWorth_144 hl (by decide) rfl (fun ls hl => ?_)
          exact J_146 hK30 hK38 (fun hf V hl => ih hf V hl) hf V (lv_sub hl [1, 2, 3, 4, 5, 6, 0, 7] rfl)
  have J_112 : ∀ {K30 : (Nat → Nat → Int32) → Int32 → Option ((Nat → Nat → Int32))} {K38 : (Nat → Nat → Int32) → Int32 → Option ((Nat → Nat → Int32))} {y1 : Int32} {y2 : Int32} {y3 : Int32} {y4 : Int32}  (hK30 : ∀ {A : Nat → Nat → Int32} {y4 : Int32} {H : Heap} {locs : List Loc} {ls : Array Slot}, K30 A y4 = some (A9) → qw_V D cy Z9 s (Wm cy ad I A w) H locs → lv_has ls 9 [(0, .ref (ad 0)), (1, .int y1), (2, .int y2), (3, .int y3), (4, .int y4)] → W p l e rm_X8_layWorth s m args below meth c H locs 0 0 Q9 (F0 m 30 ls [])) (hK38 : ∀ {A : Nat → Nat → Int32} {y5 : Int32} {H : Heap} {locs : List Loc} {ls : Array Slot}, K38 A y5 = some (A9) → qw_V D cy Z9 s (Wm cy ad I A w) H locs → lv_has ls 9 [(0, .ref (ad 0)), (1, .int y1), (2, .int y2), (3, .int y3), (4, .int y4), (5, .int y5)] → W p l e rm_X8_layWorth s m args below meth c H locs 0 0 Q9 (F0 m 38 ls [])) {A : Nat → Nat → Int32} {y5 : Int32} {y6 : Int32} {s0 : Int32} {H : Heap} {locs : List Loc} {ls : Array Slot}, f_X8_layWorth_j112 K30 K38 A y1 y2 y3 y4 y5 y6 s0 = some (A9) → qw_V D cy Z9 s (Wm cy ad I A w) H locs → lv_has ls 9 [(0, .ref (ad 0)), (1, .int y1), (2, .int y2), (3, .int y3), (4, .int y4), (5, .int y5), (6, .int y6)] → W p l e rm_X8_layWorth s m args below meth c H locs 0 0 Q9 (F0 m 112 ls [.int s0]) := by
    intro K30 K38 y1 y2 y3 y4 hK30 hK38 A y5 y6 s0 H locs ls hf V hl
    unfold f_X8_layWorth_j112 at hf
    refine lv_istore (lv' := [(8, .int s0), (0, .ref (ad 0)), (1, .int y1), (2, .int y2), (3, .int y3), (4, .int y4), (5, .int y5), (6, .int y6)]) hx hb dX8_layWorth_112 hl (by decide) rfl (fun ls hl => ?_)
    exact L_114 hK30 hK38 hf V (lv_sub hl [1, 2, 3, 4, 5, 6, 7, 0] rfl)
  have J_92 : ∀ {K30 : (Nat → Nat → Int32) → Int32 → Option ((Nat → Nat → Int32))} {K38 : (Nat → Nat → Int32) → Int32 → Option ((Nat → Nat → Int32))} {y1 : Int32} {y2 : Int32} {y3 : Int32} {y4 : Int32}  (hK30 : ∀ {A : Nat → Nat → Int32} {y4 : Int32} {H : Heap} {locs : List Loc} {ls : Array Slot}, K30 A y4 = some (A9) → qw_V D cy Z9 s (Wm cy ad I A w) H locs → lv_has ls 9 [(0, .ref (ad 0)), (1, .int y1), (2, .int y2), (3, .int y3), (4, .int y4)] → W p l e rm_X8_layWorth s m args below meth c H locs 0 0 Q9 (F0 m 30 ls [])) (hK38 : ∀ {A : Nat → Nat → Int32} {y5 : Int32} {H : Heap} {locs : List Loc} {ls : Array Slot}, K38 A y5 = some (A9) → qw_V D cy Z9 s (Wm cy ad I A w) H locs → lv_has ls 9 [(0, .ref (ad 0)), (1, .int y1), (2, .int y2), (3, .int y3), (4, .int y4), (5, .int y5)] → W p l e rm_X8_layWorth s m args below meth c H locs 0 0 Q9 (F0 m 38 ls [])) {A : Nat → Nat → Int32} {y5 : Int32} {y6 : Int32} {s0 : Int32} {H : Heap} {locs : List Loc} {ls : Array Slot}, f_X8_layWorth_j92 K30 K38 A y1 y2 y3 y4 y5 y6 s0 = some (A9) → qw_V D cy Z9 s (Wm cy ad I A w) H locs → lv_has ls 9 [(0, .ref (ad 0)), (1, .int y1), (2, .int y2), (3, .int y3), (4, .int y4), (5, .int y5), (6, .int y6)] → W p l e rm_X8_layWorth s m args below meth c H locs 0 0 Q9 (F0 m 92 ls [.int s0]) := by
    intro K30 K38 y1 y2 y3 y4 hK30 hK38 A y5 y6 s0 H locs ls hf V hl
    unfold f_X8_layWorth_j92 at hf
    refine lv_istore (lv' := [(7, .int s0), (0, .ref (ad 0)), (1, .int y1), (2, .int y2), (3, .int y3), (4, .int y4), (5, .int y5), (6, .int y6)]) hx hb dX8_layWorth_92 hl (by decide) rfl (fun ls hl => ?_)
    refine lv_iload hx hb dX8_layWorth_94 (lv_at hl 0 rfl) ?_
    refine lv_if_eq (tgt := 111) hx hb dX8_layWorth_96 (by decide) (fun c_96 => ?_) (fun c_96 => ?_)
    · replace hf := qf_t c_96 hf
      refine lv_iconst (v := 0) hx hb dX8_layWorth_111 (by decide) ?_
      exact J_112 hK30 hK38 hf V (lv_sub hl [1, 2, 3, 4, 5, 6, 7] rfl)
    · replace hf := qf_f c_96 hf
      refine lv_aload_n hx hb dX8_layWorth_99 rfl (lv_at hl 1 rfl) ?_
      refine lv_iload_n hx hb dX8_layWorth_100 rfl (lv_at hl 2 rfl) ?_
      refine lv_iload hx hb dX8_layWorth_101 (lv_at hl 5 rfl) ?_
      refine lv_iload hx hb dX8_layWorth_103 (lv_at hl 6 rfl) ?_
      obtain ⟨r8, hc_105, hf⟩ := qf_bd_e hf
      refine qw_cVR (rest := []) (st1 := [.int r8]) S0 V hl 0 gM_0 rfl (c_X8_mostIn l hc_105) kg_X8_281 rfl ⟨rfl, rfl⟩ kd_X8_mostIn ⟨Nat.le_of_ble_eq_true rfl, Nat.le_of_ble_eq_true rfl⟩ rfl rfl (Nat.le_of_ble_eq_true rfl) ⟨Nat.zero_le _, Nat.zero_le _⟩ rfl dX8_layWorth_105 ?_
      refine lv_goto (tgt := 112) hx hb dX8_layWorth_108 (by decide) ?_
      exact J_112 hK30 hK38 hf V (lv_sub hl [1, 2, 3, 4, 5, 6, 7] rfl)
  have J_91 : ∀ {K30 : (Nat → Nat → Int32) → Int32 → Option ((Nat → Nat → Int32))} {K38 : (Nat → Nat → Int32) → Int32 → Option ((Nat → Nat → Int32))} {y1 : Int32} {y2 : Int32} {y3 : Int32} {y4 : Int32}  (hK30 : ∀ {A : Nat → Nat → Int32} {y4 : Int32} {H : Heap} {locs : List Loc} {ls : Array Slot}, K30 A y4 = some (A9) → qw_V D cy Z9 s (Wm cy ad I A w) H locs → lv_has ls 9 [(0, .ref (ad 0)), (1, .int y1), (2, .int y2), (3, .int y3), (4, .int y4)] → W p l e rm_X8_layWorth s m args below meth c H locs 0 0 Q9 (F0 m 30 ls [])) (hK38 : ∀ {A : Nat → Nat → Int32} {y5 : Int32} {H : Heap} {locs : List Loc} {ls : Array Slot}, K38 A y5 = some (A9) → qw_V D cy Z9 s (Wm cy ad I A w) H locs → lv_has ls 9 [(0, .ref (ad 0)), (1, .int y1), (2, .int y2), (3, .int y3), (4, .int y4), (5, .int y5)] → W p l e rm_X8_layWorth s m args below meth c H locs 0 0 Q9 (F0 m 38 ls [])) {A : Nat → Nat → Int32} {y5 : Int32} {y6 : Int32} {H : Heap} {locs : List Loc} {ls : Array Slot}, f_X8_layWorth_j91 K30 K38 A y1 y2 y3 y4 y5 y6 = some (A9) → qw_V D cy Z9 s (Wm cy ad I A w) H locs → lv_has ls 9 [(0, .ref (ad 0)), (1, .int y1), (2, .int y2), (3, .int y3), (4, .int y4), (5, .int y5), (6, .int y6)] → W p l e rm_X8_layWorth s m args below meth c H locs 0 0 Q9 (F0 m 91 ls []) := by
    intro K30 K38 y1 y2 y3 y4 hK30 hK38 A y5 y6 H locs ls hf V hl
    unfold f_X8_layWorth_j91 at hf
    refine lv_iconst (v := 0) hx hb dX8_layWorth_91 (by decide) ?_
    exact J_92 hK30 hK38 hf V (lv_sub hl [0, 1, 2, 3, 4, 5, 6] rfl)
  have L_38 : ∀ {K30 : (Nat → Nat → Int32) → Int32 → Option ((Nat → Nat → Int32))} {y1 : Int32} {y2 : Int32} {y3 : Int32}  (hK30 : ∀ {A : Nat → Nat → Int32} {y4 : Int32} {H : Heap} {locs : List Loc} {ls : Array Slot}, K30 A y4 = some (A9) → qw_V D cy Z9 s (Wm cy ad I A w) H locs → lv_has ls 9 [(0, .ref (ad 0)), (1, .int y1), (2, .int y2), (3, .int y3), (4, .int y4)] → W p l e rm_X8_layWorth s m args below meth c H locs 0 0 Q9 (F0 m 30 ls [])) {y4 : Int32} {n : Nat} {A : Nat → Nat → Int32} {y5 : Int32} {H : Heap} {locs : List Loc} {ls : Array Slot}, f_X8_layWorth_l38 K30 y1 y2 y3 y4 n A y5 = some (A9) → qw_V D cy Z9 s (Wm cy ad I A w) H locs → lv_has ls 9 [(0, .ref (ad 0)), (1, .int y1), (2, .int y2), (3, .int y3), (4, .int y4), (5, .int y5)] → W p l e rm_X8_layWorth s m args below meth c H locs 0 0 Q9 (F0 m 38 ls []) := by
    intro K30 y1 y2 y3 hK30 y4 n
    induction n with
    | zero => intro A y5 H locs ls hf V hl; exact qf_no hf
    | succ n ih =>
      intro A y5 H locs ls hf V hl
      rw [f_X8_layWorth_l38] at hf
      refine lv_iload hx hb dX8_layWorth_38 (lv_at hl 5 rfl) ?_
      refine lv_iload_n hx hb dX8_layWorth_40 rfl (lv_at hl 3 rfl) ?_
      refine lv_icmp_gt (tgt := 174) hx hb dX8_layWorth_41 (by decide) (fun c_41 => ?_) (fun c_41 => ?_)
      · replace hf := qf_t c_41 hf
        obtain ⟨x4, e_x4⟩ : ∃ y : Int32, y = y4 + (-1 : Int32) := ⟨_, rfl⟩
        refine lv_iinc (v := x4) (lv' := [(4, .int x4), (0, .ref (ad 0)), (1, .int y1), (2, .int y2), (3, .int y3), (5, .int y5)]) hx hb dX8_layWorth_174 hl (k := 4) rfl (by rw [e_x4]; rfl) (by decide) rfl (fun ls hl => ?_)
        replace hf := qf_let_e e_x4 hf
        refine lv_goto (tgt := 30) hx hb dX8_layWorth_177 (by decide) ?_
        exact hK30 hf V (lv_sub hl [1, 2, 3, 4, 0] rfl)
      · replace hf := qf_f c_41 hf
        refine lv_aload_n hx hb dX8_layWorth_44 rfl (lv_at hl 0 rfl) ?_
        refine gfM_0_20 S0 V kl_X8_36 dX8_layWorth_45 ?_
        refine lv_sipush (v := 401) hx hb dX8_layWorth_48 (by decide) ?_
        refine lv_iload hx hb dX8_layWorth_51 (lv_at hl 4 rfl) ?_
        refine lv_iconst (v := 1) hx hb dX8_layWorth_53 (by decide) ?_
        refine lv_iadd hx hb dX8_layWorth_54 ?_
        refine lv_imul hx hb dX8_layWorth_55 ?_
        refine lv_iload hx hb dX8_layWorth_56 (lv_at hl 5 rfl) ?_
        refine lv_iadd hx hb dX8_layWorth_58 ?_
        have h_59 := qf_ld_in hf
        refine alM_8 S0 V h_59 dX8_layWorth_59 ?_
        refine lv_topi (fun x5 e_x5 => ?_)
        replace hf := qf_ld_e e_x5 hf
        refine lv_istore (lv' := [(6, .int x5), (0, .ref (ad 0)), (1, .int y1), (2, .int y2), (3, .int y3), (4, .int y4), (5, .int y5)]) hx hb dX8_layWorth_60 hl (by decide) rfl (fun ls hl => ?_)
        refine lv_iload hx hb dX8_layWorth_62 (lv_at hl 5 rfl) ?_
        refine lv_aload_n hx hb dX8_layWorth_64 rfl (lv_at hl 1 rfl) ?_
        refine gfM_0_5 S0 V kl_X8_19 dX8_layWorth_65 ?_
        refine lv_iconst (v := 1) hx hb dX8_layWorth_68 (by decide) ?_
        have h_69 := qf_ld_in hf
        refine alM_4 S0 V h_69 dX8_layWorth_69 ?_
        refine lv_topi (fun x6 e_x6 => ?_)
        replace hf := qf_ld_e e_x6 hf
        refine lv_icmp_ge (tgt := 91) hx hb dX8_layWorth_70 (by decide) (fun c_70 => ?_) (fun c_70 => ?_)
        · replace hf := qf_t c_70 hf
          exact J_91 hK30 (fun hf V hl => ih hf V hl) hf V (lv_sub hl [1, 2, 3, 4, 5, 6, 0] rfl)
        · replace hf := qf_f c_70 hf
          refine lv_aload_n hx hb dX8_layWorth_73 rfl (lv_at hl 1 rfl) ?_
          refine gfM_0_5 S0 V kl_X8_19 dX8_layWorth_74 ?_
          refine lv_bipush (v := 20) hx hb dX8_layWorth_77 (by decide) ?_
          refine lv_iload hx hb dX8_layWorth_79 (lv_at hl 5 rfl) ?_
          refine lv_iadd hx hb dX8_layWorth_81 ?_
          have h_82 := qf_ld_in hf
          refine alM_4 S0 V h_82 dX8_layWorth_82 ?_
          refine lv_topi (fun x7 e_x7 => ?_)
          replace hf := qf_ld_e e_x7 hf
          refine lv_iload_n hx hb dX8_layWorth_83 rfl (lv_at hl 3 rfl) ?_
          refine lv_icmp_ne (tgt := 91) hx hb dX8_layWorth_84 (by decide) (fun c_84 => ?_) (fun c_84 => ?_)
          · replace hf := qf_f c_84 hf
            exact J_91 hK30 (fun hf V hl => ih hf V hl) hf V (lv_sub hl [1, 2, 3, 4, 5, 6, 0] rfl)
          · replace hf := qf_t c_84 hf
            refine lv_iconst (v := 1) hx hb dX8_layWorth_87 (by decide) ?_
            refine lv_goto (tgt := 92) hx hb dX8_layWorth_88 (by decide) ?_
            exact J_92 hK30 (fun hf V hl => ih hf V hl) hf V (lv_sub hl [1, 2, 3, 4, 5, 6, 0] rfl)
  have L_30 : ∀  {y1 : Int32} {y2 : Int32} {y3 : Int32} {n : Nat} {A : Nat → Nat → Int32} {y4 : Int32} {H : Heap} {locs : List Loc} {ls : Array Slot}, f_X8_layWorth_l30 y1 y2 y3 n A y4 = some (A9) → qw_V D cy Z9 s (Wm cy ad I A w) H locs → lv_has ls 9 [(0, .ref (ad 0)), (1, .int y1), (2, .int y2), (3, .int y3), (4, .int y4)] → W p l e rm_X8_layWorth s m args below meth c H locs 0 0 Q9 (F0 m 30 ls []) := by
    intro y1 y2 y3 n
    induction n with
    | zero => intro A y4 H locs ls hf V hl; exact qf_no hf
    | succ n ih =>
      intro A y4 H locs ls hf V hl
      rw [f_X8_layWorth_l30] at hf
      refine lv_iload hx hb dX8_layWorth_30 (lv_at hl 4 rfl) ?_
      refine lv_if_lt (tgt := 180) hx hb dX8_layWorth_32 (by decide) (fun c_32 => ?_) (fun c_32 => ?_)
      · replace hf := qf_t c_32 hf
        have hE := Option.some.inj hf
        exact qw_vreti S0 hr hlocks hQ (by rw [hE]) V dX8_layWorth_180
      · replace hf := qf_f c_32 hf
        refine lv_iconst (v := 0) hx hb dX8_layWorth_35 (by decide) ?_
        refine lv_istore (lv' := [(5, .int (0 : Int32)), (0, .ref (ad 0)), (1, .int y1), (2, .int y2), (3, .int y3), (4, .int y4)]) hx hb dX8_layWorth_36 hl (by decide) rfl (fun ls hl => ?_)
        exact L_38 (fun hf V hl => ih hf V hl) hf V (lv_sub hl [1, 2, 3, 4, 5, 0] rfl)
  have L_3 : ∀  {y1 : Int32} {y2 : Int32} {y3 : Int32} {n : Nat} {A : Nat → Nat → Int32} {y4 : Int32} {H : Heap} {locs : List Loc} {ls : Array Slot}, f_X8_layWorth_l3 y1 y2 y3 n A y4 = some (A9) → qw_V D cy Z9 s (Wm cy ad I A w) H locs → lv_has ls 9 [(0, .ref (ad 0)), (1, .int y1), (2, .int y2), (3, .int y3), (4, .int y4)] → W p l e rm_X8_layWorth s m args below meth c H locs 0 0 Q9 (F0 m 3 ls []) := by
    intro y1 y2 y3 n
    induction n with
    | zero => intro A y4 H locs ls hf V hl; exact qf_no hf
    | succ n ih =>
      intro A y4 H locs ls hf V hl
      rw [f_X8_layWorth_l3] at hf
      refine lv_iload hx hb dX8_layWorth_3 (lv_at hl 4 rfl) ?_
      refine lv_iload_n hx hb dX8_layWorth_5 rfl (lv_at hl 3 rfl) ?_
      refine lv_icmp_gt (tgt := 27) hx hb dX8_layWorth_6 (by decide) (fun c_6 => ?_) (fun c_6 => ?_)
      · replace hf := qf_t c_6 hf
        refine lv_iconst (v := 5) hx hb dX8_layWorth_27 (by decide) ?_
        refine lv_istore (lv' := [(4, .int (5 : Int32)), (0, .ref (ad 0)), (1, .int y1), (2, .int y2), (3, .int y3)]) hx hb dX8_layWorth_28 hl (by decide) rfl (fun ls hl => ?_)
        exact L_30 hf V (lv_sub hl [1, 2, 3, 4, 0] rfl)
      · replace hf := qf_f c_6 hf
        refine lv_aload_n hx hb dX8_layWorth_9 rfl (lv_at hl 0 rfl) ?_
        refine gfM_0_20 S0 V kl_X8_36 dX8_layWorth_10 ?_
        refine lv_sipush (v := 2406) hx hb dX8_layWorth_13 (by decide) ?_
        refine lv_iload hx hb dX8_layWorth_16 (lv_at hl 4 rfl) ?_
        refine lv_iadd hx hb dX8_layWorth_18 ?_
        refine lv_iconst (v := 0) hx hb dX8_layWorth_19 (by decide) ?_
        have h_20 := qf_st_in hf
        replace hf := qf_st_e hf
        refine asM_8 S0 V h_20 dX8_layWorth_20 (fun H locs A1 e_A1 V => ?_)
        replace hf := qf_let_e e_A1 hf
        obtain ⟨x3, e_x3⟩ : ∃ y : Int32, y = y4 + (1 : Int32) := ⟨_, rfl⟩
        refine lv_iinc (v := x3) (lv' := [(4, .int x3), (0, .ref (ad 0)), (1, .int y1), (2, .int y2), (3, .int y3)]) hx hb dX8_layWorth_21 hl (k := 4) rfl (by rw [e_x3]; rfl) (by decide) rfl (fun ls hl => ?_)
        replace hf := qf_let_e e_x3 hf
        refine lv_goto (tgt := 3) hx hb dX8_layWorth_24 (by decide) ?_
        exact ih hf V (lv_sub hl [1, 2, 3, 4, 0] rfl)
  unfold f_X8_layWorth at hf
  refine lv_iconst (v := 0) hx hb dX8_layWorth_0 (by decide) ?_
  refine lv_istore (lv' := [(4, .int (0 : Int32)), (0, .ref (ad 0)), (1, .int p1), (2, .int p2), (3, .int p3)]) hx hb dX8_layWorth_1 hl (by decide) rfl (fun ls hl => ?_)
  exact L_3 hf V (lv_sub hl [1, 2, 3, 4, 0] rfl)
theorem kd_X8_fillBasket : yX8_fillBasket.cls = RX8 ∧ yX8_fillBasket.cls ≠ "java/lang/invoke/MethodHandle" ∧ yX8_fillBasket.cls ≠ "java/lang/invoke/VarHandle" ∧ (parseMethodDescriptor yX8_fillBasket.desc).map (fun d => d.parameters.length) = some 3 := by decide +kernel
def f_X8_fillBasket_j118  (K19 : (Nat → Nat → Int32) → Int32 → Int32 → Option ((Nat → Nat → Int32))) (A : Nat → Nat → Int32) (y2 : Int32) (y3 : Int32) (y4 : Int32) (y5 : Int32) : Option ((Nat → Nat → Int32)) :=
  qf_let (y5 + (1 : Int32)) fun x13 =>
  K19 A y4 x13
def f_X8_fillBasket_l58  (K19 : (Nat → Nat → Int32) → Int32 → Int32 → Option ((Nat → Nat → Int32))) (y2 : Int32) (y3 : Int32) (y4 : Int32) (y5 : Int32) : Nat → (Nat → Nat → Int32) → Int32 → Option ((Nat → Nat → Int32))
  | 0, _, _ => none
  | n + 1, A, y6 =>
  qf_bd (f_X8_worthWith A y5 y6 y4) fun r6 =>
  qf_ld 2807 (A 7) (((401 : Int32) * y5) + y4) fun x7 =>
  if r6 = x7 then (qf_st 6 y5 fun i9 =>
    qf_let (qf_up A 8 (upd (A 8) i9 y6)) fun A8 =>
    qf_ld 62 (A8 3) ((26 : Int32) + y5) fun x10 =>
    qf_let ((y4 - (y6 * x10))) fun x11 =>
    f_X8_fillBasket_j118 K19 A8 y2 y3 x11 y5) else (qf_let (y6 + (-1 : Int32)) fun x12 =>
    f_X8_fillBasket_l58 K19 y2 y3 y4 y5 n A x12)
def f_X8_fillBasket_l19   (y2 : Int32) (y3 : Int32) : Nat → (Nat → Nat → Int32) → Int32 → Int32 → Option ((Nat → Nat → Int32))
  | 0, _, _, _ => none
  | n + 1, A, y4, y5 =>
  qf_ld 62 (A 3) (1 : Int32) fun x3 =>
  if x3 ≤ y5 then (some (A)) else (qf_ld 62 (A 3) ((20 : Int32) + y5) fun x4 =>
    if x4 = y3 then (qf_bd (f_X8_mostIn A y2 y5 y4) fun r5 =>
      f_X8_fillBasket_l58 (fun z0 z1 z2 => f_X8_fillBasket_l19 y2 y3 n z0 z1 z2) y2 y3 y4 y5 100000 A r5) else (f_X8_fillBasket_j118 (fun z0 z1 z2 => f_X8_fillBasket_l19 y2 y3 n z0 z1 z2) A y2 y3 y4 y5))
def f_X8_fillBasket (A : Nat → Nat → Int32) (p1 : Int32) (p2 : Int32) (p3 : Int32) : Option ((Nat → Nat → Int32)) :=
  qf_bd (f_X8_couponsOf A p1 p3) fun r1 =>
  qf_bd (f_X8_layWorth A p2 p3 r1) fun A2 =>
  f_X8_fillBasket_l19 p2 p3 100000 A2 r1 (0 : Int32)
abbrev wz_X8_fillBasket : List Cond := Cond.code yX8_fillBasket cX8_fillBasket 7 none :: qw_big
def rm_X8_fillBasket : Room := { frames := 3, cells := 0, slots := 0, locals := 72 }
set_option maxHeartbeats 4000000 in
set_option maxRecDepth 100000 in
theorem c_X8_fillBasket (l : Launch) {D : va_G} {cy : Nat → ClassId} {ad : Nat → Nat} {I : Nat → Int32} {A : Nat → Nat → Int32} {w : Int64} {p1 : Int32} {p2 : Int32} {p3 : Int32} {A9 : Nat → Nat → Int32} {sz : Nat} (hf : f_X8_fillBasket A p1 p2 p3 = some (A9)) : Met l yX8_fillBasket wz_X8_fillBasket rm_X8_fillBasket (va_Pc [.ref (ad 0), .int p1, .int p2, .int p3] (qw_Pre D cy (Wm cy ad I A w) sz)) (qw_Q none D (Wm cy ad I A9 w) (va_A (Wm cy ad I A w) sz)) 0 0 (va_A (Wm cy ad I A w) sz) := by
  refine qw_of (cc := cX8_fillBasket) (maxL := 7) (ret := none) (by decide) (Nat.le_of_ble_eq_true rfl) ?_
  intro p e s m args below meth c ls S0 hr hlocks hsz V hl
  have S0 : CallFix p m c cX8_fillBasket 7 s args qw_big RX8 := S0
  have hx := S0.1; have hb := S0.2.1; have hown := S0.2.2.2.1; have hts := S0.2.2.2.2
  have hl : lv_has ls 7 [(0, .ref (ad 0)), (1, .int p1), (2, .int p2), (3, .int p3)] := hl
  generalize va_A (Wm cy ad I A w) sz = Z9 at V ⊢
  obtain ⟨Q9, hQ⟩ : ∃ q, q = MQ below (qw_Q none D (Wm cy ad I A9 w) Z9) args s 0 0 Z9 := ⟨_, rfl⟩
  rw [← hQ]
  clear hsz
  have J_118 : ∀ {K19 : (Nat → Nat → Int32) → Int32 → Int32 → Option ((Nat → Nat → Int32))} {y2 : Int32} {y3 : Int32}  (hK19 : ∀ {A : Nat → Nat → Int32} {y4 : Int32} {y5 : Int32} {H : Heap} {locs : List Loc} {ls : Array Slot}, K19 A y4 y5 = some (A9) → qw_V D cy Z9 s (Wm cy ad I A w) H locs → lv_has ls 7 [(0, .ref (ad 0)), (2, .int y2), (3, .int y3), (4, .int y4), (5, .int y5)] → W p l e rm_X8_fillBasket s m args below meth c H locs 0 0 Q9 (F0 m 19 ls [])) {A : Nat → Nat → Int32} {y4 : Int32} {y5 : Int32} {H : Heap} {locs : List Loc} {ls : Array Slot}, f_X8_fillBasket_j118 K19 A y2 y3 y4 y5 = some (A9) → qw_V D cy Z9 s (Wm cy ad I A w) H locs → lv_has ls 7 [(0, .ref (ad 0)), (2, .int y2), (3, .int y3), (4, .int y4), (5, .int y5)] → W p l e rm_X8_fillBasket s m args below meth c H locs 0 0 Q9 (F0 m 118 ls []) := by
    intro K19 y2 y3 hK19 A y4 y5 H locs ls hf V hl
    unfold f_X8_fillBasket_j118 at hf
    obtain ⟨x13, e_x13⟩ : ∃ y : Int32, y = y5 + (1 : Int32) := ⟨_, rfl⟩
    refine lv_iinc (v := x13) (lv' := [(5, .int x13), (0, .ref (ad 0)), (2, .int y2), (3, .int y3), (4, .int y4)]) hx hb dX8_fillBasket_118 hl (k := 4) rfl (by rw [e_x13]; rfl) (by decide) rfl (fun ls hl => ?_)
    replace hf := qf_let_e e_x13 hf
    refine lv_goto (tgt := 19) hx hb dX8_fillBasket_121 (by decide) ?_
    exact hK19 hf V (lv_sub hl [1, 2, 3, 4, 0] rfl)
  have L_58 : ∀ {K19 : (Nat → Nat → Int32) → Int32 → Int32 → Option ((Nat → Nat → Int32))} {y2 : Int32} {y3 : Int32}  (hK19 : ∀ {A : Nat → Nat → Int32} {y4 : Int32} {y5 : Int32} {H : Heap} {locs : List Loc} {ls : Array Slot}, K19 A y4 y5 = some (A9) → qw_V D cy Z9 s (Wm cy ad I A w) H locs → lv_has ls 7 [(0, .ref (ad 0)), (2, .int y2), (3, .int y3), (4, .int y4), (5, .int y5)] → W p l e rm_X8_fillBasket s m args below meth c H locs 0 0 Q9 (F0 m 19 ls [])) {y4 : Int32} {y5 : Int32} {n : Nat} {A : Nat → Nat → Int32} {y6 : Int32} {H : Heap} {locs : List Loc} {ls : Array Slot}, f_X8_fillBasket_l58 K19 y2 y3 y4 y5 n A y6 = some (A9) → qw_V D cy Z9 s (Wm cy ad I A w) H locs → lv_has ls 7 [(0, .ref (ad 0)), (2, .int y2), (3, .int y3), (4, .int y4), (5, .int y5), (6, .int y6)] → W p l e rm_X8_fillBasket s m args below meth c H locs 0 0 Q9 (F0 m 58 ls []) := by
    intro K19 y2 y3 hK19 y4 y5 n
    induction n with
    | zero => intro A y6 H locs ls hf V hl; exact qf_no hf
    | succ n ih =>
      intro A y6 H locs ls hf V hl
      rw [f_X8_fillBasket_l58] at hf
      refine lv_aload_n hx hb dX8_fillBasket_58 rfl (lv_at hl 0 rfl) ?_
      refine lv_iload hx hb dX8_fillBasket_59 (lv_at hl 4 rfl) ?_
      refine lv_iload hx hb dX8_fillBasket_61 (lv_at hl 5 rfl) ?_
      refine lv_iload hx hb dX8_fillBasket_63 (lv_at hl 3 rfl) ?_
      obtain ⟨r6, hc_65, hf⟩ := qf_bd_e hf
      refine qw_cVR (rest := []) (st1 := [.int r6]) S0 V hl 0 gM_0 rfl (c_X8_worthWith l hc_65) kg_X8_284 rfl ⟨rfl, rfl⟩ kd_X8_worthWith ⟨Nat.le_of_ble_eq_true rfl, Nat.le_of_ble_eq_true rfl⟩ rfl rfl (Nat.le_of_ble_eq_true rfl) ⟨Nat.zero_le _, Nat.zero_le _⟩ rfl dX8_fillBasket_65 ?_
      refine lv_aload_n hx hb dX8_fillBasket_68 rfl (lv_at hl 0 rfl) ?_
      refine gfM_0_20 S0 V kl_X8_36 dX8_fillBasket_69 ?_
      refine lv_sipush (v := 401) hx hb dX8_fillBasket_72 (by decide) ?_
      refine lv_iload hx hb dX8_fillBasket_75 (lv_at hl 4 rfl) ?_
      refine lv_imul hx hb dX8_fillBasket_77 ?_
      refine lv_iload hx hb dX8_fillBasket_78 (lv_at hl 3 rfl) ?_
      refine lv_iadd hx hb dX8_fillBasket_80 ?_
      have h_81 := qf_ld_in hf
      refine alM_8 S0 V h_81 dX8_fillBasket_81 ?_
      refine lv_topi (fun x7 e_x7 => ?_)
      replace hf := qf_ld_e e_x7 hf
      refine lv_icmp_eq (tgt := 91) hx hb dX8_fillBasket_82 (by decide) (fun c_82 => ?_) (fun c_82 => ?_)
      · replace hf := qf_t c_82 hf
        refine lv_aload_n hx hb dX8_fillBasket_91 rfl (lv_at hl 0 rfl) ?_
        refine gfM_0_21 S0 V kl_X8_39 dX8_fillBasket_92 ?_
        refine lv_iload hx hb dX8_fillBasket_95 (lv_at hl 4 rfl) ?_
        refine lv_iload hx hb dX8_fillBasket_97 (lv_at hl 5 rfl) ?_
        have h_99 := qf_st_in hf
        replace hf := qf_st_e hf
        refine asM_9 S0 V h_99 dX8_fillBasket_99 (fun H locs A8 e_A8 V => ?_)
        replace hf := qf_let_e e_A8 hf
        refine lv_iload hx hb dX8_fillBasket_100 (lv_at hl 3 rfl) ?_
        refine lv_iload hx hb dX8_fillBasket_102 (lv_at hl 5 rfl) ?_
        refine lv_aload_n hx hb dX8_fillBasket_104 rfl (lv_at hl 0 rfl) ?_
        refine gfM_0_5 S0 V kl_X8_19 dX8_fillBasket_105 ?_
        refine lv_bipush (v := 26) hx hb dX8_fillBasket_108 (by decide) ?_
        refine lv_iload hx hb dX8_fillBasket_110 (lv_at hl 4 rfl) ?_
        refine lv_iadd hx hb dX8_fillBasket_112 ?_
        have h_113 := qf_ld_in hf
        refine alM_4 S0 V h_113 dX8_fillBasket_113 ?_
        refine lv_topi (fun x10 e_x10 => ?_)
        replace hf := qf_ld_e e_x10 hf
        refine lv_imul hx hb dX8_fillBasket_114 ?_
        refine lv_isub hx hb dX8_fillBasket_115 ?_
        refine lv_topi (fun x11 e_x11 => ?_)
        replace hf := qf_let_e e_x11 hf
        refine lv_istore (lv' := [(4, .int x11), (0, .ref (ad 0)), (2, .int y2), (3, .int y3), (5, .int y5), (6, .int y6)]) hx hb dX8_fillBasket_116 hl (by decide) rfl (fun ls hl => ?_)
        exact J_118 hK19 hf V (lv_sub hl [1, 2, 3, 0, 4] rfl)
      · replace hf := qf_f c_82 hf
        obtain ⟨x12, e_x12⟩ : ∃ y : Int32, y = y6 + (-1 : Int32) := ⟨_, rfl⟩
        refine lv_iinc (v := x12) (lv' := [(6, .int x12), (0, .ref (ad 0)), (2, .int y2), (3, .int y3), (4, .int y4), (5, .int y5)]) hx hb dX8_fillBasket_85 hl (k := 5) rfl (by rw [e_x12]; rfl) (by decide) rfl (fun ls hl => ?_)
        replace hf := qf_let_e e_x12 hf
        refine lv_goto (tgt := 58) hx hb dX8_fillBasket_88 (by decide) ?_
        exact ih hf V (lv_sub hl [1, 2, 3, 4, 5, 0] rfl)
  have L_19 : ∀  {y2 : Int32} {y3 : Int32} {n : Nat} {A : Nat → Nat → Int32} {y4 : Int32} {y5 : Int32} {H : Heap} {locs : List Loc} {ls : Array Slot}, f_X8_fillBasket_l19 y2 y3 n A y4 y5 = some (A9) → qw_V D cy Z9 s (Wm cy ad I A w) H locs → lv_has ls 7 [(0, .ref (ad 0)), (2, .int y2), (3, .int y3), (4, .int y4), (5, .int y5)] → W p l e rm_X8_fillBasket s m args below meth c H locs 0 0 Q9 (F0 m 19 ls []) := by
    intro y2 y3 n
    induction n with
    | zero => intro A y4 y5 H locs ls hf V hl; exact qf_no hf
    | succ n ih =>
      intro A y4 y5 H locs ls hf V hl
      rw [f_X8_fillBasket_l19] at hf
      refine lv_iload hx hb dX8_fillBasket_19 (lv_at hl 4 rfl) ?_
      refine lv_aload_n hx hb dX8_fillBasket_21 rfl (lv_at hl 0 rfl) ?_
      refine gfM_0_5 S0 V kl_X8_19 dX8_fillBasket_22 ?_
      refine lv_iconst (v := 1) hx hb dX8_fillBasket_25 (by decide) ?_
      have h_26 := qf_ld_in hf
      refine alM_4 S0 V h_26 dX8_fillBasket_26 ?_
      refine lv_topi (fun x3 e_x3 => ?_)
      replace hf := qf_ld_e e_x3 hf
      refine lv_icmp_ge (tgt := 124) hx hb dX8_fillBasket_27 (by decide) (fun c_27 => ?_) (fun c_27 => ?_)
      · replace hf := qf_t c_27 hf
        have hE := Option.some.inj hf
        exact qw_vreti S0 hr hlocks hQ (by rw [hE]) V dX8_fillBasket_124
      · replace hf := qf_f c_27 hf
        refine lv_aload_n hx hb dX8_fillBasket_30 rfl (lv_at hl 0 rfl) ?_
        refine gfM_0_5 S0 V kl_X8_19 dX8_fillBasket_31 ?_
        refine lv_bipush (v := 20) hx hb dX8_fillBasket_34 (by decide) ?_
        refine lv_iload hx hb dX8_fillBasket_36 (lv_at hl 4 rfl) ?_
        refine lv_iadd hx hb dX8_fillBasket_38 ?_
        have h_39 := qf_ld_in hf
        refine alM_4 S0 V h_39 dX8_fillBasket_39 ?_
        refine lv_topi (fun x4 e_x4 => ?_)
        replace hf := qf_ld_e e_x4 hf
        refine lv_iload_n hx hb dX8_fillBasket_40 rfl (lv_at hl 2 rfl) ?_
        refine lv_icmp_eq (tgt := 47) hx hb dX8_fillBasket_41 (by decide) (fun c_41 => ?_) (fun c_41 => ?_)
        · replace hf := qf_t c_41 hf
          refine lv_aload_n hx hb dX8_fillBasket_47 rfl (lv_at hl 0 rfl) ?_
          refine lv_iload_n hx hb dX8_fillBasket_48 rfl (lv_at hl 1 rfl) ?_
          refine lv_iload hx hb dX8_fillBasket_49 (lv_at hl 4 rfl) ?_
          refine lv_iload hx hb dX8_fillBasket_51 (lv_at hl 3 rfl) ?_
          obtain ⟨r5, hc_53, hf⟩ := qf_bd_e hf
          refine qw_cVR (rest := []) (st1 := [.int r5]) S0 V hl 0 gM_0 rfl (c_X8_mostIn l hc_53) kg_X8_281 rfl ⟨rfl, rfl⟩ kd_X8_mostIn ⟨Nat.le_of_ble_eq_true rfl, Nat.le_of_ble_eq_true rfl⟩ rfl rfl (Nat.le_of_ble_eq_true rfl) ⟨Nat.zero_le _, Nat.zero_le _⟩ rfl dX8_fillBasket_53 ?_
          refine lv_istore (lv' := [(6, .int r5), (0, .ref (ad 0)), (2, .int y2), (3, .int y3), (4, .int y4), (5, .int y5)]) hx hb dX8_fillBasket_56 hl (by decide) rfl (fun ls hl => ?_)
          exact L_58 (fun hf V hl => ih hf V hl) hf V (lv_sub hl [1, 2, 3, 4, 5, 0] rfl)
        · replace hf := qf_f c_41 hf
          refine lv_goto (tgt := 118) hx hb dX8_fillBasket_44 (by decide) ?_
          exact J_118 (fun hf V hl => ih hf V hl) hf V (lv_sub hl [0, 1, 2, 3, 4] rfl)
  unfold f_X8_fillBasket at hf
  refine lv_aload_n hx hb dX8_fillBasket_0 rfl (lv_at hl 0 rfl) ?_
  refine lv_iload_n hx hb dX8_fillBasket_1 rfl (lv_at hl 1 rfl) ?_
  refine lv_iload_n hx hb dX8_fillBasket_2 rfl (lv_at hl 3 rfl) ?_
  obtain ⟨r1, hc_3, hf⟩ := qf_bd_e hf
  refine qw_cVR (rest := []) (st1 := [.int r1]) S0 V hl 0 gM_0 rfl (c_X8_couponsOf l hc_3) kg_X8_214 rfl ⟨rfl, rfl⟩ kd_X8_couponsOf ⟨Nat.le_of_ble_eq_true rfl, Nat.le_of_ble_eq_true rfl⟩ rfl rfl (Nat.le_of_ble_eq_true rfl) ⟨Nat.zero_le _, Nat.zero_le _⟩ rfl dX8_fillBasket_3 ?_
  refine lv_istore (lv' := [(4, .int r1), (0, .ref (ad 0)), (1, .int p1), (2, .int p2), (3, .int p3)]) hx hb dX8_fillBasket_6 hl (by decide) rfl (fun ls hl => ?_)
  refine lv_aload_n hx hb dX8_fillBasket_8 rfl (lv_at hl 1 rfl) ?_
  refine lv_iload_n hx hb dX8_fillBasket_9 rfl (lv_at hl 3 rfl) ?_
  refine lv_iload_n hx hb dX8_fillBasket_10 rfl (lv_at hl 4 rfl) ?_
  refine lv_iload hx hb dX8_fillBasket_11 (lv_at hl 0 rfl) ?_
  obtain ⟨A2, hc_13, hf⟩ := qf_bd_e hf
  refine qw_cV (rest := []) (st1 := []) S0 V hl 0 gM_0 rfl (c_X8_layWorth l hc_13) kg_X8_287 rfl ⟨rfl, rfl⟩ kd_X8_layWorth ⟨Nat.le_of_ble_eq_true rfl, Nat.le_of_ble_eq_true rfl⟩ rfl rfl (Nat.le_of_ble_eq_true rfl) ⟨Nat.zero_le _, Nat.zero_le _⟩ rfl dX8_fillBasket_13 (fun H locs V => ?_)
  refine lv_iconst (v := 0) hx hb dX8_fillBasket_16 (by decide) ?_
  refine lv_istore (lv' := [(5, .int (0 : Int32)), (4, .int r1), (0, .ref (ad 0)), (1, .int p1), (2, .int p2), (3, .int p3)]) hx hb dX8_fillBasket_17 hl (by decide) rfl (fun ls hl => ?_)
  exact L_19 hf V (lv_sub hl [2, 4, 5, 1, 0] rfl)
theorem kd_X8_layBasket : yX8_layBasket.cls = RX8 ∧ yX8_layBasket.cls ≠ "java/lang/invoke/MethodHandle" ∧ yX8_layBasket.cls ≠ "java/lang/invoke/VarHandle" ∧ (parseMethodDescriptor yX8_layBasket.desc).map (fun d => d.parameters.length) = some 2 := by decide +kernel
def f_X8_layBasket_l24   (y1 : Int32) (y2 : Int32) : Nat → (Nat → Nat → Int32) → Int32 → Option (Int32 × (Nat → Nat → Int32))
  | 0, _, _ => none
  | n + 1, A, y3 =>
  qf_ld 62 (A 3) (0 : Int32) fun x3 =>
  if x3 ≤ y3 then (some ((0 : Int32), A)) else (qf_bd (f_X8_fillBasket A y1 y2 y3) fun A4 =>
    qf_let (y3 + (1 : Int32)) fun x5 =>
    f_X8_layBasket_l24 y1 y2 n A4 x5)
def f_X8_layBasket (A : Nat → Nat → Int32) (p1 : Int32) (p2 : Int32) : Option (Int32 × (Nat → Nat → Int32)) :=
  qf_bd (f_X8_isSuspendedNow A p2) fun r1 =>
  if r1 = 0 then (qf_bd (f_X8_isTooLarge A p1) fun r2 =>
    if r2 = 0 then (f_X8_layBasket_l24 p1 p2 100000 A (0 : Int32)) else (some ((-4 : Int32), A))) else (some ((-6 : Int32), A))
abbrev wz_X8_layBasket : List Cond := Cond.code yX8_layBasket cX8_layBasket 4 (some .int) :: qw_big
def rm_X8_layBasket : Room := { frames := 4, cells := 0, slots := 0, locals := 98 }
set_option maxHeartbeats 4000000 in
set_option maxRecDepth 100000 in
theorem c_X8_layBasket (l : Launch) {D : va_G} {cy : Nat → ClassId} {ad : Nat → Nat} {I : Nat → Int32} {A : Nat → Nat → Int32} {w : Int64} {p1 : Int32} {p2 : Int32} {rv : Int32} {A9 : Nat → Nat → Int32} {sz : Nat} (hf : f_X8_layBasket A p1 p2 = some (rv, A9)) : Met l yX8_layBasket wz_X8_layBasket rm_X8_layBasket (va_Pc [.ref (ad 0), .int p1, .int p2] (qw_Pre D cy (Wm cy ad I A w) sz)) (qw_Q (some (.int rv)) D (Wm cy ad I A9 w) (va_A (Wm cy ad I A w) sz)) 0 0 (va_A (Wm cy ad I A w) sz) := by
  refine qw_of (cc := cX8_layBasket) (maxL := 4) (ret := (some .int)) (by decide) (Nat.le_of_ble_eq_true rfl) ?_
  intro p e s m args below meth c ls S0 hr hlocks hsz V hl
  have S0 : CallFix p m c cX8_layBasket 4 s args qw_big RX8 := S0
  have hx := S0.1; have hb := S0.2.1; have hown := S0.2.2.2.1; have hts := S0.2.2.2.2
  have hl : lv_has ls 4 [(0, .ref (ad 0)), (1, .int p1), (2, .int p2)] := hl
  generalize va_A (Wm cy ad I A w) sz = Z9 at V ⊢
  obtain ⟨Q9, hQ⟩ : ∃ q, q = MQ below (qw_Q (some (.int rv)) D (Wm cy ad I A9 w) Z9) args s 0 0 Z9 := ⟨_, rfl⟩
  rw [← hQ]
  clear hsz
  have L_24 : ∀  {y1 : Int32} {y2 : Int32} {n : Nat} {A : Nat → Nat → Int32} {y3 : Int32} {H : Heap} {locs : List Loc} {ls : Array Slot}, f_X8_layBasket_l24 y1 y2 n A y3 = some (rv, A9) → qw_V D cy Z9 s (Wm cy ad I A w) H locs → lv_has ls 4 [(0, .ref (ad 0)), (1, .int y1), (2, .int y2), (3, .int y3)] → W p l e rm_X8_layBasket s m args below meth c H locs 0 0 Q9 (F0 m 24 ls []) := by
    intro y1 y2 n
    induction n with
    | zero => intro A y3 H locs ls hf V hl; exact qf_no hf
    | succ n ih =>
      intro A y3 H locs ls hf V hl
      rw [f_X8_layBasket_l24] at hf
      refine lv_iload_n hx hb dX8_layBasket_24 rfl (lv_at hl 3 rfl) ?_
      refine lv_aload_n hx hb dX8_layBasket_25 rfl (lv_at hl 0 rfl) ?_
      refine gfM_0_5 S0 V kl_X8_19 dX8_layBasket_26 ?_
      refine lv_iconst (v := 0) hx hb dX8_layBasket_29 (by decide) ?_
      have h_30 := qf_ld_in hf
      refine alM_4 S0 V h_30 dX8_layBasket_30 ?_
      refine lv_topi (fun x3 e_x3 => ?_)
      replace hf := qf_ld_e e_x3 hf
      refine lv_icmp_ge (tgt := 47) hx hb dX8_layBasket_31 (by decide) (fun c_31 => ?_) (fun c_31 => ?_)
      · replace hf := qf_t c_31 hf
        refine lv_iconst (v := 0) hx hb dX8_layBasket_47 (by decide) ?_
        have hE := Option.some.inj hf
        obtain ⟨e0, hE⟩ := qf_pr hE
        exact qw_ireti S0 hr hlocks hQ e0 (by rw [hE]) V dX8_layBasket_48
      · replace hf := qf_f c_31 hf
        refine lv_aload_n hx hb dX8_layBasket_34 rfl (lv_at hl 0 rfl) ?_
        refine lv_iload_n hx hb dX8_layBasket_35 rfl (lv_at hl 1 rfl) ?_
        refine lv_iload_n hx hb dX8_layBasket_36 rfl (lv_at hl 2 rfl) ?_
        refine lv_iload_n hx hb dX8_layBasket_37 rfl (lv_at hl 3 rfl) ?_
        obtain ⟨A4, hc_38, hf⟩ := qf_bd_e hf
        refine qw_cV (rest := []) (st1 := []) S0 V hl 0 gM_0 rfl (c_X8_fillBasket l hc_38) kg_X8_294 rfl ⟨rfl, rfl⟩ kd_X8_fillBasket ⟨Nat.le_of_ble_eq_true rfl, Nat.le_of_ble_eq_true rfl⟩ rfl rfl (Nat.le_of_ble_eq_true rfl) ⟨Nat.zero_le _, Nat.zero_le _⟩ rfl dX8_layBasket_38 (fun H locs V => ?_)
        obtain ⟨x5, e_x5⟩ : ∃ y : Int32, y = y3 + (1 : Int32) := ⟨_, rfl⟩
        refine lv_iinc (v := x5) (lv' := [(3, .int x5), (0, .ref (ad 0)), (1, .int y1), (2, .int y2)]) hx hb dX8_layBasket_41 hl (k := 3) rfl (by rw [e_x5]; rfl) (by decide) rfl (fun ls hl => ?_)
        replace hf := qf_let_e e_x5 hf
        refine lv_goto (tgt := 24) hx hb dX8_layBasket_44 (by decide) ?_
        exact ih hf V (lv_sub hl [1, 2, 3, 0] rfl)
  unfold f_X8_layBasket at hf
  refine lv_aload_n hx hb dX8_layBasket_0 rfl (lv_at hl 0 rfl) ?_
  refine lv_iload_n hx hb dX8_layBasket_1 rfl (lv_at hl 2 rfl) ?_
  obtain ⟨r1, hc_2, hf⟩ := qf_bd_e hf
  refine qw_cVR (rest := []) (st1 := [.int r1]) S0 V hl 0 gM_0 rfl (c_X8_isSuspendedNow l hc_2) kg_X8_257 rfl ⟨rfl, rfl⟩ kd_X8_isSuspendedNow ⟨Nat.le_of_ble_eq_true rfl, Nat.le_of_ble_eq_true rfl⟩ rfl rfl (Nat.le_of_ble_eq_true rfl) ⟨Nat.zero_le _, Nat.zero_le _⟩ rfl dX8_layBasket_2 ?_
  refine lv_if_eq (tgt := 11) hx hb dX8_layBasket_5 (by decide) (fun c_5 => ?_) (fun c_5 => ?_)
  · replace hf := qf_t c_5 hf
    refine lv_aload_n hx hb dX8_layBasket_11 rfl (lv_at hl 0 rfl) ?_
    refine lv_iload_n hx hb dX8_layBasket_12 rfl (lv_at hl 1 rfl) ?_
    obtain ⟨r2, hc_13, hf⟩ := qf_bd_e hf
    refine qw_cVR (rest := []) (st1 := [.int r2]) S0 V hl 0 gM_0 rfl (c_X8_isTooLarge l hc_13) kg_X8_291 rfl ⟨rfl, rfl⟩ kd_X8_isTooLarge ⟨Nat.le_of_ble_eq_true rfl, Nat.le_of_ble_eq_true rfl⟩ rfl rfl (Nat.le_of_ble_eq_true rfl) ⟨Nat.zero_le _, Nat.zero_le _⟩ rfl dX8_layBasket_13 ?_
    refine lv_if_eq (tgt := 22) hx hb dX8_layBasket_16 (by decide) (fun c_16 => ?_) (fun c_16 => ?_)
    · replace hf := qf_t c_16 hf
      refine lv_iconst (v := 0) hx hb dX8_layBasket_22 (by decide) ?_
      refine lv_istore_n (lv' := [(3, .int (0 : Int32)), (0, .ref (ad 0)), (1, .int p1), (2, .int p2)]) hx hb dX8_layBasket_23 rfl hl (by decide) rfl (fun ls hl => ?_)
      exact L_24 hf V (lv_sub hl [1, 2, 3, 0] rfl)
    · replace hf := qf_f c_16 hf
      refine lv_bipush (v := -4) hx hb dX8_layBasket_19 (by decide) ?_
      have hE := Option.some.inj hf
      obtain ⟨e0, hE⟩ := qf_pr hE
      exact qw_ireti S0 hr hlocks hQ e0 (by rw [hE]) V dX8_layBasket_21
  · replace hf := qf_f c_5 hf
    refine lv_bipush (v := -6) hx hb dX8_layBasket_8 (by decide) ?_
    have hE := Option.some.inj hf
    obtain ⟨e0, hE⟩ := qf_pr hE
    exact qw_ireti S0 hr hlocks hQ e0 (by rw [hE]) V dX8_layBasket_10
theorem kd_X8_basketValue : yX8_basketValue.cls = RX8 ∧ yX8_basketValue.cls ≠ "java/lang/invoke/MethodHandle" ∧ yX8_basketValue.cls ≠ "java/lang/invoke/VarHandle" ∧ (parseMethodDescriptor yX8_basketValue.desc).map (fun d => d.parameters.length) = some 2 := by decide +kernel
def f_X8_basketValue_l49    : Nat → (Nat → Int32) → (Nat → Nat → Int32) → Int32 → Int32 → Option (Int32 × (Nat → Int32) × (Nat → Nat → Int32))
  | 0, _, _, _, _ => none
  | n + 1, I, A, y4, y5 =>
  qf_ld 62 (A 3) (1 : Int32) fun x7 =>
  if x7 ≤ y5 then (some (y4, I, A)) else (qf_ld 6 (A 8) y5 fun x8 =>
    qf_ld 62 (A 3) ((32 : Int32) + y5) fun x9 =>
    qf_let ((y4 + (x8 * x9))) fun x10 =>
    qf_let (y5 + (1 : Int32)) fun x11 =>
    f_X8_basketValue_l49  n I A x10 x11)
def f_X8_basketValue_j22 (I : Nat → Int32) (A : Nat → Nat → Int32)  (y1 : Int32) (y2 : Int32) (s0 : Int32) : Option (Int32 × (Nat → Int32) × (Nat → Nat → Int32)) :=
  qf_bd2 (f_X8_fails I s0) fun r3 I4 =>
  if r3 = 0 then (qf_bd2 (f_X8_layBasket A y1 y2) fun r5 A6 =>
    if 0 ≤ r5 then (f_X8_basketValue_l49  100000 I4 A6 (0 : Int32) (0 : Int32)) else (some (r5, I4, A6))) else (some ((0 : Int32), I4, A))
def f_X8_basketValue_j21 (I : Nat → Int32) (A : Nat → Nat → Int32)  (y1 : Int32) (y2 : Int32) : Option (Int32 × (Nat → Int32) × (Nat → Nat → Int32)) :=
  f_X8_basketValue_j22 I A y1 y2 (0 : Int32)
def f_X8_basketValue (I : Nat → Int32) (A : Nat → Nat → Int32) (p1 : Int32) (p2 : Int32) : Option (Int32 × (Nat → Int32) × (Nat → Nat → Int32)) :=
  qf_bd (f_X8_isHouse A p1) fun r1 =>
  if r1 = 0 then (f_X8_basketValue_j21 I A p1 p2) else (qf_bd (f_X8_isShop A p2) fun r2 =>
    if r2 = 0 then (f_X8_basketValue_j21 I A p1 p2) else (f_X8_basketValue_j22 I A p1 p2 (1 : Int32)))
abbrev wz_X8_basketValue : List Cond := Cond.code yX8_basketValue cX8_basketValue 6 (some .int) :: qw_big
def rm_X8_basketValue : Room := { frames := 5, cells := 0, slots := 0, locals := 121 }
set_option maxHeartbeats 4000000 in
set_option maxRecDepth 100000 in
theorem c_X8_basketValue (l : Launch) {D : va_G} {cy : Nat → ClassId} {ad : Nat → Nat} {I : Nat → Int32} {A : Nat → Nat → Int32} {w : Int64} {p1 : Int32} {p2 : Int32} {rv : Int32} {I9 : Nat → Int32} {A9 : Nat → Nat → Int32} {sz : Nat} (hf : f_X8_basketValue I A p1 p2 = some (rv, I9, A9)) : Met l yX8_basketValue wz_X8_basketValue rm_X8_basketValue (va_Pc [.ref (ad 0), .int p1, .int p2] (qw_Pre D cy (Wm cy ad I A w) sz)) (qw_Q (some (.int rv)) D (Wm cy ad I9 A9 w) (va_A (Wm cy ad I A w) sz)) 0 0 (va_A (Wm cy ad I A w) sz) := by
  refine qw_of (cc := cX8_basketValue) (maxL := 6) (ret := (some .int)) (by decide) (Nat.le_of_ble_eq_true rfl) ?_
  intro p e s m args below meth c ls S0 hr hlocks hsz V hl
  have S0 : CallFix p m c cX8_basketValue 6 s args qw_big RX8 := S0
  have hx := S0.1; have hb := S0.2.1; have hown := S0.2.2.2.1; have hts := S0.2.2.2.2
  have hl : lv_has ls 6 [(0, .ref (ad 0)), (1, .int p1), (2, .int p2)] := hl
  generalize va_A (Wm cy ad I A w) sz = Z9 at V ⊢
  obtain ⟨Q9, hQ⟩ : ∃ q, q = MQ below (qw_Q (some (.int rv)) D (Wm cy ad I9 A9 w) Z9) args s 0 0 Z9 := ⟨_, rfl⟩
  rw [← hQ]
  clear hsz
  have L_49 : ∀   {n : Nat} {I : Nat → Int32} {A : Nat → Nat → Int32} {y4 : Int32} {y5 : Int32} {H : Heap} {locs : List Loc} {ls : Array Slot}, f_X8_basketValue_l49 n I A y4 y5 = some (rv, I9, A9) → qw_V D cy Z9 s (Wm cy ad I A w) H locs → lv_has ls 6 [(0, .ref (ad 0)), (4, .int y4), (5, .int y5)] → W p l e rm_X8_basketValue s m args below meth c H locs 0 0 Q9 (F0 m 49 ls []) := by
    intro n
    induction n with
    | zero => intro I A y4 y5 H locs ls hf V hl; exact qf_no hf
    | succ n ih =>
      intro I A y4 y5 H locs ls hf V hl
      rw [f_X8_basketValue_l49] at hf
      refine lv_iload hx hb dX8_basketValue_49 (lv_at hl 2 rfl) ?_
      refine lv_aload_n hx hb dX8_basketValue_51 rfl (lv_at hl 0 rfl) ?_
      refine gfM_0_5 S0 V kl_X8_19 dX8_basketValue_52 ?_
      refine lv_iconst (v := 1) hx hb dX8_basketValue_55 (by decide) ?_
      have h_56 := qf_ld_in hf
      refine alM_4 S0 V h_56 dX8_basketValue_56 ?_
      refine lv_topi (fun x7 e_x7 => ?_)
      replace hf := qf_ld_e e_x7 hf
      refine lv_icmp_ge (tgt := 89) hx hb dX8_basketValue_57 (by decide) (fun c_57 => ?_) (fun c_57 => ?_)
      · replace hf := qf_t c_57 hf
        refine lv_iload hx hb dX8_basketValue_89 (lv_at hl 1 rfl) ?_
        have hE := Option.some.inj hf
        obtain ⟨e0, hE⟩ := qf_pr hE
        obtain ⟨e1, hE⟩ := qf_pr hE
        exact qw_ireti S0 hr hlocks hQ e0 (by rw [e1, hE]) V dX8_basketValue_91
      · replace hf := qf_f c_57 hf
        refine lv_iload hx hb dX8_basketValue_60 (lv_at hl 1 rfl) ?_
        refine lv_aload_n hx hb dX8_basketValue_62 rfl (lv_at hl 0 rfl) ?_
        refine gfM_0_21 S0 V kl_X8_39 dX8_basketValue_63 ?_
        refine lv_iload hx hb dX8_basketValue_66 (lv_at hl 2 rfl) ?_
        have h_68 := qf_ld_in hf
        refine alM_9 S0 V h_68 dX8_basketValue_68 ?_
        refine lv_topi (fun x8 e_x8 => ?_)
        replace hf := qf_ld_e e_x8 hf
        refine lv_aload_n hx hb dX8_basketValue_69 rfl (lv_at hl 0 rfl) ?_
        refine gfM_0_5 S0 V kl_X8_19 dX8_basketValue_70 ?_
        refine lv_bipush (v := 32) hx hb dX8_basketValue_73 (by decide) ?_
        refine lv_iload hx hb dX8_basketValue_75 (lv_at hl 2 rfl) ?_
        refine lv_iadd hx hb dX8_basketValue_77 ?_
        have h_78 := qf_ld_in hf
        refine alM_4 S0 V h_78 dX8_basketValue_78 ?_
        refine lv_topi (fun x9 e_x9 => ?_)
        replace hf := qf_ld_e e_x9 hf
        refine lv_imul hx hb dX8_basketValue_79 ?_
        refine lv_iadd hx hb dX8_basketValue_80 ?_
        refine lv_topi (fun x10 e_x10 => ?_)
        replace hf := qf_let_e e_x10 hf
        refine lv_istore (lv' := [(4, .int x10), (0, .ref (ad 0)), (5, .int y5)]) hx hb dX8_basketValue_81 hl (by decide) rfl (fun ls hl => ?_)
        obtain ⟨x11, e_x11⟩ : ∃ y : Int32, y = y5 + (1 : Int32) := ⟨_, rfl⟩
        refine lv_iinc (v := x11) (lv' := [(5, .int x11), (4, .int x10), (0, .ref (ad 0))]) hx hb dX8_basketValue_83 hl (k := 2) rfl (by rw [e_x11]; rfl) (by decide) rfl (fun ls hl => ?_)
        replace hf := qf_let_e e_x11 hf
        refine lv_goto (tgt := 49) hx hb dX8_basketValue_86 (by decide) ?_
        exact ih hf V (lv_sub hl [2, 1, 0] rfl)
  have J_22 : ∀   {y1 : Int32} {y2 : Int32} {s0 : Int32} {H : Heap} {locs : List Loc} {ls : Array Slot}, f_X8_basketValue_j22 I A y1 y2 s0 = some (rv, I9, A9) → qw_V D cy Z9 s (Wm cy ad I A w) H locs → lv_has ls 6 [(0, .ref (ad 0)), (1, .int y1), (2, .int y2)] → W p l e rm_X8_basketValue s m args below meth c H locs 0 0 Q9 (F0 m 22 ls [.int s0, .ref (ad 0)]) := by
    intro y1 y2 s0 H locs ls hf V hl
    unfold f_X8_basketValue_j22 at hf
    obtain ⟨r3, I4, hc_22, hf⟩ := qf_bd2_e hf
    refine qw_cV (rest := []) (st1 := [.int r3]) S0 V hl 0 gM_0 rfl (c_X8_fails l hc_22) kg_X8_201 rfl ⟨rfl, rfl⟩ kd_X8_fails ⟨Nat.le_of_ble_eq_true rfl, Nat.le_of_ble_eq_true rfl⟩ rfl rfl (Nat.le_of_ble_eq_true rfl) ⟨Nat.zero_le _, Nat.zero_le _⟩ rfl dX8_basketValue_22 (fun H locs V => ?_)
    refine lv_if_eq (tgt := 30) hx hb dX8_basketValue_25 (by decide) (fun c_25 => ?_) (fun c_25 => ?_)
    · replace hf := qf_t c_25 hf
      refine lv_aload_n hx hb dX8_basketValue_30 rfl (lv_at hl 0 rfl) ?_
      refine lv_iload_n hx hb dX8_basketValue_31 rfl (lv_at hl 1 rfl) ?_
      refine lv_iload_n hx hb dX8_basketValue_32 rfl (lv_at hl 2 rfl) ?_
      obtain ⟨r5, A6, hc_33, hf⟩ := qf_bd2_e hf
      refine qw_cV (rest := []) (st1 := [.int r5]) S0 V hl 0 gM_0 rfl (c_X8_layBasket l hc_33) kg_X8_297 rfl ⟨rfl, rfl⟩ kd_X8_layBasket ⟨Nat.le_of_ble_eq_true rfl, Nat.le_of_ble_eq_true rfl⟩ rfl rfl (Nat.le_of_ble_eq_true rfl) ⟨Nat.zero_le _, Nat.zero_le _⟩ rfl dX8_basketValue_33 (fun H locs V => ?_)
      refine lv_istore_n (lv' := [(3, .int r5), (0, .ref (ad 0)), (1, .int y1), (2, .int y2)]) hx hb dX8_basketValue_36 rfl hl (by decide) rfl (fun ls hl => ?_)
      refine lv_iload_n hx hb dX8_basketValue_37 rfl (lv_at hl 0 rfl) ?_
      refine lv_if_ge (tgt := 43) hx hb dX8_basketValue_38 (by decide) (fun c_38 => ?_) (fun c_38 => ?_)
      · replace hf := qf_t c_38 hf
        refine lv_iconst (v := 0) hx hb dX8_basketValue_43 (by decide) ?_
        refine lv_istore (lv' := [(4, .int (0 : Int32)), (3, .int r5), (0, .ref (ad 0)), (1, .int y1), (2, .int y2)]) hx hb dX8_basketValue_44 hl (by decide) rfl (fun ls hl => ?_)
        refine lv_iconst (v := 0) hx hb dX8_basketValue_46 (by decide) ?_
        refine lv_istore (lv' := [(5, .int (0 : Int32)), (4, .int (0 : Int32)), (3, .int r5), (0, .ref (ad 0)), (1, .int y1), (2, .int y2)]) hx hb dX8_basketValue_47 hl (by decide) rfl (fun ls hl => ?_)
        exact L_49 hf V (lv_sub hl [3, 1, 0] rfl)
      · replace hf := qf_f c_38 hf
        refine lv_iload_n hx hb dX8_basketValue_41 rfl (lv_at hl 0 rfl) ?_
        have hE := Option.some.inj hf
        obtain ⟨e0, hE⟩ := qf_pr hE
        obtain ⟨e1, hE⟩ := qf_pr hE
        exact qw_ireti S0 hr hlocks hQ e0 (by rw [e1, hE]) V dX8_basketValue_42
    · replace hf := qf_f c_25 hf
      refine lv_iconst (v := 0) hx hb dX8_basketValue_28 (by decide) ?_
      have hE := Option.some.inj hf
      obtain ⟨e0, hE⟩ := qf_pr hE
      obtain ⟨e1, hE⟩ := qf_pr hE
      exact qw_ireti S0 hr hlocks hQ e0 (by rw [e1, hE]) V dX8_basketValue_29
  have J_21 : ∀   {y1 : Int32} {y2 : Int32} {H : Heap} {locs : List Loc} {ls : Array Slot}, f_X8_basketValue_j21 I A y1 y2 = some (rv, I9, A9) → qw_V D cy Z9 s (Wm cy ad I A w) H locs → lv_has ls 6 [(0, .ref (ad 0)), (1, .int y1), (2, .int y2)] → W p l e rm_X8_basketValue s m args below meth c H locs 0 0 Q9 (F0 m 21 ls [.ref (ad 0)]) := by
    intro y1 y2 H locs ls hf V hl
    unfold f_X8_basketValue_j21 at hf
    refine lv_iconst (v := 0) hx hb dX8_basketValue_21 (by decide) ?_
    exact J_22 hf V (lv_sub hl [0, 1, 2] rfl)
  unfold f_X8_basketValue at hf
  refine lv_aload_n hx hb dX8_basketValue_0 rfl (lv_at hl 0 rfl) ?_
  refine lv_aload_n hx hb dX8_basketValue_1 rfl (lv_at hl 0 rfl) ?_
  refine lv_iload_n hx hb dX8_basketValue_2 rfl (lv_at hl 1 rfl) ?_
  obtain ⟨r1, hc_3, hf⟩ := qf_bd_e hf
  refine qw_cVR (rest := [.ref (ad 0)]) (st1 := [.int r1, .ref (ad 0)]) S0 V hl 0 gM_0 rfl (c_X8_isHouse l hc_3) kg_X8_208 rfl ⟨rfl, rfl⟩ kd_X8_isHouse ⟨Nat.le_of_ble_eq_true rfl, Nat.le_of_ble_eq_true rfl⟩ rfl rfl (Nat.le_of_ble_eq_true rfl) ⟨Nat.zero_le _, Nat.zero_le _⟩ rfl dX8_basketValue_3 ?_
  refine lv_if_eq (tgt := 21) hx hb dX8_basketValue_6 (by decide) (fun c_6 => ?_) (fun c_6 => ?_)
  · replace hf := qf_t c_6 hf
    exact J_21 hf V (lv_sub hl [0, 1, 2] rfl)
  · replace hf := qf_f c_6 hf
    refine lv_aload_n hx hb dX8_basketValue_9 rfl (lv_at hl 0 rfl) ?_
    refine lv_iload_n hx hb dX8_basketValue_10 rfl (lv_at hl 2 rfl) ?_
    obtain ⟨r2, hc_11, hf⟩ := qf_bd_e hf
    refine qw_cVR (rest := [.ref (ad 0)]) (st1 := [.int r2, .ref (ad 0)]) S0 V hl 0 gM_0 rfl (c_X8_isShop l hc_11) kg_X8_254 rfl ⟨rfl, rfl⟩ kd_X8_isShop ⟨Nat.le_of_ble_eq_true rfl, Nat.le_of_ble_eq_true rfl⟩ rfl rfl (Nat.le_of_ble_eq_true rfl) ⟨Nat.zero_le _, Nat.zero_le _⟩ rfl dX8_basketValue_11 ?_
    refine lv_if_eq (tgt := 21) hx hb dX8_basketValue_14 (by decide) (fun c_14 => ?_) (fun c_14 => ?_)
    · replace hf := qf_t c_14 hf
      exact J_21 hf V (lv_sub hl [0, 1, 2] rfl)
    · replace hf := qf_f c_14 hf
      refine lv_iconst (v := 1) hx hb dX8_basketValue_17 (by decide) ?_
      refine lv_goto (tgt := 22) hx hb dX8_basketValue_18 (by decide) ?_
      exact J_22 hf V (lv_sub hl [0, 1, 2] rfl)
theorem kd_X8_basketUnits : yX8_basketUnits.cls = RX8 ∧ yX8_basketUnits.cls ≠ "java/lang/invoke/MethodHandle" ∧ yX8_basketUnits.cls ≠ "java/lang/invoke/VarHandle" ∧ (parseMethodDescriptor yX8_basketUnits.desc).map (fun d => d.parameters.length) = some 3 := by decide +kernel
def f_X8_basketUnits_j30 (I : Nat → Int32) (A : Nat → Nat → Int32)  (y1 : Int32) (y2 : Int32) (y3 : Int32) (s0 : Int32) : Option (Int32 × (Nat → Int32) × (Nat → Nat → Int32)) :=
  qf_bd2 (f_X8_fails I s0) fun r4 I5 =>
  if r4 = 0 then (qf_bd2 (f_X8_layBasket A y1 y2) fun r6 A7 =>
    if 0 ≤ r6 then (qf_ld 6 (A7 8) y3 fun x8 =>
      some (x8, I5, A7)) else (some (r6, I5, A7))) else (some ((0 : Int32), I5, A))
def f_X8_basketUnits_j29 (I : Nat → Int32) (A : Nat → Nat → Int32)  (y1 : Int32) (y2 : Int32) (y3 : Int32) : Option (Int32 × (Nat → Int32) × (Nat → Nat → Int32)) :=
  f_X8_basketUnits_j30 I A y1 y2 y3 (0 : Int32)
def f_X8_basketUnits (I : Nat → Int32) (A : Nat → Nat → Int32) (p1 : Int32) (p2 : Int32) (p3 : Int32) : Option (Int32 × (Nat → Int32) × (Nat → Nat → Int32)) :=
  qf_bd (f_X8_isHouse A p1) fun r1 =>
  if r1 = 0 then (f_X8_basketUnits_j29 I A p1 p2 p3) else (qf_bd (f_X8_isShop A p2) fun r2 =>
    if r2 = 0 then (f_X8_basketUnits_j29 I A p1 p2 p3) else (qf_bd (f_X8_isGood A p3) fun r3 =>
      if r3 = 0 then (f_X8_basketUnits_j29 I A p1 p2 p3) else (f_X8_basketUnits_j30 I A p1 p2 p3 (1 : Int32))))
abbrev wz_X8_basketUnits : List Cond := Cond.code yX8_basketUnits cX8_basketUnits 5 (some .int) :: qw_big
def rm_X8_basketUnits : Room := { frames := 5, cells := 0, slots := 0, locals := 121 }
set_option maxHeartbeats 4000000 in
set_option maxRecDepth 100000 in
theorem c_X8_basketUnits (l : Launch) {D : va_G} {cy : Nat → ClassId} {ad : Nat → Nat} {I : Nat → Int32} {A : Nat → Nat → Int32} {w : Int64} {p1 : Int32} {p2 : Int32} {p3 : Int32} {rv : Int32} {I9 : Nat → Int32} {A9 : Nat → Nat → Int32} {sz : Nat} (hf : f_X8_basketUnits I A p1 p2 p3 = some (rv, I9, A9)) : Met l yX8_basketUnits wz_X8_basketUnits rm_X8_basketUnits (va_Pc [.ref (ad 0), .int p1, .int p2, .int p3] (qw_Pre D cy (Wm cy ad I A w) sz)) (qw_Q (some (.int rv)) D (Wm cy ad I9 A9 w) (va_A (Wm cy ad I A w) sz)) 0 0 (va_A (Wm cy ad I A w) sz) := by
  refine qw_of (cc := cX8_basketUnits) (maxL := 5) (ret := (some .int)) (by decide) (Nat.le_of_ble_eq_true rfl) ?_
  intro p e s m args below meth c ls S0 hr hlocks hsz V hl
  have S0 : CallFix p m c cX8_basketUnits 5 s args qw_big RX8 := S0
  have hx := S0.1; have hb := S0.2.1; have hown := S0.2.2.2.1; have hts := S0.2.2.2.2
  have hl : lv_has ls 5 [(0, .ref (ad 0)), (1, .int p1), (2, .int p2), (3, .int p3)] := hl
  generalize va_A (Wm cy ad I A w) sz = Z9 at V ⊢
  obtain ⟨Q9, hQ⟩ : ∃ q, q = MQ below (qw_Q (some (.int rv)) D (Wm cy ad I9 A9 w) Z9) args s 0 0 Z9 := ⟨_, rfl⟩
  rw [← hQ]
  clear hsz
  have J_30 : ∀   {y1 : Int32} {y2 : Int32} {y3 : Int32} {s0 : Int32} {H : Heap} {locs : List Loc} {ls : Array Slot}, f_X8_basketUnits_j30 I A y1 y2 y3 s0 = some (rv, I9, A9) → qw_V D cy Z9 s (Wm cy ad I A w) H locs → lv_has ls 5 [(0, .ref (ad 0)), (1, .int y1), (2, .int y2), (3, .int y3)] → W p l e rm_X8_basketUnits s m args below meth c H locs 0 0 Q9 (F0 m 30 ls [.int s0, .ref (ad 0)]) := by
    intro y1 y2 y3 s0 H locs ls hf V hl
    unfold f_X8_basketUnits_j30 at hf
    obtain ⟨r4, I5, hc_30, hf⟩ := qf_bd2_e hf
    refine qw_cV (rest := []) (st1 := [.int r4]) S0 V hl 0 gM_0 rfl (c_X8_fails l hc_30) kg_X8_201 rfl ⟨rfl, rfl⟩ kd_X8_fails ⟨Nat.le_of_ble_eq_true rfl, Nat.le_of_ble_eq_true rfl⟩ rfl rfl (Nat.le_of_ble_eq_true rfl) ⟨Nat.zero_le _, Nat.zero_le _⟩ rfl dX8_basketUnits_30 (fun H locs V => ?_)
    refine lv_if_eq (tgt := 38) hx hb dX8_basketUnits_33 (by decide) (fun c_33 => ?_) (fun c_33 => ?_)
    · replace hf := qf_t c_33 hf
      refine lv_aload_n hx hb dX8_basketUnits_38 rfl (lv_at hl 0 rfl) ?_
      refine lv_iload_n hx hb dX8_basketUnits_39 rfl (lv_at hl 1 rfl) ?_
      refine lv_iload_n hx hb dX8_basketUnits_40 rfl (lv_at hl 2 rfl) ?_
      obtain ⟨r6, A7, hc_41, hf⟩ := qf_bd2_e hf
      refine qw_cV (rest := []) (st1 := [.int r6]) S0 V hl 0 gM_0 rfl (c_X8_layBasket l hc_41) kg_X8_297 rfl ⟨rfl, rfl⟩ kd_X8_layBasket ⟨Nat.le_of_ble_eq_true rfl, Nat.le_of_ble_eq_true rfl⟩ rfl rfl (Nat.le_of_ble_eq_true rfl) ⟨Nat.zero_le _, Nat.zero_le _⟩ rfl dX8_basketUnits_41 (fun H locs V => ?_)
      refine lv_istore (lv' := [(4, .int r6), (0, .ref (ad 0)), (1, .int y1), (2, .int y2), (3, .int y3)]) hx hb dX8_basketUnits_44 hl (by decide) rfl (fun ls hl => ?_)
      refine lv_iload hx hb dX8_basketUnits_46 (lv_at hl 0 rfl) ?_
      refine lv_if_ge (tgt := 56) hx hb dX8_basketUnits_48 (by decide) (fun c_48 => ?_) (fun c_48 => ?_)
      · replace hf := qf_t c_48 hf
        refine lv_aload_n hx hb dX8_basketUnits_56 rfl (lv_at hl 1 rfl) ?_
        refine gfM_0_21 S0 V kl_X8_39 dX8_basketUnits_57 ?_
        refine lv_iload_n hx hb dX8_basketUnits_60 rfl (lv_at hl 4 rfl) ?_
        have h_61 := qf_ld_in hf
        refine alM_9 S0 V h_61 dX8_basketUnits_61 ?_
        refine lv_topi (fun x8 e_x8 => ?_)
        replace hf := qf_ld_e e_x8 hf
        have hE := Option.some.inj hf
        obtain ⟨e0, hE⟩ := qf_pr hE
        obtain ⟨e1, hE⟩ := qf_pr hE
        exact qw_ireti S0 hr hlocks hQ e0 (by rw [e1, hE]) V dX8_basketUnits_62
      · replace hf := qf_f c_48 hf
        refine lv_iload hx hb dX8_basketUnits_51 (lv_at hl 0 rfl) ?_
        refine lv_goto (tgt := 62) hx hb dX8_basketUnits_53 (by decide) ?_
        have hE := Option.some.inj hf
        obtain ⟨e0, hE⟩ := qf_pr hE
        obtain ⟨e1, hE⟩ := qf_pr hE
        exact qw_ireti S0 hr hlocks hQ e0 (by rw [e1, hE]) V dX8_basketUnits_62
    · replace hf := qf_f c_33 hf
      refine lv_iconst (v := 0) hx hb dX8_basketUnits_36 (by decide) ?_
      have hE := Option.some.inj hf
      obtain ⟨e0, hE⟩ := qf_pr hE
      obtain ⟨e1, hE⟩ := qf_pr hE
      exact qw_ireti S0 hr hlocks hQ e0 (by rw [e1, hE]) V dX8_basketUnits_37
  have J_29 : ∀   {y1 : Int32} {y2 : Int32} {y3 : Int32} {H : Heap} {locs : List Loc} {ls : Array Slot}, f_X8_basketUnits_j29 I A y1 y2 y3 = some (rv, I9, A9) → qw_V D cy Z9 s (Wm cy ad I A w) H locs → lv_has ls 5 [(0, .ref (ad 0)), (1, .int y1), (2, .int y2), (3, .int y3)] → W p l e rm_X8_basketUnits s m args below meth c H locs 0 0 Q9 (F0 m 29 ls [.ref (ad 0)]) := by
    intro y1 y2 y3 H locs ls hf V hl
    unfold f_X8_basketUnits_j29 at hf
    refine lv_iconst (v := 0) hx hb dX8_basketUnits_29 (by decide) ?_
    exact J_30 hf V (lv_sub hl [0, 1, 2, 3] rfl)
  unfold f_X8_basketUnits at hf
  refine lv_aload_n hx hb dX8_basketUnits_0 rfl (lv_at hl 0 rfl) ?_
  refine lv_aload_n hx hb dX8_basketUnits_1 rfl (lv_at hl 0 rfl) ?_
  refine lv_iload_n hx hb dX8_basketUnits_2 rfl (lv_at hl 1 rfl) ?_
  obtain ⟨r1, hc_3, hf⟩ := qf_bd_e hf
  refine qw_cVR (rest := [.ref (ad 0)]) (st1 := [.int r1, .ref (ad 0)]) S0 V hl 0 gM_0 rfl (c_X8_isHouse l hc_3) kg_X8_208 rfl ⟨rfl, rfl⟩ kd_X8_isHouse ⟨Nat.le_of_ble_eq_true rfl, Nat.le_of_ble_eq_true rfl⟩ rfl rfl (Nat.le_of_ble_eq_true rfl) ⟨Nat.zero_le _, Nat.zero_le _⟩ rfl dX8_basketUnits_3 ?_
  refine lv_if_eq (tgt := 29) hx hb dX8_basketUnits_6 (by decide) (fun c_6 => ?_) (fun c_6 => ?_)
  · replace hf := qf_t c_6 hf
    exact J_29 hf V (lv_sub hl [0, 1, 2, 3] rfl)
  · replace hf := qf_f c_6 hf
    refine lv_aload_n hx hb dX8_basketUnits_9 rfl (lv_at hl 0 rfl) ?_
    refine lv_iload_n hx hb dX8_basketUnits_10 rfl (lv_at hl 2 rfl) ?_
    obtain ⟨r2, hc_11, hf⟩ := qf_bd_e hf
    refine qw_cVR (rest := [.ref (ad 0)]) (st1 := [.int r2, .ref (ad 0)]) S0 V hl 0 gM_0 rfl (c_X8_isShop l hc_11) kg_X8_254 rfl ⟨rfl, rfl⟩ kd_X8_isShop ⟨Nat.le_of_ble_eq_true rfl, Nat.le_of_ble_eq_true rfl⟩ rfl rfl (Nat.le_of_ble_eq_true rfl) ⟨Nat.zero_le _, Nat.zero_le _⟩ rfl dX8_basketUnits_11 ?_
    refine lv_if_eq (tgt := 29) hx hb dX8_basketUnits_14 (by decide) (fun c_14 => ?_) (fun c_14 => ?_)
    · replace hf := qf_t c_14 hf
      exact J_29 hf V (lv_sub hl [0, 1, 2, 3] rfl)
    · replace hf := qf_f c_14 hf
      refine lv_aload_n hx hb dX8_basketUnits_17 rfl (lv_at hl 0 rfl) ?_
      refine lv_iload_n hx hb dX8_basketUnits_18 rfl (lv_at hl 3 rfl) ?_
      obtain ⟨r3, hc_19, hf⟩ := qf_bd_e hf
      refine qw_cVR (rest := [.ref (ad 0)]) (st1 := [.int r3, .ref (ad 0)]) S0 V hl 0 gM_0 rfl (c_X8_isGood l hc_19) kg_X8_205 rfl ⟨rfl, rfl⟩ kd_X8_isGood ⟨Nat.le_of_ble_eq_true rfl, Nat.le_of_ble_eq_true rfl⟩ rfl rfl (Nat.le_of_ble_eq_true rfl) ⟨Nat.zero_le _, Nat.zero_le _⟩ rfl dX8_basketUnits_19 ?_
      refine lv_if_eq (tgt := 29) hx hb dX8_basketUnits_22 (by decide) (fun c_22 => ?_) (fun c_22 => ?_)
      · replace hf := qf_t c_22 hf
        exact J_29 hf V (lv_sub hl [0, 1, 2, 3] rfl)
      · replace hf := qf_f c_22 hf
        refine lv_iconst (v := 1) hx hb dX8_basketUnits_25 (by decide) ?_
        refine lv_goto (tgt := 30) hx hb dX8_basketUnits_26 (by decide) ?_
        exact J_30 hf V (lv_sub hl [0, 1, 2, 3] rfl)
theorem kd_X8_costOfBasket : yX8_costOfBasket.cls = RX8 ∧ yX8_costOfBasket.cls ≠ "java/lang/invoke/MethodHandle" ∧ yX8_costOfBasket.cls ≠ "java/lang/invoke/VarHandle" ∧ (parseMethodDescriptor yX8_costOfBasket.desc).map (fun d => d.parameters.length) = some 1 := by decide +kernel
def f_X8_costOfBasket_j52 (A : Nat → Nat → Int32) (K4 : Int32 → Int32 → Option (Int32)) (y1 : Int32) (y3 : Int32) (s0 : Int32) (s1 : Int32) : Option (Int32) :=
  qf_let ((s1 + s0)) fun x5 =>
  qf_let (y3 + (1 : Int32)) fun x6 =>
  K4 x5 x6
def f_X8_costOfBasket_j32 (A : Nat → Nat → Int32) (K4 : Int32 → Int32 → Option (Int32)) (y1 : Int32) (y3 : Int32) (s0 : Int32) : Option (Int32) :=
  qf_ld 6 (A 8) y3 fun x3 =>
  qf_ld 62 (A 3) ((26 : Int32) + y3) fun x4 =>
  f_X8_costOfBasket_j52 A K4 y1 y3 (x3 * x4) s0
def f_X8_costOfBasket_l4 (A : Nat → Nat → Int32)  (y1 : Int32) : Nat → Int32 → Int32 → Option (Int32)
  | 0, _, _ => none
  | n + 1, y2, y3 =>
  qf_ld 62 (A 3) (1 : Int32) fun x1 =>
  if x1 ≤ y3 then (some (y2)) else (if y1 < 0 then (f_X8_costOfBasket_j32 A (fun z0 z1 => f_X8_costOfBasket_l4 A y1 n z0 z1) y1 y3 y2) else (qf_ld 62 (A 3) ((20 : Int32) + y3) fun x2 =>
      if x2 = y1 then (f_X8_costOfBasket_j32 A (fun z0 z1 => f_X8_costOfBasket_l4 A y1 n z0 z1) y1 y3 y2) else (f_X8_costOfBasket_j52 A (fun z0 z1 => f_X8_costOfBasket_l4 A y1 n z0 z1) y1 y3 (0 : Int32) y2)))
def f_X8_costOfBasket (A : Nat → Nat → Int32) (p1 : Int32) : Option (Int32) :=
  f_X8_costOfBasket_l4 A p1 100000 (0 : Int32) (0 : Int32)
abbrev wz_X8_costOfBasket : List Cond := Cond.code yX8_costOfBasket cX8_costOfBasket 4 (some .int) :: qw_big
def rm_X8_costOfBasket : Room := { frames := 0, cells := 0, slots := 0, locals := 0 }
set_option maxHeartbeats 4000000 in
set_option maxRecDepth 100000 in
theorem c_X8_costOfBasket (l : Launch) {D : va_G} {cy : Nat → ClassId} {ad : Nat → Nat} {I : Nat → Int32} {A : Nat → Nat → Int32} {w : Int64} {p1 : Int32} {rv : Int32} {sz : Nat} (hf : f_X8_costOfBasket A p1 = some (rv)) : Met l yX8_costOfBasket wz_X8_costOfBasket rm_X8_costOfBasket (va_Pc [.ref (ad 0), .int p1] (qw_Pre D cy (Wm cy ad I A w) sz)) (qw_R (some (.int rv))) 0 0 (fun _ => False) := by
  refine qw_of (cc := cX8_costOfBasket) (maxL := 4) (ret := (some .int)) (by decide) (Nat.le_of_ble_eq_true rfl) ?_
  intro p e s m args below meth c ls S0 hr hlocks hsz V hl
  have S0 : CallFix p m c cX8_costOfBasket 4 s args qw_big RX8 := S0
  have hx := S0.1; have hb := S0.2.1; have hown := S0.2.2.2.1; have hts := S0.2.2.2.2
  have hl : lv_has ls 4 [(0, .ref (ad 0)), (1, .int p1)] := hl
  obtain ⟨Q9, hQ⟩ : ∃ q, q = MQ below (qw_R (some (.int rv))) args s 0 0 (fun _ => False) := ⟨_, rfl⟩
  rw [← hQ]
  generalize va_A (Wm cy ad I A w) sz = Z9 at V
  have J_52 : ∀ {K4 : Int32 → Int32 → Option (Int32)} {y1 : Int32}  (hK4 : ∀  {y2 : Int32} {y3 : Int32} {ls : Array Slot}, K4 y2 y3 = some (rv) → lv_has ls 4 [(0, .ref (ad 0)), (1, .int y1), (2, .int y2), (3, .int y3)] → W p l e rm_X8_costOfBasket s m args below meth c s.heap [] 0 0 Q9 (F0 m 4 ls []))  {y3 : Int32} {s0 : Int32} {s1 : Int32} {ls : Array Slot}, f_X8_costOfBasket_j52 A K4 y1 y3 s0 s1 = some (rv) → lv_has ls 4 [(0, .ref (ad 0)), (1, .int y1), (3, .int y3)] → W p l e rm_X8_costOfBasket s m args below meth c s.heap [] 0 0 Q9 (F0 m 52 ls [.int s0, .int s1]) := by
    intro K4 y1 hK4 y3 s0 s1 ls hf hl
    unfold f_X8_costOfBasket_j52 at hf
    refine lv_iadd hx hb dX8_costOfBasket_52 ?_
    refine lv_topi (fun x5 e_x5 => ?_)
    replace hf := qf_let_e e_x5 hf
    refine lv_istore_n (lv' := [(2, .int x5), (0, .ref (ad 0)), (1, .int y1), (3, .int y3)]) hx hb dX8_costOfBasket_53 rfl hl (by decide) rfl (fun ls hl => ?_)
    obtain ⟨x6, e_x6⟩ : ∃ y : Int32, y = y3 + (1 : Int32) := ⟨_, rfl⟩
    refine lv_iinc (v := x6) (lv' := [(3, .int x6), (2, .int x5), (0, .ref (ad 0)), (1, .int y1)]) hx hb dX8_costOfBasket_54 hl (k := 3) rfl (by rw [e_x6]; rfl) (by decide) rfl (fun ls hl => ?_)
    replace hf := qf_let_e e_x6 hf
    refine lv_goto (tgt := 4) hx hb dX8_costOfBasket_57 (by decide) ?_
    exact hK4 hf (lv_sub hl [2, 3, 1, 0] rfl)
  have J_32 : ∀ {K4 : Int32 → Int32 → Option (Int32)} {y1 : Int32}  (hK4 : ∀  {y2 : Int32} {y3 : Int32} {ls : Array Slot}, K4 y2 y3 = some (rv) → lv_has ls 4 [(0, .ref (ad 0)), (1, .int y1), (2, .int y2), (3, .int y3)] → W p l e rm_X8_costOfBasket s m args below meth c s.heap [] 0 0 Q9 (F0 m 4 ls []))  {y3 : Int32} {s0 : Int32} {ls : Array Slot}, f_X8_costOfBasket_j32 A K4 y1 y3 s0 = some (rv) → lv_has ls 4 [(0, .ref (ad 0)), (1, .int y1), (3, .int y3)] → W p l e rm_X8_costOfBasket s m args below meth c s.heap [] 0 0 Q9 (F0 m 32 ls [.int s0]) := by
    intro K4 y1 hK4 y3 s0 ls hf hl
    unfold f_X8_costOfBasket_j32 at hf
    refine lv_aload_n hx hb dX8_costOfBasket_32 rfl (lv_at hl 0 rfl) ?_
    refine gfM_0_21 S0 V kl_X8_39 dX8_costOfBasket_33 ?_
    refine lv_iload_n hx hb dX8_costOfBasket_36 rfl (lv_at hl 2 rfl) ?_
    have h_37 := qf_ld_in hf
    refine alM_9 S0 V h_37 dX8_costOfBasket_37 ?_
    refine lv_topi (fun x3 e_x3 => ?_)
    replace hf := qf_ld_e e_x3 hf
    refine lv_aload_n hx hb dX8_costOfBasket_38 rfl (lv_at hl 0 rfl) ?_
    refine gfM_0_5 S0 V kl_X8_19 dX8_costOfBasket_39 ?_
    refine lv_bipush (v := 26) hx hb dX8_costOfBasket_42 (by decide) ?_
    refine lv_iload_n hx hb dX8_costOfBasket_44 rfl (lv_at hl 2 rfl) ?_
    refine lv_iadd hx hb dX8_costOfBasket_45 ?_
    have h_46 := qf_ld_in hf
    refine alM_4 S0 V h_46 dX8_costOfBasket_46 ?_
    refine lv_topi (fun x4 e_x4 => ?_)
    replace hf := qf_ld_e e_x4 hf
    refine lv_imul hx hb dX8_costOfBasket_47 ?_
    refine lv_goto (tgt := 52) hx hb dX8_costOfBasket_48 (by decide) ?_
    exact J_52 hK4 hf (lv_sub hl [0, 1, 2] rfl)
  have L_4 : ∀  {y1 : Int32} {n : Nat}  {y2 : Int32} {y3 : Int32} {ls : Array Slot}, f_X8_costOfBasket_l4 A y1 n y2 y3 = some (rv) → lv_has ls 4 [(0, .ref (ad 0)), (1, .int y1), (2, .int y2), (3, .int y3)] → W p l e rm_X8_costOfBasket s m args below meth c s.heap [] 0 0 Q9 (F0 m 4 ls []) := by
    intro y1 n
    induction n with
    | zero => intro y2 y3 ls hf hl; exact qf_no hf
    | succ n ih =>
      intro y2 y3 ls hf hl
      rw [f_X8_costOfBasket_l4] at hf
      refine lv_iload_n hx hb dX8_costOfBasket_4 rfl (lv_at hl 3 rfl) ?_
      refine lv_aload_n hx hb dX8_costOfBasket_5 rfl (lv_at hl 0 rfl) ?_
      refine gfM_0_5 S0 V kl_X8_19 dX8_costOfBasket_6 ?_
      refine lv_iconst (v := 1) hx hb dX8_costOfBasket_9 (by decide) ?_
      have h_10 := qf_ld_in hf
      refine alM_4 S0 V h_10 dX8_costOfBasket_10 ?_
      refine lv_topi (fun x1 e_x1 => ?_)
      replace hf := qf_ld_e e_x1 hf
      refine lv_icmp_ge (tgt := 60) hx hb dX8_costOfBasket_11 (by decide) (fun c_11 => ?_) (fun c_11 => ?_)
      · replace hf := qf_t c_11 hf
        refine lv_iload_n hx hb dX8_costOfBasket_60 rfl (lv_at hl 2 rfl) ?_
        have hE := Option.some.inj hf
        exact qw_iretR S0 hr hlocks hQ hE dX8_costOfBasket_61
      · replace hf := qf_f c_11 hf
        refine lv_iload_n hx hb dX8_costOfBasket_14 rfl (lv_at hl 2 rfl) ?_
        refine lv_iload_n hx hb dX8_costOfBasket_15 rfl (lv_at hl 1 rfl) ?_
        refine lv_if_lt (tgt := 32) hx hb dX8_costOfBasket_16 (by decide) (fun c_16 => ?_) (fun c_16 => ?_)
        · replace hf := qf_t c_16 hf
          exact J_32 (fun hf hl => ih hf hl) hf (lv_sub hl [0, 1, 3] rfl)
        · replace hf := qf_f c_16 hf
          refine lv_aload_n hx hb dX8_costOfBasket_19 rfl (lv_at hl 0 rfl) ?_
          refine gfM_0_5 S0 V kl_X8_19 dX8_costOfBasket_20 ?_
          refine lv_bipush (v := 20) hx hb dX8_costOfBasket_23 (by decide) ?_
          refine lv_iload_n hx hb dX8_costOfBasket_25 rfl (lv_at hl 3 rfl) ?_
          refine lv_iadd hx hb dX8_costOfBasket_26 ?_
          have h_27 := qf_ld_in hf
          refine alM_4 S0 V h_27 dX8_costOfBasket_27 ?_
          refine lv_topi (fun x2 e_x2 => ?_)
          replace hf := qf_ld_e e_x2 hf
          refine lv_iload_n hx hb dX8_costOfBasket_28 rfl (lv_at hl 1 rfl) ?_
          refine lv_icmp_ne (tgt := 51) hx hb dX8_costOfBasket_29 (by decide) (fun c_29 => ?_) (fun c_29 => ?_)
          · replace hf := qf_f c_29 hf
            refine lv_iconst (v := 0) hx hb dX8_costOfBasket_51 (by decide) ?_
            exact J_52 (fun hf hl => ih hf hl) hf (lv_sub hl [0, 1, 3] rfl)
          · replace hf := qf_t c_29 hf
            exact J_32 (fun hf hl => ih hf hl) hf (lv_sub hl [0, 1, 3] rfl)
  unfold f_X8_costOfBasket at hf
  refine lv_iconst (v := 0) hx hb dX8_costOfBasket_0 (by decide) ?_
  refine lv_istore_n (lv' := [(2, .int (0 : Int32)), (0, .ref (ad 0)), (1, .int p1)]) hx hb dX8_costOfBasket_1 rfl hl (by decide) rfl (fun ls hl => ?_)
  refine lv_iconst (v := 0) hx hb dX8_costOfBasket_2 (by decide) ?_
  refine lv_istore_n (lv' := [(3, .int (0 : Int32)), (2, .int (0 : Int32)), (0, .ref (ad 0)), (1, .int p1)]) hx hb dX8_costOfBasket_3 rfl hl (by decide) rfl (fun ls hl => ?_)
  exact L_4 hf (lv_sub hl [2, 3, 1, 0] rfl)
theorem kd_X8_basketCost : yX8_basketCost.cls = RX8 ∧ yX8_basketCost.cls ≠ "java/lang/invoke/MethodHandle" ∧ yX8_basketCost.cls ≠ "java/lang/invoke/VarHandle" ∧ (parseMethodDescriptor yX8_basketCost.desc).map (fun d => d.parameters.length) = some 2 := by decide +kernel
def f_X8_basketCost_j22 (I : Nat → Int32) (A : Nat → Nat → Int32)  (y1 : Int32) (y2 : Int32) (s0 : Int32) : Option (Int32 × (Nat → Int32) × (Nat → Nat → Int32)) :=
  qf_bd2 (f_X8_fails I s0) fun r3 I4 =>
  if r3 = 0 then (qf_bd2 (f_X8_layBasket A y1 y2) fun r5 A6 =>
    if 0 ≤ r5 then (qf_bd (f_X8_costOfBasket A6 (-1 : Int32)) fun r7 =>
      some (r7, I4, A6)) else (some (r5, I4, A6))) else (some ((0 : Int32), I4, A))
def f_X8_basketCost_j21 (I : Nat → Int32) (A : Nat → Nat → Int32)  (y1 : Int32) (y2 : Int32) : Option (Int32 × (Nat → Int32) × (Nat → Nat → Int32)) :=
  f_X8_basketCost_j22 I A y1 y2 (0 : Int32)
def f_X8_basketCost (I : Nat → Int32) (A : Nat → Nat → Int32) (p1 : Int32) (p2 : Int32) : Option (Int32 × (Nat → Int32) × (Nat → Nat → Int32)) :=
  qf_bd (f_X8_isHouse A p1) fun r1 =>
  if r1 = 0 then (f_X8_basketCost_j21 I A p1 p2) else (qf_bd (f_X8_isShop A p2) fun r2 =>
    if r2 = 0 then (f_X8_basketCost_j21 I A p1 p2) else (f_X8_basketCost_j22 I A p1 p2 (1 : Int32)))
abbrev wz_X8_basketCost : List Cond := Cond.code yX8_basketCost cX8_basketCost 4 (some .int) :: qw_big
def rm_X8_basketCost : Room := { frames := 5, cells := 0, slots := 0, locals := 121 }
set_option maxHeartbeats 4000000 in
set_option maxRecDepth 100000 in
theorem c_X8_basketCost (l : Launch) {D : va_G} {cy : Nat → ClassId} {ad : Nat → Nat} {I : Nat → Int32} {A : Nat → Nat → Int32} {w : Int64} {p1 : Int32} {p2 : Int32} {rv : Int32} {I9 : Nat → Int32} {A9 : Nat → Nat → Int32} {sz : Nat} (hf : f_X8_basketCost I A p1 p2 = some (rv, I9, A9)) : Met l yX8_basketCost wz_X8_basketCost rm_X8_basketCost (va_Pc [.ref (ad 0), .int p1, .int p2] (qw_Pre D cy (Wm cy ad I A w) sz)) (qw_Q (some (.int rv)) D (Wm cy ad I9 A9 w) (va_A (Wm cy ad I A w) sz)) 0 0 (va_A (Wm cy ad I A w) sz) := by
  refine qw_of (cc := cX8_basketCost) (maxL := 4) (ret := (some .int)) (by decide) (Nat.le_of_ble_eq_true rfl) ?_
  intro p e s m args below meth c ls S0 hr hlocks hsz V hl
  have S0 : CallFix p m c cX8_basketCost 4 s args qw_big RX8 := S0
  have hx := S0.1; have hb := S0.2.1; have hown := S0.2.2.2.1; have hts := S0.2.2.2.2
  have hl : lv_has ls 4 [(0, .ref (ad 0)), (1, .int p1), (2, .int p2)] := hl
  generalize va_A (Wm cy ad I A w) sz = Z9 at V ⊢
  obtain ⟨Q9, hQ⟩ : ∃ q, q = MQ below (qw_Q (some (.int rv)) D (Wm cy ad I9 A9 w) Z9) args s 0 0 Z9 := ⟨_, rfl⟩
  rw [← hQ]
  clear hsz
  have J_22 : ∀   {y1 : Int32} {y2 : Int32} {s0 : Int32} {H : Heap} {locs : List Loc} {ls : Array Slot}, f_X8_basketCost_j22 I A y1 y2 s0 = some (rv, I9, A9) → qw_V D cy Z9 s (Wm cy ad I A w) H locs → lv_has ls 4 [(0, .ref (ad 0)), (1, .int y1), (2, .int y2)] → W p l e rm_X8_basketCost s m args below meth c H locs 0 0 Q9 (F0 m 22 ls [.int s0, .ref (ad 0)]) := by
    intro y1 y2 s0 H locs ls hf V hl
    unfold f_X8_basketCost_j22 at hf
    obtain ⟨r3, I4, hc_22, hf⟩ := qf_bd2_e hf
    refine qw_cV (rest := []) (st1 := [.int r3]) S0 V hl 0 gM_0 rfl (c_X8_fails l hc_22) kg_X8_201 rfl ⟨rfl, rfl⟩ kd_X8_fails ⟨Nat.le_of_ble_eq_true rfl, Nat.le_of_ble_eq_true rfl⟩ rfl rfl (Nat.le_of_ble_eq_true rfl) ⟨Nat.zero_le _, Nat.zero_le _⟩ rfl dX8_basketCost_22 (fun H locs V => ?_)
    refine lv_if_eq (tgt := 30) hx hb dX8_basketCost_25 (by decide) (fun c_25 => ?_) (fun c_25 => ?_)
    · replace hf := qf_t c_25 hf
      refine lv_aload_n hx hb dX8_basketCost_30 rfl (lv_at hl 0 rfl) ?_
      refine lv_iload_n hx hb dX8_basketCost_31 rfl (lv_at hl 1 rfl) ?_
      refine lv_iload_n hx hb dX8_basketCost_32 rfl (lv_at hl 2 rfl) ?_
      obtain ⟨r5, A6, hc_33, hf⟩ := qf_bd2_e hf
      refine qw_cV (rest := []) (st1 := [.int r5]) S0 V hl 0 gM_0 rfl (c_X8_layBasket l hc_33) kg_X8_297 rfl ⟨rfl, rfl⟩ kd_X8_layBasket ⟨Nat.le_of_ble_eq_true rfl, Nat.le_of_ble_eq_true rfl⟩ rfl rfl (Nat.le_of_ble_eq_true rfl) ⟨Nat.zero_le _, Nat.zero_le _⟩ rfl dX8_basketCost_33 (fun H locs V => ?_)
      refine lv_istore_n (lv' := [(3, .int r5), (0, .ref (ad 0)), (1, .int y1), (2, .int y2)]) hx hb dX8_basketCost_36 rfl hl (by decide) rfl (fun ls hl => ?_)
      refine lv_iload_n hx hb dX8_basketCost_37 rfl (lv_at hl 0 rfl) ?_
      refine lv_if_ge (tgt := 45) hx hb dX8_basketCost_38 (by decide) (fun c_38 => ?_) (fun c_38 => ?_)
      · replace hf := qf_t c_38 hf
        refine lv_aload_n hx hb dX8_basketCost_45 rfl (lv_at hl 1 rfl) ?_
        refine lv_iconst (v := -1) hx hb dX8_basketCost_46 (by decide) ?_
        obtain ⟨r7, hc_47, hf⟩ := qf_bd_e hf
        refine qw_cVR (rest := []) (st1 := [.int r7]) S0 V hl 0 gM_0 rfl (c_X8_costOfBasket l hc_47) kg_X8_300 rfl ⟨rfl, rfl⟩ kd_X8_costOfBasket ⟨Nat.le_of_ble_eq_true rfl, Nat.le_of_ble_eq_true rfl⟩ rfl rfl (Nat.le_of_ble_eq_true rfl) ⟨Nat.zero_le _, Nat.zero_le _⟩ rfl dX8_basketCost_47 ?_
        have hE := Option.some.inj hf
        obtain ⟨e0, hE⟩ := qf_pr hE
        obtain ⟨e1, hE⟩ := qf_pr hE
        exact qw_ireti S0 hr hlocks hQ e0 (by rw [e1, hE]) V dX8_basketCost_50
      · replace hf := qf_f c_38 hf
        refine lv_iload_n hx hb dX8_basketCost_41 rfl (lv_at hl 0 rfl) ?_
        refine lv_goto (tgt := 50) hx hb dX8_basketCost_42 (by decide) ?_
        have hE := Option.some.inj hf
        obtain ⟨e0, hE⟩ := qf_pr hE
        obtain ⟨e1, hE⟩ := qf_pr hE
        exact qw_ireti S0 hr hlocks hQ e0 (by rw [e1, hE]) V dX8_basketCost_50
    · replace hf := qf_f c_25 hf
      refine lv_iconst (v := 0) hx hb dX8_basketCost_28 (by decide) ?_
      have hE := Option.some.inj hf
      obtain ⟨e0, hE⟩ := qf_pr hE
      obtain ⟨e1, hE⟩ := qf_pr hE
      exact qw_ireti S0 hr hlocks hQ e0 (by rw [e1, hE]) V dX8_basketCost_29
  have J_21 : ∀   {y1 : Int32} {y2 : Int32} {H : Heap} {locs : List Loc} {ls : Array Slot}, f_X8_basketCost_j21 I A y1 y2 = some (rv, I9, A9) → qw_V D cy Z9 s (Wm cy ad I A w) H locs → lv_has ls 4 [(0, .ref (ad 0)), (1, .int y1), (2, .int y2)] → W p l e rm_X8_basketCost s m args below meth c H locs 0 0 Q9 (F0 m 21 ls [.ref (ad 0)]) := by
    intro y1 y2 H locs ls hf V hl
    unfold f_X8_basketCost_j21 at hf
    refine lv_iconst (v := 0) hx hb dX8_basketCost_21 (by decide) ?_
    exact J_22 hf V (lv_sub hl [0, 1, 2] rfl)
  unfold f_X8_basketCost at hf
  refine lv_aload_n hx hb dX8_basketCost_0 rfl (lv_at hl 0 rfl) ?_
  refine lv_aload_n hx hb dX8_basketCost_1 rfl (lv_at hl 0 rfl) ?_
  refine lv_iload_n hx hb dX8_basketCost_2 rfl (lv_at hl 1 rfl) ?_
  obtain ⟨r1, hc_3, hf⟩ := qf_bd_e hf
  refine qw_cVR (rest := [.ref (ad 0)]) (st1 := [.int r1, .ref (ad 0)]) S0 V hl 0 gM_0 rfl (c_X8_isHouse l hc_3) kg_X8_208 rfl ⟨rfl, rfl⟩ kd_X8_isHouse ⟨Nat.le_of_ble_eq_true rfl, Nat.le_of_ble_eq_true rfl⟩ rfl rfl (Nat.le_of_ble_eq_true rfl) ⟨Nat.zero_le _, Nat.zero_le _⟩ rfl dX8_basketCost_3 ?_
  refine lv_if_eq (tgt := 21) hx hb dX8_basketCost_6 (by decide) (fun c_6 => ?_) (fun c_6 => ?_)
  · replace hf := qf_t c_6 hf
    exact J_21 hf V (lv_sub hl [0, 1, 2] rfl)
  · replace hf := qf_f c_6 hf
    refine lv_aload_n hx hb dX8_basketCost_9 rfl (lv_at hl 0 rfl) ?_
    refine lv_iload_n hx hb dX8_basketCost_10 rfl (lv_at hl 2 rfl) ?_
    obtain ⟨r2, hc_11, hf⟩ := qf_bd_e hf
    refine qw_cVR (rest := [.ref (ad 0)]) (st1 := [.int r2, .ref (ad 0)]) S0 V hl 0 gM_0 rfl (c_X8_isShop l hc_11) kg_X8_254 rfl ⟨rfl, rfl⟩ kd_X8_isShop ⟨Nat.le_of_ble_eq_true rfl, Nat.le_of_ble_eq_true rfl⟩ rfl rfl (Nat.le_of_ble_eq_true rfl) ⟨Nat.zero_le _, Nat.zero_le _⟩ rfl dX8_basketCost_11 ?_
    refine lv_if_eq (tgt := 21) hx hb dX8_basketCost_14 (by decide) (fun c_14 => ?_) (fun c_14 => ?_)
    · replace hf := qf_t c_14 hf
      exact J_21 hf V (lv_sub hl [0, 1, 2] rfl)
    · replace hf := qf_f c_14 hf
      refine lv_iconst (v := 1) hx hb dX8_basketCost_17 (by decide) ?_
      refine lv_goto (tgt := 22) hx hb dX8_basketCost_18 (by decide) ?_
      exact J_22 hf V (lv_sub hl [0, 1, 2] rfl)
theorem kd_X8_basketLeft : yX8_basketLeft.cls = RX8 ∧ yX8_basketLeft.cls ≠ "java/lang/invoke/MethodHandle" ∧ yX8_basketLeft.cls ≠ "java/lang/invoke/VarHandle" ∧ (parseMethodDescriptor yX8_basketLeft.desc).map (fun d => d.parameters.length) = some 3 := by decide +kernel
def f_X8_basketLeft_j30 (I : Nat → Int32) (A : Nat → Nat → Int32)  (y1 : Int32) (y2 : Int32) (y3 : Int32) (s0 : Int32) : Option (Int32 × (Nat → Int32) × (Nat → Nat → Int32)) :=
  qf_bd2 (f_X8_fails I s0) fun r4 I5 =>
  if r4 = 0 then (qf_bd2 (f_X8_layBasket A y1 y2) fun r6 A7 =>
    if 0 ≤ r6 then (qf_bd (f_X8_couponsOf A7 y1 y3) fun r8 =>
      qf_bd (f_X8_costOfBasket A7 y3) fun r9 =>
      some ((r8 - r9), I5, A7)) else (some (r6, I5, A7))) else (some ((0 : Int32), I5, A))
def f_X8_basketLeft_j29 (I : Nat → Int32) (A : Nat → Nat → Int32)  (y1 : Int32) (y2 : Int32) (y3 : Int32) : Option (Int32 × (Nat → Int32) × (Nat → Nat → Int32)) :=
  f_X8_basketLeft_j30 I A y1 y2 y3 (0 : Int32)
def f_X8_basketLeft (I : Nat → Int32) (A : Nat → Nat → Int32) (p1 : Int32) (p2 : Int32) (p3 : Int32) : Option (Int32 × (Nat → Int32) × (Nat → Nat → Int32)) :=
  qf_bd (f_X8_isHouse A p1) fun r1 =>
  if r1 = 0 then (f_X8_basketLeft_j29 I A p1 p2 p3) else (qf_bd (f_X8_isShop A p2) fun r2 =>
    if r2 = 0 then (f_X8_basketLeft_j29 I A p1 p2 p3) else (qf_bd (f_X8_isGroup A p3) fun r3 =>
      if r3 = 0 then (f_X8_basketLeft_j29 I A p1 p2 p3) else (f_X8_basketLeft_j30 I A p1 p2 p3 (1 : Int32))))
abbrev wz_X8_basketLeft : List Cond := Cond.code yX8_basketLeft cX8_basketLeft 5 (some .int) :: qw_big
def rm_X8_basketLeft : Room := { frames := 5, cells := 0, slots := 0, locals := 121 }
set_option maxHeartbeats 4000000 in
set_option maxRecDepth 100000 in
theorem c_X8_basketLeft (l : Launch) {D : va_G} {cy : Nat → ClassId} {ad : Nat → Nat} {I : Nat → Int32} {A : Nat → Nat → Int32} {w : Int64} {p1 : Int32} {p2 : Int32} {p3 : Int32} {rv : Int32} {I9 : Nat → Int32} {A9 : Nat → Nat → Int32} {sz : Nat} (hf : f_X8_basketLeft I A p1 p2 p3 = some (rv, I9, A9)) : Met l yX8_basketLeft wz_X8_basketLeft rm_X8_basketLeft (va_Pc [.ref (ad 0), .int p1, .int p2, .int p3] (qw_Pre D cy (Wm cy ad I A w) sz)) (qw_Q (some (.int rv)) D (Wm cy ad I9 A9 w) (va_A (Wm cy ad I A w) sz)) 0 0 (va_A (Wm cy ad I A w) sz) := by
  refine qw_of (cc := cX8_basketLeft) (maxL := 5) (ret := (some .int)) (by decide) (Nat.le_of_ble_eq_true rfl) ?_
  intro p e s m args below meth c ls S0 hr hlocks hsz V hl
  have S0 : CallFix p m c cX8_basketLeft 5 s args qw_big RX8 := S0
  have hx := S0.1; have hb := S0.2.1; have hown := S0.2.2.2.1; have hts := S0.2.2.2.2
  have hl : lv_has ls 5 [(0, .ref (ad 0)), (1, .int p1), (2, .int p2), (3, .int p3)] := hl
  generalize va_A (Wm cy ad I A w) sz = Z9 at V ⊢
  obtain ⟨Q9, hQ⟩ : ∃ q, q = MQ below (qw_Q (some (.int rv)) D (Wm cy ad I9 A9 w) Z9) args s 0 0 Z9 := ⟨_, rfl⟩
  rw [← hQ]
  clear hsz
  have J_30 : ∀   {y1 : Int32} {y2 : Int32} {y3 : Int32} {s0 : Int32} {H : Heap} {locs : List Loc} {ls : Array Slot}, f_X8_basketLeft_j30 I A y1 y2 y3 s0 = some (rv, I9, A9) → qw_V D cy Z9 s (Wm cy ad I A w) H locs → lv_has ls 5 [(0, .ref (ad 0)), (1, .int y1), (2, .int y2), (3, .int y3)] → W p l e rm_X8_basketLeft s m args below meth c H locs 0 0 Q9 (F0 m 30 ls [.int s0, .ref (ad 0)]) := by
    intro y1 y2 y3 s0 H locs ls hf V hl
    unfold f_X8_basketLeft_j30 at hf
    obtain ⟨r4, I5, hc_30, hf⟩ := qf_bd2_e hf
    refine qw_cV (rest := []) (st1 := [.int r4]) S0 V hl 0 gM_0 rfl (c_X8_fails l hc_30) kg_X8_201 rfl ⟨rfl, rfl⟩ kd_X8_fails ⟨Nat.le_of_ble_eq_true rfl, Nat.le_of_ble_eq_true rfl⟩ rfl rfl (Nat.le_of_ble_eq_true rfl) ⟨Nat.zero_le _, Nat.zero_le _⟩ rfl dX8_basketLeft_30 (fun H locs V => ?_)
    refine lv_if_eq (tgt := 38) hx hb dX8_basketLeft_33 (by decide) (fun c_33 => ?_) (fun c_33 => ?_)
    · replace hf := qf_t c_33 hf
      refine lv_aload_n hx hb dX8_basketLeft_38 rfl (lv_at hl 0 rfl) ?_
      refine lv_iload_n hx hb dX8_basketLeft_39 rfl (lv_at hl 1 rfl) ?_
      refine lv_iload_n hx hb dX8_basketLeft_40 rfl (lv_at hl 2 rfl) ?_
      obtain ⟨r6, A7, hc_41, hf⟩ := qf_bd2_e hf
      refine qw_cV (rest := []) (st1 := [.int r6]) S0 V hl 0 gM_0 rfl (c_X8_layBasket l hc_41) kg_X8_297 rfl ⟨rfl, rfl⟩ kd_X8_layBasket ⟨Nat.le_of_ble_eq_true rfl, Nat.le_of_ble_eq_true rfl⟩ rfl rfl (Nat.le_of_ble_eq_true rfl) ⟨Nat.zero_le _, Nat.zero_le _⟩ rfl dX8_basketLeft_41 (fun H locs V => ?_)
      refine lv_istore (lv' := [(4, .int r6), (0, .ref (ad 0)), (1, .int y1), (2, .int y2), (3, .int y3)]) hx hb dX8_basketLeft_44 hl (by decide) rfl (fun ls hl => ?_)
      refine lv_iload hx hb dX8_basketLeft_46 (lv_at hl 0 rfl) ?_
      refine lv_if_ge (tgt := 56) hx hb dX8_basketLeft_48 (by decide) (fun c_48 => ?_) (fun c_48 => ?_)
      · replace hf := qf_t c_48 hf
        refine lv_aload_n hx hb dX8_basketLeft_56 rfl (lv_at hl 1 rfl) ?_
        refine lv_iload_n hx hb dX8_basketLeft_57 rfl (lv_at hl 2 rfl) ?_
        refine lv_iload_n hx hb dX8_basketLeft_58 rfl (lv_at hl 4 rfl) ?_
        obtain ⟨r8, hc_59, hf⟩ := qf_bd_e hf
        refine qw_cVR (rest := []) (st1 := [.int r8]) S0 V hl 0 gM_0 rfl (c_X8_couponsOf l hc_59) kg_X8_214 rfl ⟨rfl, rfl⟩ kd_X8_couponsOf ⟨Nat.le_of_ble_eq_true rfl, Nat.le_of_ble_eq_true rfl⟩ rfl rfl (Nat.le_of_ble_eq_true rfl) ⟨Nat.zero_le _, Nat.zero_le _⟩ rfl dX8_basketLeft_59 ?_
        refine lv_aload_n hx hb dX8_basketLeft_62 rfl (lv_at hl 1 rfl) ?_
        refine lv_iload_n hx hb dX8_basketLeft_63 rfl (lv_at hl 4 rfl) ?_
        obtain ⟨r9, hc_64, hf⟩ := qf_bd_e hf
        refine qw_cVR (rest := [.int r8]) (st1 := [.int r9, .int r8]) S0 V hl 0 gM_0 rfl (c_X8_costOfBasket l hc_64) kg_X8_300 rfl ⟨rfl, rfl⟩ kd_X8_costOfBasket ⟨Nat.le_of_ble_eq_true rfl, Nat.le_of_ble_eq_true rfl⟩ rfl rfl (Nat.le_of_ble_eq_true rfl) ⟨Nat.zero_le _, Nat.zero_le _⟩ rfl dX8_basketLeft_64 ?_
        refine lv_isub hx hb dX8_basketLeft_67 ?_
        have hE := Option.some.inj hf
        obtain ⟨e0, hE⟩ := qf_pr hE
        obtain ⟨e1, hE⟩ := qf_pr hE
        exact qw_ireti S0 hr hlocks hQ e0 (by rw [e1, hE]) V dX8_basketLeft_68
      · replace hf := qf_f c_48 hf
        refine lv_iload hx hb dX8_basketLeft_51 (lv_at hl 0 rfl) ?_
        refine lv_goto (tgt := 68) hx hb dX8_basketLeft_53 (by decide) ?_
        have hE := Option.some.inj hf
        obtain ⟨e0, hE⟩ := qf_pr hE
        obtain ⟨e1, hE⟩ := qf_pr hE
        exact qw_ireti S0 hr hlocks hQ e0 (by rw [e1, hE]) V dX8_basketLeft_68
    · replace hf := qf_f c_33 hf
      refine lv_iconst (v := 0) hx hb dX8_basketLeft_36 (by decide) ?_
      have hE := Option.some.inj hf
      obtain ⟨e0, hE⟩ := qf_pr hE
      obtain ⟨e1, hE⟩ := qf_pr hE
      exact qw_ireti S0 hr hlocks hQ e0 (by rw [e1, hE]) V dX8_basketLeft_37
  have J_29 : ∀   {y1 : Int32} {y2 : Int32} {y3 : Int32} {H : Heap} {locs : List Loc} {ls : Array Slot}, f_X8_basketLeft_j29 I A y1 y2 y3 = some (rv, I9, A9) → qw_V D cy Z9 s (Wm cy ad I A w) H locs → lv_has ls 5 [(0, .ref (ad 0)), (1, .int y1), (2, .int y2), (3, .int y3)] → W p l e rm_X8_basketLeft s m args below meth c H locs 0 0 Q9 (F0 m 29 ls [.ref (ad 0)]) := by
    intro y1 y2 y3 H locs ls hf V hl
    unfold f_X8_basketLeft_j29 at hf
    refine lv_iconst (v := 0) hx hb dX8_basketLeft_29 (by decide) ?_
    exact J_30 hf V (lv_sub hl [0, 1, 2, 3] rfl)
  unfold f_X8_basketLeft at hf
  refine lv_aload_n hx hb dX8_basketLeft_0 rfl (lv_at hl 0 rfl) ?_
  refine lv_aload_n hx hb dX8_basketLeft_1 rfl (lv_at hl 0 rfl) ?_
  refine lv_iload_n hx hb dX8_basketLeft_2 rfl (lv_at hl 1 rfl) ?_
  obtain ⟨r1, hc_3, hf⟩ := qf_bd_e hf
  refine qw_cVR (rest := [.ref (ad 0)]) (st1 := [.int r1, .ref (ad 0)]) S0 V hl 0 gM_0 rfl (c_X8_isHouse l hc_3) kg_X8_208 rfl ⟨rfl, rfl⟩ kd_X8_isHouse ⟨Nat.le_of_ble_eq_true rfl, Nat.le_of_ble_eq_true rfl⟩ rfl rfl (Nat.le_of_ble_eq_true rfl) ⟨Nat.zero_le _, Nat.zero_le _⟩ rfl dX8_basketLeft_3 ?_
  refine lv_if_eq (tgt := 29) hx hb dX8_basketLeft_6 (by decide) (fun c_6 => ?_) (fun c_6 => ?_)
  · replace hf := qf_t c_6 hf
    exact J_29 hf V (lv_sub hl [0, 1, 2, 3] rfl)
  · replace hf := qf_f c_6 hf
    refine lv_aload_n hx hb dX8_basketLeft_9 rfl (lv_at hl 0 rfl) ?_
    refine lv_iload_n hx hb dX8_basketLeft_10 rfl (lv_at hl 2 rfl) ?_
    obtain ⟨r2, hc_11, hf⟩ := qf_bd_e hf
    refine qw_cVR (rest := [.ref (ad 0)]) (st1 := [.int r2, .ref (ad 0)]) S0 V hl 0 gM_0 rfl (c_X8_isShop l hc_11) kg_X8_254 rfl ⟨rfl, rfl⟩ kd_X8_isShop ⟨Nat.le_of_ble_eq_true rfl, Nat.le_of_ble_eq_true rfl⟩ rfl rfl (Nat.le_of_ble_eq_true rfl) ⟨Nat.zero_le _, Nat.zero_le _⟩ rfl dX8_basketLeft_11 ?_
    refine lv_if_eq (tgt := 29) hx hb dX8_basketLeft_14 (by decide) (fun c_14 => ?_) (fun c_14 => ?_)
    · replace hf := qf_t c_14 hf
      exact J_29 hf V (lv_sub hl [0, 1, 2, 3] rfl)
    · replace hf := qf_f c_14 hf
      refine lv_aload_n hx hb dX8_basketLeft_17 rfl (lv_at hl 0 rfl) ?_
      refine lv_iload_n hx hb dX8_basketLeft_18 rfl (lv_at hl 3 rfl) ?_
      obtain ⟨r3, hc_19, hf⟩ := qf_bd_e hf
      refine qw_cVR (rest := [.ref (ad 0)]) (st1 := [.int r3, .ref (ad 0)]) S0 V hl 0 gM_0 rfl (c_X8_isGroup l hc_19) kg_X8_197 rfl ⟨rfl, rfl⟩ kd_X8_isGroup ⟨Nat.le_of_ble_eq_true rfl, Nat.le_of_ble_eq_true rfl⟩ rfl rfl (Nat.le_of_ble_eq_true rfl) ⟨Nat.zero_le _, Nat.zero_le _⟩ rfl dX8_basketLeft_19 ?_
      refine lv_if_eq (tgt := 29) hx hb dX8_basketLeft_22 (by decide) (fun c_22 => ?_) (fun c_22 => ?_)
      · replace hf := qf_t c_22 hf
        exact J_29 hf V (lv_sub hl [0, 1, 2, 3] rfl)
      · replace hf := qf_f c_22 hf
        refine lv_iconst (v := 1) hx hb dX8_basketLeft_25 (by decide) ?_
        refine lv_goto (tgt := 30) hx hb dX8_basketLeft_26 (by decide) ?_
        exact J_30 hf V (lv_sub hl [0, 1, 2, 3] rfl)
