theorem kd_X4_total : yX4_total.cls ≠ "java/lang/invoke/MethodHandle" ∧ yX4_total.cls ≠ "java/lang/invoke/VarHandle" ∧ (parseMethodDescriptor yX4_total.desc).map (fun d => d.parameters.length) = some 2 := by decide +kernel
def f_X4_total_l4 (n0 : Nat) (f0 : Nat → Int32)  (y1 : Int32) : Nat → Int32 → Int32 → Option (Int32)
  | 0, _, _ => none
  | n + 1, y2, y3 =>
  if (5 : Int32) ≤ y3 then (some (y2)) else (qf_ld n0 f0 (y1 + y3) fun x1 =>
    qf_let ((y2 + x1)) fun x2 =>
    qf_let (y3 + (1 : Int32)) fun x3 =>
    f_X4_total_l4 n0 f0 y1 n x2 x3)
def f_X4_total (n0 : Nat) (f0 : Nat → Int32) (p1 : Int32) : Option (Int32) :=
  f_X4_total_l4 n0 f0 p1 100000 (0 : Int32) (0 : Int32)
abbrev wz_X4_total : List Cond := Cond.code yX4_total cX4_total 4 (some .int) :: qw_big
def rm_X4_total : Room := { frames := 0, cells := 0, slots := 0, locals := 0 }
set_option maxHeartbeats 4000000 in
set_option maxRecDepth 100000 in
theorem c_X4_total (l : Launch) {D : va_G} {cy : Nat → ClassId} {ws : va_W} {q0 a0 n0 : Nat} {f0 : Nat → Int32} (ha0 : ws[q0]? = some (a0, .inl (cy 0, n0, .inl f0))) {p1 : Int32} {rv : Int32} {sz : Nat} (hf : f_X4_total n0 f0 p1 = some (rv)) : Met l yX4_total wz_X4_total rm_X4_total (va_Pc [.ref a0, .int p1] (qw_Pre D cy ws sz)) (qw_R (some (.int rv))) 0 0 (fun _ => False) := by
  refine qw_of (cc := cX4_total) (maxL := 4) (ret := (some .int)) (by decide) (Nat.le_of_ble_eq_true rfl) ?_
  intro p e s m args below meth c ls S0 hr hlocks hsz V hl
  have S0 : CallFix p m c cX4_total 4 s args qw_big RX4 := S0
  have hx := S0.1; have hb := S0.2.1; have hown := S0.2.2.2.1; have hts := S0.2.2.2.2
  have hl : lv_has ls 4 [(0, .ref a0), (1, .int p1)] := hl
  obtain ⟨Q9, hQ⟩ : ∃ q, q = MQ below (qw_R (some (.int rv))) args s 0 0 (fun _ => False) := ⟨_, rfl⟩
  rw [← hQ]
  generalize va_A ws sz = Z9 at V
  have L_4 : ∀  {y1 : Int32} {n : Nat}  {y2 : Int32} {y3 : Int32} {ls : Array Slot}, f_X4_total_l4 n0 f0 y1 n y2 y3 = some (rv) → lv_has ls 4 [(0, .ref a0), (1, .int y1), (2, .int y2), (3, .int y3)] → W p l e rm_X4_total s m args below meth c s.heap [] 0 0 Q9 (F0 m 4 ls []) := by
    intro y1 n
    induction n with
    | zero => intro y2 y3 ls hf hl; exact qf_no hf
    | succ n ih =>
      intro y2 y3 ls hf hl
      rw [f_X4_total_l4] at hf
      refine lv_iload_n hx hb dX4_total_4 rfl (lv_at hl 3 rfl) ?_
      refine lv_iconst (v := 5) hx hb dX4_total_5 (by decide) ?_
      refine lv_icmp_ge (tgt := 23) hx hb dX4_total_6 (by decide) (fun c_6 => ?_) (fun c_6 => ?_)
      · replace hf := qf_t c_6 hf
        refine lv_iload_n hx hb dX4_total_23 rfl (lv_at hl 2 rfl) ?_
        have hE := Option.some.inj hf
        exact qw_iretR S0 hr hlocks hQ hE dX4_total_24
      · replace hf := qf_f c_6 hf
        refine lv_iload_n hx hb dX4_total_9 rfl (lv_at hl 2 rfl) ?_
        refine lv_aload_n hx hb dX4_total_10 rfl (lv_at hl 0 rfl) ?_
        refine lv_iload_n hx hb dX4_total_11 rfl (lv_at hl 1 rfl) ?_
        refine lv_iload_n hx hb dX4_total_12 rfl (lv_at hl 3 rfl) ?_
        refine lv_iadd hx hb dX4_total_13 ?_
        have h_14 := qf_ld_in hf
        refine qw_ild S0 V q0 ha0 h_14 dX4_total_14 ?_
        refine lv_topi (fun x1 e_x1 => ?_)
        replace hf := qf_ld_e e_x1 hf
        refine lv_iadd hx hb dX4_total_15 ?_
        refine lv_topi (fun x2 e_x2 => ?_)
        replace hf := qf_let_e e_x2 hf
        refine lv_istore_n (lv' := [(2, .int x2), (0, .ref a0), (1, .int y1), (3, .int y3)]) hx hb dX4_total_16 rfl hl (by decide) rfl (fun ls hl => ?_)
        obtain ⟨x3, e_x3⟩ : ∃ y : Int32, y = y3 + (1 : Int32) := ⟨_, rfl⟩
        refine lv_iinc (v := x3) (lv' := [(3, .int x3), (2, .int x2), (0, .ref a0), (1, .int y1)]) hx hb dX4_total_17 hl (k := 3) rfl (by rw [e_x3]; rfl) (by decide) rfl (fun ls hl => ?_)
        replace hf := qf_let_e e_x3 hf
        refine lv_goto (tgt := 4) hx hb dX4_total_20 (by decide) ?_
        exact ih hf (lv_sub hl [2, 3, 1, 0] rfl)
  unfold f_X4_total at hf
  refine lv_iconst (v := 0) hx hb dX4_total_0 (by decide) ?_
  refine lv_istore_n (lv' := [(2, .int (0 : Int32)), (0, .ref a0), (1, .int p1)]) hx hb dX4_total_1 rfl hl (by decide) rfl (fun ls hl => ?_)
  refine lv_iconst (v := 0) hx hb dX4_total_2 (by decide) ?_
  refine lv_istore_n (lv' := [(3, .int (0 : Int32)), (2, .int (0 : Int32)), (0, .ref a0), (1, .int p1)]) hx hb dX4_total_3 rfl hl (by decide) rfl (fun ls hl => ?_)
  exact L_4 hf (lv_sub hl [2, 3, 1, 0] rfl)
theorem kd_X5_purse : yX5_purse.cls ≠ "java/lang/invoke/MethodHandle" ∧ yX5_purse.cls ≠ "java/lang/invoke/VarHandle" ∧ (parseMethodDescriptor yX5_purse.desc).map (fun d => d.parameters.length) = some 2 := by decide +kernel
def f_X5_purse (p1 : Int32) (p2 : Int32) : Option (Int32) :=
  some ((((p1 * (4 : Int32)) + p2) * (5 : Int32)))
abbrev wz_X5_purse : List Cond := Cond.code yX5_purse cX5_purse 2 (some .int) :: qw_big
def rm_X5_purse : Room := { frames := 0, cells := 0, slots := 0, locals := 0 }
set_option maxHeartbeats 4000000 in
set_option maxRecDepth 100000 in
theorem c_X5_purse (l : Launch) {D : va_G} {cy : Nat → ClassId} {ws : va_W} {p1 : Int32} {p2 : Int32} {rv : Int32} {sz : Nat} (hf : f_X5_purse p1 p2 = some (rv)) : Met l yX5_purse wz_X5_purse rm_X5_purse (va_Pc [.int p1, .int p2] (qw_Pre D cy ws sz)) (qw_R (some (.int rv))) 0 0 (fun _ => False) := by
  refine qw_of (cc := cX5_purse) (maxL := 2) (ret := (some .int)) (by decide) (Nat.le_of_ble_eq_true rfl) ?_
  intro p e s m args below meth c ls S0 hr hlocks hsz V hl
  have S0 : CallFix p m c cX5_purse 2 s args qw_big RX5 := S0
  have hx := S0.1; have hb := S0.2.1; have hown := S0.2.2.2.1; have hts := S0.2.2.2.2
  have hl : lv_has ls 2 [(0, .int p1), (1, .int p2)] := hl
  obtain ⟨Q9, hQ⟩ : ∃ q, q = MQ below (qw_R (some (.int rv))) args s 0 0 (fun _ => False) := ⟨_, rfl⟩
  rw [← hQ]
  generalize va_A ws sz = Z9 at V
  unfold f_X5_purse at hf
  refine lv_iload_n hx hb dX5_purse_0 rfl (lv_at hl 0 rfl) ?_
  refine lv_iconst (v := 4) hx hb dX5_purse_1 (by decide) ?_
  refine lv_imul hx hb dX5_purse_2 ?_
  refine lv_iload_n hx hb dX5_purse_3 rfl (lv_at hl 1 rfl) ?_
  refine lv_iadd hx hb dX5_purse_4 ?_
  refine lv_iconst (v := 5) hx hb dX5_purse_5 (by decide) ?_
  refine lv_imul hx hb dX5_purse_6 ?_
  have hE := Option.some.inj hf
  exact qw_iretR S0 hr hlocks hQ hE dX5_purse_7
theorem kd_X7_holding : yX7_holding.cls = RX7 ∧ yX7_holding.cls ≠ "java/lang/invoke/MethodHandle" ∧ yX7_holding.cls ≠ "java/lang/invoke/VarHandle" ∧ (parseMethodDescriptor yX7_holding.desc).map (fun d => d.parameters.length) = some 2 := by decide +kernel
def f_X7_holding (A : Nat → Nat → Int32) (p1 : Int32) (p2 : Int32) : Option (Int32) :=
  qf_bd (f_X5_purse p1 p2) fun r1 =>
  qf_bd (f_X4_total 120 (A 36) r1) fun r2 =>
  some (r2)
abbrev wz_X7_holding : List Cond := Cond.code yX7_holding cX7_holding 3 (some .int) :: qw_big
def rm_X7_holding : Room := { frames := 1, cells := 0, slots := 0, locals := 23 }
set_option maxHeartbeats 4000000 in
set_option maxRecDepth 100000 in
theorem c_X7_holding (l : Launch) {D : va_G} {cy : Nat → ClassId} {ad : Nat → Nat} {I : Nat → Int32} {A : Nat → Nat → Int32} {G : Nat → Int32 × (Nat → Nat → Int32)} {T : Nat} {p1 : Int32} {p2 : Int32} {rv : Int32} {sz : Nat} (hf : f_X7_holding A p1 p2 = some (rv)) : Met l yX7_holding wz_X7_holding rm_X7_holding (va_Pc [.ref (ad 0), .int p1, .int p2] (qw_Pre D cy (Wo cy ad I A G T) sz)) (qw_R (some (.int rv))) 0 0 (fun _ => False) := by
  refine qw_of (cc := cX7_holding) (maxL := 3) (ret := (some .int)) (by decide) (Nat.le_of_ble_eq_true rfl) ?_
  intro p e s m args below meth c ls S0 hr hlocks hsz V hl
  have S0 : CallFix p m c cX7_holding 3 s args qw_big RX7 := S0
  have hx := S0.1; have hb := S0.2.1; have hown := S0.2.2.2.1; have hts := S0.2.2.2.2
  have hl : lv_has ls 3 [(0, .ref (ad 0)), (1, .int p1), (2, .int p2)] := hl
  obtain ⟨Q9, hQ⟩ : ∃ q, q = MQ below (qw_R (some (.int rv))) args s 0 0 (fun _ => False) := ⟨_, rfl⟩
  rw [← hQ]
  generalize va_A (Wo cy ad I A G T) sz = Z9 at V
  unfold f_X7_holding at hf
  refine lv_aload_n hx hb dX7_holding_0 rfl (lv_at hl 0 rfl) ?_
  refine gfO_0_6 S0 V kl_X7_47 dX7_holding_1 ?_
  refine gfO_43_4 S0 V kl_X7_166 dX7_holding_4 ?_
  refine lv_iload_n hx hb dX7_holding_7 rfl (lv_at hl 1 rfl) ?_
  refine lv_iload_n hx hb dX7_holding_8 rfl (lv_at hl 2 rfl) ?_
  obtain ⟨r1, hc_9, hf⟩ := qf_bd_e hf
  refine qw_cSR (rest := [.ref (ad 47)]) (st1 := [.int r1, .ref (ad 47)]) S0 V hl (c_X5_purse l hc_9) kg_X7_169 rfl ⟨rfl, rfl⟩ kd_X5_purse ⟨Nat.le_of_ble_eq_true rfl, Nat.le_of_ble_eq_true rfl⟩ rfl rfl (Nat.le_of_ble_eq_true rfl) ⟨Nat.zero_le _, Nat.zero_le _⟩ rfl dX7_holding_9 ?_
  obtain ⟨r2, hc_12, hf⟩ := qf_bd_e hf
  refine qw_cSR (rest := []) (st1 := [.int r2]) S0 V hl (c_X4_total l (q0 := 47) gO_47 hc_12) kg_X7_179 rfl ⟨rfl, rfl⟩ kd_X4_total ⟨Nat.le_of_ble_eq_true rfl, Nat.le_of_ble_eq_true rfl⟩ rfl rfl (Nat.le_of_ble_eq_true rfl) ⟨Nat.zero_le _, Nat.zero_le _⟩ rfl dX7_holding_12 ?_
  have hE := Option.some.inj hf
  exact qw_iretR S0 hr hlocks hQ hE dX7_holding_15
theorem kd_X4_spend : yX4_spend.cls ≠ "java/lang/invoke/MethodHandle" ∧ yX4_spend.cls ≠ "java/lang/invoke/VarHandle" ∧ (parseMethodDescriptor yX4_spend.desc).map (fun d => d.parameters.length) = some 3 := by decide +kernel
def f_X4_spend_l5 (n0 : Nat)  (y1 : Int32) : Nat → (Nat → Int32) → Int32 → Int32 → Option ((Nat → Int32))
  | 0, _, _, _ => none
  | n + 1, f0, y3, y4 =>
  if (5 : Int32) ≤ y4 then (some (f0)) else (qf_ld n0 f0 (y1 + y4) fun x1 =>
    qf_let ((if x1 < y3 then x1 else y3)) fun x2 =>
    qf_ld n0 f0 (y1 + y4) fun x3 =>
    qf_st n0 (y1 + y4) fun i5 =>
    qf_let (upd f0 i5 (x3 - x2)) fun A4 =>
    qf_let ((y3 - x2)) fun x6 =>
    qf_let (y4 + (1 : Int32)) fun x7 =>
    f_X4_spend_l5 n0 y1 n A4 x6 x7)
def f_X4_spend (n0 : Nat) (f0 : Nat → Int32) (p1 : Int32) (p2 : Int32) : Option ((Nat → Int32)) :=
  f_X4_spend_l5 n0 p1 100000 f0 p2 (0 : Int32)
abbrev wz_X4_spend : List Cond := Cond.code yX4_spend cX4_spend 6 none :: qw_big
def rm_X4_spend : Room := { frames := 1, cells := 0, slots := 0, locals := 60 }
set_option maxHeartbeats 4000000 in
set_option maxRecDepth 100000 in
theorem c_X4_spend (l : Launch) {D : va_G} {cy : Nat → ClassId} {ws : va_W} {q0 a0 n0 : Nat} {f0 : Nat → Int32} (ha0 : ws[q0]? = some (a0, .inl (cy 0, n0, .inl f0))) {p1 : Int32} {p2 : Int32} {f09 : Nat → Int32} {ws9 : va_W} (hs : ws.set q0 (a0, .inl (cy 0, n0, .inl f09)) = ws9) {sz : Nat} (hf : f_X4_spend n0 f0 p1 p2 = some (f09)) : Met l yX4_spend wz_X4_spend rm_X4_spend (va_Pc [.ref a0, .int p1, .int p2] (qw_Pre D cy ws sz)) (qw_Q none D ws9 (va_A ws sz)) 0 0 (va_A ws sz) := by
  refine qw_of (cc := cX4_spend) (maxL := 6) (ret := none) (by decide) (Nat.le_of_ble_eq_true rfl) ?_
  intro p e s m args below meth c ls S0 hr hlocks hsz V hl
  have S0 : CallFix p m c cX4_spend 6 s args qw_big RX4 := S0
  have hx := S0.1; have hb := S0.2.1; have hown := S0.2.2.2.1; have hts := S0.2.2.2.2
  have hl : lv_has ls 6 [(0, .ref a0), (1, .int p1), (2, .int p2)] := hl
  generalize va_A ws sz = Z9 at V ⊢
  obtain ⟨Q9, hQ⟩ : ∃ q, q = MQ below (qw_Q none D ws9 Z9) args s 0 0 Z9 := ⟨_, rfl⟩
  rw [← hQ]
  have V := qw_V.toq ha0 V
  subst hs
  clear hsz
  have L_5 : ∀  {y1 : Int32} {n : Nat} {f0 : Nat → Int32} {y3 : Int32} {y4 : Int32} {H : Heap} {locs : List Loc} {ls : Array Slot}, f_X4_spend_l5 n0 y1 n f0 y3 y4 = some (f09) → qw_V D cy Z9 s (ws.set q0 (a0, .inl (cy 0, n0, .inl f0))) H locs → lv_has ls 6 [(0, .ref a0), (1, .int y1), (3, .int y3), (4, .int y4)] → W p l e rm_X4_spend s m args below meth c H locs 0 0 Q9 (F0 m 5 ls []) := by
    intro y1 n
    induction n with
    | zero => intro f0 y3 y4 H locs ls hf V hl; exact qf_no hf
    | succ n ih =>
      intro f0 y3 y4 H locs ls hf V hl
      rw [f_X4_spend_l5] at hf
      refine lv_iload hx hb dX4_spend_5 (lv_at hl 3 rfl) ?_
      refine lv_iconst (v := 5) hx hb dX4_spend_7 (by decide) ?_
      refine lv_icmp_ge (tgt := 45) hx hb dX4_spend_8 (by decide) (fun c_8 => ?_) (fun c_8 => ?_)
      · replace hf := qf_t c_8 hf
        have hE := Option.some.inj hf
        exact qw_vreti S0 hr hlocks hQ (by rw [hE]) V dX4_spend_45
      · replace hf := qf_f c_8 hf
        refine lv_iload_n hx hb dX4_spend_11 rfl (lv_at hl 2 rfl) ?_
        refine lv_aload_n hx hb dX4_spend_12 rfl (lv_at hl 0 rfl) ?_
        refine lv_iload_n hx hb dX4_spend_13 rfl (lv_at hl 1 rfl) ?_
        refine lv_iload hx hb dX4_spend_14 (lv_at hl 3 rfl) ?_
        refine lv_iadd hx hb dX4_spend_16 ?_
        have h_17 := qf_ld_in hf
        refine qw_ild S0 V q0 (qw_gq ha0) h_17 dX4_spend_17 ?_
        refine lv_topi (fun x1 e_x1 => ?_)
        replace hf := qf_ld_e e_x1 hf
        refine qw_min S0 hl.1 kml_X4_9 (Nat.le_of_ble_eq_true rfl) (Nat.le_of_ble_eq_true rfl) (Nat.zero_le _) (Nat.zero_le _) dX4_spend_18 ?_
        refine lv_topi (fun x2 e_x2 => ?_)
        replace hf := qf_let_e e_x2 hf
        refine lv_istore (lv' := [(5, .int x2), (0, .ref a0), (1, .int y1), (3, .int y3), (4, .int y4)]) hx hb dX4_spend_21 hl (by decide) rfl (fun ls hl => ?_)
        refine lv_aload_n hx hb dX4_spend_23 rfl (lv_at hl 1 rfl) ?_
        refine lv_iload_n hx hb dX4_spend_24 rfl (lv_at hl 2 rfl) ?_
        refine lv_iload hx hb dX4_spend_25 (lv_at hl 4 rfl) ?_
        refine lv_iadd hx hb dX4_spend_27 ?_
        refine lv_dup2_11 hx hb dX4_spend_28 rfl rfl ?_
        have h_29 := qf_ld_in hf
        refine qw_ild S0 V q0 (qw_gq ha0) h_29 dX4_spend_29 ?_
        refine lv_topi (fun x3 e_x3 => ?_)
        replace hf := qf_ld_e e_x3 hf
        refine lv_iload hx hb dX4_spend_30 (lv_at hl 0 rfl) ?_
        refine lv_isub hx hb dX4_spend_32 ?_
        have h_33 := qf_st_in hf
        replace hf := qf_st_e hf
        refine qw_istq S0 V q0 ha0 h_33 dX4_spend_33 (fun H locs A4 e_A4 V => ?_)
        replace hf := qf_let_e e_A4 hf
        refine lv_iload_n hx hb dX4_spend_34 rfl (lv_at hl 3 rfl) ?_
        refine lv_iload hx hb dX4_spend_35 (lv_at hl 0 rfl) ?_
        refine lv_isub hx hb dX4_spend_37 ?_
        refine lv_topi (fun x6 e_x6 => ?_)
        replace hf := qf_let_e e_x6 hf
        refine lv_istore_n (lv' := [(3, .int x6), (5, .int x2), (0, .ref a0), (1, .int y1), (4, .int y4)]) hx hb dX4_spend_38 rfl hl (by decide) rfl (fun ls hl => ?_)
        obtain ⟨x7, e_x7⟩ : ∃ y : Int32, y = y4 + (1 : Int32) := ⟨_, rfl⟩
        refine lv_iinc (v := x7) (lv' := [(4, .int x7), (3, .int x6), (5, .int x2), (0, .ref a0), (1, .int y1)]) hx hb dX4_spend_39 hl (k := 4) rfl (by rw [e_x7]; rfl) (by decide) rfl (fun ls hl => ?_)
        replace hf := qf_let_e e_x7 hf
        refine lv_goto (tgt := 5) hx hb dX4_spend_42 (by decide) ?_
        exact ih hf V (lv_sub hl [3, 4, 1, 0] rfl)
  unfold f_X4_spend at hf
  refine lv_iload_n hx hb dX4_spend_0 rfl (lv_at hl 2 rfl) ?_
  refine lv_istore_n (lv' := [(3, .int p2), (0, .ref a0), (1, .int p1), (2, .int p2)]) hx hb dX4_spend_1 rfl hl (by decide) rfl (fun ls hl => ?_)
  refine lv_iconst (v := 0) hx hb dX4_spend_2 (by decide) ?_
  refine lv_istore (lv' := [(4, .int (0 : Int32)), (3, .int p2), (0, .ref a0), (1, .int p1), (2, .int p2)]) hx hb dX4_spend_3 hl (by decide) rfl (fun ls hl => ?_)
  exact L_5 hf V (lv_sub hl [2, 3, 1, 0] rfl)
theorem kd_X8_at : yX8_at.cls ≠ "java/lang/invoke/MethodHandle" ∧ yX8_at.cls ≠ "java/lang/invoke/VarHandle" ∧ (parseMethodDescriptor yX8_at.desc).map (fun d => d.parameters.length) = some 2 := by decide +kernel
def f_X8_at (p1 : Int32) (p2 : Int32) : Option (Int32) :=
  some (((13 : Int32) + ((5 : Int32) * (((4 : Int32) * p1) + p2))))
abbrev wz_X8_at : List Cond := Cond.code yX8_at cX8_at 2 (some .int) :: qw_big
def rm_X8_at : Room := { frames := 0, cells := 0, slots := 0, locals := 0 }
set_option maxHeartbeats 4000000 in
set_option maxRecDepth 100000 in
theorem c_X8_at (l : Launch) {D : va_G} {cy : Nat → ClassId} {ws : va_W} {p1 : Int32} {p2 : Int32} {rv : Int32} {sz : Nat} (hf : f_X8_at p1 p2 = some (rv)) : Met l yX8_at wz_X8_at rm_X8_at (va_Pc [.int p1, .int p2] (qw_Pre D cy ws sz)) (qw_R (some (.int rv))) 0 0 (fun _ => False) := by
  refine qw_of (cc := cX8_at) (maxL := 2) (ret := (some .int)) (by decide) (Nat.le_of_ble_eq_true rfl) ?_
  intro p e s m args below meth c ls S0 hr hlocks hsz V hl
  have S0 : CallFix p m c cX8_at 2 s args qw_big RX8 := S0
  have hx := S0.1; have hb := S0.2.1; have hown := S0.2.2.2.1; have hts := S0.2.2.2.2
  have hl : lv_has ls 2 [(0, .int p1), (1, .int p2)] := hl
  obtain ⟨Q9, hQ⟩ : ∃ q, q = MQ below (qw_R (some (.int rv))) args s 0 0 (fun _ => False) := ⟨_, rfl⟩
  rw [← hQ]
  generalize va_A ws sz = Z9 at V
  unfold f_X8_at at hf
  refine lv_bipush (v := 13) hx hb dX8_at_0 (by decide) ?_
  refine lv_iconst (v := 5) hx hb dX8_at_2 (by decide) ?_
  refine lv_iconst (v := 4) hx hb dX8_at_3 (by decide) ?_
  refine lv_iload_n hx hb dX8_at_4 rfl (lv_at hl 0 rfl) ?_
  refine lv_imul hx hb dX8_at_5 ?_
  refine lv_iload_n hx hb dX8_at_6 rfl (lv_at hl 1 rfl) ?_
  refine lv_iadd hx hb dX8_at_7 ?_
  refine lv_imul hx hb dX8_at_8 ?_
  refine lv_iadd hx hb dX8_at_9 ?_
  have hE := Option.some.inj hf
  exact qw_iretR S0 hr hlocks hQ hE dX8_at_10
theorem kd_X8_couponsOf : yX8_couponsOf.cls = RX8 ∧ yX8_couponsOf.cls ≠ "java/lang/invoke/MethodHandle" ∧ yX8_couponsOf.cls ≠ "java/lang/invoke/VarHandle" ∧ (parseMethodDescriptor yX8_couponsOf.desc).map (fun d => d.parameters.length) = some 2 := by decide +kernel
def f_X8_couponsOf_l5 (A : Nat → Nat → Int32)  (y1 : Int32) (y2 : Int32) : Nat → Int32 → Int32 → Option (Int32)
  | 0, _, _ => none
  | n + 1, y3, y4 =>
  if (5 : Int32) ≤ y4 then (some (y3)) else (qf_bd (f_X8_at y1 y2) fun r1 =>
    qf_ld 250 (A 0) (r1 + y4) fun x2 =>
    qf_let ((y3 + x2)) fun x3 =>
    qf_let (y4 + (1 : Int32)) fun x4 =>
    f_X8_couponsOf_l5 A y1 y2 n x3 x4)
def f_X8_couponsOf (A : Nat → Nat → Int32) (p1 : Int32) (p2 : Int32) : Option (Int32) :=
  f_X8_couponsOf_l5 A p1 p2 100000 (0 : Int32) (0 : Int32)
abbrev wz_X8_couponsOf : List Cond := Cond.code yX8_couponsOf cX8_couponsOf 5 (some .int) :: qw_big
def rm_X8_couponsOf : Room := { frames := 1, cells := 0, slots := 0, locals := 21 }
set_option maxHeartbeats 4000000 in
set_option maxRecDepth 100000 in
theorem c_X8_couponsOf (l : Launch) {D : va_G} {cy : Nat → ClassId} {ad : Nat → Nat} {I : Nat → Int32} {A : Nat → Nat → Int32} {w : Int64} {p1 : Int32} {p2 : Int32} {rv : Int32} {sz : Nat} (hf : f_X8_couponsOf A p1 p2 = some (rv)) : Met l yX8_couponsOf wz_X8_couponsOf rm_X8_couponsOf (va_Pc [.ref (ad 0), .int p1, .int p2] (qw_Pre D cy (Wm cy ad I A w) sz)) (qw_R (some (.int rv))) 0 0 (fun _ => False) := by
  refine qw_of (cc := cX8_couponsOf) (maxL := 5) (ret := (some .int)) (by decide) (Nat.le_of_ble_eq_true rfl) ?_
  intro p e s m args below meth c ls S0 hr hlocks hsz V hl
  have S0 : CallFix p m c cX8_couponsOf 5 s args qw_big RX8 := S0
  have hx := S0.1; have hb := S0.2.1; have hown := S0.2.2.2.1; have hts := S0.2.2.2.2
  have hl : lv_has ls 5 [(0, .ref (ad 0)), (1, .int p1), (2, .int p2)] := hl
  obtain ⟨Q9, hQ⟩ : ∃ q, q = MQ below (qw_R (some (.int rv))) args s 0 0 (fun _ => False) := ⟨_, rfl⟩
  rw [← hQ]
  generalize va_A (Wm cy ad I A w) sz = Z9 at V
  have L_5 : ∀  {y1 : Int32} {y2 : Int32} {n : Nat}  {y3 : Int32} {y4 : Int32} {ls : Array Slot}, f_X8_couponsOf_l5 A y1 y2 n y3 y4 = some (rv) → lv_has ls 5 [(0, .ref (ad 0)), (1, .int y1), (2, .int y2), (3, .int y3), (4, .int y4)] → W p l e rm_X8_couponsOf s m args below meth c s.heap [] 0 0 Q9 (F0 m 5 ls []) := by
    intro y1 y2 n
    induction n with
    | zero => intro y3 y4 ls hf hl; exact qf_no hf
    | succ n ih =>
      intro y3 y4 ls hf hl
      rw [f_X8_couponsOf_l5] at hf
      refine lv_iload hx hb dX8_couponsOf_5 (lv_at hl 4 rfl) ?_
      refine lv_iconst (v := 5) hx hb dX8_couponsOf_7 (by decide) ?_
      refine lv_icmp_ge (tgt := 33) hx hb dX8_couponsOf_8 (by decide) (fun c_8 => ?_) (fun c_8 => ?_)
      · replace hf := qf_t c_8 hf
        refine lv_iload_n hx hb dX8_couponsOf_33 rfl (lv_at hl 3 rfl) ?_
        have hE := Option.some.inj hf
        exact qw_iretR S0 hr hlocks hQ hE dX8_couponsOf_34
      · replace hf := qf_f c_8 hf
        refine lv_iload_n hx hb dX8_couponsOf_11 rfl (lv_at hl 3 rfl) ?_
        refine lv_aload_n hx hb dX8_couponsOf_12 rfl (lv_at hl 0 rfl) ?_
        refine gfM_0_0 S0 V kl_X8_7 dX8_couponsOf_13 ?_
        refine lv_iload_n hx hb dX8_couponsOf_16 rfl (lv_at hl 1 rfl) ?_
        refine lv_iload_n hx hb dX8_couponsOf_17 rfl (lv_at hl 2 rfl) ?_
        obtain ⟨r1, hc_18, hf⟩ := qf_bd_e hf
        refine qw_cSR (rest := [.ref (ad 1), .int y3]) (st1 := [.int r1, .ref (ad 1), .int y3]) S0 V hl (c_X8_at l hc_18) kg_X8_211 rfl ⟨rfl, rfl⟩ kd_X8_at ⟨Nat.le_of_ble_eq_true rfl, Nat.le_of_ble_eq_true rfl⟩ rfl rfl (Nat.le_of_ble_eq_true rfl) ⟨Nat.zero_le _, Nat.zero_le _⟩ rfl dX8_couponsOf_18 ?_
        refine lv_iload hx hb dX8_couponsOf_21 (lv_at hl 4 rfl) ?_
        refine lv_iadd hx hb dX8_couponsOf_23 ?_
        have h_24 := qf_ld_in hf
        refine alM_1 S0 V h_24 dX8_couponsOf_24 ?_
        refine lv_topi (fun x2 e_x2 => ?_)
        replace hf := qf_ld_e e_x2 hf
        refine lv_iadd hx hb dX8_couponsOf_25 ?_
        refine lv_topi (fun x3 e_x3 => ?_)
        replace hf := qf_let_e e_x3 hf
        refine lv_istore_n (lv' := [(3, .int x3), (0, .ref (ad 0)), (1, .int y1), (2, .int y2), (4, .int y4)]) hx hb dX8_couponsOf_26 rfl hl (by decide) rfl (fun ls hl => ?_)
        obtain ⟨x4, e_x4⟩ : ∃ y : Int32, y = y4 + (1 : Int32) := ⟨_, rfl⟩
        refine lv_iinc (v := x4) (lv' := [(4, .int x4), (3, .int x3), (0, .ref (ad 0)), (1, .int y1), (2, .int y2)]) hx hb dX8_couponsOf_27 hl (k := 4) rfl (by rw [e_x4]; rfl) (by decide) rfl (fun ls hl => ?_)
        replace hf := qf_let_e e_x4 hf
        refine lv_goto (tgt := 5) hx hb dX8_couponsOf_30 (by decide) ?_
        exact ih hf (lv_sub hl [2, 3, 4, 1, 0] rfl)
  unfold f_X8_couponsOf at hf
  refine lv_iconst (v := 0) hx hb dX8_couponsOf_0 (by decide) ?_
  refine lv_istore_n (lv' := [(3, .int (0 : Int32)), (0, .ref (ad 0)), (1, .int p1), (2, .int p2)]) hx hb dX8_couponsOf_1 rfl hl (by decide) rfl (fun ls hl => ?_)
  refine lv_iconst (v := 0) hx hb dX8_couponsOf_2 (by decide) ?_
  refine lv_istore (lv' := [(4, .int (0 : Int32)), (3, .int (0 : Int32)), (0, .ref (ad 0)), (1, .int p1), (2, .int p2)]) hx hb dX8_couponsOf_3 hl (by decide) rfl (fun ls hl => ?_)
  exact L_5 hf (lv_sub hl [2, 3, 4, 1, 0] rfl)
