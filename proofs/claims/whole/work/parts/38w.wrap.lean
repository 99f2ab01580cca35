abbrev wz_L_groupProperty : List Cond := Cond.codeWith yL_groupProperty cL_groupProperty 5 (some .int) [(0, 10, 13, 13)] :: qw_big
def rm_L_groupProperty : Room := { frames := 8, cells := 1, slots := 6, locals := 124 }
set_option maxHeartbeats 4000000 in
set_option maxRecDepth 100000 in
theorem c_L_groupProperty (l : Launch) (hst : l.stackTraces = false) {D : va_G} {cy : Nat → ClassId} {ad : Nat → Nat} {I : Nat → Int32} {A : Nat → Nat → Int32} {G : Nat → Int32 × (Nat → Nat → Int32)} {T : Nat} {p1 : Int32} {p2 : Int32} {ao : Nat} {o : Nat → Int64} {ro : (Option (Int32))} {sz : Nat} (hf : f_X7_groupProperty I A p1 p2 = some ro) : vx_Met l yL_groupProperty wz_L_groupProperty rm_L_groupProperty (va_Pc [.ref (ad 0), .int p1, .int p2, .ref ao] (qw_Pre D cy ((Wo cy ad I A G T) ++ [qd_L cy ao o]) sz)) (qd_Q ro ((Wo cy ad I A G T) ++ [qd_L cy ao o]) (fun v9 => (Wo cy ad I A G T) ++ [qd_L cy ao (vp_updL o 0 (v9).toInt64)]) D (va_A ((Wo cy ad I A G T) ++ [qd_L cy ao o]) sz)) qd_X 1 6 (va_A ((Wo cy ad I A G T) ++ [qd_L cy ao o]) sz) := by
  refine qd_of (cc := cL_groupProperty) (maxL := 5) (ret := some .int) (hh := [(0, 10, 13, 13)]) (by decide) (Nat.le_of_ble_eq_true rfl) ?_
  intro p e s m args below meth c ls S0 hr hlocks htab hsz V hl
  have S0 : CallFix p m c cL_groupProperty 5 s args qw_big RL := S0
  have hx := S0.1; have hb := S0.2.1
  have hl : lv_has ls 5 [(0, .ref (ad 0)), (1, .int p1), (2, .int p2), (3, .ref ao)] := hl
  generalize va_A ((Wo cy ad I A G T) ++ [qd_L cy ao o]) sz = Z9 at V ⊢
  clear hsz
  have htab : c.exceptionTable.toList = [⟨0, 10, 13, 13⟩] := htab
  refine lv_aload_n hx hb dL_groupProperty_0 rfl (lv_at hl 3 rfl) ?_
  refine lv_iconst (v := 0) hx hb dL_groupProperty_1 (by decide) ?_
  refine lv_aload_n hx hb dL_groupProperty_2 rfl (lv_at hl 0 rfl) ?_
  refine lv_iload_n hx hb dL_groupProperty_3 rfl (lv_at hl 1 rfl) ?_
  refine lv_iload_n hx hb dL_groupProperty_4 rfl (lv_at hl 2 rfl) ?_
  refine qd_cX (rest := [.int 0, .ref ao]) (wc := (Wo cy ad I A G T)) (wr := [qd_L cy ao o]) S0 V hl 0 gO_0 rfl (c_X7_groupProperty l hst hf) kg_L_7 rfl ⟨rfl, rfl⟩ kd_X7_groupProperty ⟨(Nat.le_of_ble_eq_true rfl), (Nat.le_of_ble_eq_true rfl)⟩ rfl rfl (Nat.le_of_ble_eq_true rfl) ⟨(Nat.le_of_ble_eq_true rfl), (Nat.le_of_ble_eq_true rfl)⟩ dL_groupProperty_5 htab (by decide) rfl (fun v9 H locs hro V => ?_) (fun q9 H locs hro V => ?_)
  · refine W.eq (g2 := F0 m 8 ls [.int v9, .int 0, .ref ao]) rfl ?_
    refine lv_i2l hx hb dL_groupProperty_8 rfl ?_
    refine qd_last S0 V rfl dL_groupProperty_9 (fun H locs V => ?_)
    refine lv_goto (tgt := 17) hx hb dL_groupProperty_10 (by decide) ?_
    refine lv_iconst (v := 0) hx hb dL_groupProperty_17 (by decide) ?_
    exact qd_ret1 S0 hr hlocks rfl hro V dL_groupProperty_18
  · refine lv_astore (lv' := [(4, .ref q9), (0, .ref (ad 0)), (1, .int p1), (2, .int p2), (3, .ref ao)]) hx hb dL_groupProperty_13 hl (by decide) rfl (fun ls hl => ?_)
    refine lv_iconst (v := 1) hx hb dL_groupProperty_15 (by decide) ?_
    exact qd_ret0 S0 hr hlocks rfl hro V dL_groupProperty_16
abbrev wz_L_goodProperty : List Cond := Cond.codeWith yL_goodProperty cL_goodProperty 5 (some .int) [(0, 10, 13, 13)] :: qw_big
def rm_L_goodProperty : Room := { frames := 8, cells := 1, slots := 6, locals := 124 }
set_option maxHeartbeats 4000000 in
set_option maxRecDepth 100000 in
theorem c_L_goodProperty (l : Launch) (hst : l.stackTraces = false) {D : va_G} {cy : Nat → ClassId} {ad : Nat → Nat} {I : Nat → Int32} {A : Nat → Nat → Int32} {G : Nat → Int32 × (Nat → Nat → Int32)} {T : Nat} {p1 : Int32} {p2 : Int32} {ao : Nat} {o : Nat → Int64} {ro : (Option (Int32))} {sz : Nat} (hf : f_X7_goodProperty I A p1 p2 = some ro) : vx_Met l yL_goodProperty wz_L_goodProperty rm_L_goodProperty (va_Pc [.ref (ad 0), .int p1, .int p2, .ref ao] (qw_Pre D cy ((Wo cy ad I A G T) ++ [qd_L cy ao o]) sz)) (qd_Q ro ((Wo cy ad I A G T) ++ [qd_L cy ao o]) (fun v9 => (Wo cy ad I A G T) ++ [qd_L cy ao (vp_updL o 0 (v9).toInt64)]) D (va_A ((Wo cy ad I A G T) ++ [qd_L cy ao o]) sz)) qd_X 1 6 (va_A ((Wo cy ad I A G T) ++ [qd_L cy ao o]) sz) := by
  refine qd_of (cc := cL_goodProperty) (maxL := 5) (ret := some .int) (hh := [(0, 10, 13, 13)]) (by decide) (Nat.le_of_ble_eq_true rfl) ?_
  intro p e s m args below meth c ls S0 hr hlocks htab hsz V hl
  have S0 : CallFix p m c cL_goodProperty 5 s args qw_big RL := S0
  have hx := S0.1; have hb := S0.2.1
  have hl : lv_has ls 5 [(0, .ref (ad 0)), (1, .int p1), (2, .int p2), (3, .ref ao)] := hl
  generalize va_A ((Wo cy ad I A G T) ++ [qd_L cy ao o]) sz = Z9 at V ⊢
  clear hsz
  have htab : c.exceptionTable.toList = [⟨0, 10, 13, 13⟩] := htab
  refine lv_aload_n hx hb dL_goodProperty_0 rfl (lv_at hl 3 rfl) ?_
  refine lv_iconst (v := 0) hx hb dL_goodProperty_1 (by decide) ?_
  refine lv_aload_n hx hb dL_goodProperty_2 rfl (lv_at hl 0 rfl) ?_
  refine lv_iload_n hx hb dL_goodProperty_3 rfl (lv_at hl 1 rfl) ?_
  refine lv_iload_n hx hb dL_goodProperty_4 rfl (lv_at hl 2 rfl) ?_
  refine qd_cX (rest := [.int 0, .ref ao]) (wc := (Wo cy ad I A G T)) (wr := [qd_L cy ao o]) S0 V hl 0 gO_0 rfl (c_X7_goodProperty l hst hf) kg_L_15 rfl ⟨rfl, rfl⟩ kd_X7_goodProperty ⟨(Nat.le_of_ble_eq_true rfl), (Nat.le_of_ble_eq_true rfl)⟩ rfl rfl (Nat.le_of_ble_eq_true rfl) ⟨(Nat.le_of_ble_eq_true rfl), (Nat.le_of_ble_eq_true rfl)⟩ dL_goodProperty_5 htab (by decide) rfl (fun v9 H locs hro V => ?_) (fun q9 H locs hro V => ?_)
  · refine W.eq (g2 := F0 m 8 ls [.int v9, .int 0, .ref ao]) rfl ?_
    refine lv_i2l hx hb dL_goodProperty_8 rfl ?_
    refine qd_last S0 V rfl dL_goodProperty_9 (fun H locs V => ?_)
    refine lv_goto (tgt := 17) hx hb dL_goodProperty_10 (by decide) ?_
    refine lv_iconst (v := 0) hx hb dL_goodProperty_17 (by decide) ?_
    exact qd_ret1 S0 hr hlocks rfl hro V dL_goodProperty_18
  · refine lv_astore (lv' := [(4, .ref q9), (0, .ref (ad 0)), (1, .int p1), (2, .int p2), (3, .ref ao)]) hx hb dL_goodProperty_13 hl (by decide) rfl (fun ls hl => ?_)
    refine lv_iconst (v := 1) hx hb dL_goodProperty_15 (by decide) ?_
    exact qd_ret0 S0 hr hlocks rfl hro V dL_goodProperty_16
abbrev wz_L_sizeOf : List Cond := Cond.codeWith yL_sizeOf cL_sizeOf 4 (some .int) [(0, 9, 12, 13)] :: qw_big
def rm_L_sizeOf : Room := { frames := 8, cells := 1, slots := 6, locals := 123 }
set_option maxHeartbeats 4000000 in
set_option maxRecDepth 100000 in
theorem c_L_sizeOf (l : Launch) (hst : l.stackTraces = false) {D : va_G} {cy : Nat → ClassId} {ad : Nat → Nat} {I : Nat → Int32} {A : Nat → Nat → Int32} {G : Nat → Int32 × (Nat → Nat → Int32)} {T : Nat} {p1 : Int32} {ao : Nat} {o : Nat → Int64} {ro : (Option (Int32))} {sz : Nat} (hf : f_X7_sizeOf I A p1 = some ro) : vx_Met l yL_sizeOf wz_L_sizeOf rm_L_sizeOf (va_Pc [.ref (ad 0), .int p1, .ref ao] (qw_Pre D cy ((Wo cy ad I A G T) ++ [qd_L cy ao o]) sz)) (qd_Q ro ((Wo cy ad I A G T) ++ [qd_L cy ao o]) (fun v9 => (Wo cy ad I A G T) ++ [qd_L cy ao (vp_updL o 0 (v9).toInt64)]) D (va_A ((Wo cy ad I A G T) ++ [qd_L cy ao o]) sz)) qd_X 1 6 (va_A ((Wo cy ad I A G T) ++ [qd_L cy ao o]) sz) := by
  refine qd_of (cc := cL_sizeOf) (maxL := 4) (ret := some .int) (hh := [(0, 9, 12, 13)]) (by decide) (Nat.le_of_ble_eq_true rfl) ?_
  intro p e s m args below meth c ls S0 hr hlocks htab hsz V hl
  have S0 : CallFix p m c cL_sizeOf 4 s args qw_big RL := S0
  have hx := S0.1; have hb := S0.2.1
  have hl : lv_has ls 4 [(0, .ref (ad 0)), (1, .int p1), (2, .ref ao)] := hl
  generalize va_A ((Wo cy ad I A G T) ++ [qd_L cy ao o]) sz = Z9 at V ⊢
  clear hsz
  have htab : c.exceptionTable.toList = [⟨0, 9, 12, 13⟩] := htab
  refine lv_aload_n hx hb dL_sizeOf_0 rfl (lv_at hl 2 rfl) ?_
  refine lv_iconst (v := 0) hx hb dL_sizeOf_1 (by decide) ?_
  refine lv_aload_n hx hb dL_sizeOf_2 rfl (lv_at hl 0 rfl) ?_
  refine lv_iload_n hx hb dL_sizeOf_3 rfl (lv_at hl 1 rfl) ?_
  refine qd_cX (rest := [.int 0, .ref ao]) (wc := (Wo cy ad I A G T)) (wr := [qd_L cy ao o]) S0 V hl 0 gO_0 rfl (c_X7_sizeOf l hst hf) kg_L_18 rfl ⟨rfl, rfl⟩ kd_X7_sizeOf ⟨(Nat.le_of_ble_eq_true rfl), (Nat.le_of_ble_eq_true rfl)⟩ rfl rfl (Nat.le_of_ble_eq_true rfl) ⟨(Nat.le_of_ble_eq_true rfl), (Nat.le_of_ble_eq_true rfl)⟩ dL_sizeOf_4 htab (by decide) rfl (fun v9 H locs hro V => ?_) (fun q9 H locs hro V => ?_)
  · refine W.eq (g2 := F0 m 7 ls [.int v9, .int 0, .ref ao]) rfl ?_
    refine lv_i2l hx hb dL_sizeOf_7 rfl ?_
    refine qd_last S0 V rfl dL_sizeOf_8 (fun H locs V => ?_)
    refine lv_goto (tgt := 15) hx hb dL_sizeOf_9 (by decide) ?_
    refine lv_iconst (v := 0) hx hb dL_sizeOf_15 (by decide) ?_
    exact qd_ret1 S0 hr hlocks rfl hro V dL_sizeOf_16
  · refine lv_astore_n (lv' := [(3, .ref q9), (0, .ref (ad 0)), (1, .int p1), (2, .ref ao)]) hx hb dL_sizeOf_12 rfl hl (by decide) rfl (fun ls hl => ?_)
    refine lv_iconst (v := 1) hx hb dL_sizeOf_13 (by decide) ?_
    exact qd_ret0 S0 hr hlocks rfl hro V dL_sizeOf_14
abbrev wz_L_coupons : List Cond := Cond.codeWith yL_coupons cL_coupons 5 (some .int) [(0, 10, 13, 13)] :: qw_big
def rm_L_coupons : Room := { frames := 8, cells := 1, slots := 6, locals := 124 }
set_option maxHeartbeats 4000000 in
set_option maxRecDepth 100000 in
theorem c_L_coupons (l : Launch) (hst : l.stackTraces = false) {D : va_G} {cy : Nat → ClassId} {ad : Nat → Nat} {I : Nat → Int32} {A : Nat → Nat → Int32} {G : Nat → Int32 × (Nat → Nat → Int32)} {T : Nat} {p1 : Int32} {p2 : Int32} {ao : Nat} {o : Nat → Int64} {ro : (Option (Int32))} {sz : Nat} (hf : f_X7_coupons I A p1 p2 = some ro) : vx_Met l yL_coupons wz_L_coupons rm_L_coupons (va_Pc [.ref (ad 0), .int p1, .int p2, .ref ao] (qw_Pre D cy ((Wo cy ad I A G T) ++ [qd_L cy ao o]) sz)) (qd_Q ro ((Wo cy ad I A G T) ++ [qd_L cy ao o]) (fun v9 => (Wo cy ad I A G T) ++ [qd_L cy ao (vp_updL o 0 (v9).toInt64)]) D (va_A ((Wo cy ad I A G T) ++ [qd_L cy ao o]) sz)) qd_X 1 6 (va_A ((Wo cy ad I A G T) ++ [qd_L cy ao o]) sz) := by
  refine qd_of (cc := cL_coupons) (maxL := 5) (ret := some .int) (hh := [(0, 10, 13, 13)]) (by decide) (Nat.le_of_ble_eq_true rfl) ?_
  intro p e s m args below meth c ls S0 hr hlocks htab hsz V hl
  have S0 : CallFix p m c cL_coupons 5 s args qw_big RL := S0
  have hx := S0.1; have hb := S0.2.1
  have hl : lv_has ls 5 [(0, .ref (ad 0)), (1, .int p1), (2, .int p2), (3, .ref ao)] := hl
  generalize va_A ((Wo cy ad I A G T) ++ [qd_L cy ao o]) sz = Z9 at V ⊢
  clear hsz
  have htab : c.exceptionTable.toList = [⟨0, 10, 13, 13⟩] := htab
  refine lv_aload_n hx hb dL_coupons_0 rfl (lv_at hl 3 rfl) ?_
  refine lv_iconst (v := 0) hx hb dL_coupons_1 (by decide) ?_
  refine lv_aload_n hx hb dL_coupons_2 rfl (lv_at hl 0 rfl) ?_
  refine lv_iload_n hx hb dL_coupons_3 rfl (lv_at hl 1 rfl) ?_
  refine lv_iload_n hx hb dL_coupons_4 rfl (lv_at hl 2 rfl) ?_
  refine qd_cX (rest := [.int 0, .ref ao]) (wc := (Wo cy ad I A G T)) (wr := [qd_L cy ao o]) S0 V hl 0 gO_0 rfl (c_X7_coupons l hst hf) kg_L_22 rfl ⟨rfl, rfl⟩ kd_X7_coupons ⟨(Nat.le_of_ble_eq_true rfl), (Nat.le_of_ble_eq_true rfl)⟩ rfl rfl (Nat.le_of_ble_eq_true rfl) ⟨(Nat.le_of_ble_eq_true rfl), (Nat.le_of_ble_eq_true rfl)⟩ dL_coupons_5 htab (by decide) rfl (fun v9 H locs hro V => ?_) (fun q9 H locs hro V => ?_)
  · refine W.eq (g2 := F0 m 8 ls [.int v9, .int 0, .ref ao]) rfl ?_
    refine lv_i2l hx hb dL_coupons_8 rfl ?_
    refine qd_last S0 V rfl dL_coupons_9 (fun H locs V => ?_)
    refine lv_goto (tgt := 17) hx hb dL_coupons_10 (by decide) ?_
    refine lv_iconst (v := 0) hx hb dL_coupons_17 (by decide) ?_
    exact qd_ret1 S0 hr hlocks rfl hro V dL_coupons_18
  · refine lv_astore (lv' := [(4, .ref q9), (0, .ref (ad 0)), (1, .int p1), (2, .int p2), (3, .ref ao)]) hx hb dL_coupons_13 hl (by decide) rfl (fun ls hl => ?_)
    refine lv_iconst (v := 1) hx hb dL_coupons_15 (by decide) ?_
    exact qd_ret0 S0 hr hlocks rfl hro V dL_coupons_16
abbrev wz_L_couponsWith : List Cond := Cond.codeWith yL_couponsWith cL_couponsWith 6 (some .int) [(0, 12, 15, 13)] :: qw_big
def rm_L_couponsWith : Room := { frames := 8, cells := 1, slots := 6, locals := 125 }
set_option maxHeartbeats 4000000 in
set_option maxRecDepth 100000 in
theorem c_L_couponsWith (l : Launch) (hst : l.stackTraces = false) {D : va_G} {cy : Nat → ClassId} {ad : Nat → Nat} {I : Nat → Int32} {A : Nat → Nat → Int32} {G : Nat → Int32 × (Nat → Nat → Int32)} {T : Nat} {p1 : Int32} {p2 : Int32} {p3 : Int32} {ao : Nat} {o : Nat → Int64} {ro : (Option (Int32))} {sz : Nat} (hf : f_X7_couponsWith I A p1 p2 p3 = some ro) : vx_Met l yL_couponsWith wz_L_couponsWith rm_L_couponsWith (va_Pc [.ref (ad 0), .int p1, .int p2, .int p3, .ref ao] (qw_Pre D cy ((Wo cy ad I A G T) ++ [qd_L cy ao o]) sz)) (qd_Q ro ((Wo cy ad I A G T) ++ [qd_L cy ao o]) (fun v9 => (Wo cy ad I A G T) ++ [qd_L cy ao (vp_updL o 0 (v9).toInt64)]) D (va_A ((Wo cy ad I A G T) ++ [qd_L cy ao o]) sz)) qd_X 1 6 (va_A ((Wo cy ad I A G T) ++ [qd_L cy ao o]) sz) := by
  refine qd_of (cc := cL_couponsWith) (maxL := 6) (ret := some .int) (hh := [(0, 12, 15, 13)]) (by decide) (Nat.le_of_ble_eq_true rfl) ?_
  intro p e s m args below meth c ls S0 hr hlocks htab hsz V hl
  have S0 : CallFix p m c cL_couponsWith 6 s args qw_big RL := S0
  have hx := S0.1; have hb := S0.2.1
  have hl : lv_has ls 6 [(0, .ref (ad 0)), (1, .int p1), (2, .int p2), (3, .int p3), (4, .ref ao)] := hl
  generalize va_A ((Wo cy ad I A G T) ++ [qd_L cy ao o]) sz = Z9 at V ⊢
  clear hsz
  have htab : c.exceptionTable.toList = [⟨0, 12, 15, 13⟩] := htab
  refine lv_aload hx hb dL_couponsWith_0 (lv_at hl 4 rfl) ?_
  refine lv_iconst (v := 0) hx hb dL_couponsWith_2 (by decide) ?_
  refine lv_aload_n hx hb dL_couponsWith_3 rfl (lv_at hl 0 rfl) ?_
  refine lv_iload_n hx hb dL_couponsWith_4 rfl (lv_at hl 1 rfl) ?_
  refine lv_iload_n hx hb dL_couponsWith_5 rfl (lv_at hl 2 rfl) ?_
  refine lv_iload_n hx hb dL_couponsWith_6 rfl (lv_at hl 3 rfl) ?_
  refine qd_cX (rest := [.int 0, .ref ao]) (wc := (Wo cy ad I A G T)) (wr := [qd_L cy ao o]) S0 V hl 0 gO_0 rfl (c_X7_couponsWith l hst hf) kg_L_25 rfl ⟨rfl, rfl⟩ kd_X7_couponsWith ⟨(Nat.le_of_ble_eq_true rfl), (Nat.le_of_ble_eq_true rfl)⟩ rfl rfl (Nat.le_of_ble_eq_true rfl) ⟨(Nat.le_of_ble_eq_true rfl), (Nat.le_of_ble_eq_true rfl)⟩ dL_couponsWith_7 htab (by decide) rfl (fun v9 H locs hro V => ?_) (fun q9 H locs hro V => ?_)
  · refine W.eq (g2 := F0 m 10 ls [.int v9, .int 0, .ref ao]) rfl ?_
    refine lv_i2l hx hb dL_couponsWith_10 rfl ?_
    refine qd_last S0 V rfl dL_couponsWith_11 (fun H locs V => ?_)
    refine lv_goto (tgt := 19) hx hb dL_couponsWith_12 (by decide) ?_
    refine lv_iconst (v := 0) hx hb dL_couponsWith_19 (by decide) ?_
    exact qd_ret1 S0 hr hlocks rfl hro V dL_couponsWith_20
  · refine lv_astore (lv' := [(5, .ref q9), (0, .ref (ad 0)), (1, .int p1), (2, .int p2), (3, .int p3), (4, .ref ao)]) hx hb dL_couponsWith_15 hl (by decide) rfl (fun ls hl => ?_)
    refine lv_iconst (v := 1) hx hb dL_couponsWith_17 (by decide) ?_
    exact qd_ret0 S0 hr hlocks rfl hro V dL_couponsWith_18
abbrev wz_L_lapsing : List Cond := Cond.codeWith yL_lapsing cL_lapsing 5 (some .int) [(0, 10, 13, 13)] :: qw_big
def rm_L_lapsing : Room := { frames := 8, cells := 1, slots := 6, locals := 124 }
set_option maxHeartbeats 4000000 in
set_option maxRecDepth 100000 in
theorem c_L_lapsing (l : Launch) (hst : l.stackTraces = false) {D : va_G} {cy : Nat → ClassId} {ad : Nat → Nat} {I : Nat → Int32} {A : Nat → Nat → Int32} {G : Nat → Int32 × (Nat → Nat → Int32)} {T : Nat} {p1 : Int32} {p2 : Int32} {ao : Nat} {o : Nat → Int64} {ro : (Option (Int32 × (Nat → Nat → Int32)))} {sz : Nat} (hf : f_X7_lapsing I A p1 p2 = some ro) : vx_Met l yL_lapsing wz_L_lapsing rm_L_lapsing (va_Pc [.ref (ad 0), .int p1, .int p2, .ref ao] (qw_Pre D cy ((Wo cy ad I A G T) ++ [qd_L cy ao o]) sz)) (qd_Q ro ((Wo cy ad I A G T) ++ [qd_L cy ao o]) (fun v9 => (Wo cy ad I v9.2 G T) ++ [qd_L cy ao (vp_updL o 0 (v9.1).toInt64)]) D (va_A ((Wo cy ad I A G T) ++ [qd_L cy ao o]) sz)) qd_X 1 6 (va_A ((Wo cy ad I A G T) ++ [qd_L cy ao o]) sz) := by
  refine qd_of (cc := cL_lapsing) (maxL := 5) (ret := some .int) (hh := [(0, 10, 13, 13)]) (by decide) (Nat.le_of_ble_eq_true rfl) ?_
  intro p e s m args below meth c ls S0 hr hlocks htab hsz V hl
  have S0 : CallFix p m c cL_lapsing 5 s args qw_big RL := S0
  have hx := S0.1; have hb := S0.2.1
  have hl : lv_has ls 5 [(0, .ref (ad 0)), (1, .int p1), (2, .int p2), (3, .ref ao)] := hl
  generalize va_A ((Wo cy ad I A G T) ++ [qd_L cy ao o]) sz = Z9 at V ⊢
  clear hsz
  have htab : c.exceptionTable.toList = [⟨0, 10, 13, 13⟩] := htab
  refine lv_aload_n hx hb dL_lapsing_0 rfl (lv_at hl 3 rfl) ?_
  refine lv_iconst (v := 0) hx hb dL_lapsing_1 (by decide) ?_
  refine lv_aload_n hx hb dL_lapsing_2 rfl (lv_at hl 0 rfl) ?_
  refine lv_iload_n hx hb dL_lapsing_3 rfl (lv_at hl 1 rfl) ?_
  refine lv_iload_n hx hb dL_lapsing_4 rfl (lv_at hl 2 rfl) ?_
  refine qd_cX (rest := [.int 0, .ref ao]) (wc := (Wo cy ad I A G T)) (wr := [qd_L cy ao o]) S0 V hl 0 gO_0 rfl (c_X7_lapsing l hst hf) kg_L_29 rfl ⟨rfl, rfl⟩ kd_X7_lapsing ⟨(Nat.le_of_ble_eq_true rfl), (Nat.le_of_ble_eq_true rfl)⟩ rfl rfl (Nat.le_of_ble_eq_true rfl) ⟨(Nat.le_of_ble_eq_true rfl), (Nat.le_of_ble_eq_true rfl)⟩ dL_lapsing_5 htab (by decide) rfl (fun v9 H locs hro V => ?_) (fun q9 H locs hro V => ?_)
  · refine W.eq (g2 := F0 m 8 ls [.int v9.1, .int 0, .ref ao]) rfl ?_
    refine lv_i2l hx hb dL_lapsing_8 rfl ?_
    refine qd_last S0 V rfl dL_lapsing_9 (fun H locs V => ?_)
    refine lv_goto (tgt := 17) hx hb dL_lapsing_10 (by decide) ?_
    refine lv_iconst (v := 0) hx hb dL_lapsing_17 (by decide) ?_
    exact qd_ret1 S0 hr hlocks rfl hro V dL_lapsing_18
  · refine lv_astore (lv' := [(4, .ref q9), (0, .ref (ad 0)), (1, .int p1), (2, .int p2), (3, .ref ao)]) hx hb dL_lapsing_13 hl (by decide) rfl (fun ls hl => ?_)
    refine lv_iconst (v := 1) hx hb dL_lapsing_15 (by decide) ?_
    exact qd_ret0 S0 hr hlocks rfl hro V dL_lapsing_16
abbrev wz_L_couponsAfter : List Cond := Cond.codeWith yL_couponsAfter cL_couponsAfter 6 (some .int) [(0, 12, 15, 13)] :: qw_big
def rm_L_couponsAfter : Room := { frames := 8, cells := 1, slots := 6, locals := 126 }
set_option maxHeartbeats 4000000 in
set_option maxRecDepth 100000 in
theorem c_L_couponsAfter (l : Launch) (hst : l.stackTraces = false) {D : va_G} {cy : Nat → ClassId} {ad : Nat → Nat} {I : Nat → Int32} {A : Nat → Nat → Int32} {G : Nat → Int32 × (Nat → Nat → Int32)} {T : Nat} {p1 : Int32} {p2 : Int32} {p3 : Int32} {ao : Nat} {o : Nat → Int64} {ro : (Option (Int32 × (Nat → Nat → Int32)))} {sz : Nat} (hf : f_X7_couponsAfter I A p1 p2 p3 = some ro) : vx_Met l yL_couponsAfter wz_L_couponsAfter rm_L_couponsAfter (va_Pc [.ref (ad 0), .int p1, .int p2, .int p3, .ref ao] (qw_Pre D cy ((Wo cy ad I A G T) ++ [qd_L cy ao o]) sz)) (qd_Q ro ((Wo cy ad I A G T) ++ [qd_L cy ao o]) (fun v9 => (Wo cy ad I v9.2 G T) ++ [qd_L cy ao (vp_updL o 0 (v9.1).toInt64)]) D (va_A ((Wo cy ad I A G T) ++ [qd_L cy ao o]) sz)) qd_X 1 6 (va_A ((Wo cy ad I A G T) ++ [qd_L cy ao o]) sz) := by
  refine qd_of (cc := cL_couponsAfter) (maxL := 6) (ret := some .int) (hh := [(0, 12, 15, 13)]) (by decide) (Nat.le_of_ble_eq_true rfl) ?_
  intro p e s m args below meth c ls S0 hr hlocks htab hsz V hl
  have S0 : CallFix p m c cL_couponsAfter 6 s args qw_big RL := S0
  have hx := S0.1; have hb := S0.2.1
  have hl : lv_has ls 6 [(0, .ref (ad 0)), (1, .int p1), (2, .int p2), (3, .int p3), (4, .ref ao)] := hl
  generalize va_A ((Wo cy ad I A G T) ++ [qd_L cy ao o]) sz = Z9 at V ⊢
  clear hsz
  have htab : c.exceptionTable.toList = [⟨0, 12, 15, 13⟩] := htab
  refine lv_aload hx hb dL_couponsAfter_0 (lv_at hl 4 rfl) ?_
  refine lv_iconst (v := 0) hx hb dL_couponsAfter_2 (by decide) ?_
  refine lv_aload_n hx hb dL_couponsAfter_3 rfl (lv_at hl 0 rfl) ?_
  refine lv_iload_n hx hb dL_couponsAfter_4 rfl (lv_at hl 1 rfl) ?_
  refine lv_iload_n hx hb dL_couponsAfter_5 rfl (lv_at hl 2 rfl) ?_
  refine lv_iload_n hx hb dL_couponsAfter_6 rfl (lv_at hl 3 rfl) ?_
  refine qd_cX (rest := [.int 0, .ref ao]) (wc := (Wo cy ad I A G T)) (wr := [qd_L cy ao o]) S0 V hl 0 gO_0 rfl (c_X7_couponsAfter l hst hf) kg_L_32 rfl ⟨rfl, rfl⟩ kd_X7_couponsAfter ⟨(Nat.le_of_ble_eq_true rfl), (Nat.le_of_ble_eq_true rfl)⟩ rfl rfl (Nat.le_of_ble_eq_true rfl) ⟨(Nat.le_of_ble_eq_true rfl), (Nat.le_of_ble_eq_true rfl)⟩ dL_couponsAfter_7 htab (by decide) rfl (fun v9 H locs hro V => ?_) (fun q9 H locs hro V => ?_)
  · refine W.eq (g2 := F0 m 10 ls [.int v9.1, .int 0, .ref ao]) rfl ?_
    refine lv_i2l hx hb dL_couponsAfter_10 rfl ?_
    refine qd_last S0 V rfl dL_couponsAfter_11 (fun H locs V => ?_)
    refine lv_goto (tgt := 19) hx hb dL_couponsAfter_12 (by decide) ?_
    refine lv_iconst (v := 0) hx hb dL_couponsAfter_19 (by decide) ?_
    exact qd_ret1 S0 hr hlocks rfl hro V dL_couponsAfter_20
  · refine lv_astore (lv' := [(5, .ref q9), (0, .ref (ad 0)), (1, .int p1), (2, .int p2), (3, .int p3), (4, .ref ao)]) hx hb dL_couponsAfter_15 hl (by decide) rfl (fun ls hl => ?_)
    refine lv_iconst (v := 1) hx hb dL_couponsAfter_17 (by decide) ?_
    exact qd_ret0 S0 hr hlocks rfl hro V dL_couponsAfter_18
abbrev wz_L_neediest : List Cond := Cond.codeWith yL_neediest cL_neediest 4 (some .int) [(0, 9, 12, 13)] :: qw_big
def rm_L_neediest : Room := { frames := 8, cells := 1, slots := 6, locals := 125 }
set_option maxHeartbeats 4000000 in
set_option maxRecDepth 100000 in
theorem c_L_neediest (l : Launch) (hst : l.stackTraces = false) {D : va_G} {cy : Nat → ClassId} {ad : Nat → Nat} {I : Nat → Int32} {A : Nat → Nat → Int32} {G : Nat → Int32 × (Nat → Nat → Int32)} {T : Nat} {p1 : Int32} {ao : Nat} {o : Nat → Int64} {ro : (Option (Int32))} {sz : Nat} (hf : f_X7_neediest I A p1 = some ro) : vx_Met l yL_neediest wz_L_neediest rm_L_neediest (va_Pc [.ref (ad 0), .int p1, .ref ao] (qw_Pre D cy ((Wo cy ad I A G T) ++ [qd_L cy ao o]) sz)) (qd_Q ro ((Wo cy ad I A G T) ++ [qd_L cy ao o]) (fun v9 => (Wo cy ad I A G T) ++ [qd_L cy ao (vp_updL o 0 (v9).toInt64)]) D (va_A ((Wo cy ad I A G T) ++ [qd_L cy ao o]) sz)) qd_X 1 6 (va_A ((Wo cy ad I A G T) ++ [qd_L cy ao o]) sz) := by
  refine qd_of (cc := cL_neediest) (maxL := 4) (ret := some .int) (hh := [(0, 9, 12, 13)]) (by decide) (Nat.le_of_ble_eq_true rfl) ?_
  intro p e s m args below meth c ls S0 hr hlocks htab hsz V hl
  have S0 : CallFix p m c cL_neediest 4 s args qw_big RL := S0
  have hx := S0.1; have hb := S0.2.1
  have hl : lv_has ls 4 [(0, .ref (ad 0)), (1, .int p1), (2, .ref ao)] := hl
  generalize va_A ((Wo cy ad I A G T) ++ [qd_L cy ao o]) sz = Z9 at V ⊢
  clear hsz
  have htab : c.exceptionTable.toList = [⟨0, 9, 12, 13⟩] := htab
  refine lv_aload_n hx hb dL_neediest_0 rfl (lv_at hl 2 rfl) ?_
  refine lv_iconst (v := 0) hx hb dL_neediest_1 (by decide) ?_
  refine lv_aload_n hx hb dL_neediest_2 rfl (lv_at hl 0 rfl) ?_
  refine lv_iload_n hx hb dL_neediest_3 rfl (lv_at hl 1 rfl) ?_
  refine qd_cX (rest := [.int 0, .ref ao]) (wc := (Wo cy ad I A G T)) (wr := [qd_L cy ao o]) S0 V hl 0 gO_0 rfl (c_X7_neediest l hst hf) kg_L_35 rfl ⟨rfl, rfl⟩ kd_X7_neediest ⟨(Nat.le_of_ble_eq_true rfl), (Nat.le_of_ble_eq_true rfl)⟩ rfl rfl (Nat.le_of_ble_eq_true rfl) ⟨(Nat.le_of_ble_eq_true rfl), (Nat.le_of_ble_eq_true rfl)⟩ dL_neediest_4 htab (by decide) rfl (fun v9 H locs hro V => ?_) (fun q9 H locs hro V => ?_)
  · refine W.eq (g2 := F0 m 7 ls [.int v9, .int 0, .ref ao]) rfl ?_
    refine lv_i2l hx hb dL_neediest_7 rfl ?_
    refine qd_last S0 V rfl dL_neediest_8 (fun H locs V => ?_)
    refine lv_goto (tgt := 15) hx hb dL_neediest_9 (by decide) ?_
    refine lv_iconst (v := 0) hx hb dL_neediest_15 (by decide) ?_
    exact qd_ret1 S0 hr hlocks rfl hro V dL_neediest_16
  · refine lv_astore_n (lv' := [(3, .ref q9), (0, .ref (ad 0)), (1, .int p1), (2, .ref ao)]) hx hb dL_neediest_12 rfl hl (by decide) rfl (fun ls hl => ?_)
    refine lv_iconst (v := 1) hx hb dL_neediest_13 (by decide) ?_
    exact qd_ret0 S0 hr hlocks rfl hro V dL_neediest_14
abbrev wz_L_givenBy : List Cond := Cond.codeWith yL_givenBy cL_givenBy 4 (some .int) [(0, 9, 12, 13)] :: qw_big
def rm_L_givenBy : Room := { frames := 8, cells := 1, slots := 6, locals := 123 }
set_option maxHeartbeats 4000000 in
set_option maxRecDepth 100000 in
theorem c_L_givenBy (l : Launch) (hst : l.stackTraces = false) {D : va_G} {cy : Nat → ClassId} {ad : Nat → Nat} {I : Nat → Int32} {A : Nat → Nat → Int32} {G : Nat → Int32 × (Nat → Nat → Int32)} {T : Nat} {p1 : Int32} {ao : Nat} {o : Nat → Int64} {ro : (Option (Int32))} {sz : Nat} (hf : f_X7_givenBy I A p1 = some ro) : vx_Met l yL_givenBy wz_L_givenBy rm_L_givenBy (va_Pc [.ref (ad 0), .int p1, .ref ao] (qw_Pre D cy ((Wo cy ad I A G T) ++ [qd_L cy ao o]) sz)) (qd_Q ro ((Wo cy ad I A G T) ++ [qd_L cy ao o]) (fun v9 => (Wo cy ad I A G T) ++ [qd_L cy ao (vp_updL o 0 (v9).toInt64)]) D (va_A ((Wo cy ad I A G T) ++ [qd_L cy ao o]) sz)) qd_X 1 6 (va_A ((Wo cy ad I A G T) ++ [qd_L cy ao o]) sz) := by
  refine qd_of (cc := cL_givenBy) (maxL := 4) (ret := some .int) (hh := [(0, 9, 12, 13)]) (by decide) (Nat.le_of_ble_eq_true rfl) ?_
  intro p e s m args below meth c ls S0 hr hlocks htab hsz V hl
  have S0 : CallFix p m c cL_givenBy 4 s args qw_big RL := S0
  have hx := S0.1; have hb := S0.2.1
  have hl : lv_has ls 4 [(0, .ref (ad 0)), (1, .int p1), (2, .ref ao)] := hl
  generalize va_A ((Wo cy ad I A G T) ++ [qd_L cy ao o]) sz = Z9 at V ⊢
  clear hsz
  have htab : c.exceptionTable.toList = [⟨0, 9, 12, 13⟩] := htab
  refine lv_aload_n hx hb dL_givenBy_0 rfl (lv_at hl 2 rfl) ?_
  refine lv_iconst (v := 0) hx hb dL_givenBy_1 (by decide) ?_
  refine lv_aload_n hx hb dL_givenBy_2 rfl (lv_at hl 0 rfl) ?_
  refine lv_iload_n hx hb dL_givenBy_3 rfl (lv_at hl 1 rfl) ?_
  refine qd_cX (rest := [.int 0, .ref ao]) (wc := (Wo cy ad I A G T)) (wr := [qd_L cy ao o]) S0 V hl 0 gO_0 rfl (c_X7_givenBy l hst hf) kg_L_38 rfl ⟨rfl, rfl⟩ kd_X7_givenBy ⟨(Nat.le_of_ble_eq_true rfl), (Nat.le_of_ble_eq_true rfl)⟩ rfl rfl (Nat.le_of_ble_eq_true rfl) ⟨(Nat.le_of_ble_eq_true rfl), (Nat.le_of_ble_eq_true rfl)⟩ dL_givenBy_4 htab (by decide) rfl (fun v9 H locs hro V => ?_) (fun q9 H locs hro V => ?_)
  · refine W.eq (g2 := F0 m 7 ls [.int v9, .int 0, .ref ao]) rfl ?_
    refine lv_i2l hx hb dL_givenBy_7 rfl ?_
    refine qd_last S0 V rfl dL_givenBy_8 (fun H locs V => ?_)
    refine lv_goto (tgt := 15) hx hb dL_givenBy_9 (by decide) ?_
    refine lv_iconst (v := 0) hx hb dL_givenBy_15 (by decide) ?_
    exact qd_ret1 S0 hr hlocks rfl hro V dL_givenBy_16
  · refine lv_astore_n (lv' := [(3, .ref q9), (0, .ref (ad 0)), (1, .int p1), (2, .ref ao)]) hx hb dL_givenBy_12 rfl hl (by decide) rfl (fun ls hl => ?_)
    refine lv_iconst (v := 1) hx hb dL_givenBy_13 (by decide) ?_
    exact qd_ret0 S0 hr hlocks rfl hro V dL_givenBy_14
abbrev wz_L_takenBy : List Cond := Cond.codeWith yL_takenBy cL_takenBy 4 (some .int) [(0, 9, 12, 13)] :: qw_big
def rm_L_takenBy : Room := { frames := 8, cells := 1, slots := 6, locals := 123 }
set_option maxHeartbeats 4000000 in
set_option maxRecDepth 100000 in
theorem c_L_takenBy (l : Launch) (hst : l.stackTraces = false) {D : va_G} {cy : Nat → ClassId} {ad : Nat → Nat} {I : Nat → Int32} {A : Nat → Nat → Int32} {G : Nat → Int32 × (Nat → Nat → Int32)} {T : Nat} {p1 : Int32} {ao : Nat} {o : Nat → Int64} {ro : (Option (Int32))} {sz : Nat} (hf : f_X7_takenBy I A p1 = some ro) : vx_Met l yL_takenBy wz_L_takenBy rm_L_takenBy (va_Pc [.ref (ad 0), .int p1, .ref ao] (qw_Pre D cy ((Wo cy ad I A G T) ++ [qd_L cy ao o]) sz)) (qd_Q ro ((Wo cy ad I A G T) ++ [qd_L cy ao o]) (fun v9 => (Wo cy ad I A G T) ++ [qd_L cy ao (vp_updL o 0 (v9).toInt64)]) D (va_A ((Wo cy ad I A G T) ++ [qd_L cy ao o]) sz)) qd_X 1 6 (va_A ((Wo cy ad I A G T) ++ [qd_L cy ao o]) sz) := by
  refine qd_of (cc := cL_takenBy) (maxL := 4) (ret := some .int) (hh := [(0, 9, 12, 13)]) (by decide) (Nat.le_of_ble_eq_true rfl) ?_
  intro p e s m args below meth c ls S0 hr hlocks htab hsz V hl
  have S0 : CallFix p m c cL_takenBy 4 s args qw_big RL := S0
  have hx := S0.1; have hb := S0.2.1
  have hl : lv_has ls 4 [(0, .ref (ad 0)), (1, .int p1), (2, .ref ao)] := hl
  generalize va_A ((Wo cy ad I A G T) ++ [qd_L cy ao o]) sz = Z9 at V ⊢
  clear hsz
  have htab : c.exceptionTable.toList = [⟨0, 9, 12, 13⟩] := htab
  refine lv_aload_n hx hb dL_takenBy_0 rfl (lv_at hl 2 rfl) ?_
  refine lv_iconst (v := 0) hx hb dL_takenBy_1 (by decide) ?_
  refine lv_aload_n hx hb dL_takenBy_2 rfl (lv_at hl 0 rfl) ?_
  refine lv_iload_n hx hb dL_takenBy_3 rfl (lv_at hl 1 rfl) ?_
  refine qd_cX (rest := [.int 0, .ref ao]) (wc := (Wo cy ad I A G T)) (wr := [qd_L cy ao o]) S0 V hl 0 gO_0 rfl (c_X7_takenBy l hst hf) kg_L_41 rfl ⟨rfl, rfl⟩ kd_X7_takenBy ⟨(Nat.le_of_ble_eq_true rfl), (Nat.le_of_ble_eq_true rfl)⟩ rfl rfl (Nat.le_of_ble_eq_true rfl) ⟨(Nat.le_of_ble_eq_true rfl), (Nat.le_of_ble_eq_true rfl)⟩ dL_takenBy_4 htab (by decide) rfl (fun v9 H locs hro V => ?_) (fun q9 H locs hro V => ?_)
  · refine W.eq (g2 := F0 m 7 ls [.int v9, .int 0, .ref ao]) rfl ?_
    refine lv_i2l hx hb dL_takenBy_7 rfl ?_
    refine qd_last S0 V rfl dL_takenBy_8 (fun H locs V => ?_)
    refine lv_goto (tgt := 15) hx hb dL_takenBy_9 (by decide) ?_
    refine lv_iconst (v := 0) hx hb dL_takenBy_15 (by decide) ?_
    exact qd_ret1 S0 hr hlocks rfl hro V dL_takenBy_16
  · refine lv_astore_n (lv' := [(3, .ref q9), (0, .ref (ad 0)), (1, .int p1), (2, .ref ao)]) hx hb dL_takenBy_12 rfl hl (by decide) rfl (fun ls hl => ?_)
    refine lv_iconst (v := 1) hx hb dL_takenBy_13 (by decide) ?_
    exact qd_ret0 S0 hr hlocks rfl hro V dL_takenBy_14
abbrev wz_L_tradeRoom : List Cond := Cond.codeWith yL_tradeRoom cL_tradeRoom 6 (some .int) [(0, 12, 15, 13)] :: qw_big
def rm_L_tradeRoom : Room := { frames := 8, cells := 1, slots := 6, locals := 126 }
set_option maxHeartbeats 4000000 in
set_option maxRecDepth 100000 in
theorem c_L_tradeRoom (l : Launch) (hst : l.stackTraces = false) {D : va_G} {cy : Nat → ClassId} {ad : Nat → Nat} {I : Nat → Int32} {A : Nat → Nat → Int32} {G : Nat → Int32 × (Nat → Nat → Int32)} {T : Nat} {p1 : Int32} {p2 : Int32} {p3 : Int32} {ao : Nat} {o : Nat → Int64} {ro : (Option (Int32))} {sz : Nat} (hf : f_X7_tradeRoom I A p1 p2 p3 = some ro) : vx_Met l yL_tradeRoom wz_L_tradeRoom rm_L_tradeRoom (va_Pc [.ref (ad 0), .int p1, .int p2, .int p3, .ref ao] (qw_Pre D cy ((Wo cy ad I A G T) ++ [qd_L cy ao o]) sz)) (qd_Q ro ((Wo cy ad I A G T) ++ [qd_L cy ao o]) (fun v9 => (Wo cy ad I A G T) ++ [qd_L cy ao (vp_updL o 0 (v9).toInt64)]) D (va_A ((Wo cy ad I A G T) ++ [qd_L cy ao o]) sz)) qd_X 1 6 (va_A ((Wo cy ad I A G T) ++ [qd_L cy ao o]) sz) := by
  refine qd_of (cc := cL_tradeRoom) (maxL := 6) (ret := some .int) (hh := [(0, 12, 15, 13)]) (by decide) (Nat.le_of_ble_eq_true rfl) ?_
  intro p e s m args below meth c ls S0 hr hlocks htab hsz V hl
  have S0 : CallFix p m c cL_tradeRoom 6 s args qw_big RL := S0
  have hx := S0.1; have hb := S0.2.1
  have hl : lv_has ls 6 [(0, .ref (ad 0)), (1, .int p1), (2, .int p2), (3, .int p3), (4, .ref ao)] := hl
  generalize va_A ((Wo cy ad I A G T) ++ [qd_L cy ao o]) sz = Z9 at V ⊢
  clear hsz
  have htab : c.exceptionTable.toList = [⟨0, 12, 15, 13⟩] := htab
  refine lv_aload hx hb dL_tradeRoom_0 (lv_at hl 4 rfl) ?_
  refine lv_iconst (v := 0) hx hb dL_tradeRoom_2 (by decide) ?_
  refine lv_aload_n hx hb dL_tradeRoom_3 rfl (lv_at hl 0 rfl) ?_
  refine lv_iload_n hx hb dL_tradeRoom_4 rfl (lv_at hl 1 rfl) ?_
  refine lv_iload_n hx hb dL_tradeRoom_5 rfl (lv_at hl 2 rfl) ?_
  refine lv_iload_n hx hb dL_tradeRoom_6 rfl (lv_at hl 3 rfl) ?_
  refine qd_cX (rest := [.int 0, .ref ao]) (wc := (Wo cy ad I A G T)) (wr := [qd_L cy ao o]) S0 V hl 0 gO_0 rfl (c_X7_tradeRoom l hst hf) kg_L_44 rfl ⟨rfl, rfl⟩ kd_X7_tradeRoom ⟨(Nat.le_of_ble_eq_true rfl), (Nat.le_of_ble_eq_true rfl)⟩ rfl rfl (Nat.le_of_ble_eq_true rfl) ⟨(Nat.le_of_ble_eq_true rfl), (Nat.le_of_ble_eq_true rfl)⟩ dL_tradeRoom_7 htab (by decide) rfl (fun v9 H locs hro V => ?_) (fun q9 H locs hro V => ?_)
  · refine W.eq (g2 := F0 m 10 ls [.int v9, .int 0, .ref ao]) rfl ?_
    refine lv_i2l hx hb dL_tradeRoom_10 rfl ?_
    refine qd_last S0 V rfl dL_tradeRoom_11 (fun H locs V => ?_)
    refine lv_goto (tgt := 19) hx hb dL_tradeRoom_12 (by decide) ?_
    refine lv_iconst (v := 0) hx hb dL_tradeRoom_19 (by decide) ?_
    exact qd_ret1 S0 hr hlocks rfl hro V dL_tradeRoom_20
  · refine lv_astore (lv' := [(5, .ref q9), (0, .ref (ad 0)), (1, .int p1), (2, .int p2), (3, .int p3), (4, .ref ao)]) hx hb dL_tradeRoom_15 hl (by decide) rfl (fun ls hl => ?_)
    refine lv_iconst (v := 1) hx hb dL_tradeRoom_17 (by decide) ?_
    exact qd_ret0 S0 hr hlocks rfl hro V dL_tradeRoom_18
abbrev wz_L_helpers : List Cond := Cond.codeWith yL_helpers cL_helpers 6 (some .int) [(0, 12, 15, 13)] :: qw_big
def rm_L_helpers : Room := { frames := 8, cells := 1, slots := 6, locals := 179 }
set_option maxHeartbeats 4000000 in
set_option maxRecDepth 100000 in
theorem c_L_helpers (l : Launch) (hst : l.stackTraces = false) {D : va_G} {cy : Nat → ClassId} {ad : Nat → Nat} {I : Nat → Int32} {A : Nat → Nat → Int32} {G : Nat → Int32 × (Nat → Nat → Int32)} {T : Nat} {p1 : Int32} {p2 : Int32} {p3 : Int32} {ao : Nat} {o : Nat → Int64} {ro : (Option (Int32))} {sz : Nat} (hf : f_X7_helpers I A p1 p2 p3 = some ro) : vx_Met l yL_helpers wz_L_helpers rm_L_helpers (va_Pc [.ref (ad 0), .int p1, .int p2, .int p3, .ref ao] (qw_Pre D cy ((Wo cy ad I A G T) ++ [qd_L cy ao o]) sz)) (qd_Q ro ((Wo cy ad I A G T) ++ [qd_L cy ao o]) (fun v9 => (Wo cy ad I A G T) ++ [qd_L cy ao (vp_updL o 0 (v9).toInt64)]) D (va_A ((Wo cy ad I A G T) ++ [qd_L cy ao o]) sz)) qd_X 1 6 (va_A ((Wo cy ad I A G T) ++ [qd_L cy ao o]) sz) := by
  refine qd_of (cc := cL_helpers) (maxL := 6) (ret := some .int) (hh := [(0, 12, 15, 13)]) (by decide) (Nat.le_of_ble_eq_true rfl) ?_
  intro p e s m args below meth c ls S0 hr hlocks htab hsz V hl
  have S0 : CallFix p m c cL_helpers 6 s args qw_big RL := S0
  have hx := S0.1; have hb := S0.2.1
  have hl : lv_has ls 6 [(0, .ref (ad 0)), (1, .int p1), (2, .int p2), (3, .int p3), (4, .ref ao)] := hl
  generalize va_A ((Wo cy ad I A G T) ++ [qd_L cy ao o]) sz = Z9 at V ⊢
  clear hsz
  have htab : c.exceptionTable.toList = [⟨0, 12, 15, 13⟩] := htab
  refine lv_aload hx hb dL_helpers_0 (lv_at hl 4 rfl) ?_
  refine lv_iconst (v := 0) hx hb dL_helpers_2 (by decide) ?_
  refine lv_aload_n hx hb dL_helpers_3 rfl (lv_at hl 0 rfl) ?_
  refine lv_iload_n hx hb dL_helpers_4 rfl (lv_at hl 1 rfl) ?_
  refine lv_iload_n hx hb dL_helpers_5 rfl (lv_at hl 2 rfl) ?_
  refine lv_iload_n hx hb dL_helpers_6 rfl (lv_at hl 3 rfl) ?_
  refine qd_cX (rest := [.int 0, .ref ao]) (wc := (Wo cy ad I A G T)) (wr := [qd_L cy ao o]) S0 V hl 0 gO_0 rfl (c_X7_helpers l hst hf) kg_L_47 rfl ⟨rfl, rfl⟩ kd_X7_helpers ⟨(Nat.le_of_ble_eq_true rfl), (Nat.le_of_ble_eq_true rfl)⟩ rfl rfl (Nat.le_of_ble_eq_true rfl) ⟨(Nat.le_of_ble_eq_true rfl), (Nat.le_of_ble_eq_true rfl)⟩ dL_helpers_7 htab (by decide) rfl (fun v9 H locs hro V => ?_) (fun q9 H locs hro V => ?_)
  · refine W.eq (g2 := F0 m 10 ls [.int v9, .int 0, .ref ao]) rfl ?_
    refine lv_i2l hx hb dL_helpers_10 rfl ?_
    refine qd_last S0 V rfl dL_helpers_11 (fun H locs V => ?_)
    refine lv_goto (tgt := 19) hx hb dL_helpers_12 (by decide) ?_
    refine lv_iconst (v := 0) hx hb dL_helpers_19 (by decide) ?_
    exact qd_ret1 S0 hr hlocks rfl hro V dL_helpers_20
  · refine lv_astore (lv' := [(5, .ref q9), (0, .ref (ad 0)), (1, .int p1), (2, .int p2), (3, .int p3), (4, .ref ao)]) hx hb dL_helpers_15 hl (by decide) rfl (fun ls hl => ?_)
    refine lv_iconst (v := 1) hx hb dL_helpers_17 (by decide) ?_
    exact qd_ret0 S0 hr hlocks rfl hro V dL_helpers_18
abbrev wz_L_stockOf : List Cond := Cond.codeWith yL_stockOf cL_stockOf 5 (some .int) [(0, 10, 13, 13)] :: qw_big
def rm_L_stockOf : Room := { frames := 8, cells := 1, slots := 6, locals := 124 }
set_option maxHeartbeats 4000000 in
set_option maxRecDepth 100000 in
theorem c_L_stockOf (l : Launch) (hst : l.stackTraces = false) {D : va_G} {cy : Nat → ClassId} {ad : Nat → Nat} {I : Nat → Int32} {A : Nat → Nat → Int32} {G : Nat → Int32 × (Nat → Nat → Int32)} {T : Nat} {p1 : Int32} {p2 : Int32} {ao : Nat} {o : Nat → Int64} {ro : (Option (Int32))} {sz : Nat} (hf : f_X7_stockOf I A p1 p2 = some ro) : vx_Met l yL_stockOf wz_L_stockOf rm_L_stockOf (va_Pc [.ref (ad 0), .int p1, .int p2, .ref ao] (qw_Pre D cy ((Wo cy ad I A G T) ++ [qd_L cy ao o]) sz)) (qd_Q ro ((Wo cy ad I A G T) ++ [qd_L cy ao o]) (fun v9 => (Wo cy ad I A G T) ++ [qd_L cy ao (vp_updL o 0 (v9).toInt64)]) D (va_A ((Wo cy ad I A G T) ++ [qd_L cy ao o]) sz)) qd_X 1 6 (va_A ((Wo cy ad I A G T) ++ [qd_L cy ao o]) sz) := by
  refine qd_of (cc := cL_stockOf) (maxL := 5) (ret := some .int) (hh := [(0, 10, 13, 13)]) (by decide) (Nat.le_of_ble_eq_true rfl) ?_
  intro p e s m args below meth c ls S0 hr hlocks htab hsz V hl
  have S0 : CallFix p m c cL_stockOf 5 s args qw_big RL := S0
  have hx := S0.1; have hb := S0.2.1
  have hl : lv_has ls 5 [(0, .ref (ad 0)), (1, .int p1), (2, .int p2), (3, .ref ao)] := hl
  generalize va_A ((Wo cy ad I A G T) ++ [qd_L cy ao o]) sz = Z9 at V ⊢
  clear hsz
  have htab : c.exceptionTable.toList = [⟨0, 10, 13, 13⟩] := htab
  refine lv_aload_n hx hb dL_stockOf_0 rfl (lv_at hl 3 rfl) ?_
  refine lv_iconst (v := 0) hx hb dL_stockOf_1 (by decide) ?_
  refine lv_aload_n hx hb dL_stockOf_2 rfl (lv_at hl 0 rfl) ?_
  refine lv_iload_n hx hb dL_stockOf_3 rfl (lv_at hl 1 rfl) ?_
  refine lv_iload_n hx hb dL_stockOf_4 rfl (lv_at hl 2 rfl) ?_
  refine qd_cX (rest := [.int 0, .ref ao]) (wc := (Wo cy ad I A G T)) (wr := [qd_L cy ao o]) S0 V hl 0 gO_0 rfl (c_X7_stockOf l hst hf) kg_L_50 rfl ⟨rfl, rfl⟩ kd_X7_stockOf ⟨(Nat.le_of_ble_eq_true rfl), (Nat.le_of_ble_eq_true rfl)⟩ rfl rfl (Nat.le_of_ble_eq_true rfl) ⟨(Nat.le_of_ble_eq_true rfl), (Nat.le_of_ble_eq_true rfl)⟩ dL_stockOf_5 htab (by decide) rfl (fun v9 H locs hro V => ?_) (fun q9 H locs hro V => ?_)
  · refine W.eq (g2 := F0 m 8 ls [.int v9, .int 0, .ref ao]) rfl ?_
    refine lv_i2l hx hb dL_stockOf_8 rfl ?_
    refine qd_last S0 V rfl dL_stockOf_9 (fun H locs V => ?_)
    refine lv_goto (tgt := 17) hx hb dL_stockOf_10 (by decide) ?_
    refine lv_iconst (v := 0) hx hb dL_stockOf_17 (by decide) ?_
    exact qd_ret1 S0 hr hlocks rfl hro V dL_stockOf_18
  · refine lv_astore (lv' := [(4, .ref q9), (0, .ref (ad 0)), (1, .int p1), (2, .int p2), (3, .ref ao)]) hx hb dL_stockOf_13 hl (by decide) rfl (fun ls hl => ?_)
    refine lv_iconst (v := 1) hx hb dL_stockOf_15 (by decide) ?_
    exact qd_ret0 S0 hr hlocks rfl hro V dL_stockOf_16
abbrev wz_L_accountOf : List Cond := Cond.codeWith yL_accountOf cL_accountOf 5 (some .int) [(0, 10, 13, 13)] :: qw_big
def rm_L_accountOf : Room := { frames := 8, cells := 1, slots := 6, locals := 124 }
set_option maxHeartbeats 4000000 in
set_option maxRecDepth 100000 in
theorem c_L_accountOf (l : Launch) (hst : l.stackTraces = false) {D : va_G} {cy : Nat → ClassId} {ad : Nat → Nat} {I : Nat → Int32} {A : Nat → Nat → Int32} {G : Nat → Int32 × (Nat → Nat → Int32)} {T : Nat} {p1 : Int32} {p2 : Int32} {ao : Nat} {o : Nat → Int64} {ro : (Option (Int32))} {sz : Nat} (hf : f_X7_accountOf I A p1 p2 = some ro) : vx_Met l yL_accountOf wz_L_accountOf rm_L_accountOf (va_Pc [.ref (ad 0), .int p1, .int p2, .ref ao] (qw_Pre D cy ((Wo cy ad I A G T) ++ [qd_L cy ao o]) sz)) (qd_Q ro ((Wo cy ad I A G T) ++ [qd_L cy ao o]) (fun v9 => (Wo cy ad I A G T) ++ [qd_L cy ao (vp_updL o 0 (v9).toInt64)]) D (va_A ((Wo cy ad I A G T) ++ [qd_L cy ao o]) sz)) qd_X 1 6 (va_A ((Wo cy ad I A G T) ++ [qd_L cy ao o]) sz) := by
  refine qd_of (cc := cL_accountOf) (maxL := 5) (ret := some .int) (hh := [(0, 10, 13, 13)]) (by decide) (Nat.le_of_ble_eq_true rfl) ?_
  intro p e s m args below meth c ls S0 hr hlocks htab hsz V hl
  have S0 : CallFix p m c cL_accountOf 5 s args qw_big RL := S0
  have hx := S0.1; have hb := S0.2.1
  have hl : lv_has ls 5 [(0, .ref (ad 0)), (1, .int p1), (2, .int p2), (3, .ref ao)] := hl
  generalize va_A ((Wo cy ad I A G T) ++ [qd_L cy ao o]) sz = Z9 at V ⊢
  clear hsz
  have htab : c.exceptionTable.toList = [⟨0, 10, 13, 13⟩] := htab
  refine lv_aload_n hx hb dL_accountOf_0 rfl (lv_at hl 3 rfl) ?_
  refine lv_iconst (v := 0) hx hb dL_accountOf_1 (by decide) ?_
  refine lv_aload_n hx hb dL_accountOf_2 rfl (lv_at hl 0 rfl) ?_
  refine lv_iload_n hx hb dL_accountOf_3 rfl (lv_at hl 1 rfl) ?_
  refine lv_iload_n hx hb dL_accountOf_4 rfl (lv_at hl 2 rfl) ?_
  refine qd_cX (rest := [.int 0, .ref ao]) (wc := (Wo cy ad I A G T)) (wr := [qd_L cy ao o]) S0 V hl 0 gO_0 rfl (c_X7_accountOf l hst hf) kg_L_53 rfl ⟨rfl, rfl⟩ kd_X7_accountOf ⟨(Nat.le_of_ble_eq_true rfl), (Nat.le_of_ble_eq_true rfl)⟩ rfl rfl (Nat.le_of_ble_eq_true rfl) ⟨(Nat.le_of_ble_eq_true rfl), (Nat.le_of_ble_eq_true rfl)⟩ dL_accountOf_5 htab (by decide) rfl (fun v9 H locs hro V => ?_) (fun q9 H locs hro V => ?_)
  · refine W.eq (g2 := F0 m 8 ls [.int v9, .int 0, .ref ao]) rfl ?_
    refine lv_i2l hx hb dL_accountOf_8 rfl ?_
    refine qd_last S0 V rfl dL_accountOf_9 (fun H locs V => ?_)
    refine lv_goto (tgt := 17) hx hb dL_accountOf_10 (by decide) ?_
    refine lv_iconst (v := 0) hx hb dL_accountOf_17 (by decide) ?_
    exact qd_ret1 S0 hr hlocks rfl hro V dL_accountOf_18
  · refine lv_astore (lv' := [(4, .ref q9), (0, .ref (ad 0)), (1, .int p1), (2, .int p2), (3, .ref ao)]) hx hb dL_accountOf_13 hl (by decide) rfl (fun ls hl => ?_)
    refine lv_iconst (v := 1) hx hb dL_accountOf_15 (by decide) ?_
    exact qd_ret0 S0 hr hlocks rfl hro V dL_accountOf_16
abbrev wz_L_penaltyOf : List Cond := Cond.codeWith yL_penaltyOf cL_penaltyOf 4 (some .int) [(0, 9, 12, 13)] :: qw_big
def rm_L_penaltyOf : Room := { frames := 8, cells := 1, slots := 6, locals := 123 }
set_option maxHeartbeats 4000000 in
set_option maxRecDepth 100000 in
theorem c_L_penaltyOf (l : Launch) (hst : l.stackTraces = false) {D : va_G} {cy : Nat → ClassId} {ad : Nat → Nat} {I : Nat → Int32} {A : Nat → Nat → Int32} {G : Nat → Int32 × (Nat → Nat → Int32)} {T : Nat} {p1 : Int32} {ao : Nat} {o : Nat → Int64} {ro : (Option (Int32))} {sz : Nat} (hf : f_X7_penaltyOf I A p1 = some ro) : vx_Met l yL_penaltyOf wz_L_penaltyOf rm_L_penaltyOf (va_Pc [.ref (ad 0), .int p1, .ref ao] (qw_Pre D cy ((Wo cy ad I A G T) ++ [qd_L cy ao o]) sz)) (qd_Q ro ((Wo cy ad I A G T) ++ [qd_L cy ao o]) (fun v9 => (Wo cy ad I A G T) ++ [qd_L cy ao (vp_updL o 0 (v9).toInt64)]) D (va_A ((Wo cy ad I A G T) ++ [qd_L cy ao o]) sz)) qd_X 1 6 (va_A ((Wo cy ad I A G T) ++ [qd_L cy ao o]) sz) := by
  refine qd_of (cc := cL_penaltyOf) (maxL := 4) (ret := some .int) (hh := [(0, 9, 12, 13)]) (by decide) (Nat.le_of_ble_eq_true rfl) ?_
  intro p e s m args below meth c ls S0 hr hlocks htab hsz V hl
  have S0 : CallFix p m c cL_penaltyOf 4 s args qw_big RL := S0
  have hx := S0.1; have hb := S0.2.1
  have hl : lv_has ls 4 [(0, .ref (ad 0)), (1, .int p1), (2, .ref ao)] := hl
  generalize va_A ((Wo cy ad I A G T) ++ [qd_L cy ao o]) sz = Z9 at V ⊢
  clear hsz
  have htab : c.exceptionTable.toList = [⟨0, 9, 12, 13⟩] := htab
  refine lv_aload_n hx hb dL_penaltyOf_0 rfl (lv_at hl 2 rfl) ?_
  refine lv_iconst (v := 0) hx hb dL_penaltyOf_1 (by decide) ?_
  refine lv_aload_n hx hb dL_penaltyOf_2 rfl (lv_at hl 0 rfl) ?_
  refine lv_iload_n hx hb dL_penaltyOf_3 rfl (lv_at hl 1 rfl) ?_
  refine qd_cX (rest := [.int 0, .ref ao]) (wc := (Wo cy ad I A G T)) (wr := [qd_L cy ao o]) S0 V hl 0 gO_0 rfl (c_X7_penaltyOf l hst hf) kg_L_56 rfl ⟨rfl, rfl⟩ kd_X7_penaltyOf ⟨(Nat.le_of_ble_eq_true rfl), (Nat.le_of_ble_eq_true rfl)⟩ rfl rfl (Nat.le_of_ble_eq_true rfl) ⟨(Nat.le_of_ble_eq_true rfl), (Nat.le_of_ble_eq_true rfl)⟩ dL_penaltyOf_4 htab (by decide) rfl (fun v9 H locs hro V => ?_) (fun q9 H locs hro V => ?_)
  · refine W.eq (g2 := F0 m 7 ls [.int v9, .int 0, .ref ao]) rfl ?_
    refine lv_i2l hx hb dL_penaltyOf_7 rfl ?_
    refine qd_last S0 V rfl dL_penaltyOf_8 (fun H locs V => ?_)
    refine lv_goto (tgt := 15) hx hb dL_penaltyOf_9 (by decide) ?_
    refine lv_iconst (v := 0) hx hb dL_penaltyOf_15 (by decide) ?_
    exact qd_ret1 S0 hr hlocks rfl hro V dL_penaltyOf_16
  · refine lv_astore_n (lv' := [(3, .ref q9), (0, .ref (ad 0)), (1, .int p1), (2, .ref ao)]) hx hb dL_penaltyOf_12 rfl hl (by decide) rfl (fun ls hl => ?_)
    refine lv_iconst (v := 1) hx hb dL_penaltyOf_13 (by decide) ?_
    exact qd_ret0 S0 hr hlocks rfl hro V dL_penaltyOf_14
abbrev wz_L_isSuspended : List Cond := Cond.codeWith yL_isSuspended cL_isSuspended 4 (some .int) [(0, 16, 19, 13)] :: qw_big
def rm_L_isSuspended : Room := { frames := 8, cells := 1, slots := 6, locals := 123 }
set_option maxHeartbeats 4000000 in
set_option maxRecDepth 100000 in
theorem c_L_isSuspended (l : Launch) (hst : l.stackTraces = false) {D : va_G} {cy : Nat → ClassId} {ad : Nat → Nat} {I : Nat → Int32} {A : Nat → Nat → Int32} {G : Nat → Int32 × (Nat → Nat → Int32)} {T : Nat} {p1 : Int32} {ao : Nat} {o : Nat → Int64} {ro : (Option (Int32))} {sz : Nat} (hf : f_X7_isSuspended I A p1 = some ro) : vx_Met l yL_isSuspended wz_L_isSuspended rm_L_isSuspended (va_Pc [.ref (ad 0), .int p1, .ref ao] (qw_Pre D cy ((Wo cy ad I A G T) ++ [qd_L cy ao o]) sz)) (qd_Q ro ((Wo cy ad I A G T) ++ [qd_L cy ao o]) (fun v9 => (Wo cy ad I A G T) ++ [qd_L cy ao (vp_updL o 0 (if v9 = 0 then (0 : Int64) else 1))]) D (va_A ((Wo cy ad I A G T) ++ [qd_L cy ao o]) sz)) qd_X 1 6 (va_A ((Wo cy ad I A G T) ++ [qd_L cy ao o]) sz) := by
  refine qd_of (cc := cL_isSuspended) (maxL := 4) (ret := some .int) (hh := [(0, 16, 19, 13)]) (by decide) (Nat.le_of_ble_eq_true rfl) ?_
  intro p e s m args below meth c ls S0 hr hlocks htab hsz V hl
  have S0 : CallFix p m c cL_isSuspended 4 s args qw_big RL := S0
  have hx := S0.1; have hb := S0.2.1
  have hl : lv_has ls 4 [(0, .ref (ad 0)), (1, .int p1), (2, .ref ao)] := hl
  generalize va_A ((Wo cy ad I A G T) ++ [qd_L cy ao o]) sz = Z9 at V ⊢
  clear hsz
  have htab : c.exceptionTable.toList = [⟨0, 16, 19, 13⟩] := htab
  refine lv_aload_n hx hb dL_isSuspended_0 rfl (lv_at hl 2 rfl) ?_
  refine lv_iconst (v := 0) hx hb dL_isSuspended_1 (by decide) ?_
  refine lv_aload_n hx hb dL_isSuspended_2 rfl (lv_at hl 0 rfl) ?_
  refine lv_iload_n hx hb dL_isSuspended_3 rfl (lv_at hl 1 rfl) ?_
  refine qd_cX (rest := [.int 0, .ref ao]) (wc := (Wo cy ad I A G T)) (wr := [qd_L cy ao o]) S0 V hl 0 gO_0 rfl (c_X7_isSuspended l hst hf) kg_L_59 rfl ⟨rfl, rfl⟩ kd_X7_isSuspended ⟨(Nat.le_of_ble_eq_true rfl), (Nat.le_of_ble_eq_true rfl)⟩ rfl rfl (Nat.le_of_ble_eq_true rfl) ⟨(Nat.le_of_ble_eq_true rfl), (Nat.le_of_ble_eq_true rfl)⟩ dL_isSuspended_4 htab (by decide) rfl (fun v9 H locs hro V => ?_) (fun q9 H locs hro V => ?_)
  · refine W.eq (g2 := F0 m 7 ls [.int v9, .int 0, .ref ao]) rfl ?_
    refine lv_if_eq (tgt := 14) hx hb dL_isSuspended_7 (by decide) (fun c1 => ?_) (fun c1 => ?_)
    · have e9 : (if v9 = 0 then (0 : Int64) else 1) = 0 := if_pos c1
      refine lv_lconst (v := 0) hx hb dL_isSuspended_14 rfl ?_
      refine qd_last S0 V rfl dL_isSuspended_15 (fun H locs V => ?_)
      refine lv_goto (tgt := 22) hx hb dL_isSuspended_16 (by decide) ?_
      refine lv_iconst (v := 0) hx hb dL_isSuspended_22 (by decide) ?_
      rw [← e9] at V
      exact qd_ret1 S0 hr hlocks rfl hro V dL_isSuspended_23
    · have e9 : (if v9 = 0 then (0 : Int64) else 1) = 1 := if_neg c1
      refine lv_lconst (v := 1) hx hb dL_isSuspended_10 rfl ?_
      refine lv_goto (tgt := 15) hx hb dL_isSuspended_11 (by decide) ?_
      refine qd_last S0 V rfl dL_isSuspended_15 (fun H locs V => ?_)
      refine lv_goto (tgt := 22) hx hb dL_isSuspended_16 (by decide) ?_
      refine lv_iconst (v := 0) hx hb dL_isSuspended_22 (by decide) ?_
      rw [← e9] at V
      exact qd_ret1 S0 hr hlocks rfl hro V dL_isSuspended_23
  · refine lv_astore_n (lv' := [(3, .ref q9), (0, .ref (ad 0)), (1, .int p1), (2, .ref ao)]) hx hb dL_isSuspended_19 rfl hl (by decide) rfl (fun ls hl => ?_)
    refine lv_iconst (v := 1) hx hb dL_isSuspended_20 (by decide) ?_
    exact qd_ret0 S0 hr hlocks rfl hro V dL_isSuspended_21
abbrev wz_L_soldBy : List Cond := Cond.codeWith yL_soldBy cL_soldBy 5 (some .int) [(0, 10, 13, 13)] :: qw_big
def rm_L_soldBy : Room := { frames := 8, cells := 1, slots := 6, locals := 124 }
set_option maxHeartbeats 4000000 in
set_option maxRecDepth 100000 in
theorem c_L_soldBy (l : Launch) (hst : l.stackTraces = false) {D : va_G} {cy : Nat → ClassId} {ad : Nat → Nat} {I : Nat → Int32} {A : Nat → Nat → Int32} {G : Nat → Int32 × (Nat → Nat → Int32)} {T : Nat} {p1 : Int32} {p2 : Int32} {ao : Nat} {o : Nat → Int64} {ro : (Option (Int32))} {sz : Nat} (hf : f_X7_soldBy I A p1 p2 = some ro) : vx_Met l yL_soldBy wz_L_soldBy rm_L_soldBy (va_Pc [.ref (ad 0), .int p1, .int p2, .ref ao] (qw_Pre D cy ((Wo cy ad I A G T) ++ [qd_L cy ao o]) sz)) (qd_Q ro ((Wo cy ad I A G T) ++ [qd_L cy ao o]) (fun v9 => (Wo cy ad I A G T) ++ [qd_L cy ao (vp_updL o 0 (v9).toInt64)]) D (va_A ((Wo cy ad I A G T) ++ [qd_L cy ao o]) sz)) qd_X 1 6 (va_A ((Wo cy ad I A G T) ++ [qd_L cy ao o]) sz) := by
  refine qd_of (cc := cL_soldBy) (maxL := 5) (ret := some .int) (hh := [(0, 10, 13, 13)]) (by decide) (Nat.le_of_ble_eq_true rfl) ?_
  intro p e s m args below meth c ls S0 hr hlocks htab hsz V hl
  have S0 : CallFix p m c cL_soldBy 5 s args qw_big RL := S0
  have hx := S0.1; have hb := S0.2.1
  have hl : lv_has ls 5 [(0, .ref (ad 0)), (1, .int p1), (2, .int p2), (3, .ref ao)] := hl
  generalize va_A ((Wo cy ad I A G T) ++ [qd_L cy ao o]) sz = Z9 at V ⊢
  clear hsz
  have htab : c.exceptionTable.toList = [⟨0, 10, 13, 13⟩] := htab
  refine lv_aload_n hx hb dL_soldBy_0 rfl (lv_at hl 3 rfl) ?_
  refine lv_iconst (v := 0) hx hb dL_soldBy_1 (by decide) ?_
  refine lv_aload_n hx hb dL_soldBy_2 rfl (lv_at hl 0 rfl) ?_
  refine lv_iload_n hx hb dL_soldBy_3 rfl (lv_at hl 1 rfl) ?_
  refine lv_iload_n hx hb dL_soldBy_4 rfl (lv_at hl 2 rfl) ?_
  refine qd_cX (rest := [.int 0, .ref ao]) (wc := (Wo cy ad I A G T)) (wr := [qd_L cy ao o]) S0 V hl 0 gO_0 rfl (c_X7_soldBy l hst hf) kg_L_63 rfl ⟨rfl, rfl⟩ kd_X7_soldBy ⟨(Nat.le_of_ble_eq_true rfl), (Nat.le_of_ble_eq_true rfl)⟩ rfl rfl (Nat.le_of_ble_eq_true rfl) ⟨(Nat.le_of_ble_eq_true rfl), (Nat.le_of_ble_eq_true rfl)⟩ dL_soldBy_5 htab (by decide) rfl (fun v9 H locs hro V => ?_) (fun q9 H locs hro V => ?_)
  · refine W.eq (g2 := F0 m 8 ls [.int v9, .int 0, .ref ao]) rfl ?_
    refine lv_i2l hx hb dL_soldBy_8 rfl ?_
    refine qd_last S0 V rfl dL_soldBy_9 (fun H locs V => ?_)
    refine lv_goto (tgt := 17) hx hb dL_soldBy_10 (by decide) ?_
    refine lv_iconst (v := 0) hx hb dL_soldBy_17 (by decide) ?_
    exact qd_ret1 S0 hr hlocks rfl hro V dL_soldBy_18
  · refine lv_astore (lv' := [(4, .ref q9), (0, .ref (ad 0)), (1, .int p1), (2, .int p2), (3, .ref ao)]) hx hb dL_soldBy_13 hl (by decide) rfl (fun ls hl => ?_)
    refine lv_iconst (v := 1) hx hb dL_soldBy_15 (by decide) ?_
    exact qd_ret0 S0 hr hlocks rfl hro V dL_soldBy_16
abbrev wz_L_deliveredTo : List Cond := Cond.codeWith yL_deliveredTo cL_deliveredTo 5 (some .int) [(0, 10, 13, 13)] :: qw_big
def rm_L_deliveredTo : Room := { frames := 8, cells := 1, slots := 6, locals := 124 }
set_option maxHeartbeats 4000000 in
set_option maxRecDepth 100000 in
theorem c_L_deliveredTo (l : Launch) (hst : l.stackTraces = false) {D : va_G} {cy : Nat → ClassId} {ad : Nat → Nat} {I : Nat → Int32} {A : Nat → Nat → Int32} {G : Nat → Int32 × (Nat → Nat → Int32)} {T : Nat} {p1 : Int32} {p2 : Int32} {ao : Nat} {o : Nat → Int64} {ro : (Option (Int32))} {sz : Nat} (hf : f_X7_deliveredTo I A p1 p2 = some ro) : vx_Met l yL_deliveredTo wz_L_deliveredTo rm_L_deliveredTo (va_Pc [.ref (ad 0), .int p1, .int p2, .ref ao] (qw_Pre D cy ((Wo cy ad I A G T) ++ [qd_L cy ao o]) sz)) (qd_Q ro ((Wo cy ad I A G T) ++ [qd_L cy ao o]) (fun v9 => (Wo cy ad I A G T) ++ [qd_L cy ao (vp_updL o 0 (v9).toInt64)]) D (va_A ((Wo cy ad I A G T) ++ [qd_L cy ao o]) sz)) qd_X 1 6 (va_A ((Wo cy ad I A G T) ++ [qd_L cy ao o]) sz) := by
  refine qd_of (cc := cL_deliveredTo) (maxL := 5) (ret := some .int) (hh := [(0, 10, 13, 13)]) (by decide) (Nat.le_of_ble_eq_true rfl) ?_
  intro p e s m args below meth c ls S0 hr hlocks htab hsz V hl
  have S0 : CallFix p m c cL_deliveredTo 5 s args qw_big RL := S0
  have hx := S0.1; have hb := S0.2.1
  have hl : lv_has ls 5 [(0, .ref (ad 0)), (1, .int p1), (2, .int p2), (3, .ref ao)] := hl
  generalize va_A ((Wo cy ad I A G T) ++ [qd_L cy ao o]) sz = Z9 at V ⊢
  clear hsz
  have htab : c.exceptionTable.toList = [⟨0, 10, 13, 13⟩] := htab
  refine lv_aload_n hx hb dL_deliveredTo_0 rfl (lv_at hl 3 rfl) ?_
  refine lv_iconst (v := 0) hx hb dL_deliveredTo_1 (by decide) ?_
  refine lv_aload_n hx hb dL_deliveredTo_2 rfl (lv_at hl 0 rfl) ?_
  refine lv_iload_n hx hb dL_deliveredTo_3 rfl (lv_at hl 1 rfl) ?_
  refine lv_iload_n hx hb dL_deliveredTo_4 rfl (lv_at hl 2 rfl) ?_
  refine qd_cX (rest := [.int 0, .ref ao]) (wc := (Wo cy ad I A G T)) (wr := [qd_L cy ao o]) S0 V hl 0 gO_0 rfl (c_X7_deliveredTo l hst hf) kg_L_66 rfl ⟨rfl, rfl⟩ kd_X7_deliveredTo ⟨(Nat.le_of_ble_eq_true rfl), (Nat.le_of_ble_eq_true rfl)⟩ rfl rfl (Nat.le_of_ble_eq_true rfl) ⟨(Nat.le_of_ble_eq_true rfl), (Nat.le_of_ble_eq_true rfl)⟩ dL_deliveredTo_5 htab (by decide) rfl (fun v9 H locs hro V => ?_) (fun q9 H locs hro V => ?_)
  · refine W.eq (g2 := F0 m 8 ls [.int v9, .int 0, .ref ao]) rfl ?_
    refine lv_i2l hx hb dL_deliveredTo_8 rfl ?_
    refine qd_last S0 V rfl dL_deliveredTo_9 (fun H locs V => ?_)
    refine lv_goto (tgt := 17) hx hb dL_deliveredTo_10 (by decide) ?_
    refine lv_iconst (v := 0) hx hb dL_deliveredTo_17 (by decide) ?_
    exact qd_ret1 S0 hr hlocks rfl hro V dL_deliveredTo_18
  · refine lv_astore (lv' := [(4, .ref q9), (0, .ref (ad 0)), (1, .int p1), (2, .int p2), (3, .ref ao)]) hx hb dL_deliveredTo_13 hl (by decide) rfl (fun ls hl => ?_)
    refine lv_iconst (v := 1) hx hb dL_deliveredTo_15 (by decide) ?_
    exact qd_ret0 S0 hr hlocks rfl hro V dL_deliveredTo_16
abbrev wz_L_turnover : List Cond := Cond.codeWith yL_turnover cL_turnover 4 (some .int) [(0, 9, 12, 13)] :: qw_big
def rm_L_turnover : Room := { frames := 8, cells := 1, slots := 6, locals := 125 }
set_option maxHeartbeats 4000000 in
set_option maxRecDepth 100000 in
theorem c_L_turnover (l : Launch) (hst : l.stackTraces = false) {D : va_G} {cy : Nat → ClassId} {ad : Nat → Nat} {I : Nat → Int32} {A : Nat → Nat → Int32} {G : Nat → Int32 × (Nat → Nat → Int32)} {T : Nat} {p1 : Int32} {ao : Nat} {o : Nat → Int64} {ro : (Option (Int32))} {sz : Nat} (hf : f_X7_turnover I A p1 = some ro) : vx_Met l yL_turnover wz_L_turnover rm_L_turnover (va_Pc [.ref (ad 0), .int p1, .ref ao] (qw_Pre D cy ((Wo cy ad I A G T) ++ [qd_L cy ao o]) sz)) (qd_Q ro ((Wo cy ad I A G T) ++ [qd_L cy ao o]) (fun v9 => (Wo cy ad I A G T) ++ [qd_L cy ao (vp_updL o 0 (v9).toInt64)]) D (va_A ((Wo cy ad I A G T) ++ [qd_L cy ao o]) sz)) qd_X 1 6 (va_A ((Wo cy ad I A G T) ++ [qd_L cy ao o]) sz) := by
  refine qd_of (cc := cL_turnover) (maxL := 4) (ret := some .int) (hh := [(0, 9, 12, 13)]) (by decide) (Nat.le_of_ble_eq_true rfl) ?_
  intro p e s m args below meth c ls S0 hr hlocks htab hsz V hl
  have S0 : CallFix p m c cL_turnover 4 s args qw_big RL := S0
  have hx := S0.1; have hb := S0.2.1
  have hl : lv_has ls 4 [(0, .ref (ad 0)), (1, .int p1), (2, .ref ao)] := hl
  generalize va_A ((Wo cy ad I A G T) ++ [qd_L cy ao o]) sz = Z9 at V ⊢
  clear hsz
  have htab : c.exceptionTable.toList = [⟨0, 9, 12, 13⟩] := htab
  refine lv_aload_n hx hb dL_turnover_0 rfl (lv_at hl 2 rfl) ?_
  refine lv_iconst (v := 0) hx hb dL_turnover_1 (by decide) ?_
  refine lv_aload_n hx hb dL_turnover_2 rfl (lv_at hl 0 rfl) ?_
  refine lv_iload_n hx hb dL_turnover_3 rfl (lv_at hl 1 rfl) ?_
  refine qd_cX (rest := [.int 0, .ref ao]) (wc := (Wo cy ad I A G T)) (wr := [qd_L cy ao o]) S0 V hl 0 gO_0 rfl (c_X7_turnover l hst hf) kg_L_69 rfl ⟨rfl, rfl⟩ kd_X7_turnover ⟨(Nat.le_of_ble_eq_true rfl), (Nat.le_of_ble_eq_true rfl)⟩ rfl rfl (Nat.le_of_ble_eq_true rfl) ⟨(Nat.le_of_ble_eq_true rfl), (Nat.le_of_ble_eq_true rfl)⟩ dL_turnover_4 htab (by decide) rfl (fun v9 H locs hro V => ?_) (fun q9 H locs hro V => ?_)
  · refine W.eq (g2 := F0 m 7 ls [.int v9, .int 0, .ref ao]) rfl ?_
    refine lv_i2l hx hb dL_turnover_7 rfl ?_
    refine qd_last S0 V rfl dL_turnover_8 (fun H locs V => ?_)
    refine lv_goto (tgt := 15) hx hb dL_turnover_9 (by decide) ?_
    refine lv_iconst (v := 0) hx hb dL_turnover_15 (by decide) ?_
    exact qd_ret1 S0 hr hlocks rfl hro V dL_turnover_16
  · refine lv_astore_n (lv' := [(3, .ref q9), (0, .ref (ad 0)), (1, .int p1), (2, .ref ao)]) hx hb dL_turnover_12 rfl hl (by decide) rfl (fun ls hl => ?_)
    refine lv_iconst (v := 1) hx hb dL_turnover_13 (by decide) ?_
    exact qd_ret0 S0 hr hlocks rfl hro V dL_turnover_14
abbrev wz_L_issued : List Cond := Cond.codeWith yL_issued cL_issued 4 (some .int) [(0, 9, 12, 13)] :: qw_big
def rm_L_issued : Room := { frames := 8, cells := 1, slots := 6, locals := 123 }
set_option maxHeartbeats 4000000 in
set_option maxRecDepth 100000 in
theorem c_L_issued (l : Launch) (hst : l.stackTraces = false) {D : va_G} {cy : Nat → ClassId} {ad : Nat → Nat} {I : Nat → Int32} {A : Nat → Nat → Int32} {G : Nat → Int32 × (Nat → Nat → Int32)} {T : Nat} {p1 : Int32} {ao : Nat} {o : Nat → Int64} {ro : (Option (Int32))} {sz : Nat} (hf : f_X7_issued I A p1 = some ro) : vx_Met l yL_issued wz_L_issued rm_L_issued (va_Pc [.ref (ad 0), .int p1, .ref ao] (qw_Pre D cy ((Wo cy ad I A G T) ++ [qd_L cy ao o]) sz)) (qd_Q ro ((Wo cy ad I A G T) ++ [qd_L cy ao o]) (fun v9 => (Wo cy ad I A G T) ++ [qd_L cy ao (vp_updL o 0 (v9).toInt64)]) D (va_A ((Wo cy ad I A G T) ++ [qd_L cy ao o]) sz)) qd_X 1 6 (va_A ((Wo cy ad I A G T) ++ [qd_L cy ao o]) sz) := by
  refine qd_of (cc := cL_issued) (maxL := 4) (ret := some .int) (hh := [(0, 9, 12, 13)]) (by decide) (Nat.le_of_ble_eq_true rfl) ?_
  intro p e s m args below meth c ls S0 hr hlocks htab hsz V hl
  have S0 : CallFix p m c cL_issued 4 s args qw_big RL := S0
  have hx := S0.1; have hb := S0.2.1
  have hl : lv_has ls 4 [(0, .ref (ad 0)), (1, .int p1), (2, .ref ao)] := hl
  generalize va_A ((Wo cy ad I A G T) ++ [qd_L cy ao o]) sz = Z9 at V ⊢
  clear hsz
  have htab : c.exceptionTable.toList = [⟨0, 9, 12, 13⟩] := htab
  refine lv_aload_n hx hb dL_issued_0 rfl (lv_at hl 2 rfl) ?_
  refine lv_iconst (v := 0) hx hb dL_issued_1 (by decide) ?_
  refine lv_aload_n hx hb dL_issued_2 rfl (lv_at hl 0 rfl) ?_
  refine lv_iload_n hx hb dL_issued_3 rfl (lv_at hl 1 rfl) ?_
  refine qd_cX (rest := [.int 0, .ref ao]) (wc := (Wo cy ad I A G T)) (wr := [qd_L cy ao o]) S0 V hl 0 gO_0 rfl (c_X7_issued l hst hf) kg_L_72 rfl ⟨rfl, rfl⟩ kd_X7_issued ⟨(Nat.le_of_ble_eq_true rfl), (Nat.le_of_ble_eq_true rfl)⟩ rfl rfl (Nat.le_of_ble_eq_true rfl) ⟨(Nat.le_of_ble_eq_true rfl), (Nat.le_of_ble_eq_true rfl)⟩ dL_issued_4 htab (by decide) rfl (fun v9 H locs hro V => ?_) (fun q9 H locs hro V => ?_)
  · refine W.eq (g2 := F0 m 7 ls [.int v9, .int 0, .ref ao]) rfl ?_
    refine lv_i2l hx hb dL_issued_7 rfl ?_
    refine qd_last S0 V rfl dL_issued_8 (fun H locs V => ?_)
    refine lv_goto (tgt := 15) hx hb dL_issued_9 (by decide) ?_
    refine lv_iconst (v := 0) hx hb dL_issued_15 (by decide) ?_
    exact qd_ret1 S0 hr hlocks rfl hro V dL_issued_16
  · refine lv_astore_n (lv' := [(3, .ref q9), (0, .ref (ad 0)), (1, .int p1), (2, .ref ao)]) hx hb dL_issued_12 rfl hl (by decide) rfl (fun ls hl => ?_)
    refine lv_iconst (v := 1) hx hb dL_issued_13 (by decide) ?_
    exact qd_ret0 S0 hr hlocks rfl hro V dL_issued_14
abbrev wz_L_spent : List Cond := Cond.codeWith yL_spent cL_spent 4 (some .int) [(0, 9, 12, 13)] :: qw_big
def rm_L_spent : Room := { frames := 8, cells := 1, slots := 6, locals := 123 }
set_option maxHeartbeats 4000000 in
set_option maxRecDepth 100000 in
theorem c_L_spent (l : Launch) (hst : l.stackTraces = false) {D : va_G} {cy : Nat → ClassId} {ad : Nat → Nat} {I : Nat → Int32} {A : Nat → Nat → Int32} {G : Nat → Int32 × (Nat → Nat → Int32)} {T : Nat} {p1 : Int32} {ao : Nat} {o : Nat → Int64} {ro : (Option (Int32))} {sz : Nat} (hf : f_X7_spent I A p1 = some ro) : vx_Met l yL_spent wz_L_spent rm_L_spent (va_Pc [.ref (ad 0), .int p1, .ref ao] (qw_Pre D cy ((Wo cy ad I A G T) ++ [qd_L cy ao o]) sz)) (qd_Q ro ((Wo cy ad I A G T) ++ [qd_L cy ao o]) (fun v9 => (Wo cy ad I A G T) ++ [qd_L cy ao (vp_updL o 0 (v9).toInt64)]) D (va_A ((Wo cy ad I A G T) ++ [qd_L cy ao o]) sz)) qd_X 1 6 (va_A ((Wo cy ad I A G T) ++ [qd_L cy ao o]) sz) := by
  refine qd_of (cc := cL_spent) (maxL := 4) (ret := some .int) (hh := [(0, 9, 12, 13)]) (by decide) (Nat.le_of_ble_eq_true rfl) ?_
  intro p e s m args below meth c ls S0 hr hlocks htab hsz V hl
  have S0 : CallFix p m c cL_spent 4 s args qw_big RL := S0
  have hx := S0.1; have hb := S0.2.1
  have hl : lv_has ls 4 [(0, .ref (ad 0)), (1, .int p1), (2, .ref ao)] := hl
  generalize va_A ((Wo cy ad I A G T) ++ [qd_L cy ao o]) sz = Z9 at V ⊢
  clear hsz
  have htab : c.exceptionTable.toList = [⟨0, 9, 12, 13⟩] := htab
  refine lv_aload_n hx hb dL_spent_0 rfl (lv_at hl 2 rfl) ?_
  refine lv_iconst (v := 0) hx hb dL_spent_1 (by decide) ?_
  refine lv_aload_n hx hb dL_spent_2 rfl (lv_at hl 0 rfl) ?_
  refine lv_iload_n hx hb dL_spent_3 rfl (lv_at hl 1 rfl) ?_
  refine qd_cX (rest := [.int 0, .ref ao]) (wc := (Wo cy ad I A G T)) (wr := [qd_L cy ao o]) S0 V hl 0 gO_0 rfl (c_X7_spent l hst hf) kg_L_75 rfl ⟨rfl, rfl⟩ kd_X7_spent ⟨(Nat.le_of_ble_eq_true rfl), (Nat.le_of_ble_eq_true rfl)⟩ rfl rfl (Nat.le_of_ble_eq_true rfl) ⟨(Nat.le_of_ble_eq_true rfl), (Nat.le_of_ble_eq_true rfl)⟩ dL_spent_4 htab (by decide) rfl (fun v9 H locs hro V => ?_) (fun q9 H locs hro V => ?_)
  · refine W.eq (g2 := F0 m 7 ls [.int v9, .int 0, .ref ao]) rfl ?_
    refine lv_i2l hx hb dL_spent_7 rfl ?_
    refine qd_last S0 V rfl dL_spent_8 (fun H locs V => ?_)
    refine lv_goto (tgt := 15) hx hb dL_spent_9 (by decide) ?_
    refine lv_iconst (v := 0) hx hb dL_spent_15 (by decide) ?_
    exact qd_ret1 S0 hr hlocks rfl hro V dL_spent_16
  · refine lv_astore_n (lv' := [(3, .ref q9), (0, .ref (ad 0)), (1, .int p1), (2, .ref ao)]) hx hb dL_spent_12 rfl hl (by decide) rfl (fun ls hl => ?_)
    refine lv_iconst (v := 1) hx hb dL_spent_13 (by decide) ?_
    exact qd_ret0 S0 hr hlocks rfl hro V dL_spent_14
abbrev wz_L_lapsed : List Cond := Cond.codeWith yL_lapsed cL_lapsed 4 (some .int) [(0, 9, 12, 13)] :: qw_big
def rm_L_lapsed : Room := { frames := 8, cells := 1, slots := 6, locals := 123 }
set_option maxHeartbeats 4000000 in
set_option maxRecDepth 100000 in
theorem c_L_lapsed (l : Launch) (hst : l.stackTraces = false) {D : va_G} {cy : Nat → ClassId} {ad : Nat → Nat} {I : Nat → Int32} {A : Nat → Nat → Int32} {G : Nat → Int32 × (Nat → Nat → Int32)} {T : Nat} {p1 : Int32} {ao : Nat} {o : Nat → Int64} {ro : (Option (Int32))} {sz : Nat} (hf : f_X7_lapsed I A p1 = some ro) : vx_Met l yL_lapsed wz_L_lapsed rm_L_lapsed (va_Pc [.ref (ad 0), .int p1, .ref ao] (qw_Pre D cy ((Wo cy ad I A G T) ++ [qd_L cy ao o]) sz)) (qd_Q ro ((Wo cy ad I A G T) ++ [qd_L cy ao o]) (fun v9 => (Wo cy ad I A G T) ++ [qd_L cy ao (vp_updL o 0 (v9).toInt64)]) D (va_A ((Wo cy ad I A G T) ++ [qd_L cy ao o]) sz)) qd_X 1 6 (va_A ((Wo cy ad I A G T) ++ [qd_L cy ao o]) sz) := by
  refine qd_of (cc := cL_lapsed) (maxL := 4) (ret := some .int) (hh := [(0, 9, 12, 13)]) (by decide) (Nat.le_of_ble_eq_true rfl) ?_
  intro p e s m args below meth c ls S0 hr hlocks htab hsz V hl
  have S0 : CallFix p m c cL_lapsed 4 s args qw_big RL := S0
  have hx := S0.1; have hb := S0.2.1
  have hl : lv_has ls 4 [(0, .ref (ad 0)), (1, .int p1), (2, .ref ao)] := hl
  generalize va_A ((Wo cy ad I A G T) ++ [qd_L cy ao o]) sz = Z9 at V ⊢
  clear hsz
  have htab : c.exceptionTable.toList = [⟨0, 9, 12, 13⟩] := htab
  refine lv_aload_n hx hb dL_lapsed_0 rfl (lv_at hl 2 rfl) ?_
  refine lv_iconst (v := 0) hx hb dL_lapsed_1 (by decide) ?_
  refine lv_aload_n hx hb dL_lapsed_2 rfl (lv_at hl 0 rfl) ?_
  refine lv_iload_n hx hb dL_lapsed_3 rfl (lv_at hl 1 rfl) ?_
  refine qd_cX (rest := [.int 0, .ref ao]) (wc := (Wo cy ad I A G T)) (wr := [qd_L cy ao o]) S0 V hl 0 gO_0 rfl (c_X7_lapsed l hst hf) kg_L_78 rfl ⟨rfl, rfl⟩ kd_X7_lapsed ⟨(Nat.le_of_ble_eq_true rfl), (Nat.le_of_ble_eq_true rfl)⟩ rfl rfl (Nat.le_of_ble_eq_true rfl) ⟨(Nat.le_of_ble_eq_true rfl), (Nat.le_of_ble_eq_true rfl)⟩ dL_lapsed_4 htab (by decide) rfl (fun v9 H locs hro V => ?_) (fun q9 H locs hro V => ?_)
  · refine W.eq (g2 := F0 m 7 ls [.int v9, .int 0, .ref ao]) rfl ?_
    refine lv_i2l hx hb dL_lapsed_7 rfl ?_
    refine qd_last S0 V rfl dL_lapsed_8 (fun H locs V => ?_)
    refine lv_goto (tgt := 15) hx hb dL_lapsed_9 (by decide) ?_
    refine lv_iconst (v := 0) hx hb dL_lapsed_15 (by decide) ?_
    exact qd_ret1 S0 hr hlocks rfl hro V dL_lapsed_16
  · refine lv_astore_n (lv' := [(3, .ref q9), (0, .ref (ad 0)), (1, .int p1), (2, .ref ao)]) hx hb dL_lapsed_12 rfl hl (by decide) rfl (fun ls hl => ?_)
    refine lv_iconst (v := 1) hx hb dL_lapsed_13 (by decide) ?_
    exact qd_ret0 S0 hr hlocks rfl hro V dL_lapsed_14
abbrev wz_L_held : List Cond := Cond.codeWith yL_held cL_held 4 (some .int) [(0, 9, 12, 13)] :: qw_big
def rm_L_held : Room := { frames := 8, cells := 1, slots := 6, locals := 123 }
set_option maxHeartbeats 4000000 in
set_option maxRecDepth 100000 in
theorem c_L_held (l : Launch) (hst : l.stackTraces = false) {D : va_G} {cy : Nat → ClassId} {ad : Nat → Nat} {I : Nat → Int32} {A : Nat → Nat → Int32} {G : Nat → Int32 × (Nat → Nat → Int32)} {T : Nat} {p1 : Int32} {ao : Nat} {o : Nat → Int64} {ro : (Option (Int32))} {sz : Nat} (hf : f_X7_held I A p1 = some ro) : vx_Met l yL_held wz_L_held rm_L_held (va_Pc [.ref (ad 0), .int p1, .ref ao] (qw_Pre D cy ((Wo cy ad I A G T) ++ [qd_L cy ao o]) sz)) (qd_Q ro ((Wo cy ad I A G T) ++ [qd_L cy ao o]) (fun v9 => (Wo cy ad I A G T) ++ [qd_L cy ao (vp_updL o 0 (v9).toInt64)]) D (va_A ((Wo cy ad I A G T) ++ [qd_L cy ao o]) sz)) qd_X 1 6 (va_A ((Wo cy ad I A G T) ++ [qd_L cy ao o]) sz) := by
  refine qd_of (cc := cL_held) (maxL := 4) (ret := some .int) (hh := [(0, 9, 12, 13)]) (by decide) (Nat.le_of_ble_eq_true rfl) ?_
  intro p e s m args below meth c ls S0 hr hlocks htab hsz V hl
  have S0 : CallFix p m c cL_held 4 s args qw_big RL := S0
  have hx := S0.1; have hb := S0.2.1
  have hl : lv_has ls 4 [(0, .ref (ad 0)), (1, .int p1), (2, .ref ao)] := hl
  generalize va_A ((Wo cy ad I A G T) ++ [qd_L cy ao o]) sz = Z9 at V ⊢
  clear hsz
  have htab : c.exceptionTable.toList = [⟨0, 9, 12, 13⟩] := htab
  refine lv_aload_n hx hb dL_held_0 rfl (lv_at hl 2 rfl) ?_
  refine lv_iconst (v := 0) hx hb dL_held_1 (by decide) ?_
  refine lv_aload_n hx hb dL_held_2 rfl (lv_at hl 0 rfl) ?_
  refine lv_iload_n hx hb dL_held_3 rfl (lv_at hl 1 rfl) ?_
  refine qd_cX (rest := [.int 0, .ref ao]) (wc := (Wo cy ad I A G T)) (wr := [qd_L cy ao o]) S0 V hl 0 gO_0 rfl (c_X7_held l hst hf) kg_L_81 rfl ⟨rfl, rfl⟩ kd_X7_held ⟨(Nat.le_of_ble_eq_true rfl), (Nat.le_of_ble_eq_true rfl)⟩ rfl rfl (Nat.le_of_ble_eq_true rfl) ⟨(Nat.le_of_ble_eq_true rfl), (Nat.le_of_ble_eq_true rfl)⟩ dL_held_4 htab (by decide) rfl (fun v9 H locs hro V => ?_) (fun q9 H locs hro V => ?_)
  · refine W.eq (g2 := F0 m 7 ls [.int v9, .int 0, .ref ao]) rfl ?_
    refine lv_i2l hx hb dL_held_7 rfl ?_
    refine qd_last S0 V rfl dL_held_8 (fun H locs V => ?_)
    refine lv_goto (tgt := 15) hx hb dL_held_9 (by decide) ?_
    refine lv_iconst (v := 0) hx hb dL_held_15 (by decide) ?_
    exact qd_ret1 S0 hr hlocks rfl hro V dL_held_16
  · refine lv_astore_n (lv' := [(3, .ref q9), (0, .ref (ad 0)), (1, .int p1), (2, .ref ao)]) hx hb dL_held_12 rfl hl (by decide) rfl (fun ls hl => ?_)
    refine lv_iconst (v := 1) hx hb dL_held_13 (by decide) ?_
    exact qd_ret0 S0 hr hlocks rfl hro V dL_held_14
abbrev wz_L_reasonFor : List Cond := Cond.codeWith yL_reasonFor cL_reasonFor 7 (some .int) [(0, 14, 17, 13)] :: qw_big
def rm_L_reasonFor : Room := { frames := 8, cells := 1, slots := 6, locals := 158 }
set_option maxHeartbeats 4000000 in
set_option maxRecDepth 100000 in
theorem c_L_reasonFor (l : Launch) (hst : l.stackTraces = false) {D : va_G} {cy : Nat → ClassId} {ad : Nat → Nat} {I : Nat → Int32} {A : Nat → Nat → Int32} {G : Nat → Int32 × (Nat → Nat → Int32)} {T : Nat} {p1 : Int32} {p2 : Int32} {p3 : Int32} {p4 : Int32} {ao : Nat} {o : Nat → Int64} {ro : (Option (Int32))} {sz : Nat} (hf : f_X7_reasonFor I A p1 p2 p3 p4 = some ro) : vx_Met l yL_reasonFor wz_L_reasonFor rm_L_reasonFor (va_Pc [.ref (ad 0), .int p1, .int p2, .int p3, .int p4, .ref ao] (qw_Pre D cy ((Wo cy ad I A G T) ++ [qd_L cy ao o]) sz)) (qd_Q ro ((Wo cy ad I A G T) ++ [qd_L cy ao o]) (fun v9 => (Wo cy ad I A G T) ++ [qd_L cy ao (vp_updL o 0 (v9).toInt64)]) D (va_A ((Wo cy ad I A G T) ++ [qd_L cy ao o]) sz)) qd_X 1 6 (va_A ((Wo cy ad I A G T) ++ [qd_L cy ao o]) sz) := by
  refine qd_of (cc := cL_reasonFor) (maxL := 7) (ret := some .int) (hh := [(0, 14, 17, 13)]) (by decide) (Nat.le_of_ble_eq_true rfl) ?_
  intro p e s m args below meth c ls S0 hr hlocks htab hsz V hl
  have S0 : CallFix p m c cL_reasonFor 7 s args qw_big RL := S0
  have hx := S0.1; have hb := S0.2.1
  have hl : lv_has ls 7 [(0, .ref (ad 0)), (1, .int p1), (2, .int p2), (3, .int p3), (4, .int p4), (5, .ref ao)] := hl
  generalize va_A ((Wo cy ad I A G T) ++ [qd_L cy ao o]) sz = Z9 at V ⊢
  clear hsz
  have htab : c.exceptionTable.toList = [⟨0, 14, 17, 13⟩] := htab
  refine lv_aload hx hb dL_reasonFor_0 (lv_at hl 5 rfl) ?_
  refine lv_iconst (v := 0) hx hb dL_reasonFor_2 (by decide) ?_
  refine lv_aload_n hx hb dL_reasonFor_3 rfl (lv_at hl 0 rfl) ?_
  refine lv_iload_n hx hb dL_reasonFor_4 rfl (lv_at hl 1 rfl) ?_
  refine lv_iload_n hx hb dL_reasonFor_5 rfl (lv_at hl 2 rfl) ?_
  refine lv_iload_n hx hb dL_reasonFor_6 rfl (lv_at hl 3 rfl) ?_
  refine lv_iload hx hb dL_reasonFor_7 (lv_at hl 4 rfl) ?_
  refine qd_cX (rest := [.int 0, .ref ao]) (wc := (Wo cy ad I A G T)) (wr := [qd_L cy ao o]) S0 V hl 0 gO_0 rfl (c_X7_reasonFor l hst hf) kg_L_84 rfl ⟨rfl, rfl⟩ kd_X7_reasonFor ⟨(Nat.le_of_ble_eq_true rfl), (Nat.le_of_ble_eq_true rfl)⟩ rfl rfl (Nat.le_of_ble_eq_true rfl) ⟨(Nat.le_of_ble_eq_true rfl), (Nat.le_of_ble_eq_true rfl)⟩ dL_reasonFor_9 htab (by decide) rfl (fun v9 H locs hro V => ?_) (fun q9 H locs hro V => ?_)
  · refine W.eq (g2 := F0 m 12 ls [.int v9, .int 0, .ref ao]) rfl ?_
    refine lv_i2l hx hb dL_reasonFor_12 rfl ?_
    refine qd_last S0 V rfl dL_reasonFor_13 (fun H locs V => ?_)
    refine lv_goto (tgt := 21) hx hb dL_reasonFor_14 (by decide) ?_
    refine lv_iconst (v := 0) hx hb dL_reasonFor_21 (by decide) ?_
    exact qd_ret1 S0 hr hlocks rfl hro V dL_reasonFor_22
  · refine lv_astore (lv' := [(6, .ref q9), (0, .ref (ad 0)), (1, .int p1), (2, .int p2), (3, .int p3), (4, .int p4), (5, .ref ao)]) hx hb dL_reasonFor_17 hl (by decide) rfl (fun ls hl => ?_)
    refine lv_iconst (v := 1) hx hb dL_reasonFor_19 (by decide) ?_
    exact qd_ret0 S0 hr hlocks rfl hro V dL_reasonFor_20
abbrev wz_L_mostUnits : List Cond := Cond.codeWith yL_mostUnits cL_mostUnits 6 (some .int) [(0, 12, 15, 13)] :: qw_big
def rm_L_mostUnits : Room := { frames := 8, cells := 1, slots := 6, locals := 125 }
set_option maxHeartbeats 4000000 in
set_option maxRecDepth 100000 in
theorem c_L_mostUnits (l : Launch) (hst : l.stackTraces = false) {D : va_G} {cy : Nat → ClassId} {ad : Nat → Nat} {I : Nat → Int32} {A : Nat → Nat → Int32} {G : Nat → Int32 × (Nat → Nat → Int32)} {T : Nat} {p1 : Int32} {p2 : Int32} {p3 : Int32} {ao : Nat} {o : Nat → Int64} {ro : (Option (Int32))} {sz : Nat} (hf : f_X7_mostUnits I A p1 p2 p3 = some ro) : vx_Met l yL_mostUnits wz_L_mostUnits rm_L_mostUnits (va_Pc [.ref (ad 0), .int p1, .int p2, .int p3, .ref ao] (qw_Pre D cy ((Wo cy ad I A G T) ++ [qd_L cy ao o]) sz)) (qd_Q ro ((Wo cy ad I A G T) ++ [qd_L cy ao o]) (fun v9 => (Wo cy ad I A G T) ++ [qd_L cy ao (vp_updL o 0 (v9).toInt64)]) D (va_A ((Wo cy ad I A G T) ++ [qd_L cy ao o]) sz)) qd_X 1 6 (va_A ((Wo cy ad I A G T) ++ [qd_L cy ao o]) sz) := by
  refine qd_of (cc := cL_mostUnits) (maxL := 6) (ret := some .int) (hh := [(0, 12, 15, 13)]) (by decide) (Nat.le_of_ble_eq_true rfl) ?_
  intro p e s m args below meth c ls S0 hr hlocks htab hsz V hl
  have S0 : CallFix p m c cL_mostUnits 6 s args qw_big RL := S0
  have hx := S0.1; have hb := S0.2.1
  have hl : lv_has ls 6 [(0, .ref (ad 0)), (1, .int p1), (2, .int p2), (3, .int p3), (4, .ref ao)] := hl
  generalize va_A ((Wo cy ad I A G T) ++ [qd_L cy ao o]) sz = Z9 at V ⊢
  clear hsz
  have htab : c.exceptionTable.toList = [⟨0, 12, 15, 13⟩] := htab
  refine lv_aload hx hb dL_mostUnits_0 (lv_at hl 4 rfl) ?_
  refine lv_iconst (v := 0) hx hb dL_mostUnits_2 (by decide) ?_
  refine lv_aload_n hx hb dL_mostUnits_3 rfl (lv_at hl 0 rfl) ?_
  refine lv_iload_n hx hb dL_mostUnits_4 rfl (lv_at hl 1 rfl) ?_
  refine lv_iload_n hx hb dL_mostUnits_5 rfl (lv_at hl 2 rfl) ?_
  refine lv_iload_n hx hb dL_mostUnits_6 rfl (lv_at hl 3 rfl) ?_
  refine qd_cX (rest := [.int 0, .ref ao]) (wc := (Wo cy ad I A G T)) (wr := [qd_L cy ao o]) S0 V hl 0 gO_0 rfl (c_X7_mostUnits l hst hf) kg_L_88 rfl ⟨rfl, rfl⟩ kd_X7_mostUnits ⟨(Nat.le_of_ble_eq_true rfl), (Nat.le_of_ble_eq_true rfl)⟩ rfl rfl (Nat.le_of_ble_eq_true rfl) ⟨(Nat.le_of_ble_eq_true rfl), (Nat.le_of_ble_eq_true rfl)⟩ dL_mostUnits_7 htab (by decide) rfl (fun v9 H locs hro V => ?_) (fun q9 H locs hro V => ?_)
  · refine W.eq (g2 := F0 m 10 ls [.int v9, .int 0, .ref ao]) rfl ?_
    refine lv_i2l hx hb dL_mostUnits_10 rfl ?_
    refine qd_last S0 V rfl dL_mostUnits_11 (fun H locs V => ?_)
    refine lv_goto (tgt := 19) hx hb dL_mostUnits_12 (by decide) ?_
    refine lv_iconst (v := 0) hx hb dL_mostUnits_19 (by decide) ?_
    exact qd_ret1 S0 hr hlocks rfl hro V dL_mostUnits_20
  · refine lv_astore (lv' := [(5, .ref q9), (0, .ref (ad 0)), (1, .int p1), (2, .int p2), (3, .int p3), (4, .ref ao)]) hx hb dL_mostUnits_15 hl (by decide) rfl (fun ls hl => ?_)
    refine lv_iconst (v := 1) hx hb dL_mostUnits_17 (by decide) ?_
    exact qd_ret0 S0 hr hlocks rfl hro V dL_mostUnits_18
abbrev wz_L_substituted : List Cond := Cond.codeWith yL_substituted cL_substituted 6 (some .int) [(0, 12, 15, 13)] :: qw_big
def rm_L_substituted : Room := { frames := 8, cells := 1, slots := 6, locals := 133 }
set_option maxHeartbeats 4000000 in
set_option maxRecDepth 100000 in
theorem c_L_substituted (l : Launch) (hst : l.stackTraces = false) {D : va_G} {cy : Nat → ClassId} {ad : Nat → Nat} {I : Nat → Int32} {A : Nat → Nat → Int32} {G : Nat → Int32 × (Nat → Nat → Int32)} {T : Nat} {p1 : Int32} {p2 : Int32} {p3 : Int32} {ao : Nat} {o : Nat → Int64} {ro : (Option (Int32))} {sz : Nat} (hf : f_X7_substituted I A p1 p2 p3 = some ro) : vx_Met l yL_substituted wz_L_substituted rm_L_substituted (va_Pc [.ref (ad 0), .int p1, .int p2, .int p3, .ref ao] (qw_Pre D cy ((Wo cy ad I A G T) ++ [qd_L cy ao o]) sz)) (qd_Q ro ((Wo cy ad I A G T) ++ [qd_L cy ao o]) (fun v9 => (Wo cy ad I A G T) ++ [qd_L cy ao (vp_updL o 0 (v9).toInt64)]) D (va_A ((Wo cy ad I A G T) ++ [qd_L cy ao o]) sz)) qd_X 1 6 (va_A ((Wo cy ad I A G T) ++ [qd_L cy ao o]) sz) := by
  refine qd_of (cc := cL_substituted) (maxL := 6) (ret := some .int) (hh := [(0, 12, 15, 13)]) (by decide) (Nat.le_of_ble_eq_true rfl) ?_
  intro p e s m args below meth c ls S0 hr hlocks htab hsz V hl
  have S0 : CallFix p m c cL_substituted 6 s args qw_big RL := S0
  have hx := S0.1; have hb := S0.2.1
  have hl : lv_has ls 6 [(0, .ref (ad 0)), (1, .int p1), (2, .int p2), (3, .int p3), (4, .ref ao)] := hl
  generalize va_A ((Wo cy ad I A G T) ++ [qd_L cy ao o]) sz = Z9 at V ⊢
  clear hsz
  have htab : c.exceptionTable.toList = [⟨0, 12, 15, 13⟩] := htab
  refine lv_aload hx hb dL_substituted_0 (lv_at hl 4 rfl) ?_
  refine lv_iconst (v := 0) hx hb dL_substituted_2 (by decide) ?_
  refine lv_aload_n hx hb dL_substituted_3 rfl (lv_at hl 0 rfl) ?_
  refine lv_iload_n hx hb dL_substituted_4 rfl (lv_at hl 1 rfl) ?_
  refine lv_iload_n hx hb dL_substituted_5 rfl (lv_at hl 2 rfl) ?_
  refine lv_iload_n hx hb dL_substituted_6 rfl (lv_at hl 3 rfl) ?_
  refine qd_cX (rest := [.int 0, .ref ao]) (wc := (Wo cy ad I A G T)) (wr := [qd_L cy ao o]) S0 V hl 0 gO_0 rfl (c_X7_substituted l hst hf) kg_L_91 rfl ⟨rfl, rfl⟩ kd_X7_substituted ⟨(Nat.le_of_ble_eq_true rfl), (Nat.le_of_ble_eq_true rfl)⟩ rfl rfl (Nat.le_of_ble_eq_true rfl) ⟨(Nat.le_of_ble_eq_true rfl), (Nat.le_of_ble_eq_true rfl)⟩ dL_substituted_7 htab (by decide) rfl (fun v9 H locs hro V => ?_) (fun q9 H locs hro V => ?_)
  · refine W.eq (g2 := F0 m 10 ls [.int v9, .int 0, .ref ao]) rfl ?_
    refine lv_i2l hx hb dL_substituted_10 rfl ?_
    refine qd_last S0 V rfl dL_substituted_11 (fun H locs V => ?_)
    refine lv_goto (tgt := 19) hx hb dL_substituted_12 (by decide) ?_
    refine lv_iconst (v := 0) hx hb dL_substituted_19 (by decide) ?_
    exact qd_ret1 S0 hr hlocks rfl hro V dL_substituted_20
  · refine lv_astore (lv' := [(5, .ref q9), (0, .ref (ad 0)), (1, .int p1), (2, .int p2), (3, .int p3), (4, .ref ao)]) hx hb dL_substituted_15 hl (by decide) rfl (fun ls hl => ?_)
    refine lv_iconst (v := 1) hx hb dL_substituted_17 (by decide) ?_
    exact qd_ret0 S0 hr hlocks rfl hro V dL_substituted_18
abbrev wz_L_served : List Cond := Cond.codeWith yL_served cL_served 6 (some .int) [(0, 12, 15, 13)] :: qw_big
def rm_L_served : Room := { frames := 8, cells := 1, slots := 6, locals := 135 }
set_option maxHeartbeats 4000000 in
set_option maxRecDepth 100000 in
theorem c_L_served (l : Launch) (hst : l.stackTraces = false) {D : va_G} {cy : Nat → ClassId} {ad : Nat → Nat} {I : Nat → Int32} {A : Nat → Nat → Int32} {G : Nat → Int32 × (Nat → Nat → Int32)} {T : Nat} {p1 : Int32} {p2 : Int32} {p3 : Int32} {ao : Nat} {o : Nat → Int64} {ro : (Option (Int32))} {sz : Nat} (hf : f_X7_served I A p1 p2 p3 = some ro) : vx_Met l yL_served wz_L_served rm_L_served (va_Pc [.ref (ad 0), .int p1, .int p2, .int p3, .ref ao] (qw_Pre D cy ((Wo cy ad I A G T) ++ [qd_L cy ao o]) sz)) (qd_Q ro ((Wo cy ad I A G T) ++ [qd_L cy ao o]) (fun v9 => (Wo cy ad I A G T) ++ [qd_L cy ao (vp_updL o 0 (v9).toInt64)]) D (va_A ((Wo cy ad I A G T) ++ [qd_L cy ao o]) sz)) qd_X 1 6 (va_A ((Wo cy ad I A G T) ++ [qd_L cy ao o]) sz) := by
  refine qd_of (cc := cL_served) (maxL := 6) (ret := some .int) (hh := [(0, 12, 15, 13)]) (by decide) (Nat.le_of_ble_eq_true rfl) ?_
  intro p e s m args below meth c ls S0 hr hlocks htab hsz V hl
  have S0 : CallFix p m c cL_served 6 s args qw_big RL := S0
  have hx := S0.1; have hb := S0.2.1
  have hl : lv_has ls 6 [(0, .ref (ad 0)), (1, .int p1), (2, .int p2), (3, .int p3), (4, .ref ao)] := hl
  generalize va_A ((Wo cy ad I A G T) ++ [qd_L cy ao o]) sz = Z9 at V ⊢
  clear hsz
  have htab : c.exceptionTable.toList = [⟨0, 12, 15, 13⟩] := htab
  refine lv_aload hx hb dL_served_0 (lv_at hl 4 rfl) ?_
  refine lv_iconst (v := 0) hx hb dL_served_2 (by decide) ?_
  refine lv_aload_n hx hb dL_served_3 rfl (lv_at hl 0 rfl) ?_
  refine lv_iload_n hx hb dL_served_4 rfl (lv_at hl 1 rfl) ?_
  refine lv_iload_n hx hb dL_served_5 rfl (lv_at hl 2 rfl) ?_
  refine lv_iload_n hx hb dL_served_6 rfl (lv_at hl 3 rfl) ?_
  refine qd_cX (rest := [.int 0, .ref ao]) (wc := (Wo cy ad I A G T)) (wr := [qd_L cy ao o]) S0 V hl 0 gO_0 rfl (c_X7_served l hst hf) kg_L_94 rfl ⟨rfl, rfl⟩ kd_X7_served ⟨(Nat.le_of_ble_eq_true rfl), (Nat.le_of_ble_eq_true rfl)⟩ rfl rfl (Nat.le_of_ble_eq_true rfl) ⟨(Nat.le_of_ble_eq_true rfl), (Nat.le_of_ble_eq_true rfl)⟩ dL_served_7 htab (by decide) rfl (fun v9 H locs hro V => ?_) (fun q9 H locs hro V => ?_)
  · refine W.eq (g2 := F0 m 10 ls [.int v9, .int 0, .ref ao]) rfl ?_
    refine lv_i2l hx hb dL_served_10 rfl ?_
    refine qd_last S0 V rfl dL_served_11 (fun H locs V => ?_)
    refine lv_goto (tgt := 19) hx hb dL_served_12 (by decide) ?_
    refine lv_iconst (v := 0) hx hb dL_served_19 (by decide) ?_
    exact qd_ret1 S0 hr hlocks rfl hro V dL_served_20
  · refine lv_astore (lv' := [(5, .ref q9), (0, .ref (ad 0)), (1, .int p1), (2, .int p2), (3, .int p3), (4, .ref ao)]) hx hb dL_served_15 hl (by decide) rfl (fun ls hl => ?_)
    refine lv_iconst (v := 1) hx hb dL_served_17 (by decide) ?_
    exact qd_ret0 S0 hr hlocks rfl hro V dL_served_18
abbrev wz_L_basketValue : List Cond := Cond.codeWith yL_basketValue cL_basketValue 5 (some .int) [(0, 10, 13, 13)] :: qw_big
def rm_L_basketValue : Room := { frames := 8, cells := 1, slots := 6, locals := 211 }
set_option maxHeartbeats 4000000 in
set_option maxRecDepth 100000 in
theorem c_L_basketValue (l : Launch) (hst : l.stackTraces = false) {D : va_G} {cy : Nat → ClassId} {ad : Nat → Nat} {I : Nat → Int32} {A : Nat → Nat → Int32} {G : Nat → Int32 × (Nat → Nat → Int32)} {T : Nat} {p1 : Int32} {p2 : Int32} {ao : Nat} {o : Nat → Int64} {ro : (Option (Int32 × (Nat → Int32) × (Nat → Nat → Int32)))} {sz : Nat} (hf : f_X7_basketValue I A p1 p2 = some ro) : vx_Met l yL_basketValue wz_L_basketValue rm_L_basketValue (va_Pc [.ref (ad 0), .int p1, .int p2, .ref ao] (qw_Pre D cy ((Wo cy ad I A G T) ++ [qd_L cy ao o]) sz)) (qd_Q ro ((Wo cy ad I A G T) ++ [qd_L cy ao o]) (fun v9 => (Wo cy ad v9.2.1 v9.2.2 G T) ++ [qd_L cy ao (vp_updL o 0 (v9.1).toInt64)]) D (va_A ((Wo cy ad I A G T) ++ [qd_L cy ao o]) sz)) qd_X 1 6 (va_A ((Wo cy ad I A G T) ++ [qd_L cy ao o]) sz) := by
  refine qd_of (cc := cL_basketValue) (maxL := 5) (ret := some .int) (hh := [(0, 10, 13, 13)]) (by decide) (Nat.le_of_ble_eq_true rfl) ?_
  intro p e s m args below meth c ls S0 hr hlocks htab hsz V hl
  have S0 : CallFix p m c cL_basketValue 5 s args qw_big RL := S0
  have hx := S0.1; have hb := S0.2.1
  have hl : lv_has ls 5 [(0, .ref (ad 0)), (1, .int p1), (2, .int p2), (3, .ref ao)] := hl
  generalize va_A ((Wo cy ad I A G T) ++ [qd_L cy ao o]) sz = Z9 at V ⊢
  clear hsz
  have htab : c.exceptionTable.toList = [⟨0, 10, 13, 13⟩] := htab
  refine lv_aload_n hx hb dL_basketValue_0 rfl (lv_at hl 3 rfl) ?_
  refine lv_iconst (v := 0) hx hb dL_basketValue_1 (by decide) ?_
  refine lv_aload_n hx hb dL_basketValue_2 rfl (lv_at hl 0 rfl) ?_
  refine lv_iload_n hx hb dL_basketValue_3 rfl (lv_at hl 1 rfl) ?_
  refine lv_iload_n hx hb dL_basketValue_4 rfl (lv_at hl 2 rfl) ?_
  refine qd_cX (rest := [.int 0, .ref ao]) (wc := (Wo cy ad I A G T)) (wr := [qd_L cy ao o]) S0 V hl 0 gO_0 rfl (c_X7_basketValue l hst hf) kg_L_97 rfl ⟨rfl, rfl⟩ kd_X7_basketValue ⟨(Nat.le_of_ble_eq_true rfl), (Nat.le_of_ble_eq_true rfl)⟩ rfl rfl (Nat.le_of_ble_eq_true rfl) ⟨(Nat.le_of_ble_eq_true rfl), (Nat.le_of_ble_eq_true rfl)⟩ dL_basketValue_5 htab (by decide) rfl (fun v9 H locs hro V => ?_) (fun q9 H locs hro V => ?_)
  · refine W.eq (g2 := F0 m 8 ls [.int v9.1, .int 0, .ref ao]) rfl ?_
    refine lv_i2l hx hb dL_basketValue_8 rfl ?_
    refine qd_last S0 V rfl dL_basketValue_9 (fun H locs V => ?_)
    refine lv_goto (tgt := 17) hx hb dL_basketValue_10 (by decide) ?_
    refine lv_iconst (v := 0) hx hb dL_basketValue_17 (by decide) ?_
    exact qd_ret1 S0 hr hlocks rfl hro V dL_basketValue_18
  · refine lv_astore (lv' := [(4, .ref q9), (0, .ref (ad 0)), (1, .int p1), (2, .int p2), (3, .ref ao)]) hx hb dL_basketValue_13 hl (by decide) rfl (fun ls hl => ?_)
    refine lv_iconst (v := 1) hx hb dL_basketValue_15 (by decide) ?_
    exact qd_ret0 S0 hr hlocks rfl hro V dL_basketValue_16
abbrev wz_L_basketUnits : List Cond := Cond.codeWith yL_basketUnits cL_basketUnits 6 (some .int) [(0, 12, 15, 13)] :: qw_big
def rm_L_basketUnits : Room := { frames := 8, cells := 1, slots := 6, locals := 212 }
set_option maxHeartbeats 4000000 in
set_option maxRecDepth 100000 in
theorem c_L_basketUnits (l : Launch) (hst : l.stackTraces = false) {D : va_G} {cy : Nat → ClassId} {ad : Nat → Nat} {I : Nat → Int32} {A : Nat → Nat → Int32} {G : Nat → Int32 × (Nat → Nat → Int32)} {T : Nat} {p1 : Int32} {p2 : Int32} {p3 : Int32} {ao : Nat} {o : Nat → Int64} {ro : (Option (Int32 × (Nat → Int32) × (Nat → Nat → Int32)))} {sz : Nat} (hf : f_X7_basketUnits I A p1 p2 p3 = some ro) : vx_Met l yL_basketUnits wz_L_basketUnits rm_L_basketUnits (va_Pc [.ref (ad 0), .int p1, .int p2, .int p3, .ref ao] (qw_Pre D cy ((Wo cy ad I A G T) ++ [qd_L cy ao o]) sz)) (qd_Q ro ((Wo cy ad I A G T) ++ [qd_L cy ao o]) (fun v9 => (Wo cy ad v9.2.1 v9.2.2 G T) ++ [qd_L cy ao (vp_updL o 0 (v9.1).toInt64)]) D (va_A ((Wo cy ad I A G T) ++ [qd_L cy ao o]) sz)) qd_X 1 6 (va_A ((Wo cy ad I A G T) ++ [qd_L cy ao o]) sz) := by
  refine qd_of (cc := cL_basketUnits) (maxL := 6) (ret := some .int) (hh := [(0, 12, 15, 13)]) (by decide) (Nat.le_of_ble_eq_true rfl) ?_
  intro p e s m args below meth c ls S0 hr hlocks htab hsz V hl
  have S0 : CallFix p m c cL_basketUnits 6 s args qw_big RL := S0
  have hx := S0.1; have hb := S0.2.1
  have hl : lv_has ls 6 [(0, .ref (ad 0)), (1, .int p1), (2, .int p2), (3, .int p3), (4, .ref ao)] := hl
  generalize va_A ((Wo cy ad I A G T) ++ [qd_L cy ao o]) sz = Z9 at V ⊢
  clear hsz
  have htab : c.exceptionTable.toList = [⟨0, 12, 15, 13⟩] := htab
  refine lv_aload hx hb dL_basketUnits_0 (lv_at hl 4 rfl) ?_
  refine lv_iconst (v := 0) hx hb dL_basketUnits_2 (by decide) ?_
  refine lv_aload_n hx hb dL_basketUnits_3 rfl (lv_at hl 0 rfl) ?_
  refine lv_iload_n hx hb dL_basketUnits_4 rfl (lv_at hl 1 rfl) ?_
  refine lv_iload_n hx hb dL_basketUnits_5 rfl (lv_at hl 2 rfl) ?_
  refine lv_iload_n hx hb dL_basketUnits_6 rfl (lv_at hl 3 rfl) ?_
  refine qd_cX (rest := [.int 0, .ref ao]) (wc := (Wo cy ad I A G T)) (wr := [qd_L cy ao o]) S0 V hl 0 gO_0 rfl (c_X7_basketUnits l hst hf) kg_L_100 rfl ⟨rfl, rfl⟩ kd_X7_basketUnits ⟨(Nat.le_of_ble_eq_true rfl), (Nat.le_of_ble_eq_true rfl)⟩ rfl rfl (Nat.le_of_ble_eq_true rfl) ⟨(Nat.le_of_ble_eq_true rfl), (Nat.le_of_ble_eq_true rfl)⟩ dL_basketUnits_7 htab (by decide) rfl (fun v9 H locs hro V => ?_) (fun q9 H locs hro V => ?_)
  · refine W.eq (g2 := F0 m 10 ls [.int v9.1, .int 0, .ref ao]) rfl ?_
    refine lv_i2l hx hb dL_basketUnits_10 rfl ?_
    refine qd_last S0 V rfl dL_basketUnits_11 (fun H locs V => ?_)
    refine lv_goto (tgt := 19) hx hb dL_basketUnits_12 (by decide) ?_
    refine lv_iconst (v := 0) hx hb dL_basketUnits_19 (by decide) ?_
    exact qd_ret1 S0 hr hlocks rfl hro V dL_basketUnits_20
  · refine lv_astore (lv' := [(5, .ref q9), (0, .ref (ad 0)), (1, .int p1), (2, .int p2), (3, .int p3), (4, .ref ao)]) hx hb dL_basketUnits_15 hl (by decide) rfl (fun ls hl => ?_)
    refine lv_iconst (v := 1) hx hb dL_basketUnits_17 (by decide) ?_
    exact qd_ret0 S0 hr hlocks rfl hro V dL_basketUnits_18
abbrev wz_L_waitFor : List Cond := Cond.codeWith yL_waitFor cL_waitFor 6 (some .int) [(0, 12, 15, 13)] :: qw_big
def rm_L_waitFor : Room := { frames := 8, cells := 1, slots := 6, locals := 128 }
set_option maxHeartbeats 4000000 in
set_option maxRecDepth 100000 in
theorem c_L_waitFor (l : Launch) (hst : l.stackTraces = false) {D : va_G} {cy : Nat → ClassId} {ad : Nat → Nat} {I : Nat → Int32} {A : Nat → Nat → Int32} {G : Nat → Int32 × (Nat → Nat → Int32)} {T : Nat} {p1 : Int32} {p2 : Int32} {p3 : Int32} {ao : Nat} {o : Nat → Int64} {ro : (Option (Int32 × (Nat → Nat → Int32)))} {sz : Nat} (hf : f_X7_waitFor I A p1 p2 p3 = some ro) : vx_Met l yL_waitFor wz_L_waitFor rm_L_waitFor (va_Pc [.ref (ad 0), .int p1, .int p2, .int p3, .ref ao] (qw_Pre D cy ((Wo cy ad I A G T) ++ [qd_L cy ao o]) sz)) (qd_Q ro ((Wo cy ad I A G T) ++ [qd_L cy ao o]) (fun v9 => (Wo cy ad I v9.2 G T) ++ [qd_L cy ao (vp_updL o 0 (v9.1).toInt64)]) D (va_A ((Wo cy ad I A G T) ++ [qd_L cy ao o]) sz)) qd_X 1 6 (va_A ((Wo cy ad I A G T) ++ [qd_L cy ao o]) sz) := by
  refine qd_of (cc := cL_waitFor) (maxL := 6) (ret := some .int) (hh := [(0, 12, 15, 13)]) (by decide) (Nat.le_of_ble_eq_true rfl) ?_
  intro p e s m args below meth c ls S0 hr hlocks htab hsz V hl
  have S0 : CallFix p m c cL_waitFor 6 s args qw_big RL := S0
  have hx := S0.1; have hb := S0.2.1
  have hl : lv_has ls 6 [(0, .ref (ad 0)), (1, .int p1), (2, .int p2), (3, .int p3), (4, .ref ao)] := hl
  generalize va_A ((Wo cy ad I A G T) ++ [qd_L cy ao o]) sz = Z9 at V ⊢
  clear hsz
  have htab : c.exceptionTable.toList = [⟨0, 12, 15, 13⟩] := htab
  refine lv_aload hx hb dL_waitFor_0 (lv_at hl 4 rfl) ?_
  refine lv_iconst (v := 0) hx hb dL_waitFor_2 (by decide) ?_
  refine lv_aload_n hx hb dL_waitFor_3 rfl (lv_at hl 0 rfl) ?_
  refine lv_iload_n hx hb dL_waitFor_4 rfl (lv_at hl 1 rfl) ?_
  refine lv_iload_n hx hb dL_waitFor_5 rfl (lv_at hl 2 rfl) ?_
  refine lv_iload_n hx hb dL_waitFor_6 rfl (lv_at hl 3 rfl) ?_
  refine qd_cX (rest := [.int 0, .ref ao]) (wc := (Wo cy ad I A G T)) (wr := [qd_L cy ao o]) S0 V hl 0 gO_0 rfl (c_X7_waitFor l hst hf) kg_L_103 rfl ⟨rfl, rfl⟩ kd_X7_waitFor ⟨(Nat.le_of_ble_eq_true rfl), (Nat.le_of_ble_eq_true rfl)⟩ rfl rfl (Nat.le_of_ble_eq_true rfl) ⟨(Nat.le_of_ble_eq_true rfl), (Nat.le_of_ble_eq_true rfl)⟩ dL_waitFor_7 htab (by decide) rfl (fun v9 H locs hro V => ?_) (fun q9 H locs hro V => ?_)
  · refine W.eq (g2 := F0 m 10 ls [.int v9.1, .int 0, .ref ao]) rfl ?_
    refine lv_i2l hx hb dL_waitFor_10 rfl ?_
    refine qd_last S0 V rfl dL_waitFor_11 (fun H locs V => ?_)
    refine lv_goto (tgt := 19) hx hb dL_waitFor_12 (by decide) ?_
    refine lv_iconst (v := 0) hx hb dL_waitFor_19 (by decide) ?_
    exact qd_ret1 S0 hr hlocks rfl hro V dL_waitFor_20
  · refine lv_astore (lv' := [(5, .ref q9), (0, .ref (ad 0)), (1, .int p1), (2, .int p2), (3, .int p3), (4, .ref ao)]) hx hb dL_waitFor_15 hl (by decide) rfl (fun ls hl => ?_)
    refine lv_iconst (v := 1) hx hb dL_waitFor_17 (by decide) ?_
    exact qd_ret0 S0 hr hlocks rfl hro V dL_waitFor_18
abbrev wz_L_bestShop : List Cond := Cond.codeWith yL_bestShop cL_bestShop 4 (some .int) [(0, 9, 12, 13)] :: qw_big
def rm_L_bestShop : Room := { frames := 8, cells := 1, slots := 6, locals := 127 }
set_option maxHeartbeats 4000000 in
set_option maxRecDepth 100000 in
theorem c_L_bestShop (l : Launch) (hst : l.stackTraces = false) {D : va_G} {cy : Nat → ClassId} {ad : Nat → Nat} {I : Nat → Int32} {A : Nat → Nat → Int32} {G : Nat → Int32 × (Nat → Nat → Int32)} {T : Nat} {p1 : Int32} {ao : Nat} {o : Nat → Int64} {ro : (Option (Int32))} {sz : Nat} (hf : f_X7_bestShop I A p1 = some ro) : vx_Met l yL_bestShop wz_L_bestShop rm_L_bestShop (va_Pc [.ref (ad 0), .int p1, .ref ao] (qw_Pre D cy ((Wo cy ad I A G T) ++ [qd_L cy ao o]) sz)) (qd_Q ro ((Wo cy ad I A G T) ++ [qd_L cy ao o]) (fun v9 => (Wo cy ad I A G T) ++ [qd_L cy ao (vp_updL o 0 (v9).toInt64)]) D (va_A ((Wo cy ad I A G T) ++ [qd_L cy ao o]) sz)) qd_X 1 6 (va_A ((Wo cy ad I A G T) ++ [qd_L cy ao o]) sz) := by
  refine qd_of (cc := cL_bestShop) (maxL := 4) (ret := some .int) (hh := [(0, 9, 12, 13)]) (by decide) (Nat.le_of_ble_eq_true rfl) ?_
  intro p e s m args below meth c ls S0 hr hlocks htab hsz V hl
  have S0 : CallFix p m c cL_bestShop 4 s args qw_big RL := S0
  have hx := S0.1; have hb := S0.2.1
  have hl : lv_has ls 4 [(0, .ref (ad 0)), (1, .int p1), (2, .ref ao)] := hl
  generalize va_A ((Wo cy ad I A G T) ++ [qd_L cy ao o]) sz = Z9 at V ⊢
  clear hsz
  have htab : c.exceptionTable.toList = [⟨0, 9, 12, 13⟩] := htab
  refine lv_aload_n hx hb dL_bestShop_0 rfl (lv_at hl 2 rfl) ?_
  refine lv_iconst (v := 0) hx hb dL_bestShop_1 (by decide) ?_
  refine lv_aload_n hx hb dL_bestShop_2 rfl (lv_at hl 0 rfl) ?_
  refine lv_iload_n hx hb dL_bestShop_3 rfl (lv_at hl 1 rfl) ?_
  refine qd_cX (rest := [.int 0, .ref ao]) (wc := (Wo cy ad I A G T)) (wr := [qd_L cy ao o]) S0 V hl 0 gO_0 rfl (c_X7_bestShop l hst hf) kg_L_106 rfl ⟨rfl, rfl⟩ kd_X7_bestShop ⟨(Nat.le_of_ble_eq_true rfl), (Nat.le_of_ble_eq_true rfl)⟩ rfl rfl (Nat.le_of_ble_eq_true rfl) ⟨(Nat.le_of_ble_eq_true rfl), (Nat.le_of_ble_eq_true rfl)⟩ dL_bestShop_4 htab (by decide) rfl (fun v9 H locs hro V => ?_) (fun q9 H locs hro V => ?_)
  · refine W.eq (g2 := F0 m 7 ls [.int v9, .int 0, .ref ao]) rfl ?_
    refine lv_i2l hx hb dL_bestShop_7 rfl ?_
    refine qd_last S0 V rfl dL_bestShop_8 (fun H locs V => ?_)
    refine lv_goto (tgt := 15) hx hb dL_bestShop_9 (by decide) ?_
    refine lv_iconst (v := 0) hx hb dL_bestShop_15 (by decide) ?_
    exact qd_ret1 S0 hr hlocks rfl hro V dL_bestShop_16
  · refine lv_astore_n (lv' := [(3, .ref q9), (0, .ref (ad 0)), (1, .int p1), (2, .ref ao)]) hx hb dL_bestShop_12 rfl hl (by decide) rfl (fun ls hl => ?_)
    refine lv_iconst (v := 1) hx hb dL_bestShop_13 (by decide) ?_
    exact qd_ret0 S0 hr hlocks rfl hro V dL_bestShop_14
abbrev wz_L_bestHouse : List Cond := Cond.codeWith yL_bestHouse cL_bestHouse 5 (some .int) [(0, 10, 13, 13)] :: qw_big
def rm_L_bestHouse : Room := { frames := 8, cells := 1, slots := 6, locals := 128 }
set_option maxHeartbeats 4000000 in
set_option maxRecDepth 100000 in
theorem c_L_bestHouse (l : Launch) (hst : l.stackTraces = false) {D : va_G} {cy : Nat → ClassId} {ad : Nat → Nat} {I : Nat → Int32} {A : Nat → Nat → Int32} {G : Nat → Int32 × (Nat → Nat → Int32)} {T : Nat} {p1 : Int32} {p2 : Int32} {ao : Nat} {o : Nat → Int64} {ro : (Option (Int32))} {sz : Nat} (hf : f_X7_bestHouse I A p1 p2 = some ro) : vx_Met l yL_bestHouse wz_L_bestHouse rm_L_bestHouse (va_Pc [.ref (ad 0), .int p1, .int p2, .ref ao] (qw_Pre D cy ((Wo cy ad I A G T) ++ [qd_L cy ao o]) sz)) (qd_Q ro ((Wo cy ad I A G T) ++ [qd_L cy ao o]) (fun v9 => (Wo cy ad I A G T) ++ [qd_L cy ao (vp_updL o 0 (v9).toInt64)]) D (va_A ((Wo cy ad I A G T) ++ [qd_L cy ao o]) sz)) qd_X 1 6 (va_A ((Wo cy ad I A G T) ++ [qd_L cy ao o]) sz) := by
  refine qd_of (cc := cL_bestHouse) (maxL := 5) (ret := some .int) (hh := [(0, 10, 13, 13)]) (by decide) (Nat.le_of_ble_eq_true rfl) ?_
  intro p e s m args below meth c ls S0 hr hlocks htab hsz V hl
  have S0 : CallFix p m c cL_bestHouse 5 s args qw_big RL := S0
  have hx := S0.1; have hb := S0.2.1
  have hl : lv_has ls 5 [(0, .ref (ad 0)), (1, .int p1), (2, .int p2), (3, .ref ao)] := hl
  generalize va_A ((Wo cy ad I A G T) ++ [qd_L cy ao o]) sz = Z9 at V ⊢
  clear hsz
  have htab : c.exceptionTable.toList = [⟨0, 10, 13, 13⟩] := htab
  refine lv_aload_n hx hb dL_bestHouse_0 rfl (lv_at hl 3 rfl) ?_
  refine lv_iconst (v := 0) hx hb dL_bestHouse_1 (by decide) ?_
  refine lv_aload_n hx hb dL_bestHouse_2 rfl (lv_at hl 0 rfl) ?_
  refine lv_iload_n hx hb dL_bestHouse_3 rfl (lv_at hl 1 rfl) ?_
  refine lv_iload_n hx hb dL_bestHouse_4 rfl (lv_at hl 2 rfl) ?_
  refine qd_cX (rest := [.int 0, .ref ao]) (wc := (Wo cy ad I A G T)) (wr := [qd_L cy ao o]) S0 V hl 0 gO_0 rfl (c_X7_bestHouse l hst hf) kg_L_109 rfl ⟨rfl, rfl⟩ kd_X7_bestHouse ⟨(Nat.le_of_ble_eq_true rfl), (Nat.le_of_ble_eq_true rfl)⟩ rfl rfl (Nat.le_of_ble_eq_true rfl) ⟨(Nat.le_of_ble_eq_true rfl), (Nat.le_of_ble_eq_true rfl)⟩ dL_bestHouse_5 htab (by decide) rfl (fun v9 H locs hro V => ?_) (fun q9 H locs hro V => ?_)
  · refine W.eq (g2 := F0 m 8 ls [.int v9, .int 0, .ref ao]) rfl ?_
    refine lv_i2l hx hb dL_bestHouse_8 rfl ?_
    refine qd_last S0 V rfl dL_bestHouse_9 (fun H locs V => ?_)
    refine lv_goto (tgt := 17) hx hb dL_bestHouse_10 (by decide) ?_
    refine lv_iconst (v := 0) hx hb dL_bestHouse_17 (by decide) ?_
    exact qd_ret1 S0 hr hlocks rfl hro V dL_bestHouse_18
  · refine lv_astore (lv' := [(4, .ref q9), (0, .ref (ad 0)), (1, .int p1), (2, .int p2), (3, .ref ao)]) hx hb dL_bestHouse_13 hl (by decide) rfl (fun ls hl => ?_)
    refine lv_iconst (v := 1) hx hb dL_bestHouse_15 (by decide) ?_
    exact qd_ret0 S0 hr hlocks rfl hro V dL_bestHouse_16
abbrev wz_L_basketCost : List Cond := Cond.codeWith yL_basketCost cL_basketCost 5 (some .int) [(0, 10, 13, 13)] :: qw_big
def rm_L_basketCost : Room := { frames := 8, cells := 1, slots := 6, locals := 213 }
set_option maxHeartbeats 4000000 in
set_option maxRecDepth 100000 in
theorem c_L_basketCost (l : Launch) (hst : l.stackTraces = false) {D : va_G} {cy : Nat → ClassId} {ad : Nat → Nat} {I : Nat → Int32} {A : Nat → Nat → Int32} {G : Nat → Int32 × (Nat → Nat → Int32)} {T : Nat} {p1 : Int32} {p2 : Int32} {ao : Nat} {o : Nat → Int64} {ro : (Option (Int32 × (Nat → Int32) × (Nat → Nat → Int32)))} {sz : Nat} (hf : f_X7_basketCost I A p1 p2 = some ro) : vx_Met l yL_basketCost wz_L_basketCost rm_L_basketCost (va_Pc [.ref (ad 0), .int p1, .int p2, .ref ao] (qw_Pre D cy ((Wo cy ad I A G T) ++ [qd_L cy ao o]) sz)) (qd_Q ro ((Wo cy ad I A G T) ++ [qd_L cy ao o]) (fun v9 => (Wo cy ad v9.2.1 v9.2.2 G T) ++ [qd_L cy ao (vp_updL o 0 (v9.1).toInt64)]) D (va_A ((Wo cy ad I A G T) ++ [qd_L cy ao o]) sz)) qd_X 1 6 (va_A ((Wo cy ad I A G T) ++ [qd_L cy ao o]) sz) := by
  refine qd_of (cc := cL_basketCost) (maxL := 5) (ret := some .int) (hh := [(0, 10, 13, 13)]) (by decide) (Nat.le_of_ble_eq_true rfl) ?_
  intro p e s m args below meth c ls S0 hr hlocks htab hsz V hl
  have S0 : CallFix p m c cL_basketCost 5 s args qw_big RL := S0
  have hx := S0.1; have hb := S0.2.1
  have hl : lv_has ls 5 [(0, .ref (ad 0)), (1, .int p1), (2, .int p2), (3, .ref ao)] := hl
  generalize va_A ((Wo cy ad I A G T) ++ [qd_L cy ao o]) sz = Z9 at V ⊢
  clear hsz
  have htab : c.exceptionTable.toList = [⟨0, 10, 13, 13⟩] := htab
  refine lv_aload_n hx hb dL_basketCost_0 rfl (lv_at hl 3 rfl) ?_
  refine lv_iconst (v := 0) hx hb dL_basketCost_1 (by decide) ?_
  refine lv_aload_n hx hb dL_basketCost_2 rfl (lv_at hl 0 rfl) ?_
  refine lv_iload_n hx hb dL_basketCost_3 rfl (lv_at hl 1 rfl) ?_
  refine lv_iload_n hx hb dL_basketCost_4 rfl (lv_at hl 2 rfl) ?_
  refine qd_cX (rest := [.int 0, .ref ao]) (wc := (Wo cy ad I A G T)) (wr := [qd_L cy ao o]) S0 V hl 0 gO_0 rfl (c_X7_basketCost l hst hf) kg_L_112 rfl ⟨rfl, rfl⟩ kd_X7_basketCost ⟨(Nat.le_of_ble_eq_true rfl), (Nat.le_of_ble_eq_true rfl)⟩ rfl rfl (Nat.le_of_ble_eq_true rfl) ⟨(Nat.le_of_ble_eq_true rfl), (Nat.le_of_ble_eq_true rfl)⟩ dL_basketCost_5 htab (by decide) rfl (fun v9 H locs hro V => ?_) (fun q9 H locs hro V => ?_)
  · refine W.eq (g2 := F0 m 8 ls [.int v9.1, .int 0, .ref ao]) rfl ?_
    refine lv_i2l hx hb dL_basketCost_8 rfl ?_
    refine qd_last S0 V rfl dL_basketCost_9 (fun H locs V => ?_)
    refine lv_goto (tgt := 17) hx hb dL_basketCost_10 (by decide) ?_
    refine lv_iconst (v := 0) hx hb dL_basketCost_17 (by decide) ?_
    exact qd_ret1 S0 hr hlocks rfl hro V dL_basketCost_18
  · refine lv_astore (lv' := [(4, .ref q9), (0, .ref (ad 0)), (1, .int p1), (2, .int p2), (3, .ref ao)]) hx hb dL_basketCost_13 hl (by decide) rfl (fun ls hl => ?_)
    refine lv_iconst (v := 1) hx hb dL_basketCost_15 (by decide) ?_
    exact qd_ret0 S0 hr hlocks rfl hro V dL_basketCost_16
abbrev wz_L_basketLeft : List Cond := Cond.codeWith yL_basketLeft cL_basketLeft 6 (some .int) [(0, 12, 15, 13)] :: qw_big
def rm_L_basketLeft : Room := { frames := 8, cells := 1, slots := 6, locals := 212 }
set_option maxHeartbeats 4000000 in
set_option maxRecDepth 100000 in
theorem c_L_basketLeft (l : Launch) (hst : l.stackTraces = false) {D : va_G} {cy : Nat → ClassId} {ad : Nat → Nat} {I : Nat → Int32} {A : Nat → Nat → Int32} {G : Nat → Int32 × (Nat → Nat → Int32)} {T : Nat} {p1 : Int32} {p2 : Int32} {p3 : Int32} {ao : Nat} {o : Nat → Int64} {ro : (Option (Int32 × (Nat → Int32) × (Nat → Nat → Int32)))} {sz : Nat} (hf : f_X7_basketLeft I A p1 p2 p3 = some ro) : vx_Met l yL_basketLeft wz_L_basketLeft rm_L_basketLeft (va_Pc [.ref (ad 0), .int p1, .int p2, .int p3, .ref ao] (qw_Pre D cy ((Wo cy ad I A G T) ++ [qd_L cy ao o]) sz)) (qd_Q ro ((Wo cy ad I A G T) ++ [qd_L cy ao o]) (fun v9 => (Wo cy ad v9.2.1 v9.2.2 G T) ++ [qd_L cy ao (vp_updL o 0 (v9.1).toInt64)]) D (va_A ((Wo cy ad I A G T) ++ [qd_L cy ao o]) sz)) qd_X 1 6 (va_A ((Wo cy ad I A G T) ++ [qd_L cy ao o]) sz) := by
  refine qd_of (cc := cL_basketLeft) (maxL := 6) (ret := some .int) (hh := [(0, 12, 15, 13)]) (by decide) (Nat.le_of_ble_eq_true rfl) ?_
  intro p e s m args below meth c ls S0 hr hlocks htab hsz V hl
  have S0 : CallFix p m c cL_basketLeft 6 s args qw_big RL := S0
  have hx := S0.1; have hb := S0.2.1
  have hl : lv_has ls 6 [(0, .ref (ad 0)), (1, .int p1), (2, .int p2), (3, .int p3), (4, .ref ao)] := hl
  generalize va_A ((Wo cy ad I A G T) ++ [qd_L cy ao o]) sz = Z9 at V ⊢
  clear hsz
  have htab : c.exceptionTable.toList = [⟨0, 12, 15, 13⟩] := htab
  refine lv_aload hx hb dL_basketLeft_0 (lv_at hl 4 rfl) ?_
  refine lv_iconst (v := 0) hx hb dL_basketLeft_2 (by decide) ?_
  refine lv_aload_n hx hb dL_basketLeft_3 rfl (lv_at hl 0 rfl) ?_
  refine lv_iload_n hx hb dL_basketLeft_4 rfl (lv_at hl 1 rfl) ?_
  refine lv_iload_n hx hb dL_basketLeft_5 rfl (lv_at hl 2 rfl) ?_
  refine lv_iload_n hx hb dL_basketLeft_6 rfl (lv_at hl 3 rfl) ?_
  refine qd_cX (rest := [.int 0, .ref ao]) (wc := (Wo cy ad I A G T)) (wr := [qd_L cy ao o]) S0 V hl 0 gO_0 rfl (c_X7_basketLeft l hst hf) kg_L_115 rfl ⟨rfl, rfl⟩ kd_X7_basketLeft ⟨(Nat.le_of_ble_eq_true rfl), (Nat.le_of_ble_eq_true rfl)⟩ rfl rfl (Nat.le_of_ble_eq_true rfl) ⟨(Nat.le_of_ble_eq_true rfl), (Nat.le_of_ble_eq_true rfl)⟩ dL_basketLeft_7 htab (by decide) rfl (fun v9 H locs hro V => ?_) (fun q9 H locs hro V => ?_)
  · refine W.eq (g2 := F0 m 10 ls [.int v9.1, .int 0, .ref ao]) rfl ?_
    refine lv_i2l hx hb dL_basketLeft_10 rfl ?_
    refine qd_last S0 V rfl dL_basketLeft_11 (fun H locs V => ?_)
    refine lv_goto (tgt := 19) hx hb dL_basketLeft_12 (by decide) ?_
    refine lv_iconst (v := 0) hx hb dL_basketLeft_19 (by decide) ?_
    exact qd_ret1 S0 hr hlocks rfl hro V dL_basketLeft_20
  · refine lv_astore (lv' := [(5, .ref q9), (0, .ref (ad 0)), (1, .int p1), (2, .int p2), (3, .int p3), (4, .ref ao)]) hx hb dL_basketLeft_15 hl (by decide) rfl (fun ls hl => ?_)
    refine lv_iconst (v := 1) hx hb dL_basketLeft_17 (by decide) ?_
    exact qd_ret0 S0 hr hlocks rfl hro V dL_basketLeft_18
abbrev wz_L_swapChain : List Cond := Cond.codeWith yL_swapChain cL_swapChain 4 (some .int) [(0, 9, 12, 13)] :: qw_big
def rm_L_swapChain : Room := { frames := 8, cells := 1, slots := 6, locals := 126 }
set_option maxHeartbeats 4000000 in
set_option maxRecDepth 100000 in
theorem c_L_swapChain (l : Launch) (hst : l.stackTraces = false) {D : va_G} {cy : Nat → ClassId} {ad : Nat → Nat} {I : Nat → Int32} {A : Nat → Nat → Int32} {G : Nat → Int32 × (Nat → Nat → Int32)} {T : Nat} {p1 : Int32} {ao : Nat} {o : Nat → Int64} {ro : (Option (Int32))} {sz : Nat} (hf : f_X7_swapChain I A p1 = some ro) : vx_Met l yL_swapChain wz_L_swapChain rm_L_swapChain (va_Pc [.ref (ad 0), .int p1, .ref ao] (qw_Pre D cy ((Wo cy ad I A G T) ++ [qd_L cy ao o]) sz)) (qd_Q ro ((Wo cy ad I A G T) ++ [qd_L cy ao o]) (fun v9 => (Wo cy ad I A G T) ++ [qd_L cy ao (vp_updL o 0 (v9).toInt64)]) D (va_A ((Wo cy ad I A G T) ++ [qd_L cy ao o]) sz)) qd_X 1 6 (va_A ((Wo cy ad I A G T) ++ [qd_L cy ao o]) sz) := by
  refine qd_of (cc := cL_swapChain) (maxL := 4) (ret := some .int) (hh := [(0, 9, 12, 13)]) (by decide) (Nat.le_of_ble_eq_true rfl) ?_
  intro p e s m args below meth c ls S0 hr hlocks htab hsz V hl
  have S0 : CallFix p m c cL_swapChain 4 s args qw_big RL := S0
  have hx := S0.1; have hb := S0.2.1
  have hl : lv_has ls 4 [(0, .ref (ad 0)), (1, .int p1), (2, .ref ao)] := hl
  generalize va_A ((Wo cy ad I A G T) ++ [qd_L cy ao o]) sz = Z9 at V ⊢
  clear hsz
  have htab : c.exceptionTable.toList = [⟨0, 9, 12, 13⟩] := htab
  refine lv_aload_n hx hb dL_swapChain_0 rfl (lv_at hl 2 rfl) ?_
  refine lv_iconst (v := 0) hx hb dL_swapChain_1 (by decide) ?_
  refine lv_aload_n hx hb dL_swapChain_2 rfl (lv_at hl 0 rfl) ?_
  refine lv_iload_n hx hb dL_swapChain_3 rfl (lv_at hl 1 rfl) ?_
  refine qd_cX (rest := [.int 0, .ref ao]) (wc := (Wo cy ad I A G T)) (wr := [qd_L cy ao o]) S0 V hl 0 gO_0 rfl (c_X7_swapChain l hst hf) kg_L_118 rfl ⟨rfl, rfl⟩ kd_X7_swapChain ⟨(Nat.le_of_ble_eq_true rfl), (Nat.le_of_ble_eq_true rfl)⟩ rfl rfl (Nat.le_of_ble_eq_true rfl) ⟨(Nat.le_of_ble_eq_true rfl), (Nat.le_of_ble_eq_true rfl)⟩ dL_swapChain_4 htab (by decide) rfl (fun v9 H locs hro V => ?_) (fun q9 H locs hro V => ?_)
  · refine W.eq (g2 := F0 m 7 ls [.int v9, .int 0, .ref ao]) rfl ?_
    refine lv_i2l hx hb dL_swapChain_7 rfl ?_
    refine qd_last S0 V rfl dL_swapChain_8 (fun H locs V => ?_)
    refine lv_goto (tgt := 15) hx hb dL_swapChain_9 (by decide) ?_
    refine lv_iconst (v := 0) hx hb dL_swapChain_15 (by decide) ?_
    exact qd_ret1 S0 hr hlocks rfl hro V dL_swapChain_16
  · refine lv_astore_n (lv' := [(3, .ref q9), (0, .ref (ad 0)), (1, .int p1), (2, .ref ao)]) hx hb dL_swapChain_12 rfl hl (by decide) rfl (fun ls hl => ?_)
    refine lv_iconst (v := 1) hx hb dL_swapChain_13 (by decide) ?_
    exact qd_ret0 S0 hr hlocks rfl hro V dL_swapChain_14
abbrev wz_L_mostDeliverable : List Cond := Cond.codeWith yL_mostDeliverable cL_mostDeliverable 5 (some .int) [(0, 10, 13, 13)] :: qw_big
def rm_L_mostDeliverable : Room := { frames := 8, cells := 1, slots := 6, locals := 126 }
set_option maxHeartbeats 4000000 in
set_option maxRecDepth 100000 in
theorem c_L_mostDeliverable (l : Launch) (hst : l.stackTraces = false) {D : va_G} {cy : Nat → ClassId} {ad : Nat → Nat} {I : Nat → Int32} {A : Nat → Nat → Int32} {G : Nat → Int32 × (Nat → Nat → Int32)} {T : Nat} {p1 : Int32} {p2 : Int32} {ao : Nat} {o : Nat → Int64} {ro : (Option (Int32))} {sz : Nat} (hf : f_X7_mostDeliverable I A p1 p2 = some ro) : vx_Met l yL_mostDeliverable wz_L_mostDeliverable rm_L_mostDeliverable (va_Pc [.ref (ad 0), .int p1, .int p2, .ref ao] (qw_Pre D cy ((Wo cy ad I A G T) ++ [qd_L cy ao o]) sz)) (qd_Q ro ((Wo cy ad I A G T) ++ [qd_L cy ao o]) (fun v9 => (Wo cy ad I A G T) ++ [qd_L cy ao (vp_updL o 0 (v9).toInt64)]) D (va_A ((Wo cy ad I A G T) ++ [qd_L cy ao o]) sz)) qd_X 1 6 (va_A ((Wo cy ad I A G T) ++ [qd_L cy ao o]) sz) := by
  refine qd_of (cc := cL_mostDeliverable) (maxL := 5) (ret := some .int) (hh := [(0, 10, 13, 13)]) (by decide) (Nat.le_of_ble_eq_true rfl) ?_
  intro p e s m args below meth c ls S0 hr hlocks htab hsz V hl
  have S0 : CallFix p m c cL_mostDeliverable 5 s args qw_big RL := S0
  have hx := S0.1; have hb := S0.2.1
  have hl : lv_has ls 5 [(0, .ref (ad 0)), (1, .int p1), (2, .int p2), (3, .ref ao)] := hl
  generalize va_A ((Wo cy ad I A G T) ++ [qd_L cy ao o]) sz = Z9 at V ⊢
  clear hsz
  have htab : c.exceptionTable.toList = [⟨0, 10, 13, 13⟩] := htab
  refine lv_aload_n hx hb dL_mostDeliverable_0 rfl (lv_at hl 3 rfl) ?_
  refine lv_iconst (v := 0) hx hb dL_mostDeliverable_1 (by decide) ?_
  refine lv_aload_n hx hb dL_mostDeliverable_2 rfl (lv_at hl 0 rfl) ?_
  refine lv_iload_n hx hb dL_mostDeliverable_3 rfl (lv_at hl 1 rfl) ?_
  refine lv_iload_n hx hb dL_mostDeliverable_4 rfl (lv_at hl 2 rfl) ?_
  refine qd_cX (rest := [.int 0, .ref ao]) (wc := (Wo cy ad I A G T)) (wr := [qd_L cy ao o]) S0 V hl 0 gO_0 rfl (c_X7_mostDeliverable l hst hf) kg_L_121 rfl ⟨rfl, rfl⟩ kd_X7_mostDeliverable ⟨(Nat.le_of_ble_eq_true rfl), (Nat.le_of_ble_eq_true rfl)⟩ rfl rfl (Nat.le_of_ble_eq_true rfl) ⟨(Nat.le_of_ble_eq_true rfl), (Nat.le_of_ble_eq_true rfl)⟩ dL_mostDeliverable_5 htab (by decide) rfl (fun v9 H locs hro V => ?_) (fun q9 H locs hro V => ?_)
  · refine W.eq (g2 := F0 m 8 ls [.int v9, .int 0, .ref ao]) rfl ?_
    refine lv_i2l hx hb dL_mostDeliverable_8 rfl ?_
    refine qd_last S0 V rfl dL_mostDeliverable_9 (fun H locs V => ?_)
    refine lv_goto (tgt := 17) hx hb dL_mostDeliverable_10 (by decide) ?_
    refine lv_iconst (v := 0) hx hb dL_mostDeliverable_17 (by decide) ?_
    exact qd_ret1 S0 hr hlocks rfl hro V dL_mostDeliverable_18
  · refine lv_astore (lv' := [(4, .ref q9), (0, .ref (ad 0)), (1, .int p1), (2, .int p2), (3, .ref ao)]) hx hb dL_mostDeliverable_13 hl (by decide) rfl (fun ls hl => ?_)
    refine lv_iconst (v := 1) hx hb dL_mostDeliverable_15 (by decide) ?_
    exact qd_ret0 S0 hr hlocks rfl hro V dL_mostDeliverable_16
abbrev wz_L_spreadOf : List Cond := Cond.codeWith yL_spreadOf cL_spreadOf 4 (some .int) [(0, 9, 12, 13)] :: qw_big
def rm_L_spreadOf : Room := { frames := 8, cells := 1, slots := 6, locals := 127 }
set_option maxHeartbeats 4000000 in
set_option maxRecDepth 100000 in
theorem c_L_spreadOf (l : Launch) (hst : l.stackTraces = false) {D : va_G} {cy : Nat → ClassId} {ad : Nat → Nat} {I : Nat → Int32} {A : Nat → Nat → Int32} {G : Nat → Int32 × (Nat → Nat → Int32)} {T : Nat} {p1 : Int32} {ao : Nat} {o : Nat → Int64} {ro : (Option (Int32))} {sz : Nat} (hf : f_X7_spreadOf I A p1 = some ro) : vx_Met l yL_spreadOf wz_L_spreadOf rm_L_spreadOf (va_Pc [.ref (ad 0), .int p1, .ref ao] (qw_Pre D cy ((Wo cy ad I A G T) ++ [qd_L cy ao o]) sz)) (qd_Q ro ((Wo cy ad I A G T) ++ [qd_L cy ao o]) (fun v9 => (Wo cy ad I A G T) ++ [qd_L cy ao (vp_updL o 0 (v9).toInt64)]) D (va_A ((Wo cy ad I A G T) ++ [qd_L cy ao o]) sz)) qd_X 1 6 (va_A ((Wo cy ad I A G T) ++ [qd_L cy ao o]) sz) := by
  refine qd_of (cc := cL_spreadOf) (maxL := 4) (ret := some .int) (hh := [(0, 9, 12, 13)]) (by decide) (Nat.le_of_ble_eq_true rfl) ?_
  intro p e s m args below meth c ls S0 hr hlocks htab hsz V hl
  have S0 : CallFix p m c cL_spreadOf 4 s args qw_big RL := S0
  have hx := S0.1; have hb := S0.2.1
  have hl : lv_has ls 4 [(0, .ref (ad 0)), (1, .int p1), (2, .ref ao)] := hl
  generalize va_A ((Wo cy ad I A G T) ++ [qd_L cy ao o]) sz = Z9 at V ⊢
  clear hsz
  have htab : c.exceptionTable.toList = [⟨0, 9, 12, 13⟩] := htab
  refine lv_aload_n hx hb dL_spreadOf_0 rfl (lv_at hl 2 rfl) ?_
  refine lv_iconst (v := 0) hx hb dL_spreadOf_1 (by decide) ?_
  refine lv_aload_n hx hb dL_spreadOf_2 rfl (lv_at hl 0 rfl) ?_
  refine lv_iload_n hx hb dL_spreadOf_3 rfl (lv_at hl 1 rfl) ?_
  refine qd_cX (rest := [.int 0, .ref ao]) (wc := (Wo cy ad I A G T)) (wr := [qd_L cy ao o]) S0 V hl 0 gO_0 rfl (c_X7_spreadOf l hst hf) kg_L_124 rfl ⟨rfl, rfl⟩ kd_X7_spreadOf ⟨(Nat.le_of_ble_eq_true rfl), (Nat.le_of_ble_eq_true rfl)⟩ rfl rfl (Nat.le_of_ble_eq_true rfl) ⟨(Nat.le_of_ble_eq_true rfl), (Nat.le_of_ble_eq_true rfl)⟩ dL_spreadOf_4 htab (by decide) rfl (fun v9 H locs hro V => ?_) (fun q9 H locs hro V => ?_)
  · refine W.eq (g2 := F0 m 7 ls [.int v9, .int 0, .ref ao]) rfl ?_
    refine lv_i2l hx hb dL_spreadOf_7 rfl ?_
    refine qd_last S0 V rfl dL_spreadOf_8 (fun H locs V => ?_)
    refine lv_goto (tgt := 15) hx hb dL_spreadOf_9 (by decide) ?_
    refine lv_iconst (v := 0) hx hb dL_spreadOf_15 (by decide) ?_
    exact qd_ret1 S0 hr hlocks rfl hro V dL_spreadOf_16
  · refine lv_astore_n (lv' := [(3, .ref q9), (0, .ref (ad 0)), (1, .int p1), (2, .ref ao)]) hx hb dL_spreadOf_12 rfl hl (by decide) rfl (fun ls hl => ?_)
    refine lv_iconst (v := 1) hx hb dL_spreadOf_13 (by decide) ?_
    exact qd_ret0 S0 hr hlocks rfl hro V dL_spreadOf_14
abbrev wz_L_levelMoves : List Cond := Cond.codeWith yL_levelMoves cL_levelMoves 5 (some .int) [(0, 10, 13, 13)] :: qw_big
def rm_L_levelMoves : Room := { frames := 8, cells := 1, slots := 6, locals := 128 }
set_option maxHeartbeats 4000000 in
set_option maxRecDepth 100000 in
theorem c_L_levelMoves (l : Launch) (hst : l.stackTraces = false) {D : va_G} {cy : Nat → ClassId} {ad : Nat → Nat} {I : Nat → Int32} {A : Nat → Nat → Int32} {G : Nat → Int32 × (Nat → Nat → Int32)} {T : Nat} {p1 : Int32} {p2 : Int32} {ao : Nat} {o : Nat → Int64} {ro : (Option (Int32))} {sz : Nat} (hf : f_X7_levelMoves I A p1 p2 = some ro) : vx_Met l yL_levelMoves wz_L_levelMoves rm_L_levelMoves (va_Pc [.ref (ad 0), .int p1, .int p2, .ref ao] (qw_Pre D cy ((Wo cy ad I A G T) ++ [qd_L cy ao o]) sz)) (qd_Q ro ((Wo cy ad I A G T) ++ [qd_L cy ao o]) (fun v9 => (Wo cy ad I A G T) ++ [qd_L cy ao (vp_updL o 0 (v9).toInt64)]) D (va_A ((Wo cy ad I A G T) ++ [qd_L cy ao o]) sz)) qd_X 1 6 (va_A ((Wo cy ad I A G T) ++ [qd_L cy ao o]) sz) := by
  refine qd_of (cc := cL_levelMoves) (maxL := 5) (ret := some .int) (hh := [(0, 10, 13, 13)]) (by decide) (Nat.le_of_ble_eq_true rfl) ?_
  intro p e s m args below meth c ls S0 hr hlocks htab hsz V hl
  have S0 : CallFix p m c cL_levelMoves 5 s args qw_big RL := S0
  have hx := S0.1; have hb := S0.2.1
  have hl : lv_has ls 5 [(0, .ref (ad 0)), (1, .int p1), (2, .int p2), (3, .ref ao)] := hl
  generalize va_A ((Wo cy ad I A G T) ++ [qd_L cy ao o]) sz = Z9 at V ⊢
  clear hsz
  have htab : c.exceptionTable.toList = [⟨0, 10, 13, 13⟩] := htab
  refine lv_aload_n hx hb dL_levelMoves_0 rfl (lv_at hl 3 rfl) ?_
  refine lv_iconst (v := 0) hx hb dL_levelMoves_1 (by decide) ?_
  refine lv_aload_n hx hb dL_levelMoves_2 rfl (lv_at hl 0 rfl) ?_
  refine lv_iload_n hx hb dL_levelMoves_3 rfl (lv_at hl 1 rfl) ?_
  refine lv_iload_n hx hb dL_levelMoves_4 rfl (lv_at hl 2 rfl) ?_
  refine qd_cX (rest := [.int 0, .ref ao]) (wc := (Wo cy ad I A G T)) (wr := [qd_L cy ao o]) S0 V hl 0 gO_0 rfl (c_X7_levelMoves l hst hf) kg_L_127 rfl ⟨rfl, rfl⟩ kd_X7_levelMoves ⟨(Nat.le_of_ble_eq_true rfl), (Nat.le_of_ble_eq_true rfl)⟩ rfl rfl (Nat.le_of_ble_eq_true rfl) ⟨(Nat.le_of_ble_eq_true rfl), (Nat.le_of_ble_eq_true rfl)⟩ dL_levelMoves_5 htab (by decide) rfl (fun v9 H locs hro V => ?_) (fun q9 H locs hro V => ?_)
  · refine W.eq (g2 := F0 m 8 ls [.int v9, .int 0, .ref ao]) rfl ?_
    refine lv_i2l hx hb dL_levelMoves_8 rfl ?_
    refine qd_last S0 V rfl dL_levelMoves_9 (fun H locs V => ?_)
    refine lv_goto (tgt := 17) hx hb dL_levelMoves_10 (by decide) ?_
    refine lv_iconst (v := 0) hx hb dL_levelMoves_17 (by decide) ?_
    exact qd_ret1 S0 hr hlocks rfl hro V dL_levelMoves_18
  · refine lv_astore (lv' := [(4, .ref q9), (0, .ref (ad 0)), (1, .int p1), (2, .int p2), (3, .ref ao)]) hx hb dL_levelMoves_13 hl (by decide) rfl (fun ls hl => ?_)
    refine lv_iconst (v := 1) hx hb dL_levelMoves_15 (by decide) ?_
    exact qd_ret0 S0 hr hlocks rfl hro V dL_levelMoves_16
abbrev wz_L_lapseAfter : List Cond := Cond.codeWith yL_lapseAfter cL_lapseAfter 6 (some .int) [(0, 12, 15, 13)] :: qw_big
def rm_L_lapseAfter : Room := { frames := 8, cells := 1, slots := 6, locals := 127 }
set_option maxHeartbeats 4000000 in
set_option maxRecDepth 100000 in
theorem c_L_lapseAfter (l : Launch) (hst : l.stackTraces = false) {D : va_G} {cy : Nat → ClassId} {ad : Nat → Nat} {I : Nat → Int32} {A : Nat → Nat → Int32} {G : Nat → Int32 × (Nat → Nat → Int32)} {T : Nat} {p1 : Int32} {p2 : Int32} {p3 : Int32} {ao : Nat} {o : Nat → Int64} {ro : (Option (Int32 × (Nat → Nat → Int32)))} {sz : Nat} (hf : f_X7_lapseAfter I A p1 p2 p3 = some ro) : vx_Met l yL_lapseAfter wz_L_lapseAfter rm_L_lapseAfter (va_Pc [.ref (ad 0), .int p1, .int p2, .int p3, .ref ao] (qw_Pre D cy ((Wo cy ad I A G T) ++ [qd_L cy ao o]) sz)) (qd_Q ro ((Wo cy ad I A G T) ++ [qd_L cy ao o]) (fun v9 => (Wo cy ad I v9.2 G T) ++ [qd_L cy ao (vp_updL o 0 (v9.1).toInt64)]) D (va_A ((Wo cy ad I A G T) ++ [qd_L cy ao o]) sz)) qd_X 1 6 (va_A ((Wo cy ad I A G T) ++ [qd_L cy ao o]) sz) := by
  refine qd_of (cc := cL_lapseAfter) (maxL := 6) (ret := some .int) (hh := [(0, 12, 15, 13)]) (by decide) (Nat.le_of_ble_eq_true rfl) ?_
  intro p e s m args below meth c ls S0 hr hlocks htab hsz V hl
  have S0 : CallFix p m c cL_lapseAfter 6 s args qw_big RL := S0
  have hx := S0.1; have hb := S0.2.1
  have hl : lv_has ls 6 [(0, .ref (ad 0)), (1, .int p1), (2, .int p2), (3, .int p3), (4, .ref ao)] := hl
  generalize va_A ((Wo cy ad I A G T) ++ [qd_L cy ao o]) sz = Z9 at V ⊢
  clear hsz
  have htab : c.exceptionTable.toList = [⟨0, 12, 15, 13⟩] := htab
  refine lv_aload hx hb dL_lapseAfter_0 (lv_at hl 4 rfl) ?_
  refine lv_iconst (v := 0) hx hb dL_lapseAfter_2 (by decide) ?_
  refine lv_aload_n hx hb dL_lapseAfter_3 rfl (lv_at hl 0 rfl) ?_
  refine lv_iload_n hx hb dL_lapseAfter_4 rfl (lv_at hl 1 rfl) ?_
  refine lv_iload_n hx hb dL_lapseAfter_5 rfl (lv_at hl 2 rfl) ?_
  refine lv_iload_n hx hb dL_lapseAfter_6 rfl (lv_at hl 3 rfl) ?_
  refine qd_cX (rest := [.int 0, .ref ao]) (wc := (Wo cy ad I A G T)) (wr := [qd_L cy ao o]) S0 V hl 0 gO_0 rfl (c_X7_lapseAfter l hst hf) kg_L_130 rfl ⟨rfl, rfl⟩ kd_X7_lapseAfter ⟨(Nat.le_of_ble_eq_true rfl), (Nat.le_of_ble_eq_true rfl)⟩ rfl rfl (Nat.le_of_ble_eq_true rfl) ⟨(Nat.le_of_ble_eq_true rfl), (Nat.le_of_ble_eq_true rfl)⟩ dL_lapseAfter_7 htab (by decide) rfl (fun v9 H locs hro V => ?_) (fun q9 H locs hro V => ?_)
  · refine W.eq (g2 := F0 m 10 ls [.int v9.1, .int 0, .ref ao]) rfl ?_
    refine lv_i2l hx hb dL_lapseAfter_10 rfl ?_
    refine qd_last S0 V rfl dL_lapseAfter_11 (fun H locs V => ?_)
    refine lv_goto (tgt := 19) hx hb dL_lapseAfter_12 (by decide) ?_
    refine lv_iconst (v := 0) hx hb dL_lapseAfter_19 (by decide) ?_
    exact qd_ret1 S0 hr hlocks rfl hro V dL_lapseAfter_20
  · refine lv_astore (lv' := [(5, .ref q9), (0, .ref (ad 0)), (1, .int p1), (2, .int p2), (3, .int p3), (4, .ref ao)]) hx hb dL_lapseAfter_15 hl (by decide) rfl (fun ls hl => ?_)
    refine lv_iconst (v := 1) hx hb dL_lapseAfter_17 (by decide) ?_
    exact qd_ret0 S0 hr hlocks rfl hro V dL_lapseAfter_18
abbrev wz_L_supplyPeriods : List Cond := Cond.codeWith yL_supplyPeriods cL_supplyPeriods 6 (some .int) [(0, 12, 15, 13)] :: qw_big
def rm_L_supplyPeriods : Room := { frames := 8, cells := 1, slots := 6, locals := 128 }
set_option maxHeartbeats 4000000 in
set_option maxRecDepth 100000 in
theorem c_L_supplyPeriods (l : Launch) (hst : l.stackTraces = false) {D : va_G} {cy : Nat → ClassId} {ad : Nat → Nat} {I : Nat → Int32} {A : Nat → Nat → Int32} {G : Nat → Int32 × (Nat → Nat → Int32)} {T : Nat} {p1 : Int32} {p2 : Int32} {p3 : Int32} {ao : Nat} {o : Nat → Int64} {ro : (Option (Int32 × (Nat → Nat → Int32)))} {sz : Nat} (hf : f_X7_supplyPeriods I A p1 p2 p3 = some ro) : vx_Met l yL_supplyPeriods wz_L_supplyPeriods rm_L_supplyPeriods (va_Pc [.ref (ad 0), .int p1, .int p2, .int p3, .ref ao] (qw_Pre D cy ((Wo cy ad I A G T) ++ [qd_L cy ao o]) sz)) (qd_Q ro ((Wo cy ad I A G T) ++ [qd_L cy ao o]) (fun v9 => (Wo cy ad I v9.2 G T) ++ [qd_L cy ao (vp_updL o 0 (v9.1).toInt64)]) D (va_A ((Wo cy ad I A G T) ++ [qd_L cy ao o]) sz)) qd_X 1 6 (va_A ((Wo cy ad I A G T) ++ [qd_L cy ao o]) sz) := by
  refine qd_of (cc := cL_supplyPeriods) (maxL := 6) (ret := some .int) (hh := [(0, 12, 15, 13)]) (by decide) (Nat.le_of_ble_eq_true rfl) ?_
  intro p e s m args below meth c ls S0 hr hlocks htab hsz V hl
  have S0 : CallFix p m c cL_supplyPeriods 6 s args qw_big RL := S0
  have hx := S0.1; have hb := S0.2.1
  have hl : lv_has ls 6 [(0, .ref (ad 0)), (1, .int p1), (2, .int p2), (3, .int p3), (4, .ref ao)] := hl
  generalize va_A ((Wo cy ad I A G T) ++ [qd_L cy ao o]) sz = Z9 at V ⊢
  clear hsz
  have htab : c.exceptionTable.toList = [⟨0, 12, 15, 13⟩] := htab
  refine lv_aload hx hb dL_supplyPeriods_0 (lv_at hl 4 rfl) ?_
  refine lv_iconst (v := 0) hx hb dL_supplyPeriods_2 (by decide) ?_
  refine lv_aload_n hx hb dL_supplyPeriods_3 rfl (lv_at hl 0 rfl) ?_
  refine lv_iload_n hx hb dL_supplyPeriods_4 rfl (lv_at hl 1 rfl) ?_
  refine lv_iload_n hx hb dL_supplyPeriods_5 rfl (lv_at hl 2 rfl) ?_
  refine lv_iload_n hx hb dL_supplyPeriods_6 rfl (lv_at hl 3 rfl) ?_
  refine qd_cX (rest := [.int 0, .ref ao]) (wc := (Wo cy ad I A G T)) (wr := [qd_L cy ao o]) S0 V hl 0 gO_0 rfl (c_X7_supplyPeriods l hst hf) kg_L_133 rfl ⟨rfl, rfl⟩ kd_X7_supplyPeriods ⟨(Nat.le_of_ble_eq_true rfl), (Nat.le_of_ble_eq_true rfl)⟩ rfl rfl (Nat.le_of_ble_eq_true rfl) ⟨(Nat.le_of_ble_eq_true rfl), (Nat.le_of_ble_eq_true rfl)⟩ dL_supplyPeriods_7 htab (by decide) rfl (fun v9 H locs hro V => ?_) (fun q9 H locs hro V => ?_)
  · refine W.eq (g2 := F0 m 10 ls [.int v9.1, .int 0, .ref ao]) rfl ?_
    refine lv_i2l hx hb dL_supplyPeriods_10 rfl ?_
    refine qd_last S0 V rfl dL_supplyPeriods_11 (fun H locs V => ?_)
    refine lv_goto (tgt := 19) hx hb dL_supplyPeriods_12 (by decide) ?_
    refine lv_iconst (v := 0) hx hb dL_supplyPeriods_19 (by decide) ?_
    exact qd_ret1 S0 hr hlocks rfl hro V dL_supplyPeriods_20
  · refine lv_astore (lv' := [(5, .ref q9), (0, .ref (ad 0)), (1, .int p1), (2, .int p2), (3, .int p3), (4, .ref ao)]) hx hb dL_supplyPeriods_15 hl (by decide) rfl (fun ls hl => ?_)
    refine lv_iconst (v := 1) hx hb dL_supplyPeriods_17 (by decide) ?_
    exact qd_ret0 S0 hr hlocks rfl hro V dL_supplyPeriods_18
