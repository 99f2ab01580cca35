set_option maxHeartbeats 4000000 in
set_option maxRecDepth 100000 in
theorem ql_2 {p : Program} {l : Launch} {e : Env} {s : State} {m : MethodId} {below : List Frame} {meth : Method} {c : Code} {Q : State → Prop} {D : va_G} {cy : Nat → ClassId} {Z : Nat → Prop} {b L : Nat} {xs : Nat → Int32} (hst : l.stackTraces = false) (S0 : CallFix p m c code 7 s #[Value.ref b] qw_big RL) (hX : va_X b L xs s s.heap) (hbl : b < s.heap.size) (hbA : ¬ Z b) {Inv : ql_Inv} (hE : QE_errorPosition Inv) {ad am : Nat → Nat} {I : Nat → Int32} {A : Nat → Nat → Int32} {G : Nat → Int32 × (Nat → Nat → Int32)} {T : Nat} {J : Nat → Int32} {B : Nat → Nat → Int32} {w : Int64} {ao : Nat} {o : Nat → Int64} {H : Heap} {locs : List Loc} {cells slots : Nat} {ls : Array Slot} (hI : Inv I A G T J B w) (V : qw_V D cy Z s (((Wo cy ad I A G T) ++ [qd_L cy ao o]) ++ (Wm cy am J B w)) H locs) {i : Int32} (hin : ∀ j : Nat, j ≤ 5 → vp_in (i + Int32.ofNat j) L) (hl : lv_has ls 7 (ql_base i ao (am 0) (ad 0) b)) (hc : cells + 1 ≤ 601024) (hs : slots + 6 ≤ 7293034) (K : ∀ (ad2 : Nat → Nat) (I : Nat → Int32) (A : Nat → Nat → Int32) (G : Nat → Int32 × (Nat → Nat → Int32)) (T : Nat) (J : Nat → Int32) (B : Nat → Nat → Int32) (w : Int64) (o : Nat → Int64) (H : Heap) (locs : List Loc) (ls : Array Slot), ad2 0 = ad 0 → Inv I A G T J B w → qw_V D cy Z s ((Wo cy ad2 I A G T ++ [qd_L cy ao o]) ++ Wm cy am J B w) H locs → lv_has ls 7 (ql_base i ao (am 0) (ad 0) b) → W p l e room_1 s m #[Value.ref b] below meth c H locs (cells + 1) (slots + 6) Q (F0 m 3735 ls [])) : W p l e room_1 s m #[Value.ref b] below meth c H locs cells slots Q (F0 m 410 ls []) := by
  have hx := S0.1; have hb := S0.2.1
  have hc0 : cells ≤ 601024 := Nat.le_trans (Nat.le_add_right _ _) hc; have hs0 : slots ≤ 7293034 := Nat.le_trans (Nat.le_add_right _ _) hs
  obtain ⟨r9, hX7, rb, J9, hM8, hEq, hI9⟩ := (hE ad I A G T J B w hI)
  have hl : lv_has ls 7 [(4, .int i), (3, .ref ao), (2, .ref (am 0)), (1, .ref (ad 0)), (0, .ref b)] := hl
  refine lv_aload_n hx hb dL_law_410 rfl (lv_at hl 3 rfl) ?_
  have hcN : cells + 0 ≤ 601024 := hc0
  have hsN : slots + 0 ≤ 7293034 := hs0
  have V := ql_V.assoc V
  refine ql_cVR (rest := []) (st1 := [.int r9]) (wc := (Wo cy ad I A G T)) (wr := [qd_L cy ao o] ++ (Wm cy am J B w)) S0 V hl 0 gO_0 rfl (c_X7_errorPosition l hX7) kg_L_149 rfl ⟨rfl, rfl⟩ kd_X7_errorPosition ⟨(Nat.le_of_ble_eq_true rfl), (Nat.le_of_ble_eq_true rfl)⟩ rfl rfl (Nat.le_of_ble_eq_true rfl) ⟨hcN, hsN⟩ rfl dL_law_411 ?_
  have V := ql_V.cossa V
  refine lv_aload_n hx hb dL_law_414 rfl (lv_at hl 2 rfl) ?_
  have V := ql_V.swap V
  refine ql_cV (rest := [.int r9]) (st1 := (.int rb :: [.int r9])) (wc := (Wm cy am J B w)) (wr := ((Wo cy ad I A G T) ++ [qd_L cy ao o])) S0 V hl 0 gM_0 rfl (c_X8_errorPosition l hM8) kg_L_153 rfl ⟨rfl, rfl⟩ kd_X8_errorPosition ⟨(Nat.le_of_ble_eq_true rfl), (Nat.le_of_ble_eq_true rfl)⟩ rfl rfl (Nat.le_of_ble_eq_true rfl) ⟨hcN, hsN⟩ rfl dL_law_415 (fun H locs V => ?_)
  have V := ql_V.swap V
  refine lv_icmp_eq (tgt := 3735) hx hb dL_law_418 (by decide) (fun _ => ?_) (fun c9 => absurd hEq c9)
  refine W.widen (k := cells + 1) (n := slots + 6) (Nat.le_add_right _ _) (Nat.le_add_right _ _) ?_
  exact K _ _ _ _ _ _ _ _ _ _ _ _ rfl hI9 V hl
set_option maxHeartbeats 4000000 in
set_option maxRecDepth 100000 in
theorem ql_3 {p : Program} {l : Launch} {e : Env} {s : State} {m : MethodId} {below : List Frame} {meth : Method} {c : Code} {Q : State → Prop} {D : va_G} {cy : Nat → ClassId} {Z : Nat → Prop} {b L : Nat} {xs : Nat → Int32} (hst : l.stackTraces = false) (S0 : CallFix p m c code 7 s #[Value.ref b] qw_big RL) (hX : va_X b L xs s s.heap) (hbl : b < s.heap.size) (hbA : ¬ Z b) {Inv : ql_Inv} (hE : QE_groupCount Inv) {ad am : Nat → Nat} {I : Nat → Int32} {A : Nat → Nat → Int32} {G : Nat → Int32 × (Nat → Nat → Int32)} {T : Nat} {J : Nat → Int32} {B : Nat → Nat → Int32} {w : Int64} {ao : Nat} {o : Nat → Int64} {H : Heap} {locs : List Loc} {cells slots : Nat} {ls : Array Slot} (hI : Inv I A G T J B w) (V : qw_V D cy Z s (((Wo cy ad I A G T) ++ [qd_L cy ao o]) ++ (Wm cy am J B w)) H locs) {i : Int32} (hin : ∀ j : Nat, j ≤ 5 → vp_in (i + Int32.ofNat j) L) (hl : lv_has ls 7 (ql_base i ao (am 0) (ad 0) b)) (hc : cells + 1 ≤ 601024) (hs : slots + 6 ≤ 7293034) (K : ∀ (ad2 : Nat → Nat) (I : Nat → Int32) (A : Nat → Nat → Int32) (G : Nat → Int32 × (Nat → Nat → Int32)) (T : Nat) (J : Nat → Int32) (B : Nat → Nat → Int32) (w : Int64) (o : Nat → Int64) (H : Heap) (locs : List Loc) (ls : Array Slot), ad2 0 = ad 0 → Inv I A G T J B w → qw_V D cy Z s ((Wo cy ad2 I A G T ++ [qd_L cy ao o]) ++ Wm cy am J B w) H locs → lv_has ls 7 (ql_base i ao (am 0) (ad 0) b) → W p l e room_1 s m #[Value.ref b] below meth c H locs (cells + 1) (slots + 6) Q (F0 m 3735 ls [])) : W p l e room_1 s m #[Value.ref b] below meth c H locs cells slots Q (F0 m 423 ls []) := by
  have hx := S0.1; have hb := S0.2.1
  have hc0 : cells ≤ 601024 := Nat.le_trans (Nat.le_add_right _ _) hc; have hs0 : slots ≤ 7293034 := Nat.le_trans (Nat.le_add_right _ _) hs
  obtain ⟨r9, hX7, rb, J9, hM8, hEq, hI9⟩ := (hE ad I A G T J B w hI)
  have hl : lv_has ls 7 [(4, .int i), (3, .ref ao), (2, .ref (am 0)), (1, .ref (ad 0)), (0, .ref b)] := hl
  refine lv_aload_n hx hb dL_law_423 rfl (lv_at hl 3 rfl) ?_
  have hcN : cells + 0 ≤ 601024 := hc0
  have hsN : slots + 0 ≤ 7293034 := hs0
  have V := ql_V.assoc V
  refine ql_cVR (rest := []) (st1 := [.int r9]) (wc := (Wo cy ad I A G T)) (wr := [qd_L cy ao o] ++ (Wm cy am J B w)) S0 V hl 0 gO_0 rfl (c_X7_groupCount l hX7) kg_L_154 rfl ⟨rfl, rfl⟩ kd_X7_groupCount ⟨(Nat.le_of_ble_eq_true rfl), (Nat.le_of_ble_eq_true rfl)⟩ rfl rfl (Nat.le_of_ble_eq_true rfl) ⟨hcN, hsN⟩ rfl dL_law_424 ?_
  have V := ql_V.cossa V
  refine lv_aload_n hx hb dL_law_427 rfl (lv_at hl 2 rfl) ?_
  have V := ql_V.swap V
  refine ql_cV (rest := [.int r9]) (st1 := (.int rb :: [.int r9])) (wc := (Wm cy am J B w)) (wr := ((Wo cy ad I A G T) ++ [qd_L cy ao o])) S0 V hl 0 gM_0 rfl (c_X8_groupCount l hM8) kg_L_157 rfl ⟨rfl, rfl⟩ kd_X8_groupCount ⟨(Nat.le_of_ble_eq_true rfl), (Nat.le_of_ble_eq_true rfl)⟩ rfl rfl (Nat.le_of_ble_eq_true rfl) ⟨hcN, hsN⟩ rfl dL_law_428 (fun H locs V => ?_)
  have V := ql_V.swap V
  refine lv_icmp_eq (tgt := 3735) hx hb dL_law_431 (by decide) (fun _ => ?_) (fun c9 => absurd hEq c9)
  refine W.widen (k := cells + 1) (n := slots + 6) (Nat.le_add_right _ _) (Nat.le_add_right _ _) ?_
  exact K _ _ _ _ _ _ _ _ _ _ _ _ rfl hI9 V hl
set_option maxHeartbeats 4000000 in
set_option maxRecDepth 100000 in
theorem ql_4 {p : Program} {l : Launch} {e : Env} {s : State} {m : MethodId} {below : List Frame} {meth : Method} {c : Code} {Q : State → Prop} {D : va_G} {cy : Nat → ClassId} {Z : Nat → Prop} {b L : Nat} {xs : Nat → Int32} (hst : l.stackTraces = false) (S0 : CallFix p m c code 7 s #[Value.ref b] qw_big RL) (hX : va_X b L xs s s.heap) (hbl : b < s.heap.size) (hbA : ¬ Z b) {Inv : ql_Inv} (hE : QE_goodCount Inv) {ad am : Nat → Nat} {I : Nat → Int32} {A : Nat → Nat → Int32} {G : Nat → Int32 × (Nat → Nat → Int32)} {T : Nat} {J : Nat → Int32} {B : Nat → Nat → Int32} {w : Int64} {ao : Nat} {o : Nat → Int64} {H : Heap} {locs : List Loc} {cells slots : Nat} {ls : Array Slot} (hI : Inv I A G T J B w) (V : qw_V D cy Z s (((Wo cy ad I A G T) ++ [qd_L cy ao o]) ++ (Wm cy am J B w)) H locs) {i : Int32} (hin : ∀ j : Nat, j ≤ 5 → vp_in (i + Int32.ofNat j) L) (hl : lv_has ls 7 (ql_base i ao (am 0) (ad 0) b)) (hc : cells + 1 ≤ 601024) (hs : slots + 6 ≤ 7293034) (K : ∀ (ad2 : Nat → Nat) (I : Nat → Int32) (A : Nat → Nat → Int32) (G : Nat → Int32 × (Nat → Nat → Int32)) (T : Nat) (J : Nat → Int32) (B : Nat → Nat → Int32) (w : Int64) (o : Nat → Int64) (H : Heap) (locs : List Loc) (ls : Array Slot), ad2 0 = ad 0 → Inv I A G T J B w → qw_V D cy Z s ((Wo cy ad2 I A G T ++ [qd_L cy ao o]) ++ Wm cy am J B w) H locs → lv_has ls 7 (ql_base i ao (am 0) (ad 0) b) → W p l e room_1 s m #[Value.ref b] below meth c H locs (cells + 1) (slots + 6) Q (F0 m 3735 ls [])) : W p l e room_1 s m #[Value.ref b] below meth c H locs cells slots Q (F0 m 436 ls []) := by
  have hx := S0.1; have hb := S0.2.1
  have hc0 : cells ≤ 601024 := Nat.le_trans (Nat.le_add_right _ _) hc; have hs0 : slots ≤ 7293034 := Nat.le_trans (Nat.le_add_right _ _) hs
  obtain ⟨r9, hX7, rb, J9, hM8, hEq, hI9⟩ := (hE ad I A G T J B w hI)
  have hl : lv_has ls 7 [(4, .int i), (3, .ref ao), (2, .ref (am 0)), (1, .ref (ad 0)), (0, .ref b)] := hl
  refine lv_aload_n hx hb dL_law_436 rfl (lv_at hl 3 rfl) ?_
  have hcN : cells + 0 ≤ 601024 := hc0
  have hsN : slots + 0 ≤ 7293034 := hs0
  have V := ql_V.assoc V
  refine ql_cVR (rest := []) (st1 := [.int r9]) (wc := (Wo cy ad I A G T)) (wr := [qd_L cy ao o] ++ (Wm cy am J B w)) S0 V hl 0 gO_0 rfl (c_X7_goodCount l hX7) kg_L_158 rfl ⟨rfl, rfl⟩ kd_X7_goodCount ⟨(Nat.le_of_ble_eq_true rfl), (Nat.le_of_ble_eq_true rfl)⟩ rfl rfl (Nat.le_of_ble_eq_true rfl) ⟨hcN, hsN⟩ rfl dL_law_437 ?_
  have V := ql_V.cossa V
  refine lv_aload_n hx hb dL_law_440 rfl (lv_at hl 2 rfl) ?_
  have V := ql_V.swap V
  refine ql_cV (rest := [.int r9]) (st1 := (.int rb :: [.int r9])) (wc := (Wm cy am J B w)) (wr := ((Wo cy ad I A G T) ++ [qd_L cy ao o])) S0 V hl 0 gM_0 rfl (c_X8_goodCount l hM8) kg_L_161 rfl ⟨rfl, rfl⟩ kd_X8_goodCount ⟨(Nat.le_of_ble_eq_true rfl), (Nat.le_of_ble_eq_true rfl)⟩ rfl rfl (Nat.le_of_ble_eq_true rfl) ⟨hcN, hsN⟩ rfl dL_law_441 (fun H locs V => ?_)
  have V := ql_V.swap V
  refine lv_icmp_eq (tgt := 3735) hx hb dL_law_444 (by decide) (fun _ => ?_) (fun c9 => absurd hEq c9)
  refine W.widen (k := cells + 1) (n := slots + 6) (Nat.le_add_right _ _) (Nat.le_add_right _ _) ?_
  exact K _ _ _ _ _ _ _ _ _ _ _ _ rfl hI9 V hl
set_option maxHeartbeats 4000000 in
set_option maxRecDepth 100000 in
theorem ql_5 {p : Program} {l : Launch} {e : Env} {s : State} {m : MethodId} {below : List Frame} {meth : Method} {c : Code} {Q : State → Prop} {D : va_G} {cy : Nat → ClassId} {Z : Nat → Prop} {b L : Nat} {xs : Nat → Int32} (hst : l.stackTraces = false) (S0 : CallFix p m c code 7 s #[Value.ref b] qw_big RL) (hX : va_X b L xs s s.heap) (hbl : b < s.heap.size) (hbA : ¬ Z b) {Inv : ql_Inv} (hE : QE_houseCount Inv) {ad am : Nat → Nat} {I : Nat → Int32} {A : Nat → Nat → Int32} {G : Nat → Int32 × (Nat → Nat → Int32)} {T : Nat} {J : Nat → Int32} {B : Nat → Nat → Int32} {w : Int64} {ao : Nat} {o : Nat → Int64} {H : Heap} {locs : List Loc} {cells slots : Nat} {ls : Array Slot} (hI : Inv I A G T J B w) (V : qw_V D cy Z s (((Wo cy ad I A G T) ++ [qd_L cy ao o]) ++ (Wm cy am J B w)) H locs) {i : Int32} (hin : ∀ j : Nat, j ≤ 5 → vp_in (i + Int32.ofNat j) L) (hl : lv_has ls 7 (ql_base i ao (am 0) (ad 0) b)) (hc : cells + 1 ≤ 601024) (hs : slots + 6 ≤ 7293034) (K : ∀ (ad2 : Nat → Nat) (I : Nat → Int32) (A : Nat → Nat → Int32) (G : Nat → Int32 × (Nat → Nat → Int32)) (T : Nat) (J : Nat → Int32) (B : Nat → Nat → Int32) (w : Int64) (o : Nat → Int64) (H : Heap) (locs : List Loc) (ls : Array Slot), ad2 0 = ad 0 → Inv I A G T J B w → qw_V D cy Z s ((Wo cy ad2 I A G T ++ [qd_L cy ao o]) ++ Wm cy am J B w) H locs → lv_has ls 7 (ql_base i ao (am 0) (ad 0) b) → W p l e room_1 s m #[Value.ref b] below meth c H locs (cells + 1) (slots + 6) Q (F0 m 3735 ls [])) : W p l e room_1 s m #[Value.ref b] below meth c H locs cells slots Q (F0 m 449 ls []) := by
  have hx := S0.1; have hb := S0.2.1
  have hc0 : cells ≤ 601024 := Nat.le_trans (Nat.le_add_right _ _) hc; have hs0 : slots ≤ 7293034 := Nat.le_trans (Nat.le_add_right _ _) hs
  obtain ⟨r9, hX7, rb, J9, hM8, hEq, hI9⟩ := (hE ad I A G T J B w hI)
  have hl : lv_has ls 7 [(4, .int i), (3, .ref ao), (2, .ref (am 0)), (1, .ref (ad 0)), (0, .ref b)] := hl
  refine lv_aload_n hx hb dL_law_449 rfl (lv_at hl 3 rfl) ?_
  have hcN : cells + 0 ≤ 601024 := hc0
  have hsN : slots + 0 ≤ 7293034 := hs0
  have V := ql_V.assoc V
  refine ql_cVR (rest := []) (st1 := [.int r9]) (wc := (Wo cy ad I A G T)) (wr := [qd_L cy ao o] ++ (Wm cy am J B w)) S0 V hl 0 gO_0 rfl (c_X7_houseCount l hX7) kg_L_162 rfl ⟨rfl, rfl⟩ kd_X7_houseCount ⟨(Nat.le_of_ble_eq_true rfl), (Nat.le_of_ble_eq_true rfl)⟩ rfl rfl (Nat.le_of_ble_eq_true rfl) ⟨hcN, hsN⟩ rfl dL_law_450 ?_
  have V := ql_V.cossa V
  refine lv_aload_n hx hb dL_law_453 rfl (lv_at hl 2 rfl) ?_
  have V := ql_V.swap V
  refine ql_cV (rest := [.int r9]) (st1 := (.int rb :: [.int r9])) (wc := (Wm cy am J B w)) (wr := ((Wo cy ad I A G T) ++ [qd_L cy ao o])) S0 V hl 0 gM_0 rfl (c_X8_houseCount l hM8) kg_L_165 rfl ⟨rfl, rfl⟩ kd_X8_houseCount ⟨(Nat.le_of_ble_eq_true rfl), (Nat.le_of_ble_eq_true rfl)⟩ rfl rfl (Nat.le_of_ble_eq_true rfl) ⟨hcN, hsN⟩ rfl dL_law_454 (fun H locs V => ?_)
  have V := ql_V.swap V
  refine lv_icmp_eq (tgt := 3735) hx hb dL_law_457 (by decide) (fun _ => ?_) (fun c9 => absurd hEq c9)
  refine W.widen (k := cells + 1) (n := slots + 6) (Nat.le_add_right _ _) (Nat.le_add_right _ _) ?_
  exact K _ _ _ _ _ _ _ _ _ _ _ _ rfl hI9 V hl
set_option maxHeartbeats 4000000 in
set_option maxRecDepth 100000 in
theorem ql_6 {p : Program} {l : Launch} {e : Env} {s : State} {m : MethodId} {below : List Frame} {meth : Method} {c : Code} {Q : State → Prop} {D : va_G} {cy : Nat → ClassId} {Z : Nat → Prop} {b L : Nat} {xs : Nat → Int32} (hst : l.stackTraces = false) (S0 : CallFix p m c code 7 s #[Value.ref b] qw_big RL) (hX : va_X b L xs s s.heap) (hbl : b < s.heap.size) (hbA : ¬ Z b) {Inv : ql_Inv} (hE : QE_shopCount Inv) {ad am : Nat → Nat} {I : Nat → Int32} {A : Nat → Nat → Int32} {G : Nat → Int32 × (Nat → Nat → Int32)} {T : Nat} {J : Nat → Int32} {B : Nat → Nat → Int32} {w : Int64} {ao : Nat} {o : Nat → Int64} {H : Heap} {locs : List Loc} {cells slots : Nat} {ls : Array Slot} (hI : Inv I A G T J B w) (V : qw_V D cy Z s (((Wo cy ad I A G T) ++ [qd_L cy ao o]) ++ (Wm cy am J B w)) H locs) {i : Int32} (hin : ∀ j : Nat, j ≤ 5 → vp_in (i + Int32.ofNat j) L) (hl : lv_has ls 7 (ql_base i ao (am 0) (ad 0) b)) (hc : cells + 1 ≤ 601024) (hs : slots + 6 ≤ 7293034) (K : ∀ (ad2 : Nat → Nat) (I : Nat → Int32) (A : Nat → Nat → Int32) (G : Nat → Int32 × (Nat → Nat → Int32)) (T : Nat) (J : Nat → Int32) (B : Nat → Nat → Int32) (w : Int64) (o : Nat → Int64) (H : Heap) (locs : List Loc) (ls : Array Slot), ad2 0 = ad 0 → Inv I A G T J B w → qw_V D cy Z s ((Wo cy ad2 I A G T ++ [qd_L cy ao o]) ++ Wm cy am J B w) H locs → lv_has ls 7 (ql_base i ao (am 0) (ad 0) b) → W p l e room_1 s m #[Value.ref b] below meth c H locs (cells + 1) (slots + 6) Q (F0 m 3735 ls [])) : W p l e room_1 s m #[Value.ref b] below meth c H locs cells slots Q (F0 m 462 ls []) := by
  have hx := S0.1; have hb := S0.2.1
  have hc0 : cells ≤ 601024 := Nat.le_trans (Nat.le_add_right _ _) hc; have hs0 : slots ≤ 7293034 := Nat.le_trans (Nat.le_add_right _ _) hs
  obtain ⟨r9, hX7, rb, J9, hM8, hEq, hI9⟩ := (hE ad I A G T J B w hI)
  have hl : lv_has ls 7 [(4, .int i), (3, .ref ao), (2, .ref (am 0)), (1, .ref (ad 0)), (0, .ref b)] := hl
  refine lv_aload_n hx hb dL_law_462 rfl (lv_at hl 3 rfl) ?_
  have hcN : cells + 0 ≤ 601024 := hc0
  have hsN : slots + 0 ≤ 7293034 := hs0
  have V := ql_V.assoc V
  refine ql_cVR (rest := []) (st1 := [.int r9]) (wc := (Wo cy ad I A G T)) (wr := [qd_L cy ao o] ++ (Wm cy am J B w)) S0 V hl 0 gO_0 rfl (c_X7_shopCount l hX7) kg_L_166 rfl ⟨rfl, rfl⟩ kd_X7_shopCount ⟨(Nat.le_of_ble_eq_true rfl), (Nat.le_of_ble_eq_true rfl)⟩ rfl rfl (Nat.le_of_ble_eq_true rfl) ⟨hcN, hsN⟩ rfl dL_law_463 ?_
  have V := ql_V.cossa V
  refine lv_aload_n hx hb dL_law_466 rfl (lv_at hl 2 rfl) ?_
  have V := ql_V.swap V
  refine ql_cV (rest := [.int r9]) (st1 := (.int rb :: [.int r9])) (wc := (Wm cy am J B w)) (wr := ((Wo cy ad I A G T) ++ [qd_L cy ao o])) S0 V hl 0 gM_0 rfl (c_X8_shopCount l hM8) kg_L_169 rfl ⟨rfl, rfl⟩ kd_X8_shopCount ⟨(Nat.le_of_ble_eq_true rfl), (Nat.le_of_ble_eq_true rfl)⟩ rfl rfl (Nat.le_of_ble_eq_true rfl) ⟨hcN, hsN⟩ rfl dL_law_467 (fun H locs V => ?_)
  have V := ql_V.swap V
  refine lv_icmp_eq (tgt := 3735) hx hb dL_law_470 (by decide) (fun _ => ?_) (fun c9 => absurd hEq c9)
  refine W.widen (k := cells + 1) (n := slots + 6) (Nat.le_add_right _ _) (Nat.le_add_right _ _) ?_
  exact K _ _ _ _ _ _ _ _ _ _ _ _ rfl hI9 V hl
set_option maxHeartbeats 4000000 in
set_option maxRecDepth 100000 in
theorem ql_7 {p : Program} {l : Launch} {e : Env} {s : State} {m : MethodId} {below : List Frame} {meth : Method} {c : Code} {Q : State → Prop} {D : va_G} {cy : Nat → ClassId} {Z : Nat → Prop} {b L : Nat} {xs : Nat → Int32} (hst : l.stackTraces = false) (S0 : CallFix p m c code 7 s #[Value.ref b] qw_big RL) (hX : va_X b L xs s s.heap) (hbl : b < s.heap.size) (hbA : ¬ Z b) {Inv : ql_Inv} (hE : QE_undoCount Inv) {ad am : Nat → Nat} {I : Nat → Int32} {A : Nat → Nat → Int32} {G : Nat → Int32 × (Nat → Nat → Int32)} {T : Nat} {J : Nat → Int32} {B : Nat → Nat → Int32} {w : Int64} {ao : Nat} {o : Nat → Int64} {H : Heap} {locs : List Loc} {cells slots : Nat} {ls : Array Slot} (hI : Inv I A G T J B w) (V : qw_V D cy Z s (((Wo cy ad I A G T) ++ [qd_L cy ao o]) ++ (Wm cy am J B w)) H locs) {i : Int32} (hin : ∀ j : Nat, j ≤ 5 → vp_in (i + Int32.ofNat j) L) (hl : lv_has ls 7 (ql_base i ao (am 0) (ad 0) b)) (hc : cells + 1 ≤ 601024) (hs : slots + 6 ≤ 7293034) (K : ∀ (ad2 : Nat → Nat) (I : Nat → Int32) (A : Nat → Nat → Int32) (G : Nat → Int32 × (Nat → Nat → Int32)) (T : Nat) (J : Nat → Int32) (B : Nat → Nat → Int32) (w : Int64) (o : Nat → Int64) (H : Heap) (locs : List Loc) (ls : Array Slot), ad2 0 = ad 0 → Inv I A G T J B w → qw_V D cy Z s ((Wo cy ad2 I A G T ++ [qd_L cy ao o]) ++ Wm cy am J B w) H locs → lv_has ls 7 (ql_base i ao (am 0) (ad 0) b) → W p l e room_1 s m #[Value.ref b] below meth c H locs (cells + 1) (slots + 6) Q (F0 m 3735 ls [])) : W p l e room_1 s m #[Value.ref b] below meth c H locs cells slots Q (F0 m 475 ls []) := by
  have hx := S0.1; have hb := S0.2.1
  have hc0 : cells ≤ 601024 := Nat.le_trans (Nat.le_add_right _ _) hc; have hs0 : slots ≤ 7293034 := Nat.le_trans (Nat.le_add_right _ _) hs
  obtain ⟨r9, hX7, rb, J9, hM8, hEq, hI9⟩ := (hE ad I A G T J B w hI)
  have hl : lv_has ls 7 [(4, .int i), (3, .ref ao), (2, .ref (am 0)), (1, .ref (ad 0)), (0, .ref b)] := hl
  refine lv_aload_n hx hb dL_law_475 rfl (lv_at hl 3 rfl) ?_
  have hcN : cells + 0 ≤ 601024 := hc0
  have hsN : slots + 0 ≤ 7293034 := hs0
  have V := ql_V.assoc V
  refine ql_cVR (rest := []) (st1 := [.int r9]) (wc := (Wo cy ad I A G T)) (wr := [qd_L cy ao o] ++ (Wm cy am J B w)) S0 V hl 0 gO_0 rfl (c_X7_undoCount l hX7) kg_L_170 rfl ⟨rfl, rfl⟩ kd_X7_undoCount ⟨(Nat.le_of_ble_eq_true rfl), (Nat.le_of_ble_eq_true rfl)⟩ rfl rfl (Nat.le_of_ble_eq_true rfl) ⟨hcN, hsN⟩ rfl dL_law_476 ?_
  have V := ql_V.cossa V
  refine lv_aload_n hx hb dL_law_479 rfl (lv_at hl 2 rfl) ?_
  have V := ql_V.swap V
  refine ql_cV (rest := [.int r9]) (st1 := (.int rb :: [.int r9])) (wc := (Wm cy am J B w)) (wr := ((Wo cy ad I A G T) ++ [qd_L cy ao o])) S0 V hl 0 gM_0 rfl (c_X8_undoCount l hM8) kg_L_173 rfl ⟨rfl, rfl⟩ kd_X8_undoCount ⟨(Nat.le_of_ble_eq_true rfl), (Nat.le_of_ble_eq_true rfl)⟩ rfl rfl (Nat.le_of_ble_eq_true rfl) ⟨hcN, hsN⟩ rfl dL_law_480 (fun H locs V => ?_)
  have V := ql_V.swap V
  refine lv_icmp_eq (tgt := 3735) hx hb dL_law_483 (by decide) (fun _ => ?_) (fun c9 => absurd hEq c9)
  refine W.widen (k := cells + 1) (n := slots + 6) (Nat.le_add_right _ _) (Nat.le_add_right _ _) ?_
  exact K _ _ _ _ _ _ _ _ _ _ _ _ rfl hI9 V hl
set_option maxHeartbeats 4000000 in
set_option maxRecDepth 100000 in
theorem ql_8 {p : Program} {l : Launch} {e : Env} {s : State} {m : MethodId} {below : List Frame} {meth : Method} {c : Code} {Q : State → Prop} {D : va_G} {cy : Nat → ClassId} {Z : Nat → Prop} {b L : Nat} {xs : Nat → Int32} (hst : l.stackTraces = false) (S0 : CallFix p m c code 7 s #[Value.ref b] qw_big RL) (hX : va_X b L xs s s.heap) (hbl : b < s.heap.size) (hbA : ¬ Z b) {Inv : ql_Inv} (hE : QE_period Inv) {ad am : Nat → Nat} {I : Nat → Int32} {A : Nat → Nat → Int32} {G : Nat → Int32 × (Nat → Nat → Int32)} {T : Nat} {J : Nat → Int32} {B : Nat → Nat → Int32} {w : Int64} {ao : Nat} {o : Nat → Int64} {H : Heap} {locs : List Loc} {cells slots : Nat} {ls : Array Slot} (hI : Inv I A G T J B w) (V : qw_V D cy Z s (((Wo cy ad I A G T) ++ [qd_L cy ao o]) ++ (Wm cy am J B w)) H locs) {i : Int32} (hin : ∀ j : Nat, j ≤ 5 → vp_in (i + Int32.ofNat j) L) (hl : lv_has ls 7 (ql_base i ao (am 0) (ad 0) b)) (hc : cells + 1 ≤ 601024) (hs : slots + 6 ≤ 7293034) (K : ∀ (ad2 : Nat → Nat) (I : Nat → Int32) (A : Nat → Nat → Int32) (G : Nat → Int32 × (Nat → Nat → Int32)) (T : Nat) (J : Nat → Int32) (B : Nat → Nat → Int32) (w : Int64) (o : Nat → Int64) (H : Heap) (locs : List Loc) (ls : Array Slot), ad2 0 = ad 0 → Inv I A G T J B w → qw_V D cy Z s ((Wo cy ad2 I A G T ++ [qd_L cy ao o]) ++ Wm cy am J B w) H locs → lv_has ls 7 (ql_base i ao (am 0) (ad 0) b) → W p l e room_1 s m #[Value.ref b] below meth c H locs (cells + 1) (slots + 6) Q (F0 m 3735 ls [])) : W p l e room_1 s m #[Value.ref b] below meth c H locs cells slots Q (F0 m 488 ls []) := by
  have hx := S0.1; have hb := S0.2.1
  have hc0 : cells ≤ 601024 := Nat.le_trans (Nat.le_add_right _ _) hc; have hs0 : slots ≤ 7293034 := Nat.le_trans (Nat.le_add_right _ _) hs
  obtain ⟨r9, hX7, rb, J9, hM8, hEq, hI9⟩ := (hE ad I A G T J B w hI)
  have hl : lv_has ls 7 [(4, .int i), (3, .ref ao), (2, .ref (am 0)), (1, .ref (ad 0)), (0, .ref b)] := hl
  refine lv_aload_n hx hb dL_law_488 rfl (lv_at hl 3 rfl) ?_
  have hcN : cells + 0 ≤ 601024 := hc0
  have hsN : slots + 0 ≤ 7293034 := hs0
  have V := ql_V.assoc V
  refine ql_cVR (rest := []) (st1 := [.int r9]) (wc := (Wo cy ad I A G T)) (wr := [qd_L cy ao o] ++ (Wm cy am J B w)) S0 V hl 0 gO_0 rfl (c_X7_period l hX7) kg_L_174 rfl ⟨rfl, rfl⟩ kd_X7_period ⟨(Nat.le_of_ble_eq_true rfl), (Nat.le_of_ble_eq_true rfl)⟩ rfl rfl (Nat.le_of_ble_eq_true rfl) ⟨hcN, hsN⟩ rfl dL_law_489 ?_
  have V := ql_V.cossa V
  refine lv_aload_n hx hb dL_law_492 rfl (lv_at hl 2 rfl) ?_
  have V := ql_V.swap V
  refine ql_cV (rest := [.int r9]) (st1 := (.int rb :: [.int r9])) (wc := (Wm cy am J B w)) (wr := ((Wo cy ad I A G T) ++ [qd_L cy ao o])) S0 V hl 0 gM_0 rfl (c_X8_period l hM8) kg_L_177 rfl ⟨rfl, rfl⟩ kd_X8_period ⟨(Nat.le_of_ble_eq_true rfl), (Nat.le_of_ble_eq_true rfl)⟩ rfl rfl (Nat.le_of_ble_eq_true rfl) ⟨hcN, hsN⟩ rfl dL_law_493 (fun H locs V => ?_)
  have V := ql_V.swap V
  refine lv_icmp_eq (tgt := 3735) hx hb dL_law_496 (by decide) (fun _ => ?_) (fun c9 => absurd hEq c9)
  refine W.widen (k := cells + 1) (n := slots + 6) (Nat.le_add_right _ _) (Nat.le_add_right _ _) ?_
  exact K _ _ _ _ _ _ _ _ _ _ _ _ rfl hI9 V hl
set_option maxHeartbeats 4000000 in
set_option maxRecDepth 100000 in
theorem ql_9 {p : Program} {l : Launch} {e : Env} {s : State} {m : MethodId} {below : List Frame} {meth : Method} {c : Code} {Q : State → Prop} {D : va_G} {cy : Nat → ClassId} {Z : Nat → Prop} {b L : Nat} {xs : Nat → Int32} (hst : l.stackTraces = false) (S0 : CallFix p m c code 7 s #[Value.ref b] qw_big RL) (hX : va_X b L xs s s.heap) (hbl : b < s.heap.size) (hbA : ¬ Z b) {Inv : ql_Inv} (hE : QE_groupNamed Inv) {ad am : Nat → Nat} {I : Nat → Int32} {A : Nat → Nat → Int32} {G : Nat → Int32 × (Nat → Nat → Int32)} {T : Nat} {J : Nat → Int32} {B : Nat → Nat → Int32} {w : Int64} {ao : Nat} {o : Nat → Int64} {H : Heap} {locs : List Loc} {cells slots : Nat} {ls : Array Slot} (hI : Inv I A G T J B w) (V : qw_V D cy Z s (((Wo cy ad I A G T) ++ [qd_L cy ao o]) ++ (Wm cy am J B w)) H locs) {i : Int32} (hin : ∀ j : Nat, j ≤ 5 → vp_in (i + Int32.ofNat j) L) (hl : lv_has ls 7 (ql_base i ao (am 0) (ad 0) b)) (hc : cells + 1 ≤ 601024) (hs : slots + 6 ≤ 7293034) (K : ∀ (ad2 : Nat → Nat) (I : Nat → Int32) (A : Nat → Nat → Int32) (G : Nat → Int32 × (Nat → Nat → Int32)) (T : Nat) (J : Nat → Int32) (B : Nat → Nat → Int32) (w : Int64) (o : Nat → Int64) (H : Heap) (locs : List Loc) (ls : Array Slot), ad2 0 = ad 0 → Inv I A G T J B w → qw_V D cy Z s ((Wo cy ad2 I A G T ++ [qd_L cy ao o]) ++ Wm cy am J B w) H locs → lv_has ls 7 (ql_base i ao (am 0) (ad 0) b) → W p l e room_1 s m #[Value.ref b] below meth c H locs (cells + 1) (slots + 6) Q (F0 m 3735 ls [])) : W p l e room_1 s m #[Value.ref b] below meth c H locs cells slots Q (F0 m 501 ls []) := by
  have hx := S0.1; have hb := S0.2.1
  have hc0 : cells ≤ 601024 := Nat.le_trans (Nat.le_add_right _ _) hc; have hs0 : slots ≤ 7293034 := Nat.le_trans (Nat.le_add_right _ _) hs
  obtain ⟨r9, hX7, rb, J9, hM8, hEq, hI9⟩ := (hE ad I A G T J B w (xs (i + 1).toNatClampNeg) hI)
  have hl : lv_has ls 7 [(4, .int i), (3, .ref ao), (2, .ref (am 0)), (1, .ref (ad 0)), (0, .ref b)] := hl
  refine lv_aload_n hx hb dL_law_501 rfl (lv_at hl 3 rfl) ?_
  refine lv_aload_n hx hb dL_law_502 rfl (lv_at hl 4 rfl) ?_
  refine lv_iload hx hb dL_law_503 (lv_at hl 0 rfl) ?_
  refine lv_iconst (v := 1) hx hb dL_law_505 (by decide) ?_
  refine lv_iadd hx hb dL_law_506 ?_
  refine va_sld hx hb hX hbl hbA V.2.2.2.1 (hin 1 (by decide)) dL_law_507 ?_
  have hcN : cells + 0 ≤ 601024 := hc0
  have hsN : slots + 0 ≤ 7293034 := hs0
  have V := ql_V.assoc V
  refine ql_cVR (rest := []) (st1 := [.int r9]) (wc := (Wo cy ad I A G T)) (wr := [qd_L cy ao o] ++ (Wm cy am J B w)) S0 V hl 0 gO_0 rfl (c_X7_groupNamed l hX7) kg_L_178 rfl ⟨rfl, rfl⟩ kd_X7_groupNamed ⟨(Nat.le_of_ble_eq_true rfl), (Nat.le_of_ble_eq_true rfl)⟩ rfl rfl (Nat.le_of_ble_eq_true rfl) ⟨hcN, hsN⟩ rfl dL_law_508 ?_
  have V := ql_V.cossa V
  refine lv_aload_n hx hb dL_law_511 rfl (lv_at hl 2 rfl) ?_
  refine lv_aload_n hx hb dL_law_512 rfl (lv_at hl 4 rfl) ?_
  refine lv_iload hx hb dL_law_513 (lv_at hl 0 rfl) ?_
  refine lv_iconst (v := 1) hx hb dL_law_515 (by decide) ?_
  refine lv_iadd hx hb dL_law_516 ?_
  refine va_sld hx hb hX hbl hbA V.2.2.2.1 (hin 1 (by decide)) dL_law_517 ?_
  have V := ql_V.swap V
  refine ql_cV (rest := [.int r9]) (st1 := (.int rb :: [.int r9])) (wc := (Wm cy am J B w)) (wr := ((Wo cy ad I A G T) ++ [qd_L cy ao o])) S0 V hl 0 gM_0 rfl (c_X8_groupNamed l hM8) kg_L_181 rfl ⟨rfl, rfl⟩ kd_X8_groupNamed ⟨(Nat.le_of_ble_eq_true rfl), (Nat.le_of_ble_eq_true rfl)⟩ rfl rfl (Nat.le_of_ble_eq_true rfl) ⟨hcN, hsN⟩ rfl dL_law_518 (fun H locs V => ?_)
  have V := ql_V.swap V
  refine lv_icmp_eq (tgt := 3735) hx hb dL_law_521 (by decide) (fun _ => ?_) (fun c9 => absurd hEq c9)
  refine W.widen (k := cells + 1) (n := slots + 6) (Nat.le_add_right _ _) (Nat.le_add_right _ _) ?_
  exact K _ _ _ _ _ _ _ _ _ _ _ _ rfl hI9 V hl
set_option maxHeartbeats 4000000 in
set_option maxRecDepth 100000 in
theorem ql_10 {p : Program} {l : Launch} {e : Env} {s : State} {m : MethodId} {below : List Frame} {meth : Method} {c : Code} {Q : State → Prop} {D : va_G} {cy : Nat → ClassId} {Z : Nat → Prop} {b L : Nat} {xs : Nat → Int32} (hst : l.stackTraces = false) (S0 : CallFix p m c code 7 s #[Value.ref b] qw_big RL) (hX : va_X b L xs s s.heap) (hbl : b < s.heap.size) (hbA : ¬ Z b) {Inv : ql_Inv} (hE : QE_goodNamed Inv) {ad am : Nat → Nat} {I : Nat → Int32} {A : Nat → Nat → Int32} {G : Nat → Int32 × (Nat → Nat → Int32)} {T : Nat} {J : Nat → Int32} {B : Nat → Nat → Int32} {w : Int64} {ao : Nat} {o : Nat → Int64} {H : Heap} {locs : List Loc} {cells slots : Nat} {ls : Array Slot} (hI : Inv I A G T J B w) (V : qw_V D cy Z s (((Wo cy ad I A G T) ++ [qd_L cy ao o]) ++ (Wm cy am J B w)) H locs) {i : Int32} (hin : ∀ j : Nat, j ≤ 5 → vp_in (i + Int32.ofNat j) L) (hl : lv_has ls 7 (ql_base i ao (am 0) (ad 0) b)) (hc : cells + 1 ≤ 601024) (hs : slots + 6 ≤ 7293034) (K : ∀ (ad2 : Nat → Nat) (I : Nat → Int32) (A : Nat → Nat → Int32) (G : Nat → Int32 × (Nat → Nat → Int32)) (T : Nat) (J : Nat → Int32) (B : Nat → Nat → Int32) (w : Int64) (o : Nat → Int64) (H : Heap) (locs : List Loc) (ls : Array Slot), ad2 0 = ad 0 → Inv I A G T J B w → qw_V D cy Z s ((Wo cy ad2 I A G T ++ [qd_L cy ao o]) ++ Wm cy am J B w) H locs → lv_has ls 7 (ql_base i ao (am 0) (ad 0) b) → W p l e room_1 s m #[Value.ref b] below meth c H locs (cells + 1) (slots + 6) Q (F0 m 3735 ls [])) : W p l e room_1 s m #[Value.ref b] below meth c H locs cells slots Q (F0 m 526 ls []) := by
  have hx := S0.1; have hb := S0.2.1
  have hc0 : cells ≤ 601024 := Nat.le_trans (Nat.le_add_right _ _) hc; have hs0 : slots ≤ 7293034 := Nat.le_trans (Nat.le_add_right _ _) hs
  obtain ⟨r9, hX7, rb, J9, hM8, hEq, hI9⟩ := (hE ad I A G T J B w (xs (i + 1).toNatClampNeg) hI)
  have hl : lv_has ls 7 [(4, .int i), (3, .ref ao), (2, .ref (am 0)), (1, .ref (ad 0)), (0, .ref b)] := hl
  refine lv_aload_n hx hb dL_law_526 rfl (lv_at hl 3 rfl) ?_
  refine lv_aload_n hx hb dL_law_527 rfl (lv_at hl 4 rfl) ?_
  refine lv_iload hx hb dL_law_528 (lv_at hl 0 rfl) ?_
  refine lv_iconst (v := 1) hx hb dL_law_530 (by decide) ?_
  refine lv_iadd hx hb dL_law_531 ?_
  refine va_sld hx hb hX hbl hbA V.2.2.2.1 (hin 1 (by decide)) dL_law_532 ?_
  have hcN : cells + 0 ≤ 601024 := hc0
  have hsN : slots + 0 ≤ 7293034 := hs0
  have V := ql_V.assoc V
  refine ql_cVR (rest := []) (st1 := [.int r9]) (wc := (Wo cy ad I A G T)) (wr := [qd_L cy ao o] ++ (Wm cy am J B w)) S0 V hl 0 gO_0 rfl (c_X7_goodNamed l hX7) kg_L_182 rfl ⟨rfl, rfl⟩ kd_X7_goodNamed ⟨(Nat.le_of_ble_eq_true rfl), (Nat.le_of_ble_eq_true rfl)⟩ rfl rfl (Nat.le_of_ble_eq_true rfl) ⟨hcN, hsN⟩ rfl dL_law_533 ?_
  have V := ql_V.cossa V
  refine lv_aload_n hx hb dL_law_536 rfl (lv_at hl 2 rfl) ?_
  refine lv_aload_n hx hb dL_law_537 rfl (lv_at hl 4 rfl) ?_
  refine lv_iload hx hb dL_law_538 (lv_at hl 0 rfl) ?_
  refine lv_iconst (v := 1) hx hb dL_law_540 (by decide) ?_
  refine lv_iadd hx hb dL_law_541 ?_
  refine va_sld hx hb hX hbl hbA V.2.2.2.1 (hin 1 (by decide)) dL_law_542 ?_
  have V := ql_V.swap V
  refine ql_cV (rest := [.int r9]) (st1 := (.int rb :: [.int r9])) (wc := (Wm cy am J B w)) (wr := ((Wo cy ad I A G T) ++ [qd_L cy ao o])) S0 V hl 0 gM_0 rfl (c_X8_goodNamed l hM8) kg_L_185 rfl ⟨rfl, rfl⟩ kd_X8_goodNamed ⟨(Nat.le_of_ble_eq_true rfl), (Nat.le_of_ble_eq_true rfl)⟩ rfl rfl (Nat.le_of_ble_eq_true rfl) ⟨hcN, hsN⟩ rfl dL_law_543 (fun H locs V => ?_)
  have V := ql_V.swap V
  refine lv_icmp_eq (tgt := 3735) hx hb dL_law_546 (by decide) (fun _ => ?_) (fun c9 => absurd hEq c9)
  refine W.widen (k := cells + 1) (n := slots + 6) (Nat.le_add_right _ _) (Nat.le_add_right _ _) ?_
  exact K _ _ _ _ _ _ _ _ _ _ _ _ rfl hI9 V hl
set_option maxHeartbeats 4000000 in
set_option maxRecDepth 100000 in
theorem ql_11 {p : Program} {l : Launch} {e : Env} {s : State} {m : MethodId} {below : List Frame} {meth : Method} {c : Code} {Q : State → Prop} {D : va_G} {cy : Nat → ClassId} {Z : Nat → Prop} {b L : Nat} {xs : Nat → Int32} (hst : l.stackTraces = false) (S0 : CallFix p m c code 7 s #[Value.ref b] qw_big RL) (hX : va_X b L xs s s.heap) (hbl : b < s.heap.size) (hbA : ¬ Z b) {Inv : ql_Inv} (hE : QE_houseNamed Inv) {ad am : Nat → Nat} {I : Nat → Int32} {A : Nat → Nat → Int32} {G : Nat → Int32 × (Nat → Nat → Int32)} {T : Nat} {J : Nat → Int32} {B : Nat → Nat → Int32} {w : Int64} {ao : Nat} {o : Nat → Int64} {H : Heap} {locs : List Loc} {cells slots : Nat} {ls : Array Slot} (hI : Inv I A G T J B w) (V : qw_V D cy Z s (((Wo cy ad I A G T) ++ [qd_L cy ao o]) ++ (Wm cy am J B w)) H locs) {i : Int32} (hin : ∀ j : Nat, j ≤ 5 → vp_in (i + Int32.ofNat j) L) (hl : lv_has ls 7 (ql_base i ao (am 0) (ad 0) b)) (hc : cells + 1 ≤ 601024) (hs : slots + 6 ≤ 7293034) (K : ∀ (ad2 : Nat → Nat) (I : Nat → Int32) (A : Nat → Nat → Int32) (G : Nat → Int32 × (Nat → Nat → Int32)) (T : Nat) (J : Nat → Int32) (B : Nat → Nat → Int32) (w : Int64) (o : Nat → Int64) (H : Heap) (locs : List Loc) (ls : Array Slot), ad2 0 = ad 0 → Inv I A G T J B w → qw_V D cy Z s ((Wo cy ad2 I A G T ++ [qd_L cy ao o]) ++ Wm cy am J B w) H locs → lv_has ls 7 (ql_base i ao (am 0) (ad 0) b) → W p l e room_1 s m #[Value.ref b] below meth c H locs (cells + 1) (slots + 6) Q (F0 m 3735 ls [])) : W p l e room_1 s m #[Value.ref b] below meth c H locs cells slots Q (F0 m 551 ls []) := by
  have hx := S0.1; have hb := S0.2.1
  have hc0 : cells ≤ 601024 := Nat.le_trans (Nat.le_add_right _ _) hc; have hs0 : slots ≤ 7293034 := Nat.le_trans (Nat.le_add_right _ _) hs
  obtain ⟨r9, hX7, rb, J9, hM8, hEq, hI9⟩ := (hE ad I A G T J B w (xs (i + 1).toNatClampNeg) hI)
  have hl : lv_has ls 7 [(4, .int i), (3, .ref ao), (2, .ref (am 0)), (1, .ref (ad 0)), (0, .ref b)] := hl
  refine lv_aload_n hx hb dL_law_551 rfl (lv_at hl 3 rfl) ?_
  refine lv_aload_n hx hb dL_law_552 rfl (lv_at hl 4 rfl) ?_
  refine lv_iload hx hb dL_law_553 (lv_at hl 0 rfl) ?_
  refine lv_iconst (v := 1) hx hb dL_law_555 (by decide) ?_
  refine lv_iadd hx hb dL_law_556 ?_
  refine va_sld hx hb hX hbl hbA V.2.2.2.1 (hin 1 (by decide)) dL_law_557 ?_
  have hcN : cells + 0 ≤ 601024 := hc0
  have hsN : slots + 0 ≤ 7293034 := hs0
  have V := ql_V.assoc V
  refine ql_cVR (rest := []) (st1 := [.int r9]) (wc := (Wo cy ad I A G T)) (wr := [qd_L cy ao o] ++ (Wm cy am J B w)) S0 V hl 0 gO_0 rfl (c_X7_houseNamed l hX7) kg_L_186 rfl ⟨rfl, rfl⟩ kd_X7_houseNamed ⟨(Nat.le_of_ble_eq_true rfl), (Nat.le_of_ble_eq_true rfl)⟩ rfl rfl (Nat.le_of_ble_eq_true rfl) ⟨hcN, hsN⟩ rfl dL_law_558 ?_
  have V := ql_V.cossa V
  refine lv_aload_n hx hb dL_law_561 rfl (lv_at hl 2 rfl) ?_
  refine lv_aload_n hx hb dL_law_562 rfl (lv_at hl 4 rfl) ?_
  refine lv_iload hx hb dL_law_563 (lv_at hl 0 rfl) ?_
  refine lv_iconst (v := 1) hx hb dL_law_565 (by decide) ?_
  refine lv_iadd hx hb dL_law_566 ?_
  refine va_sld hx hb hX hbl hbA V.2.2.2.1 (hin 1 (by decide)) dL_law_567 ?_
  have V := ql_V.swap V
  refine ql_cV (rest := [.int r9]) (st1 := (.int rb :: [.int r9])) (wc := (Wm cy am J B w)) (wr := ((Wo cy ad I A G T) ++ [qd_L cy ao o])) S0 V hl 0 gM_0 rfl (c_X8_houseNamed l hM8) kg_L_189 rfl ⟨rfl, rfl⟩ kd_X8_houseNamed ⟨(Nat.le_of_ble_eq_true rfl), (Nat.le_of_ble_eq_true rfl)⟩ rfl rfl (Nat.le_of_ble_eq_true rfl) ⟨hcN, hsN⟩ rfl dL_law_568 (fun H locs V => ?_)
  have V := ql_V.swap V
  refine lv_icmp_eq (tgt := 3735) hx hb dL_law_571 (by decide) (fun _ => ?_) (fun c9 => absurd hEq c9)
  refine W.widen (k := cells + 1) (n := slots + 6) (Nat.le_add_right _ _) (Nat.le_add_right _ _) ?_
  exact K _ _ _ _ _ _ _ _ _ _ _ _ rfl hI9 V hl
set_option maxHeartbeats 4000000 in
set_option maxRecDepth 100000 in
theorem ql_12 {p : Program} {l : Launch} {e : Env} {s : State} {m : MethodId} {below : List Frame} {meth : Method} {c : Code} {Q : State → Prop} {D : va_G} {cy : Nat → ClassId} {Z : Nat → Prop} {b L : Nat} {xs : Nat → Int32} (hst : l.stackTraces = false) (S0 : CallFix p m c code 7 s #[Value.ref b] qw_big RL) (hX : va_X b L xs s s.heap) (hbl : b < s.heap.size) (hbA : ¬ Z b) {Inv : ql_Inv} (hE : QE_shopNamed Inv) {ad am : Nat → Nat} {I : Nat → Int32} {A : Nat → Nat → Int32} {G : Nat → Int32 × (Nat → Nat → Int32)} {T : Nat} {J : Nat → Int32} {B : Nat → Nat → Int32} {w : Int64} {ao : Nat} {o : Nat → Int64} {H : Heap} {locs : List Loc} {cells slots : Nat} {ls : Array Slot} (hI : Inv I A G T J B w) (V : qw_V D cy Z s (((Wo cy ad I A G T) ++ [qd_L cy ao o]) ++ (Wm cy am J B w)) H locs) {i : Int32} (hin : ∀ j : Nat, j ≤ 5 → vp_in (i + Int32.ofNat j) L) (hl : lv_has ls 7 (ql_base i ao (am 0) (ad 0) b)) (hc : cells + 1 ≤ 601024) (hs : slots + 6 ≤ 7293034) (K : ∀ (ad2 : Nat → Nat) (I : Nat → Int32) (A : Nat → Nat → Int32) (G : Nat → Int32 × (Nat → Nat → Int32)) (T : Nat) (J : Nat → Int32) (B : Nat → Nat → Int32) (w : Int64) (o : Nat → Int64) (H : Heap) (locs : List Loc) (ls : Array Slot), ad2 0 = ad 0 → Inv I A G T J B w → qw_V D cy Z s ((Wo cy ad2 I A G T ++ [qd_L cy ao o]) ++ Wm cy am J B w) H locs → lv_has ls 7 (ql_base i ao (am 0) (ad 0) b) → W p l e room_1 s m #[Value.ref b] below meth c H locs (cells + 1) (slots + 6) Q (F0 m 3735 ls [])) : W p l e room_1 s m #[Value.ref b] below meth c H locs cells slots Q (F0 m 576 ls []) := by
  have hx := S0.1; have hb := S0.2.1
  have hc0 : cells ≤ 601024 := Nat.le_trans (Nat.le_add_right _ _) hc; have hs0 : slots ≤ 7293034 := Nat.le_trans (Nat.le_add_right _ _) hs
  obtain ⟨r9, hX7, rb, J9, hM8, hEq, hI9⟩ := (hE ad I A G T J B w (xs (i + 1).toNatClampNeg) hI)
  have hl : lv_has ls 7 [(4, .int i), (3, .ref ao), (2, .ref (am 0)), (1, .ref (ad 0)), (0, .ref b)] := hl
  refine lv_aload_n hx hb dL_law_576 rfl (lv_at hl 3 rfl) ?_
  refine lv_aload_n hx hb dL_law_577 rfl (lv_at hl 4 rfl) ?_
  refine lv_iload hx hb dL_law_578 (lv_at hl 0 rfl) ?_
  refine lv_iconst (v := 1) hx hb dL_law_580 (by decide) ?_
  refine lv_iadd hx hb dL_law_581 ?_
  refine va_sld hx hb hX hbl hbA V.2.2.2.1 (hin 1 (by decide)) dL_law_582 ?_
  have hcN : cells + 0 ≤ 601024 := hc0
  have hsN : slots + 0 ≤ 7293034 := hs0
  have V := ql_V.assoc V
  refine ql_cVR (rest := []) (st1 := [.int r9]) (wc := (Wo cy ad I A G T)) (wr := [qd_L cy ao o] ++ (Wm cy am J B w)) S0 V hl 0 gO_0 rfl (c_X7_shopNamed l hX7) kg_L_190 rfl ⟨rfl, rfl⟩ kd_X7_shopNamed ⟨(Nat.le_of_ble_eq_true rfl), (Nat.le_of_ble_eq_true rfl)⟩ rfl rfl (Nat.le_of_ble_eq_true rfl) ⟨hcN, hsN⟩ rfl dL_law_583 ?_
  have V := ql_V.cossa V
  refine lv_aload_n hx hb dL_law_586 rfl (lv_at hl 2 rfl) ?_
  refine lv_aload_n hx hb dL_law_587 rfl (lv_at hl 4 rfl) ?_
  refine lv_iload hx hb dL_law_588 (lv_at hl 0 rfl) ?_
  refine lv_iconst (v := 1) hx hb dL_law_590 (by decide) ?_
  refine lv_iadd hx hb dL_law_591 ?_
  refine va_sld hx hb hX hbl hbA V.2.2.2.1 (hin 1 (by decide)) dL_law_592 ?_
  have V := ql_V.swap V
  refine ql_cV (rest := [.int r9]) (st1 := (.int rb :: [.int r9])) (wc := (Wm cy am J B w)) (wr := ((Wo cy ad I A G T) ++ [qd_L cy ao o])) S0 V hl 0 gM_0 rfl (c_X8_shopNamed l hM8) kg_L_193 rfl ⟨rfl, rfl⟩ kd_X8_shopNamed ⟨(Nat.le_of_ble_eq_true rfl), (Nat.le_of_ble_eq_true rfl)⟩ rfl rfl (Nat.le_of_ble_eq_true rfl) ⟨hcN, hsN⟩ rfl dL_law_593 (fun H locs V => ?_)
  have V := ql_V.swap V
  refine lv_icmp_eq (tgt := 3735) hx hb dL_law_596 (by decide) (fun _ => ?_) (fun c9 => absurd hEq c9)
  refine W.widen (k := cells + 1) (n := slots + 6) (Nat.le_add_right _ _) (Nat.le_add_right _ _) ?_
  exact K _ _ _ _ _ _ _ _ _ _ _ _ rfl hI9 V hl
set_option maxHeartbeats 4000000 in
set_option maxRecDepth 100000 in
theorem ql_14 {p : Program} {l : Launch} {e : Env} {s : State} {m : MethodId} {below : List Frame} {meth : Method} {c : Code} {Q : State → Prop} {D : va_G} {cy : Nat → ClassId} {Z : Nat → Prop} {b L : Nat} {xs : Nat → Int32} (hst : l.stackTraces = false) (S0 : CallFix p m c code 7 s #[Value.ref b] qw_big RL) (hX : va_X b L xs s s.heap) (hbl : b < s.heap.size) (hbA : ¬ Z b) {Inv : ql_Inv} (hE : QE_goodProperty Inv) {ad am : Nat → Nat} {I : Nat → Int32} {A : Nat → Nat → Int32} {G : Nat → Int32 × (Nat → Nat → Int32)} {T : Nat} {J : Nat → Int32} {B : Nat → Nat → Int32} {w : Int64} {ao : Nat} {o : Nat → Int64} {H : Heap} {locs : List Loc} {cells slots : Nat} {ls : Array Slot} (hI : Inv I A G T J B w) (V : qw_V D cy Z s (((Wo cy ad I A G T) ++ [qd_L cy ao o]) ++ (Wm cy am J B w)) H locs) {i : Int32} (hin : ∀ j : Nat, j ≤ 5 → vp_in (i + Int32.ofNat j) L) (hl : lv_has ls 7 (ql_base i ao (am 0) (ad 0) b)) (hc : cells + 1 ≤ 601024) (hs : slots + 6 ≤ 7293034) (K : ∀ (ad2 : Nat → Nat) (I : Nat → Int32) (A : Nat → Nat → Int32) (G : Nat → Int32 × (Nat → Nat → Int32)) (T : Nat) (J : Nat → Int32) (B : Nat → Nat → Int32) (w : Int64) (o : Nat → Int64) (H : Heap) (locs : List Loc) (ls : Array Slot), ad2 0 = ad 0 → Inv I A G T J B w → qw_V D cy Z s ((Wo cy ad2 I A G T ++ [qd_L cy ao o]) ++ Wm cy am J B w) H locs → lv_has ls 7 (ql_base i ao (am 0) (ad 0) b) → W p l e room_1 s m #[Value.ref b] below meth c H locs (cells + 1) (slots + 6) Q (F0 m 3735 ls [])) : W p l e room_1 s m #[Value.ref b] below meth c H locs cells slots Q (F0 m 669 ls []) := by
  have hx := S0.1; have hb := S0.2.1
  have hc0 : cells ≤ 601024 := Nat.le_trans (Nat.le_add_right _ _) hc; have hs0 : slots ≤ 7293034 := Nat.le_trans (Nat.le_add_right _ _) hs
  obtain ⟨ro, hX7, rb, J9, hM8, h0, h1⟩ := (hE ad I A G T J B w (xs (i + 1).toNatClampNeg) (xs (i + 2).toNatClampNeg) hI)
  have hl : lv_has ls 7 [(4, .int i), (3, .ref ao), (2, .ref (am 0)), (1, .ref (ad 0)), (0, .ref b)] := hl
  refine lv_aload_n hx hb dL_law_669 rfl (lv_at hl 3 rfl) ?_
  refine lv_aload_n hx hb dL_law_670 rfl (lv_at hl 4 rfl) ?_
  refine lv_iload hx hb dL_law_671 (lv_at hl 0 rfl) ?_
  refine lv_iconst (v := 1) hx hb dL_law_673 (by decide) ?_
  refine lv_iadd hx hb dL_law_674 ?_
  refine va_sld hx hb hX hbl hbA V.2.2.2.1 (hin 1 (by decide)) dL_law_675 ?_
  refine lv_aload_n hx hb dL_law_676 rfl (lv_at hl 4 rfl) ?_
  refine lv_iload hx hb dL_law_677 (lv_at hl 0 rfl) ?_
  refine lv_iconst (v := 2) hx hb dL_law_679 (by decide) ?_
  refine lv_iadd hx hb dL_law_680 ?_
  refine va_sld hx hb hX hbl hbA V.2.2.2.1 (hin 2 (by decide)) dL_law_681 ?_
  refine lv_aload_n hx hb dL_law_682 rfl (lv_at hl 1 rfl) ?_
  refine ql_cW (rest := []) (wc := (Wo cy ad I A G T) ++ [qd_L cy ao o]) (wr := (Wm cy am J B w)) S0 V hl (c_L_goodProperty l hst hX7) kg_L_203 rfl ⟨rfl, rfl⟩ kd_L_goodProperty ⟨(Nat.le_of_ble_eq_true rfl), (Nat.le_of_ble_eq_true rfl)⟩ rfl rfl (Nat.le_of_ble_eq_true rfl) ⟨hc, hs⟩ dL_law_683 (fun H locs hro V => ?_) (fun v9 H locs hro V => ?_)
  · have hcN : cells + 1 + 0 ≤ 601024 := hc
    have hsN : slots + 6 + 0 ≤ 7293034 := hs
    obtain ⟨t1, hI9⟩ := h0 hro
    refine lv_istore (lv' := [(5, .int 1), (4, .int i), (3, .ref ao), (2, .ref (am 0)), (1, .ref (ad 0)), (0, .ref b)]) hx hb dL_law_686 hl (by decide) rfl (fun ls hl => ?_)
    refine lv_aload_n hx hb dL_law_688 rfl (lv_at hl 3 rfl) ?_
    refine lv_aload_n hx hb dL_law_689 rfl (lv_at hl 5 rfl) ?_
    refine lv_iload hx hb dL_law_690 (lv_at hl 1 rfl) ?_
    refine lv_iconst (v := 1) hx hb dL_law_692 (by decide) ?_
    refine lv_iadd hx hb dL_law_693 ?_
    refine va_sld hx hb hX hbl hbA V.2.2.2.1 (hin 1 (by decide)) dL_law_694 ?_
    refine lv_aload_n hx hb dL_law_695 rfl (lv_at hl 5 rfl) ?_
    refine lv_iload hx hb dL_law_696 (lv_at hl 1 rfl) ?_
    refine lv_iconst (v := 2) hx hb dL_law_698 (by decide) ?_
    refine lv_iadd hx hb dL_law_699 ?_
    refine va_sld hx hb hX hbl hbA V.2.2.2.1 (hin 2 (by decide)) dL_law_700 ?_
    have V := ql_V.swap V
    refine ql_cV (rest := []) (st1 := [.int rb]) (wc := (Wm cy am J B w)) (wr := ((Wo cy ad I A G T) ++ [qd_L cy ao o])) S0 V hl 0 gM_0 rfl (c_X8_goodProperty l hM8) kg_L_205 rfl ⟨rfl, rfl⟩ kd_X8_goodProperty ⟨(Nat.le_of_ble_eq_true rfl), (Nat.le_of_ble_eq_true rfl)⟩ rfl rfl (Nat.le_of_ble_eq_true rfl) ⟨hcN, hsN⟩ rfl dL_law_701 (fun H locs V => ?_)
    have V := ql_V.swap V
    refine lv_istore (lv' := [(6, .int rb), (5, .int 1), (4, .int i), (3, .ref ao), (2, .ref (am 0)), (1, .ref (ad 0)), (0, .ref b)]) hx hb dL_law_704 hl (by decide) rfl (fun ls hl => ?_)
    refine lv_aload_n hx hb dL_law_706 rfl (lv_at hl 4 rfl) ?_
    refine ql_cVR (rest := []) (st1 := [.int (J9 1)]) (wc := (Wm cy am J9 B w)) (wr := ((Wo cy ad I A G T) ++ [qd_L cy ao o])) S0 (ql_V.swap V) hl 0 gM_0 rfl (c_X8_thrown l rfl) kg_L_200 rfl ⟨rfl, rfl⟩ kd_X8_thrown ⟨(Nat.le_of_ble_eq_true rfl), (Nat.le_of_ble_eq_true rfl)⟩ rfl rfl (Nat.le_of_ble_eq_true rfl) ⟨hcN, hsN⟩ rfl dL_law_707 ?_
    refine lv_iload hx hb dL_law_710 (lv_at hl 1 rfl) ?_
    refine lv_icmp_eq (tgt := 717) hx hb dL_law_712 (by decide) (fun _ => ?_) (fun c9 => absurd t1 c9)
    refine lv_iload hx hb dL_law_717 (lv_at hl 1 rfl) ?_
    refine lv_if_ne (tgt := 734) hx hb dL_law_719 (by decide) (fun _ => ?_) (fun c9 => absurd c9 (by decide))
    refine lv_goto (tgt := 3735) hx hb dL_law_734 (by decide) ?_
    exact K _ _ _ _ _ _ _ _ _ _ _ _ rfl hI9 V (lv_sub hl [2, 3, 4, 5, 6] rfl)
  · have hcN : cells + 1 + 0 ≤ 601024 := hc
    have hsN : slots + 6 + 0 ≤ 7293034 := hs
    obtain ⟨t1, hOut, hI9⟩ := h1 v9 hro
    have V : qw_V D cy Z s (((Wo cy ad I A G T) ++ [qd_L cy ao (vp_updL o 0 (v9).toInt64)]) ++ (Wm cy am J B w)) H locs := V
    refine lv_istore (lv' := [(5, .int 0), (4, .int i), (3, .ref ao), (2, .ref (am 0)), (1, .ref (ad 0)), (0, .ref b)]) hx hb dL_law_686 hl (by decide) rfl (fun ls hl => ?_)
    refine lv_aload_n hx hb dL_law_688 rfl (lv_at hl 3 rfl) ?_
    refine lv_aload_n hx hb dL_law_689 rfl (lv_at hl 5 rfl) ?_
    refine lv_iload hx hb dL_law_690 (lv_at hl 1 rfl) ?_
    refine lv_iconst (v := 1) hx hb dL_law_692 (by decide) ?_
    refine lv_iadd hx hb dL_law_693 ?_
    refine va_sld hx hb hX hbl hbA V.2.2.2.1 (hin 1 (by decide)) dL_law_694 ?_
    refine lv_aload_n hx hb dL_law_695 rfl (lv_at hl 5 rfl) ?_
    refine lv_iload hx hb dL_law_696 (lv_at hl 1 rfl) ?_
    refine lv_iconst (v := 2) hx hb dL_law_698 (by decide) ?_
    refine lv_iadd hx hb dL_law_699 ?_
    refine va_sld hx hb hX hbl hbA V.2.2.2.1 (hin 2 (by decide)) dL_law_700 ?_
    have V := ql_V.swap V
    refine ql_cV (rest := []) (st1 := [.int rb]) (wc := (Wm cy am J B w)) (wr := ((Wo cy ad I A G T) ++ [qd_L cy ao (vp_updL o 0 (v9).toInt64)])) S0 V hl 0 gM_0 rfl (c_X8_goodProperty l hM8) kg_L_205 rfl ⟨rfl, rfl⟩ kd_X8_goodProperty ⟨(Nat.le_of_ble_eq_true rfl), (Nat.le_of_ble_eq_true rfl)⟩ rfl rfl (Nat.le_of_ble_eq_true rfl) ⟨hcN, hsN⟩ rfl dL_law_701 (fun H locs V => ?_)
    have V := ql_V.swap V
    refine lv_istore (lv' := [(6, .int rb), (5, .int 0), (4, .int i), (3, .ref ao), (2, .ref (am 0)), (1, .ref (ad 0)), (0, .ref b)]) hx hb dL_law_704 hl (by decide) rfl (fun ls hl => ?_)
    refine lv_aload_n hx hb dL_law_706 rfl (lv_at hl 4 rfl) ?_
    refine ql_cVR (rest := []) (st1 := [.int (J9 1)]) (wc := (Wm cy am J9 B w)) (wr := ((Wo cy ad I A G T) ++ [qd_L cy ao (vp_updL o 0 (v9).toInt64)])) S0 (ql_V.swap V) hl 0 gM_0 rfl (c_X8_thrown l rfl) kg_L_200 rfl ⟨rfl, rfl⟩ kd_X8_thrown ⟨(Nat.le_of_ble_eq_true rfl), (Nat.le_of_ble_eq_true rfl)⟩ rfl rfl (Nat.le_of_ble_eq_true rfl) ⟨hcN, hsN⟩ rfl dL_law_707 ?_
    refine lv_iload hx hb dL_law_710 (lv_at hl 1 rfl) ?_
    refine lv_icmp_eq (tgt := 717) hx hb dL_law_712 (by decide) (fun _ => ?_) (fun c9 => absurd t1 c9)
    refine lv_iload hx hb dL_law_717 (lv_at hl 1 rfl) ?_
    refine lv_if_ne (tgt := 734) hx hb dL_law_719 (by decide) (fun c9 => absurd rfl c9) (fun _ => ?_)
    refine lv_aload_n hx hb dL_law_722 rfl (lv_at hl 3 rfl) ?_
    refine lv_iconst (v := 0) hx hb dL_law_723 (by decide) ?_
    refine ql_lald S0 V rfl dL_law_724 ?_
    refine lv_iload hx hb dL_law_725 (lv_at hl 0 rfl) ?_
    refine lv_i2l hx hb dL_law_727 rfl ?_
    refine W.lcmp hx hb dL_law_728 ?_
    refine lv_if_eq (tgt := 734) hx hb dL_law_729 (by decide) (fun _ => ?_) (fun c9 => absurd (by show lg_cmp (v9).toInt64 (rb.toInt64) = 0; rw [hOut]; exact ql_cmp _) c9)
    refine lv_goto (tgt := 3735) hx hb dL_law_734 (by decide) ?_
    exact K _ _ _ _ _ _ _ _ _ _ _ _ rfl hI9 V (lv_sub hl [2, 3, 4, 5, 6] rfl)
set_option maxHeartbeats 4000000 in
set_option maxRecDepth 100000 in
theorem ql_15 {p : Program} {l : Launch} {e : Env} {s : State} {m : MethodId} {below : List Frame} {meth : Method} {c : Code} {Q : State → Prop} {D : va_G} {cy : Nat → ClassId} {Z : Nat → Prop} {b L : Nat} {xs : Nat → Int32} (hst : l.stackTraces = false) (S0 : CallFix p m c code 7 s #[Value.ref b] qw_big RL) (hX : va_X b L xs s s.heap) (hbl : b < s.heap.size) (hbA : ¬ Z b) {Inv : ql_Inv} (hE : QE_sizeOf Inv) {ad am : Nat → Nat} {I : Nat → Int32} {A : Nat → Nat → Int32} {G : Nat → Int32 × (Nat → Nat → Int32)} {T : Nat} {J : Nat → Int32} {B : Nat → Nat → Int32} {w : Int64} {ao : Nat} {o : Nat → Int64} {H : Heap} {locs : List Loc} {cells slots : Nat} {ls : Array Slot} (hI : Inv I A G T J B w) (V : qw_V D cy Z s (((Wo cy ad I A G T) ++ [qd_L cy ao o]) ++ (Wm cy am J B w)) H locs) {i : Int32} (hin : ∀ j : Nat, j ≤ 5 → vp_in (i + Int32.ofNat j) L) (hl : lv_has ls 7 (ql_base i ao (am 0) (ad 0) b)) (hc : cells + 1 ≤ 601024) (hs : slots + 6 ≤ 7293034) (K : ∀ (ad2 : Nat → Nat) (I : Nat → Int32) (A : Nat → Nat → Int32) (G : Nat → Int32 × (Nat → Nat → Int32)) (T : Nat) (J : Nat → Int32) (B : Nat → Nat → Int32) (w : Int64) (o : Nat → Int64) (H : Heap) (locs : List Loc) (ls : Array Slot), ad2 0 = ad 0 → Inv I A G T J B w → qw_V D cy Z s ((Wo cy ad2 I A G T ++ [qd_L cy ao o]) ++ Wm cy am J B w) H locs → lv_has ls 7 (ql_base i ao (am 0) (ad 0) b) → W p l e room_1 s m #[Value.ref b] below meth c H locs (cells + 1) (slots + 6) Q (F0 m 3735 ls [])) : W p l e room_1 s m #[Value.ref b] below meth c H locs cells slots Q (F0 m 737 ls []) := by
  have hx := S0.1; have hb := S0.2.1
  have hc0 : cells ≤ 601024 := Nat.le_trans (Nat.le_add_right _ _) hc; have hs0 : slots ≤ 7293034 := Nat.le_trans (Nat.le_add_right _ _) hs
  obtain ⟨ro, hX7, rb, J9, hM8, h0, h1⟩ := (hE ad I A G T J B w (xs (i + 1).toNatClampNeg) hI)
  have hl : lv_has ls 7 [(4, .int i), (3, .ref ao), (2, .ref (am 0)), (1, .ref (ad 0)), (0, .ref b)] := hl
  refine lv_aload_n hx hb dL_law_737 rfl (lv_at hl 3 rfl) ?_
  refine lv_aload_n hx hb dL_law_738 rfl (lv_at hl 4 rfl) ?_
  refine lv_iload hx hb dL_law_739 (lv_at hl 0 rfl) ?_
  refine lv_iconst (v := 1) hx hb dL_law_741 (by decide) ?_
  refine lv_iadd hx hb dL_law_742 ?_
  refine va_sld hx hb hX hbl hbA V.2.2.2.1 (hin 1 (by decide)) dL_law_743 ?_
  refine lv_aload_n hx hb dL_law_744 rfl (lv_at hl 1 rfl) ?_
  refine ql_cW (rest := []) (wc := (Wo cy ad I A G T) ++ [qd_L cy ao o]) (wr := (Wm cy am J B w)) S0 V hl (c_L_sizeOf l hst hX7) kg_L_206 rfl ⟨rfl, rfl⟩ kd_L_sizeOf ⟨(Nat.le_of_ble_eq_true rfl), (Nat.le_of_ble_eq_true rfl)⟩ rfl rfl (Nat.le_of_ble_eq_true rfl) ⟨hc, hs⟩ dL_law_745 (fun H locs hro V => ?_) (fun v9 H locs hro V => ?_)
  · have hcN : cells + 1 + 0 ≤ 601024 := hc
    have hsN : slots + 6 + 0 ≤ 7293034 := hs
    obtain ⟨t1, hI9⟩ := h0 hro
    refine lv_istore (lv' := [(5, .int 1), (4, .int i), (3, .ref ao), (2, .ref (am 0)), (1, .ref (ad 0)), (0, .ref b)]) hx hb dL_law_748 hl (by decide) rfl (fun ls hl => ?_)
    refine lv_aload_n hx hb dL_law_750 rfl (lv_at hl 3 rfl) ?_
    refine lv_aload_n hx hb dL_law_751 rfl (lv_at hl 5 rfl) ?_
    refine lv_iload hx hb dL_law_752 (lv_at hl 1 rfl) ?_
    refine lv_iconst (v := 1) hx hb dL_law_754 (by decide) ?_
    refine lv_iadd hx hb dL_law_755 ?_
    refine va_sld hx hb hX hbl hbA V.2.2.2.1 (hin 1 (by decide)) dL_law_756 ?_
    have V := ql_V.swap V
    refine ql_cV (rest := []) (st1 := [.int rb]) (wc := (Wm cy am J B w)) (wr := ((Wo cy ad I A G T) ++ [qd_L cy ao o])) S0 V hl 0 gM_0 rfl (c_X8_sizeOf l hM8) kg_L_209 rfl ⟨rfl, rfl⟩ kd_X8_sizeOf ⟨(Nat.le_of_ble_eq_true rfl), (Nat.le_of_ble_eq_true rfl)⟩ rfl rfl (Nat.le_of_ble_eq_true rfl) ⟨hcN, hsN⟩ rfl dL_law_757 (fun H locs V => ?_)
    have V := ql_V.swap V
    refine lv_istore (lv' := [(6, .int rb), (5, .int 1), (4, .int i), (3, .ref ao), (2, .ref (am 0)), (1, .ref (ad 0)), (0, .ref b)]) hx hb dL_law_760 hl (by decide) rfl (fun ls hl => ?_)
    refine lv_aload_n hx hb dL_law_762 rfl (lv_at hl 4 rfl) ?_
    refine ql_cVR (rest := []) (st1 := [.int (J9 1)]) (wc := (Wm cy am J9 B w)) (wr := ((Wo cy ad I A G T) ++ [qd_L cy ao o])) S0 (ql_V.swap V) hl 0 gM_0 rfl (c_X8_thrown l rfl) kg_L_200 rfl ⟨rfl, rfl⟩ kd_X8_thrown ⟨(Nat.le_of_ble_eq_true rfl), (Nat.le_of_ble_eq_true rfl)⟩ rfl rfl (Nat.le_of_ble_eq_true rfl) ⟨hcN, hsN⟩ rfl dL_law_763 ?_
    refine lv_iload hx hb dL_law_766 (lv_at hl 1 rfl) ?_
    refine lv_icmp_eq (tgt := 773) hx hb dL_law_768 (by decide) (fun _ => ?_) (fun c9 => absurd t1 c9)
    refine lv_iload hx hb dL_law_773 (lv_at hl 1 rfl) ?_
    refine lv_if_ne (tgt := 790) hx hb dL_law_775 (by decide) (fun _ => ?_) (fun c9 => absurd c9 (by decide))
    refine lv_goto (tgt := 3735) hx hb dL_law_790 (by decide) ?_
    exact K _ _ _ _ _ _ _ _ _ _ _ _ rfl hI9 V (lv_sub hl [2, 3, 4, 5, 6] rfl)
  · have hcN : cells + 1 + 0 ≤ 601024 := hc
    have hsN : slots + 6 + 0 ≤ 7293034 := hs
    obtain ⟨t1, hOut, hI9⟩ := h1 v9 hro
    have V : qw_V D cy Z s (((Wo cy ad I A G T) ++ [qd_L cy ao (vp_updL o 0 (v9).toInt64)]) ++ (Wm cy am J B w)) H locs := V
    refine lv_istore (lv' := [(5, .int 0), (4, .int i), (3, .ref ao), (2, .ref (am 0)), (1, .ref (ad 0)), (0, .ref b)]) hx hb dL_law_748 hl (by decide) rfl (fun ls hl => ?_)
    refine lv_aload_n hx hb dL_law_750 rfl (lv_at hl 3 rfl) ?_
    refine lv_aload_n hx hb dL_law_751 rfl (lv_at hl 5 rfl) ?_
    refine lv_iload hx hb dL_law_752 (lv_at hl 1 rfl) ?_
    refine lv_iconst (v := 1) hx hb dL_law_754 (by decide) ?_
    refine lv_iadd hx hb dL_law_755 ?_
    refine va_sld hx hb hX hbl hbA V.2.2.2.1 (hin 1 (by decide)) dL_law_756 ?_
    have V := ql_V.swap V
    refine ql_cV (rest := []) (st1 := [.int rb]) (wc := (Wm cy am J B w)) (wr := ((Wo cy ad I A G T) ++ [qd_L cy ao (vp_updL o 0 (v9).toInt64)])) S0 V hl 0 gM_0 rfl (c_X8_sizeOf l hM8) kg_L_209 rfl ⟨rfl, rfl⟩ kd_X8_sizeOf ⟨(Nat.le_of_ble_eq_true rfl), (Nat.le_of_ble_eq_true rfl)⟩ rfl rfl (Nat.le_of_ble_eq_true rfl) ⟨hcN, hsN⟩ rfl dL_law_757 (fun H locs V => ?_)
    have V := ql_V.swap V
    refine lv_istore (lv' := [(6, .int rb), (5, .int 0), (4, .int i), (3, .ref ao), (2, .ref (am 0)), (1, .ref (ad 0)), (0, .ref b)]) hx hb dL_law_760 hl (by decide) rfl (fun ls hl => ?_)
    refine lv_aload_n hx hb dL_law_762 rfl (lv_at hl 4 rfl) ?_
    refine ql_cVR (rest := []) (st1 := [.int (J9 1)]) (wc := (Wm cy am J9 B w)) (wr := ((Wo cy ad I A G T) ++ [qd_L cy ao (vp_updL o 0 (v9).toInt64)])) S0 (ql_V.swap V) hl 0 gM_0 rfl (c_X8_thrown l rfl) kg_L_200 rfl ⟨rfl, rfl⟩ kd_X8_thrown ⟨(Nat.le_of_ble_eq_true rfl), (Nat.le_of_ble_eq_true rfl)⟩ rfl rfl (Nat.le_of_ble_eq_true rfl) ⟨hcN, hsN⟩ rfl dL_law_763 ?_
    refine lv_iload hx hb dL_law_766 (lv_at hl 1 rfl) ?_
    refine lv_icmp_eq (tgt := 773) hx hb dL_law_768 (by decide) (fun _ => ?_) (fun c9 => absurd t1 c9)
    refine lv_iload hx hb dL_law_773 (lv_at hl 1 rfl) ?_
    refine lv_if_ne (tgt := 790) hx hb dL_law_775 (by decide) (fun c9 => absurd rfl c9) (fun _ => ?_)
    refine lv_aload_n hx hb dL_law_778 rfl (lv_at hl 3 rfl) ?_
    refine lv_iconst (v := 0) hx hb dL_law_779 (by decide) ?_
    refine ql_lald S0 V rfl dL_law_780 ?_
    refine lv_iload hx hb dL_law_781 (lv_at hl 0 rfl) ?_
    refine lv_i2l hx hb dL_law_783 rfl ?_
    refine W.lcmp hx hb dL_law_784 ?_
    refine lv_if_eq (tgt := 790) hx hb dL_law_785 (by decide) (fun _ => ?_) (fun c9 => absurd (by show lg_cmp (v9).toInt64 (rb.toInt64) = 0; rw [hOut]; exact ql_cmp _) c9)
    refine lv_goto (tgt := 3735) hx hb dL_law_790 (by decide) ?_
    exact K _ _ _ _ _ _ _ _ _ _ _ _ rfl hI9 V (lv_sub hl [2, 3, 4, 5, 6] rfl)
set_option maxHeartbeats 4000000 in
set_option maxRecDepth 100000 in
theorem ql_16 {p : Program} {l : Launch} {e : Env} {s : State} {m : MethodId} {below : List Frame} {meth : Method} {c : Code} {Q : State → Prop} {D : va_G} {cy : Nat → ClassId} {Z : Nat → Prop} {b L : Nat} {xs : Nat → Int32} (hst : l.stackTraces = false) (S0 : CallFix p m c code 7 s #[Value.ref b] qw_big RL) (hX : va_X b L xs s s.heap) (hbl : b < s.heap.size) (hbA : ¬ Z b) {Inv : ql_Inv} (hE : QE_getSetting Inv) {ad am : Nat → Nat} {I : Nat → Int32} {A : Nat → Nat → Int32} {G : Nat → Int32 × (Nat → Nat → Int32)} {T : Nat} {J : Nat → Int32} {B : Nat → Nat → Int32} {w : Int64} {ao : Nat} {o : Nat → Int64} {H : Heap} {locs : List Loc} {cells slots : Nat} {ls : Array Slot} (hI : Inv I A G T J B w) (V : qw_V D cy Z s (((Wo cy ad I A G T) ++ [qd_L cy ao o]) ++ (Wm cy am J B w)) H locs) {i : Int32} (hin : ∀ j : Nat, j ≤ 5 → vp_in (i + Int32.ofNat j) L) (hl : lv_has ls 7 (ql_base i ao (am 0) (ad 0) b)) (hc : cells + 1 ≤ 601024) (hs : slots + 6 ≤ 7293034) (K : ∀ (ad2 : Nat → Nat) (I : Nat → Int32) (A : Nat → Nat → Int32) (G : Nat → Int32 × (Nat → Nat → Int32)) (T : Nat) (J : Nat → Int32) (B : Nat → Nat → Int32) (w : Int64) (o : Nat → Int64) (H : Heap) (locs : List Loc) (ls : Array Slot), ad2 0 = ad 0 → Inv I A G T J B w → qw_V D cy Z s ((Wo cy ad2 I A G T ++ [qd_L cy ao o]) ++ Wm cy am J B w) H locs → lv_has ls 7 (ql_base i ao (am 0) (ad 0) b) → W p l e room_1 s m #[Value.ref b] below meth c H locs (cells + 1) (slots + 6) Q (F0 m 3735 ls [])) : W p l e room_1 s m #[Value.ref b] below meth c H locs cells slots Q (F0 m 793 ls []) := by
  have hx := S0.1; have hb := S0.2.1
  have hc0 : cells ≤ 601024 := Nat.le_trans (Nat.le_add_right _ _) hc; have hs0 : slots ≤ 7293034 := Nat.le_trans (Nat.le_add_right _ _) hs
  obtain ⟨r9, hX7, rb, J9, hM8, hEq, hI9⟩ := (hE ad I A G T J B w (xs (i + 1).toNatClampNeg) hI)
  have hl : lv_has ls 7 [(4, .int i), (3, .ref ao), (2, .ref (am 0)), (1, .ref (ad 0)), (0, .ref b)] := hl
  refine lv_aload_n hx hb dL_law_793 rfl (lv_at hl 3 rfl) ?_
  refine lv_aload_n hx hb dL_law_794 rfl (lv_at hl 4 rfl) ?_
  refine lv_iload hx hb dL_law_795 (lv_at hl 0 rfl) ?_
  refine lv_iconst (v := 1) hx hb dL_law_797 (by decide) ?_
  refine lv_iadd hx hb dL_law_798 ?_
  refine va_sld hx hb hX hbl hbA V.2.2.2.1 (hin 1 (by decide)) dL_law_799 ?_
  have hcN : cells + 0 ≤ 601024 := hc0
  have hsN : slots + 0 ≤ 7293034 := hs0
  have V := ql_V.assoc V
  refine ql_cVR (rest := []) (st1 := [.int r9]) (wc := (Wo cy ad I A G T)) (wr := [qd_L cy ao o] ++ (Wm cy am J B w)) S0 V hl 0 gO_0 rfl (c_X7_getSetting l hX7) kg_L_210 rfl ⟨rfl, rfl⟩ kd_X7_getSetting ⟨(Nat.le_of_ble_eq_true rfl), (Nat.le_of_ble_eq_true rfl)⟩ rfl rfl (Nat.le_of_ble_eq_true rfl) ⟨hcN, hsN⟩ rfl dL_law_800 ?_
  have V := ql_V.cossa V
  refine lv_aload_n hx hb dL_law_803 rfl (lv_at hl 2 rfl) ?_
  refine lv_aload_n hx hb dL_law_804 rfl (lv_at hl 4 rfl) ?_
  refine lv_iload hx hb dL_law_805 (lv_at hl 0 rfl) ?_
  refine lv_iconst (v := 1) hx hb dL_law_807 (by decide) ?_
  refine lv_iadd hx hb dL_law_808 ?_
  refine va_sld hx hb hX hbl hbA V.2.2.2.1 (hin 1 (by decide)) dL_law_809 ?_
  have V := ql_V.swap V
  refine ql_cV (rest := [.int r9]) (st1 := (.int rb :: [.int r9])) (wc := (Wm cy am J B w)) (wr := ((Wo cy ad I A G T) ++ [qd_L cy ao o])) S0 V hl 0 gM_0 rfl (c_X8_getSetting l hM8) kg_L_213 rfl ⟨rfl, rfl⟩ kd_X8_getSetting ⟨(Nat.le_of_ble_eq_true rfl), (Nat.le_of_ble_eq_true rfl)⟩ rfl rfl (Nat.le_of_ble_eq_true rfl) ⟨hcN, hsN⟩ rfl dL_law_810 (fun H locs V => ?_)
  have V := ql_V.swap V
  refine lv_icmp_eq (tgt := 3735) hx hb dL_law_813 (by decide) (fun _ => ?_) (fun c9 => absurd hEq c9)
  refine W.widen (k := cells + 1) (n := slots + 6) (Nat.le_add_right _ _) (Nat.le_add_right _ _) ?_
  exact K _ _ _ _ _ _ _ _ _ _ _ _ rfl hI9 V hl
set_option maxHeartbeats 4000000 in
set_option maxRecDepth 100000 in
theorem ql_17 {p : Program} {l : Launch} {e : Env} {s : State} {m : MethodId} {below : List Frame} {meth : Method} {c : Code} {Q : State → Prop} {D : va_G} {cy : Nat → ClassId} {Z : Nat → Prop} {b L : Nat} {xs : Nat → Int32} (hst : l.stackTraces = false) (S0 : CallFix p m c code 7 s #[Value.ref b] qw_big RL) (hX : va_X b L xs s s.heap) (hbl : b < s.heap.size) (hbA : ¬ Z b) {Inv : ql_Inv} (hE : QE_coupons Inv) {ad am : Nat → Nat} {I : Nat → Int32} {A : Nat → Nat → Int32} {G : Nat → Int32 × (Nat → Nat → Int32)} {T : Nat} {J : Nat → Int32} {B : Nat → Nat → Int32} {w : Int64} {ao : Nat} {o : Nat → Int64} {H : Heap} {locs : List Loc} {cells slots : Nat} {ls : Array Slot} (hI : Inv I A G T J B w) (V : qw_V D cy Z s (((Wo cy ad I A G T) ++ [qd_L cy ao o]) ++ (Wm cy am J B w)) H locs) {i : Int32} (hin : ∀ j : Nat, j ≤ 5 → vp_in (i + Int32.ofNat j) L) (hl : lv_has ls 7 (ql_base i ao (am 0) (ad 0) b)) (hc : cells + 1 ≤ 601024) (hs : slots + 6 ≤ 7293034) (K : ∀ (ad2 : Nat → Nat) (I : Nat → Int32) (A : Nat → Nat → Int32) (G : Nat → Int32 × (Nat → Nat → Int32)) (T : Nat) (J : Nat → Int32) (B : Nat → Nat → Int32) (w : Int64) (o : Nat → Int64) (H : Heap) (locs : List Loc) (ls : Array Slot), ad2 0 = ad 0 → Inv I A G T J B w → qw_V D cy Z s ((Wo cy ad2 I A G T ++ [qd_L cy ao o]) ++ Wm cy am J B w) H locs → lv_has ls 7 (ql_base i ao (am 0) (ad 0) b) → W p l e room_1 s m #[Value.ref b] below meth c H locs (cells + 1) (slots + 6) Q (F0 m 3735 ls [])) : W p l e room_1 s m #[Value.ref b] below meth c H locs cells slots Q (F0 m 818 ls []) := by
  have hx := S0.1; have hb := S0.2.1
  have hc0 : cells ≤ 601024 := Nat.le_trans (Nat.le_add_right _ _) hc; have hs0 : slots ≤ 7293034 := Nat.le_trans (Nat.le_add_right _ _) hs
  obtain ⟨ro, hX7, rb, J9, hM8, h0, h1⟩ := (hE ad I A G T J B w (xs (i + 1).toNatClampNeg) (xs (i + 2).toNatClampNeg) hI)
  have hl : lv_has ls 7 [(4, .int i), (3, .ref ao), (2, .ref (am 0)), (1, .ref (ad 0)), (0, .ref b)] := hl
  refine lv_aload_n hx hb dL_law_818 rfl (lv_at hl 3 rfl) ?_
  refine lv_aload_n hx hb dL_law_819 rfl (lv_at hl 4 rfl) ?_
  refine lv_iload hx hb dL_law_820 (lv_at hl 0 rfl) ?_
  refine lv_iconst (v := 1) hx hb dL_law_822 (by decide) ?_
  refine lv_iadd hx hb dL_law_823 ?_
  refine va_sld hx hb hX hbl hbA V.2.2.2.1 (hin 1 (by decide)) dL_law_824 ?_
  refine lv_aload_n hx hb dL_law_825 rfl (lv_at hl 4 rfl) ?_
  refine lv_iload hx hb dL_law_826 (lv_at hl 0 rfl) ?_
  refine lv_iconst (v := 2) hx hb dL_law_828 (by decide) ?_
  refine lv_iadd hx hb dL_law_829 ?_
  refine va_sld hx hb hX hbl hbA V.2.2.2.1 (hin 2 (by decide)) dL_law_830 ?_
  refine lv_aload_n hx hb dL_law_831 rfl (lv_at hl 1 rfl) ?_
  refine ql_cW (rest := []) (wc := (Wo cy ad I A G T) ++ [qd_L cy ao o]) (wr := (Wm cy am J B w)) S0 V hl (c_L_coupons l hst hX7) kg_L_214 rfl ⟨rfl, rfl⟩ kd_L_coupons ⟨(Nat.le_of_ble_eq_true rfl), (Nat.le_of_ble_eq_true rfl)⟩ rfl rfl (Nat.le_of_ble_eq_true rfl) ⟨hc, hs⟩ dL_law_832 (fun H locs hro V => ?_) (fun v9 H locs hro V => ?_)
  · have hcN : cells + 1 + 0 ≤ 601024 := hc
    have hsN : slots + 6 + 0 ≤ 7293034 := hs
    obtain ⟨t1, hI9⟩ := h0 hro
    refine lv_istore (lv' := [(5, .int 1), (4, .int i), (3, .ref ao), (2, .ref (am 0)), (1, .ref (ad 0)), (0, .ref b)]) hx hb dL_law_835 hl (by decide) rfl (fun ls hl => ?_)
    refine lv_aload_n hx hb dL_law_837 rfl (lv_at hl 3 rfl) ?_
    refine lv_aload_n hx hb dL_law_838 rfl (lv_at hl 5 rfl) ?_
    refine lv_iload hx hb dL_law_839 (lv_at hl 1 rfl) ?_
    refine lv_iconst (v := 1) hx hb dL_law_841 (by decide) ?_
    refine lv_iadd hx hb dL_law_842 ?_
    refine va_sld hx hb hX hbl hbA V.2.2.2.1 (hin 1 (by decide)) dL_law_843 ?_
    refine lv_aload_n hx hb dL_law_844 rfl (lv_at hl 5 rfl) ?_
    refine lv_iload hx hb dL_law_845 (lv_at hl 1 rfl) ?_
    refine lv_iconst (v := 2) hx hb dL_law_847 (by decide) ?_
    refine lv_iadd hx hb dL_law_848 ?_
    refine va_sld hx hb hX hbl hbA V.2.2.2.1 (hin 2 (by decide)) dL_law_849 ?_
    have V := ql_V.swap V
    refine ql_cV (rest := []) (st1 := [.int rb]) (wc := (Wm cy am J B w)) (wr := ((Wo cy ad I A G T) ++ [qd_L cy ao o])) S0 V hl 0 gM_0 rfl (c_X8_coupons l hM8) kg_L_216 rfl ⟨rfl, rfl⟩ kd_X8_coupons ⟨(Nat.le_of_ble_eq_true rfl), (Nat.le_of_ble_eq_true rfl)⟩ rfl rfl (Nat.le_of_ble_eq_true rfl) ⟨hcN, hsN⟩ rfl dL_law_850 (fun H locs V => ?_)
    have V := ql_V.swap V
    refine lv_istore (lv' := [(6, .int rb), (5, .int 1), (4, .int i), (3, .ref ao), (2, .ref (am 0)), (1, .ref (ad 0)), (0, .ref b)]) hx hb dL_law_853 hl (by decide) rfl (fun ls hl => ?_)
    refine lv_aload_n hx hb dL_law_855 rfl (lv_at hl 4 rfl) ?_
    refine ql_cVR (rest := []) (st1 := [.int (J9 1)]) (wc := (Wm cy am J9 B w)) (wr := ((Wo cy ad I A G T) ++ [qd_L cy ao o])) S0 (ql_V.swap V) hl 0 gM_0 rfl (c_X8_thrown l rfl) kg_L_200 rfl ⟨rfl, rfl⟩ kd_X8_thrown ⟨(Nat.le_of_ble_eq_true rfl), (Nat.le_of_ble_eq_true rfl)⟩ rfl rfl (Nat.le_of_ble_eq_true rfl) ⟨hcN, hsN⟩ rfl dL_law_856 ?_
    refine lv_iload hx hb dL_law_859 (lv_at hl 1 rfl) ?_
    refine lv_icmp_eq (tgt := 866) hx hb dL_law_861 (by decide) (fun _ => ?_) (fun c9 => absurd t1 c9)
    refine lv_iload hx hb dL_law_866 (lv_at hl 1 rfl) ?_
    refine lv_if_ne (tgt := 883) hx hb dL_law_868 (by decide) (fun _ => ?_) (fun c9 => absurd c9 (by decide))
    refine lv_goto (tgt := 3735) hx hb dL_law_883 (by decide) ?_
    exact K _ _ _ _ _ _ _ _ _ _ _ _ rfl hI9 V (lv_sub hl [2, 3, 4, 5, 6] rfl)
  · have hcN : cells + 1 + 0 ≤ 601024 := hc
    have hsN : slots + 6 + 0 ≤ 7293034 := hs
    obtain ⟨t1, hOut, hI9⟩ := h1 v9 hro
    have V : qw_V D cy Z s (((Wo cy ad I A G T) ++ [qd_L cy ao (vp_updL o 0 (v9).toInt64)]) ++ (Wm cy am J B w)) H locs := V
    refine lv_istore (lv' := [(5, .int 0), (4, .int i), (3, .ref ao), (2, .ref (am 0)), (1, .ref (ad 0)), (0, .ref b)]) hx hb dL_law_835 hl (by decide) rfl (fun ls hl => ?_)
    refine lv_aload_n hx hb dL_law_837 rfl (lv_at hl 3 rfl) ?_
    refine lv_aload_n hx hb dL_law_838 rfl (lv_at hl 5 rfl) ?_
    refine lv_iload hx hb dL_law_839 (lv_at hl 1 rfl) ?_
    refine lv_iconst (v := 1) hx hb dL_law_841 (by decide) ?_
    refine lv_iadd hx hb dL_law_842 ?_
    refine va_sld hx hb hX hbl hbA V.2.2.2.1 (hin 1 (by decide)) dL_law_843 ?_
    refine lv_aload_n hx hb dL_law_844 rfl (lv_at hl 5 rfl) ?_
    refine lv_iload hx hb dL_law_845 (lv_at hl 1 rfl) ?_
    refine lv_iconst (v := 2) hx hb dL_law_847 (by decide) ?_
    refine lv_iadd hx hb dL_law_848 ?_
    refine va_sld hx hb hX hbl hbA V.2.2.2.1 (hin 2 (by decide)) dL_law_849 ?_
    have V := ql_V.swap V
    refine ql_cV (rest := []) (st1 := [.int rb]) (wc := (Wm cy am J B w)) (wr := ((Wo cy ad I A G T) ++ [qd_L cy ao (vp_updL o 0 (v9).toInt64)])) S0 V hl 0 gM_0 rfl (c_X8_coupons l hM8) kg_L_216 rfl ⟨rfl, rfl⟩ kd_X8_coupons ⟨(Nat.le_of_ble_eq_true rfl), (Nat.le_of_ble_eq_true rfl)⟩ rfl rfl (Nat.le_of_ble_eq_true rfl) ⟨hcN, hsN⟩ rfl dL_law_850 (fun H locs V => ?_)
    have V := ql_V.swap V
    refine lv_istore (lv' := [(6, .int rb), (5, .int 0), (4, .int i), (3, .ref ao), (2, .ref (am 0)), (1, .ref (ad 0)), (0, .ref b)]) hx hb dL_law_853 hl (by decide) rfl (fun ls hl => ?_)
    refine lv_aload_n hx hb dL_law_855 rfl (lv_at hl 4 rfl) ?_
    refine ql_cVR (rest := []) (st1 := [.int (J9 1)]) (wc := (Wm cy am J9 B w)) (wr := ((Wo cy ad I A G T) ++ [qd_L cy ao (vp_updL o 0 (v9).toInt64)])) S0 (ql_V.swap V) hl 0 gM_0 rfl (c_X8_thrown l rfl) kg_L_200 rfl ⟨rfl, rfl⟩ kd_X8_thrown ⟨(Nat.le_of_ble_eq_true rfl), (Nat.le_of_ble_eq_true rfl)⟩ rfl rfl (Nat.le_of_ble_eq_true rfl) ⟨hcN, hsN⟩ rfl dL_law_856 ?_
    refine lv_iload hx hb dL_law_859 (lv_at hl 1 rfl) ?_
    refine lv_icmp_eq (tgt := 866) hx hb dL_law_861 (by decide) (fun _ => ?_) (fun c9 => absurd t1 c9)
    refine lv_iload hx hb dL_law_866 (lv_at hl 1 rfl) ?_
    refine lv_if_ne (tgt := 883) hx hb dL_law_868 (by decide) (fun c9 => absurd rfl c9) (fun _ => ?_)
    refine lv_aload_n hx hb dL_law_871 rfl (lv_at hl 3 rfl) ?_
    refine lv_iconst (v := 0) hx hb dL_law_872 (by decide) ?_
    refine ql_lald S0 V rfl dL_law_873 ?_
    refine lv_iload hx hb dL_law_874 (lv_at hl 0 rfl) ?_
    refine lv_i2l hx hb dL_law_876 rfl ?_
    refine W.lcmp hx hb dL_law_877 ?_
    refine lv_if_eq (tgt := 883) hx hb dL_law_878 (by decide) (fun _ => ?_) (fun c9 => absurd (by show lg_cmp (v9).toInt64 (rb.toInt64) = 0; rw [hOut]; exact ql_cmp _) c9)
    refine lv_goto (tgt := 3735) hx hb dL_law_883 (by decide) ?_
    exact K _ _ _ _ _ _ _ _ _ _ _ _ rfl hI9 V (lv_sub hl [2, 3, 4, 5, 6] rfl)
set_option maxHeartbeats 4000000 in
set_option maxRecDepth 100000 in
theorem ql_18 {p : Program} {l : Launch} {e : Env} {s : State} {m : MethodId} {below : List Frame} {meth : Method} {c : Code} {Q : State → Prop} {D : va_G} {cy : Nat → ClassId} {Z : Nat → Prop} {b L : Nat} {xs : Nat → Int32} (hst : l.stackTraces = false) (S0 : CallFix p m c code 7 s #[Value.ref b] qw_big RL) (hX : va_X b L xs s s.heap) (hbl : b < s.heap.size) (hbA : ¬ Z b) {Inv : ql_Inv} (hE : QE_couponsWith Inv) {ad am : Nat → Nat} {I : Nat → Int32} {A : Nat → Nat → Int32} {G : Nat → Int32 × (Nat → Nat → Int32)} {T : Nat} {J : Nat → Int32} {B : Nat → Nat → Int32} {w : Int64} {ao : Nat} {o : Nat → Int64} {H : Heap} {locs : List Loc} {cells slots : Nat} {ls : Array Slot} (hI : Inv I A G T J B w) (V : qw_V D cy Z s (((Wo cy ad I A G T) ++ [qd_L cy ao o]) ++ (Wm cy am J B w)) H locs) {i : Int32} (hin : ∀ j : Nat, j ≤ 5 → vp_in (i + Int32.ofNat j) L) (hl : lv_has ls 7 (ql_base i ao (am 0) (ad 0) b)) (hc : cells + 1 ≤ 601024) (hs : slots + 6 ≤ 7293034) (K : ∀ (ad2 : Nat → Nat) (I : Nat → Int32) (A : Nat → Nat → Int32) (G : Nat → Int32 × (Nat → Nat → Int32)) (T : Nat) (J : Nat → Int32) (B : Nat → Nat → Int32) (w : Int64) (o : Nat → Int64) (H : Heap) (locs : List Loc) (ls : Array Slot), ad2 0 = ad 0 → Inv I A G T J B w → qw_V D cy Z s ((Wo cy ad2 I A G T ++ [qd_L cy ao o]) ++ Wm cy am J B w) H locs → lv_has ls 7 (ql_base i ao (am 0) (ad 0) b) → W p l e room_1 s m #[Value.ref b] below meth c H locs (cells + 1) (slots + 6) Q (F0 m 3735 ls [])) : W p l e room_1 s m #[Value.ref b] below meth c H locs cells slots Q (F0 m 886 ls []) := by
  have hx := S0.1; have hb := S0.2.1
  have hc0 : cells ≤ 601024 := Nat.le_trans (Nat.le_add_right _ _) hc; have hs0 : slots ≤ 7293034 := Nat.le_trans (Nat.le_add_right _ _) hs
  obtain ⟨ro, hX7, rb, J9, hM8, h0, h1⟩ := (hE ad I A G T J B w (xs (i + 1).toNatClampNeg) (xs (i + 2).toNatClampNeg) (xs (i + 3).toNatClampNeg) hI)
  have hl : lv_has ls 7 [(4, .int i), (3, .ref ao), (2, .ref (am 0)), (1, .ref (ad 0)), (0, .ref b)] := hl
  refine lv_aload_n hx hb dL_law_886 rfl (lv_at hl 3 rfl) ?_
  refine lv_aload_n hx hb dL_law_887 rfl (lv_at hl 4 rfl) ?_
  refine lv_iload hx hb dL_law_888 (lv_at hl 0 rfl) ?_
  refine lv_iconst (v := 1) hx hb dL_law_890 (by decide) ?_
  refine lv_iadd hx hb dL_law_891 ?_
  refine va_sld hx hb hX hbl hbA V.2.2.2.1 (hin 1 (by decide)) dL_law_892 ?_
  refine lv_aload_n hx hb dL_law_893 rfl (lv_at hl 4 rfl) ?_
  refine lv_iload hx hb dL_law_894 (lv_at hl 0 rfl) ?_
  refine lv_iconst (v := 2) hx hb dL_law_896 (by decide) ?_
  refine lv_iadd hx hb dL_law_897 ?_
  refine va_sld hx hb hX hbl hbA V.2.2.2.1 (hin 2 (by decide)) dL_law_898 ?_
  refine lv_aload_n hx hb dL_law_899 rfl (lv_at hl 4 rfl) ?_
  refine lv_iload hx hb dL_law_900 (lv_at hl 0 rfl) ?_
  refine lv_iconst (v := 3) hx hb dL_law_902 (by decide) ?_
  refine lv_iadd hx hb dL_law_903 ?_
  refine va_sld hx hb hX hbl hbA V.2.2.2.1 (hin 3 (by decide)) dL_law_904 ?_
  refine lv_aload_n hx hb dL_law_905 rfl (lv_at hl 1 rfl) ?_
  refine ql_cW (rest := []) (wc := (Wo cy ad I A G T) ++ [qd_L cy ao o]) (wr := (Wm cy am J B w)) S0 V hl (c_L_couponsWith l hst hX7) kg_L_217 rfl ⟨rfl, rfl⟩ kd_L_couponsWith ⟨(Nat.le_of_ble_eq_true rfl), (Nat.le_of_ble_eq_true rfl)⟩ rfl rfl (Nat.le_of_ble_eq_true rfl) ⟨hc, hs⟩ dL_law_906 (fun H locs hro V => ?_) (fun v9 H locs hro V => ?_)
  · have hcN : cells + 1 + 0 ≤ 601024 := hc
    have hsN : slots + 6 + 0 ≤ 7293034 := hs
    obtain ⟨t1, hI9⟩ := h0 hro
    refine lv_istore (lv' := [(5, .int 1), (4, .int i), (3, .ref ao), (2, .ref (am 0)), (1, .ref (ad 0)), (0, .ref b)]) hx hb dL_law_909 hl (by decide) rfl (fun ls hl => ?_)
    refine lv_aload_n hx hb dL_law_911 rfl (lv_at hl 3 rfl) ?_
    refine lv_aload_n hx hb dL_law_912 rfl (lv_at hl 5 rfl) ?_
    refine lv_iload hx hb dL_law_913 (lv_at hl 1 rfl) ?_
    refine lv_iconst (v := 1) hx hb dL_law_915 (by decide) ?_
    refine lv_iadd hx hb dL_law_916 ?_
    refine va_sld hx hb hX hbl hbA V.2.2.2.1 (hin 1 (by decide)) dL_law_917 ?_
    refine lv_aload_n hx hb dL_law_918 rfl (lv_at hl 5 rfl) ?_
    refine lv_iload hx hb dL_law_919 (lv_at hl 1 rfl) ?_
    refine lv_iconst (v := 2) hx hb dL_law_921 (by decide) ?_
    refine lv_iadd hx hb dL_law_922 ?_
    refine va_sld hx hb hX hbl hbA V.2.2.2.1 (hin 2 (by decide)) dL_law_923 ?_
    refine lv_aload_n hx hb dL_law_924 rfl (lv_at hl 5 rfl) ?_
    refine lv_iload hx hb dL_law_925 (lv_at hl 1 rfl) ?_
    refine lv_iconst (v := 3) hx hb dL_law_927 (by decide) ?_
    refine lv_iadd hx hb dL_law_928 ?_
    refine va_sld hx hb hX hbl hbA V.2.2.2.1 (hin 3 (by decide)) dL_law_929 ?_
    have V := ql_V.swap V
    refine ql_cV (rest := []) (st1 := [.int rb]) (wc := (Wm cy am J B w)) (wr := ((Wo cy ad I A G T) ++ [qd_L cy ao o])) S0 V hl 0 gM_0 rfl (c_X8_couponsWith l hM8) kg_L_220 rfl ⟨rfl, rfl⟩ kd_X8_couponsWith ⟨(Nat.le_of_ble_eq_true rfl), (Nat.le_of_ble_eq_true rfl)⟩ rfl rfl (Nat.le_of_ble_eq_true rfl) ⟨hcN, hsN⟩ rfl dL_law_930 (fun H locs V => ?_)
    have V := ql_V.swap V
    refine lv_istore (lv' := [(6, .int rb), (5, .int 1), (4, .int i), (3, .ref ao), (2, .ref (am 0)), (1, .ref (ad 0)), (0, .ref b)]) hx hb dL_law_933 hl (by decide) rfl (fun ls hl => ?_)
    refine lv_aload_n hx hb dL_law_935 rfl (lv_at hl 4 rfl) ?_
    refine ql_cVR (rest := []) (st1 := [.int (J9 1)]) (wc := (Wm cy am J9 B w)) (wr := ((Wo cy ad I A G T) ++ [qd_L cy ao o])) S0 (ql_V.swap V) hl 0 gM_0 rfl (c_X8_thrown l rfl) kg_L_200 rfl ⟨rfl, rfl⟩ kd_X8_thrown ⟨(Nat.le_of_ble_eq_true rfl), (Nat.le_of_ble_eq_true rfl)⟩ rfl rfl (Nat.le_of_ble_eq_true rfl) ⟨hcN, hsN⟩ rfl dL_law_936 ?_
    refine lv_iload hx hb dL_law_939 (lv_at hl 1 rfl) ?_
    refine lv_icmp_eq (tgt := 946) hx hb dL_law_941 (by decide) (fun _ => ?_) (fun c9 => absurd t1 c9)
    refine lv_iload hx hb dL_law_946 (lv_at hl 1 rfl) ?_
    refine lv_if_ne (tgt := 963) hx hb dL_law_948 (by decide) (fun _ => ?_) (fun c9 => absurd c9 (by decide))
    refine lv_goto (tgt := 3735) hx hb dL_law_963 (by decide) ?_
    exact K _ _ _ _ _ _ _ _ _ _ _ _ rfl hI9 V (lv_sub hl [2, 3, 4, 5, 6] rfl)
  · have hcN : cells + 1 + 0 ≤ 601024 := hc
    have hsN : slots + 6 + 0 ≤ 7293034 := hs
    obtain ⟨t1, hOut, hI9⟩ := h1 v9 hro
    have V : qw_V D cy Z s (((Wo cy ad I A G T) ++ [qd_L cy ao (vp_updL o 0 (v9).toInt64)]) ++ (Wm cy am J B w)) H locs := V
    refine lv_istore (lv' := [(5, .int 0), (4, .int i), (3, .ref ao), (2, .ref (am 0)), (1, .ref (ad 0)), (0, .ref b)]) hx hb dL_law_909 hl (by decide) rfl (fun ls hl => ?_)
    refine lv_aload_n hx hb dL_law_911 rfl (lv_at hl 3 rfl) ?_
    refine lv_aload_n hx hb dL_law_912 rfl (lv_at hl 5 rfl) ?_
    refine lv_iload hx hb dL_law_913 (lv_at hl 1 rfl) ?_
    refine lv_iconst (v := 1) hx hb dL_law_915 (by decide) ?_
    refine lv_iadd hx hb dL_law_916 ?_
    refine va_sld hx hb hX hbl hbA V.2.2.2.1 (hin 1 (by decide)) dL_law_917 ?_
    refine lv_aload_n hx hb dL_law_918 rfl (lv_at hl 5 rfl) ?_
    refine lv_iload hx hb dL_law_919 (lv_at hl 1 rfl) ?_
    refine lv_iconst (v := 2) hx hb dL_law_921 (by decide) ?_
    refine lv_iadd hx hb dL_law_922 ?_
    refine va_sld hx hb hX hbl hbA V.2.2.2.1 (hin 2 (by decide)) dL_law_923 ?_
    refine lv_aload_n hx hb dL_law_924 rfl (lv_at hl 5 rfl) ?_
    refine lv_iload hx hb dL_law_925 (lv_at hl 1 rfl) ?_
    refine lv_iconst (v := 3) hx hb dL_law_927 (by decide) ?_
    refine lv_iadd hx hb dL_law_928 ?_
    refine va_sld hx hb hX hbl hbA V.2.2.2.1 (hin 3 (by decide)) dL_law_929 ?_
    have V := ql_V.swap V
    refine ql_cV (rest := []) (st1 := [.int rb]) (wc := (Wm cy am J B w)) (wr := ((Wo cy ad I A G T) ++ [qd_L cy ao (vp_updL o 0 (v9).toInt64)])) S0 V hl 0 gM_0 rfl (c_X8_couponsWith l hM8) kg_L_220 rfl ⟨rfl, rfl⟩ kd_X8_couponsWith ⟨(Nat.le_of_ble_eq_true rfl), (Nat.le_of_ble_eq_true rfl)⟩ rfl rfl (Nat.le_of_ble_eq_true rfl) ⟨hcN, hsN⟩ rfl dL_law_930 (fun H locs V => ?_)
    have V := ql_V.swap V
    refine lv_istore (lv' := [(6, .int rb), (5, .int 0), (4, .int i), (3, .ref ao), (2, .ref (am 0)), (1, .ref (ad 0)), (0, .ref b)]) hx hb dL_law_933 hl (by decide) rfl (fun ls hl => ?_)
    refine lv_aload_n hx hb dL_law_935 rfl (lv_at hl 4 rfl) ?_
    refine ql_cVR (rest := []) (st1 := [.int (J9 1)]) (wc := (Wm cy am J9 B w)) (wr := ((Wo cy ad I A G T) ++ [qd_L cy ao (vp_updL o 0 (v9).toInt64)])) S0 (ql_V.swap V) hl 0 gM_0 rfl (c_X8_thrown l rfl) kg_L_200 rfl ⟨rfl, rfl⟩ kd_X8_thrown ⟨(Nat.le_of_ble_eq_true rfl), (Nat.le_of_ble_eq_true rfl)⟩ rfl rfl (Nat.le_of_ble_eq_true rfl) ⟨hcN, hsN⟩ rfl dL_law_936 ?_
    refine lv_iload hx hb dL_law_939 (lv_at hl 1 rfl) ?_
    refine lv_icmp_eq (tgt := 946) hx hb dL_law_941 (by decide) (fun _ => ?_) (fun c9 => absurd t1 c9)
    refine lv_iload hx hb dL_law_946 (lv_at hl 1 rfl) ?_
    refine lv_if_ne (tgt := 963) hx hb dL_law_948 (by decide) (fun c9 => absurd rfl c9) (fun _ => ?_)
    refine lv_aload_n hx hb dL_law_951 rfl (lv_at hl 3 rfl) ?_
    refine lv_iconst (v := 0) hx hb dL_law_952 (by decide) ?_
    refine ql_lald S0 V rfl dL_law_953 ?_
    refine lv_iload hx hb dL_law_954 (lv_at hl 0 rfl) ?_
    refine lv_i2l hx hb dL_law_956 rfl ?_
    refine W.lcmp hx hb dL_law_957 ?_
    refine lv_if_eq (tgt := 963) hx hb dL_law_958 (by decide) (fun _ => ?_) (fun c9 => absurd (by show lg_cmp (v9).toInt64 (rb.toInt64) = 0; rw [hOut]; exact ql_cmp _) c9)
    refine lv_goto (tgt := 3735) hx hb dL_law_963 (by decide) ?_
    exact K _ _ _ _ _ _ _ _ _ _ _ _ rfl hI9 V (lv_sub hl [2, 3, 4, 5, 6] rfl)
set_option maxHeartbeats 4000000 in
set_option maxRecDepth 100000 in
theorem ql_19 {p : Program} {l : Launch} {e : Env} {s : State} {m : MethodId} {below : List Frame} {meth : Method} {c : Code} {Q : State → Prop} {D : va_G} {cy : Nat → ClassId} {Z : Nat → Prop} {b L : Nat} {xs : Nat → Int32} (hst : l.stackTraces = false) (S0 : CallFix p m c code 7 s #[Value.ref b] qw_big RL) (hX : va_X b L xs s s.heap) (hbl : b < s.heap.size) (hbA : ¬ Z b) {Inv : ql_Inv} (hE : QE_lapsing Inv) {ad am : Nat → Nat} {I : Nat → Int32} {A : Nat → Nat → Int32} {G : Nat → Int32 × (Nat → Nat → Int32)} {T : Nat} {J : Nat → Int32} {B : Nat → Nat → Int32} {w : Int64} {ao : Nat} {o : Nat → Int64} {H : Heap} {locs : List Loc} {cells slots : Nat} {ls : Array Slot} (hI : Inv I A G T J B w) (V : qw_V D cy Z s (((Wo cy ad I A G T) ++ [qd_L cy ao o]) ++ (Wm cy am J B w)) H locs) {i : Int32} (hin : ∀ j : Nat, j ≤ 5 → vp_in (i + Int32.ofNat j) L) (hl : lv_has ls 7 (ql_base i ao (am 0) (ad 0) b)) (hc : cells + 1 ≤ 601024) (hs : slots + 6 ≤ 7293034) (K : ∀ (ad2 : Nat → Nat) (I : Nat → Int32) (A : Nat → Nat → Int32) (G : Nat → Int32 × (Nat → Nat → Int32)) (T : Nat) (J : Nat → Int32) (B : Nat → Nat → Int32) (w : Int64) (o : Nat → Int64) (H : Heap) (locs : List Loc) (ls : Array Slot), ad2 0 = ad 0 → Inv I A G T J B w → qw_V D cy Z s ((Wo cy ad2 I A G T ++ [qd_L cy ao o]) ++ Wm cy am J B w) H locs → lv_has ls 7 (ql_base i ao (am 0) (ad 0) b) → W p l e room_1 s m #[Value.ref b] below meth c H locs (cells + 1) (slots + 6) Q (F0 m 3735 ls [])) : W p l e room_1 s m #[Value.ref b] below meth c H locs cells slots Q (F0 m 966 ls []) := by
  have hx := S0.1; have hb := S0.2.1
  have hc0 : cells ≤ 601024 := Nat.le_trans (Nat.le_add_right _ _) hc; have hs0 : slots ≤ 7293034 := Nat.le_trans (Nat.le_add_right _ _) hs
  obtain ⟨ro, hX7, rb, J9, hM8, h0, h1⟩ := (hE ad I A G T J B w (xs (i + 1).toNatClampNeg) (xs (i + 2).toNatClampNeg) hI)
  have hl : lv_has ls 7 [(4, .int i), (3, .ref ao), (2, .ref (am 0)), (1, .ref (ad 0)), (0, .ref b)] := hl
  refine lv_aload_n hx hb dL_law_966 rfl (lv_at hl 3 rfl) ?_
  refine lv_aload_n hx hb dL_law_967 rfl (lv_at hl 4 rfl) ?_
  refine lv_iload hx hb dL_law_968 (lv_at hl 0 rfl) ?_
  refine lv_iconst (v := 1) hx hb dL_law_970 (by decide) ?_
  refine lv_iadd hx hb dL_law_971 ?_
  refine va_sld hx hb hX hbl hbA V.2.2.2.1 (hin 1 (by decide)) dL_law_972 ?_
  refine lv_aload_n hx hb dL_law_973 rfl (lv_at hl 4 rfl) ?_
  refine lv_iload hx hb dL_law_974 (lv_at hl 0 rfl) ?_
  refine lv_iconst (v := 2) hx hb dL_law_976 (by decide) ?_
  refine lv_iadd hx hb dL_law_977 ?_
  refine va_sld hx hb hX hbl hbA V.2.2.2.1 (hin 2 (by decide)) dL_law_978 ?_
  refine lv_aload_n hx hb dL_law_979 rfl (lv_at hl 1 rfl) ?_
  refine ql_cW (rest := []) (wc := (Wo cy ad I A G T) ++ [qd_L cy ao o]) (wr := (Wm cy am J B w)) S0 V hl (c_L_lapsing l hst hX7) kg_L_221 rfl ⟨rfl, rfl⟩ kd_L_lapsing ⟨(Nat.le_of_ble_eq_true rfl), (Nat.le_of_ble_eq_true rfl)⟩ rfl rfl (Nat.le_of_ble_eq_true rfl) ⟨hc, hs⟩ dL_law_980 (fun H locs hro V => ?_) (fun v9 H locs hro V => ?_)
  · have hcN : cells + 1 + 0 ≤ 601024 := hc
    have hsN : slots + 6 + 0 ≤ 7293034 := hs
    obtain ⟨t1, hI9⟩ := h0 hro
    refine lv_istore (lv' := [(5, .int 1), (4, .int i), (3, .ref ao), (2, .ref (am 0)), (1, .ref (ad 0)), (0, .ref b)]) hx hb dL_law_983 hl (by decide) rfl (fun ls hl => ?_)
    refine lv_aload_n hx hb dL_law_985 rfl (lv_at hl 3 rfl) ?_
    refine lv_aload_n hx hb dL_law_986 rfl (lv_at hl 5 rfl) ?_
    refine lv_iload hx hb dL_law_987 (lv_at hl 1 rfl) ?_
    refine lv_iconst (v := 1) hx hb dL_law_989 (by decide) ?_
    refine lv_iadd hx hb dL_law_990 ?_
    refine va_sld hx hb hX hbl hbA V.2.2.2.1 (hin 1 (by decide)) dL_law_991 ?_
    refine lv_aload_n hx hb dL_law_992 rfl (lv_at hl 5 rfl) ?_
    refine lv_iload hx hb dL_law_993 (lv_at hl 1 rfl) ?_
    refine lv_iconst (v := 2) hx hb dL_law_995 (by decide) ?_
    refine lv_iadd hx hb dL_law_996 ?_
    refine va_sld hx hb hX hbl hbA V.2.2.2.1 (hin 2 (by decide)) dL_law_997 ?_
    have V := ql_V.swap V
    refine ql_cV (rest := []) (st1 := [.int rb]) (wc := (Wm cy am J B w)) (wr := ((Wo cy ad I A G T) ++ [qd_L cy ao o])) S0 V hl 0 gM_0 rfl (c_X8_lapsing l hM8) kg_L_223 rfl ⟨rfl, rfl⟩ kd_X8_lapsing ⟨(Nat.le_of_ble_eq_true rfl), (Nat.le_of_ble_eq_true rfl)⟩ rfl rfl (Nat.le_of_ble_eq_true rfl) ⟨hcN, hsN⟩ rfl dL_law_998 (fun H locs V => ?_)
    have V := ql_V.swap V
    refine lv_istore (lv' := [(6, .int rb), (5, .int 1), (4, .int i), (3, .ref ao), (2, .ref (am 0)), (1, .ref (ad 0)), (0, .ref b)]) hx hb dL_law_1001 hl (by decide) rfl (fun ls hl => ?_)
    refine lv_aload_n hx hb dL_law_1003 rfl (lv_at hl 4 rfl) ?_
    refine ql_cVR (rest := []) (st1 := [.int (J9 1)]) (wc := (Wm cy am J9 B w)) (wr := ((Wo cy ad I A G T) ++ [qd_L cy ao o])) S0 (ql_V.swap V) hl 0 gM_0 rfl (c_X8_thrown l rfl) kg_L_200 rfl ⟨rfl, rfl⟩ kd_X8_thrown ⟨(Nat.le_of_ble_eq_true rfl), (Nat.le_of_ble_eq_true rfl)⟩ rfl rfl (Nat.le_of_ble_eq_true rfl) ⟨hcN, hsN⟩ rfl dL_law_1004 ?_
    refine lv_iload hx hb dL_law_1007 (lv_at hl 1 rfl) ?_
    refine lv_icmp_eq (tgt := 1014) hx hb dL_law_1009 (by decide) (fun _ => ?_) (fun c9 => absurd t1 c9)
    refine lv_iload hx hb dL_law_1014 (lv_at hl 1 rfl) ?_
    refine lv_if_ne (tgt := 1031) hx hb dL_law_1016 (by decide) (fun _ => ?_) (fun c9 => absurd c9 (by decide))
    refine lv_goto (tgt := 3735) hx hb dL_law_1031 (by decide) ?_
    exact K _ _ _ _ _ _ _ _ _ _ _ _ rfl hI9 V (lv_sub hl [2, 3, 4, 5, 6] rfl)
  · have hcN : cells + 1 + 0 ≤ 601024 := hc
    have hsN : slots + 6 + 0 ≤ 7293034 := hs
    obtain ⟨t1, hOut, hI9⟩ := h1 v9 hro
    have V : qw_V D cy Z s (((Wo cy ad I (v9.2) G T) ++ [qd_L cy ao (vp_updL o 0 (v9.1).toInt64)]) ++ (Wm cy am J B w)) H locs := V
    refine lv_istore (lv' := [(5, .int 0), (4, .int i), (3, .ref ao), (2, .ref (am 0)), (1, .ref (ad 0)), (0, .ref b)]) hx hb dL_law_983 hl (by decide) rfl (fun ls hl => ?_)
    refine lv_aload_n hx hb dL_law_985 rfl (lv_at hl 3 rfl) ?_
    refine lv_aload_n hx hb dL_law_986 rfl (lv_at hl 5 rfl) ?_
    refine lv_iload hx hb dL_law_987 (lv_at hl 1 rfl) ?_
    refine lv_iconst (v := 1) hx hb dL_law_989 (by decide) ?_
    refine lv_iadd hx hb dL_law_990 ?_
    refine va_sld hx hb hX hbl hbA V.2.2.2.1 (hin 1 (by decide)) dL_law_991 ?_
    refine lv_aload_n hx hb dL_law_992 rfl (lv_at hl 5 rfl) ?_
    refine lv_iload hx hb dL_law_993 (lv_at hl 1 rfl) ?_
    refine lv_iconst (v := 2) hx hb dL_law_995 (by decide) ?_
    refine lv_iadd hx hb dL_law_996 ?_
    refine va_sld hx hb hX hbl hbA V.2.2.2.1 (hin 2 (by decide)) dL_law_997 ?_
    have V := ql_V.swap V
    refine ql_cV (rest := []) (st1 := [.int rb]) (wc := (Wm cy am J B w)) (wr := ((Wo cy ad I (v9.2) G T) ++ [qd_L cy ao (vp_updL o 0 (v9.1).toInt64)])) S0 V hl 0 gM_0 rfl (c_X8_lapsing l hM8) kg_L_223 rfl ⟨rfl, rfl⟩ kd_X8_lapsing ⟨(Nat.le_of_ble_eq_true rfl), (Nat.le_of_ble_eq_true rfl)⟩ rfl rfl (Nat.le_of_ble_eq_true rfl) ⟨hcN, hsN⟩ rfl dL_law_998 (fun H locs V => ?_)
    have V := ql_V.swap V
    refine lv_istore (lv' := [(6, .int rb), (5, .int 0), (4, .int i), (3, .ref ao), (2, .ref (am 0)), (1, .ref (ad 0)), (0, .ref b)]) hx hb dL_law_1001 hl (by decide) rfl (fun ls hl => ?_)
    refine lv_aload_n hx hb dL_law_1003 rfl (lv_at hl 4 rfl) ?_
    refine ql_cVR (rest := []) (st1 := [.int (J9 1)]) (wc := (Wm cy am J9 B w)) (wr := ((Wo cy ad I (v9.2) G T) ++ [qd_L cy ao (vp_updL o 0 (v9.1).toInt64)])) S0 (ql_V.swap V) hl 0 gM_0 rfl (c_X8_thrown l rfl) kg_L_200 rfl ⟨rfl, rfl⟩ kd_X8_thrown ⟨(Nat.le_of_ble_eq_true rfl), (Nat.le_of_ble_eq_true rfl)⟩ rfl rfl (Nat.le_of_ble_eq_true rfl) ⟨hcN, hsN⟩ rfl dL_law_1004 ?_
    refine lv_iload hx hb dL_law_1007 (lv_at hl 1 rfl) ?_
    refine lv_icmp_eq (tgt := 1014) hx hb dL_law_1009 (by decide) (fun _ => ?_) (fun c9 => absurd t1 c9)
    refine lv_iload hx hb dL_law_1014 (lv_at hl 1 rfl) ?_
    refine lv_if_ne (tgt := 1031) hx hb dL_law_1016 (by decide) (fun c9 => absurd rfl c9) (fun _ => ?_)
    refine lv_aload_n hx hb dL_law_1019 rfl (lv_at hl 3 rfl) ?_
    refine lv_iconst (v := 0) hx hb dL_law_1020 (by decide) ?_
    refine ql_lald S0 V rfl dL_law_1021 ?_
    refine lv_iload hx hb dL_law_1022 (lv_at hl 0 rfl) ?_
    refine lv_i2l hx hb dL_law_1024 rfl ?_
    refine W.lcmp hx hb dL_law_1025 ?_
    refine lv_if_eq (tgt := 1031) hx hb dL_law_1026 (by decide) (fun _ => ?_) (fun c9 => absurd (by show lg_cmp (v9.1).toInt64 (rb.toInt64) = 0; rw [hOut]; exact ql_cmp _) c9)
    refine lv_goto (tgt := 3735) hx hb dL_law_1031 (by decide) ?_
    exact K _ _ _ _ _ _ _ _ _ _ _ _ rfl hI9 V (lv_sub hl [2, 3, 4, 5, 6] rfl)
set_option maxHeartbeats 4000000 in
set_option maxRecDepth 100000 in
theorem ql_20 {p : Program} {l : Launch} {e : Env} {s : State} {m : MethodId} {below : List Frame} {meth : Method} {c : Code} {Q : State → Prop} {D : va_G} {cy : Nat → ClassId} {Z : Nat → Prop} {b L : Nat} {xs : Nat → Int32} (hst : l.stackTraces = false) (S0 : CallFix p m c code 7 s #[Value.ref b] qw_big RL) (hX : va_X b L xs s s.heap) (hbl : b < s.heap.size) (hbA : ¬ Z b) {Inv : ql_Inv} (hE : QE_couponsAfter Inv) {ad am : Nat → Nat} {I : Nat → Int32} {A : Nat → Nat → Int32} {G : Nat → Int32 × (Nat → Nat → Int32)} {T : Nat} {J : Nat → Int32} {B : Nat → Nat → Int32} {w : Int64} {ao : Nat} {o : Nat → Int64} {H : Heap} {locs : List Loc} {cells slots : Nat} {ls : Array Slot} (hI : Inv I A G T J B w) (V : qw_V D cy Z s (((Wo cy ad I A G T) ++ [qd_L cy ao o]) ++ (Wm cy am J B w)) H locs) {i : Int32} (hin : ∀ j : Nat, j ≤ 5 → vp_in (i + Int32.ofNat j) L) (hl : lv_has ls 7 (ql_base i ao (am 0) (ad 0) b)) (hc : cells + 1 ≤ 601024) (hs : slots + 6 ≤ 7293034) (K : ∀ (ad2 : Nat → Nat) (I : Nat → Int32) (A : Nat → Nat → Int32) (G : Nat → Int32 × (Nat → Nat → Int32)) (T : Nat) (J : Nat → Int32) (B : Nat → Nat → Int32) (w : Int64) (o : Nat → Int64) (H : Heap) (locs : List Loc) (ls : Array Slot), ad2 0 = ad 0 → Inv I A G T J B w → qw_V D cy Z s ((Wo cy ad2 I A G T ++ [qd_L cy ao o]) ++ Wm cy am J B w) H locs → lv_has ls 7 (ql_base i ao (am 0) (ad 0) b) → W p l e room_1 s m #[Value.ref b] below meth c H locs (cells + 1) (slots + 6) Q (F0 m 3735 ls [])) : W p l e room_1 s m #[Value.ref b] below meth c H locs cells slots Q (F0 m 1034 ls []) := by
  have hx := S0.1; have hb := S0.2.1
  have hc0 : cells ≤ 601024 := Nat.le_trans (Nat.le_add_right _ _) hc; have hs0 : slots ≤ 7293034 := Nat.le_trans (Nat.le_add_right _ _) hs
  obtain ⟨ro, hX7, rb, J9, B9, hM8, h0, h1⟩ := (hE ad I A G T J B w (xs (i + 1).toNatClampNeg) (xs (i + 2).toNatClampNeg) (xs (i + 3).toNatClampNeg) hI)
  have hl : lv_has ls 7 [(4, .int i), (3, .ref ao), (2, .ref (am 0)), (1, .ref (ad 0)), (0, .ref b)] := hl
  refine lv_aload_n hx hb dL_law_1034 rfl (lv_at hl 3 rfl) ?_
  refine lv_aload_n hx hb dL_law_1035 rfl (lv_at hl 4 rfl) ?_
  refine lv_iload hx hb dL_law_1036 (lv_at hl 0 rfl) ?_
  refine lv_iconst (v := 1) hx hb dL_law_1038 (by decide) ?_
  refine lv_iadd hx hb dL_law_1039 ?_
  refine va_sld hx hb hX hbl hbA V.2.2.2.1 (hin 1 (by decide)) dL_law_1040 ?_
  refine lv_aload_n hx hb dL_law_1041 rfl (lv_at hl 4 rfl) ?_
  refine lv_iload hx hb dL_law_1042 (lv_at hl 0 rfl) ?_
  refine lv_iconst (v := 2) hx hb dL_law_1044 (by decide) ?_
  refine lv_iadd hx hb dL_law_1045 ?_
  refine va_sld hx hb hX hbl hbA V.2.2.2.1 (hin 2 (by decide)) dL_law_1046 ?_
  refine lv_aload_n hx hb dL_law_1047 rfl (lv_at hl 4 rfl) ?_
  refine lv_iload hx hb dL_law_1048 (lv_at hl 0 rfl) ?_
  refine lv_iconst (v := 3) hx hb dL_law_1050 (by decide) ?_
  refine lv_iadd hx hb dL_law_1051 ?_
  refine va_sld hx hb hX hbl hbA V.2.2.2.1 (hin 3 (by decide)) dL_law_1052 ?_
  refine lv_aload_n hx hb dL_law_1053 rfl (lv_at hl 1 rfl) ?_
  refine ql_cW (rest := []) (wc := (Wo cy ad I A G T) ++ [qd_L cy ao o]) (wr := (Wm cy am J B w)) S0 V hl (c_L_couponsAfter l hst hX7) kg_L_224 rfl ⟨rfl, rfl⟩ kd_L_couponsAfter ⟨(Nat.le_of_ble_eq_true rfl), (Nat.le_of_ble_eq_true rfl)⟩ rfl rfl (Nat.le_of_ble_eq_true rfl) ⟨hc, hs⟩ dL_law_1054 (fun H locs hro V => ?_) (fun v9 H locs hro V => ?_)
  · have hcN : cells + 1 + 0 ≤ 601024 := hc
    have hsN : slots + 6 + 0 ≤ 7293034 := hs
    obtain ⟨t1, hI9⟩ := h0 hro
    refine lv_istore (lv' := [(5, .int 1), (4, .int i), (3, .ref ao), (2, .ref (am 0)), (1, .ref (ad 0)), (0, .ref b)]) hx hb dL_law_1057 hl (by decide) rfl (fun ls hl => ?_)
    refine lv_aload_n hx hb dL_law_1059 rfl (lv_at hl 3 rfl) ?_
    refine lv_aload_n hx hb dL_law_1060 rfl (lv_at hl 5 rfl) ?_
    refine lv_iload hx hb dL_law_1061 (lv_at hl 1 rfl) ?_
    refine lv_iconst (v := 1) hx hb dL_law_1063 (by decide) ?_
    refine lv_iadd hx hb dL_law_1064 ?_
    refine va_sld hx hb hX hbl hbA V.2.2.2.1 (hin 1 (by decide)) dL_law_1065 ?_
    refine lv_aload_n hx hb dL_law_1066 rfl (lv_at hl 5 rfl) ?_
    refine lv_iload hx hb dL_law_1067 (lv_at hl 1 rfl) ?_
    refine lv_iconst (v := 2) hx hb dL_law_1069 (by decide) ?_
    refine lv_iadd hx hb dL_law_1070 ?_
    refine va_sld hx hb hX hbl hbA V.2.2.2.1 (hin 2 (by decide)) dL_law_1071 ?_
    refine lv_aload_n hx hb dL_law_1072 rfl (lv_at hl 5 rfl) ?_
    refine lv_iload hx hb dL_law_1073 (lv_at hl 1 rfl) ?_
    refine lv_iconst (v := 3) hx hb dL_law_1075 (by decide) ?_
    refine lv_iadd hx hb dL_law_1076 ?_
    refine va_sld hx hb hX hbl hbA V.2.2.2.1 (hin 3 (by decide)) dL_law_1077 ?_
    have V := ql_V.swap V
    refine ql_cV (rest := []) (st1 := [.int rb]) (wc := (Wm cy am J B w)) (wr := ((Wo cy ad I A G T) ++ [qd_L cy ao o])) S0 V hl 0 gM_0 rfl (c_X8_couponsAfter l hM8) kg_L_226 rfl ⟨rfl, rfl⟩ kd_X8_couponsAfter ⟨(Nat.le_of_ble_eq_true rfl), (Nat.le_of_ble_eq_true rfl)⟩ rfl rfl (Nat.le_of_ble_eq_true rfl) ⟨hcN, hsN⟩ rfl dL_law_1078 (fun H locs V => ?_)
    have V := ql_V.swap V
    refine lv_istore (lv' := [(6, .int rb), (5, .int 1), (4, .int i), (3, .ref ao), (2, .ref (am 0)), (1, .ref (ad 0)), (0, .ref b)]) hx hb dL_law_1081 hl (by decide) rfl (fun ls hl => ?_)
    refine lv_aload_n hx hb dL_law_1083 rfl (lv_at hl 4 rfl) ?_
    refine ql_cVR (rest := []) (st1 := [.int (J9 1)]) (wc := (Wm cy am J9 B9 w)) (wr := ((Wo cy ad I A G T) ++ [qd_L cy ao o])) S0 (ql_V.swap V) hl 0 gM_0 rfl (c_X8_thrown l rfl) kg_L_200 rfl ⟨rfl, rfl⟩ kd_X8_thrown ⟨(Nat.le_of_ble_eq_true rfl), (Nat.le_of_ble_eq_true rfl)⟩ rfl rfl (Nat.le_of_ble_eq_true rfl) ⟨hcN, hsN⟩ rfl dL_law_1084 ?_
    refine lv_iload hx hb dL_law_1087 (lv_at hl 1 rfl) ?_
    refine lv_icmp_eq (tgt := 1094) hx hb dL_law_1089 (by decide) (fun _ => ?_) (fun c9 => absurd t1 c9)
    refine lv_iload hx hb dL_law_1094 (lv_at hl 1 rfl) ?_
    refine lv_if_ne (tgt := 1111) hx hb dL_law_1096 (by decide) (fun _ => ?_) (fun c9 => absurd c9 (by decide))
    refine lv_goto (tgt := 3735) hx hb dL_law_1111 (by decide) ?_
    exact K _ _ _ _ _ _ _ _ _ _ _ _ rfl hI9 V (lv_sub hl [2, 3, 4, 5, 6] rfl)
  · have hcN : cells + 1 + 0 ≤ 601024 := hc
    have hsN : slots + 6 + 0 ≤ 7293034 := hs
    obtain ⟨t1, hOut, hI9⟩ := h1 v9 hro
    have V : qw_V D cy Z s (((Wo cy ad I (v9.2) G T) ++ [qd_L cy ao (vp_updL o 0 (v9.1).toInt64)]) ++ (Wm cy am J B w)) H locs := V
    refine lv_istore (lv' := [(5, .int 0), (4, .int i), (3, .ref ao), (2, .ref (am 0)), (1, .ref (ad 0)), (0, .ref b)]) hx hb dL_law_1057 hl (by decide) rfl (fun ls hl => ?_)
    refine lv_aload_n hx hb dL_law_1059 rfl (lv_at hl 3 rfl) ?_
    refine lv_aload_n hx hb dL_law_1060 rfl (lv_at hl 5 rfl) ?_
    refine lv_iload hx hb dL_law_1061 (lv_at hl 1 rfl) ?_
    refine lv_iconst (v := 1) hx hb dL_law_1063 (by decide) ?_
    refine lv_iadd hx hb dL_law_1064 ?_
    refine va_sld hx hb hX hbl hbA V.2.2.2.1 (hin 1 (by decide)) dL_law_1065 ?_
    refine lv_aload_n hx hb dL_law_1066 rfl (lv_at hl 5 rfl) ?_
    refine lv_iload hx hb dL_law_1067 (lv_at hl 1 rfl) ?_
    refine lv_iconst (v := 2) hx hb dL_law_1069 (by decide) ?_
    refine lv_iadd hx hb dL_law_1070 ?_
    refine va_sld hx hb hX hbl hbA V.2.2.2.1 (hin 2 (by decide)) dL_law_1071 ?_
    refine lv_aload_n hx hb dL_law_1072 rfl (lv_at hl 5 rfl) ?_
    refine lv_iload hx hb dL_law_1073 (lv_at hl 1 rfl) ?_
    refine lv_iconst (v := 3) hx hb dL_law_1075 (by decide) ?_
    refine lv_iadd hx hb dL_law_1076 ?_
    refine va_sld hx hb hX hbl hbA V.2.2.2.1 (hin 3 (by decide)) dL_law_1077 ?_
    have V := ql_V.swap V
    refine ql_cV (rest := []) (st1 := [.int rb]) (wc := (Wm cy am J B w)) (wr := ((Wo cy ad I (v9.2) G T) ++ [qd_L cy ao (vp_updL o 0 (v9.1).toInt64)])) S0 V hl 0 gM_0 rfl (c_X8_couponsAfter l hM8) kg_L_226 rfl ⟨rfl, rfl⟩ kd_X8_couponsAfter ⟨(Nat.le_of_ble_eq_true rfl), (Nat.le_of_ble_eq_true rfl)⟩ rfl rfl (Nat.le_of_ble_eq_true rfl) ⟨hcN, hsN⟩ rfl dL_law_1078 (fun H locs V => ?_)
    have V := ql_V.swap V
    refine lv_istore (lv' := [(6, .int rb), (5, .int 0), (4, .int i), (3, .ref ao), (2, .ref (am 0)), (1, .ref (ad 0)), (0, .ref b)]) hx hb dL_law_1081 hl (by decide) rfl (fun ls hl => ?_)
    refine lv_aload_n hx hb dL_law_1083 rfl (lv_at hl 4 rfl) ?_
    refine ql_cVR (rest := []) (st1 := [.int (J9 1)]) (wc := (Wm cy am J9 B9 w)) (wr := ((Wo cy ad I (v9.2) G T) ++ [qd_L cy ao (vp_updL o 0 (v9.1).toInt64)])) S0 (ql_V.swap V) hl 0 gM_0 rfl (c_X8_thrown l rfl) kg_L_200 rfl ⟨rfl, rfl⟩ kd_X8_thrown ⟨(Nat.le_of_ble_eq_true rfl), (Nat.le_of_ble_eq_true rfl)⟩ rfl rfl (Nat.le_of_ble_eq_true rfl) ⟨hcN, hsN⟩ rfl dL_law_1084 ?_
    refine lv_iload hx hb dL_law_1087 (lv_at hl 1 rfl) ?_
    refine lv_icmp_eq (tgt := 1094) hx hb dL_law_1089 (by decide) (fun _ => ?_) (fun c9 => absurd t1 c9)
    refine lv_iload hx hb dL_law_1094 (lv_at hl 1 rfl) ?_
    refine lv_if_ne (tgt := 1111) hx hb dL_law_1096 (by decide) (fun c9 => absurd rfl c9) (fun _ => ?_)
    refine lv_aload_n hx hb dL_law_1099 rfl (lv_at hl 3 rfl) ?_
    refine lv_iconst (v := 0) hx hb dL_law_1100 (by decide) ?_
    refine ql_lald S0 V rfl dL_law_1101 ?_
    refine lv_iload hx hb dL_law_1102 (lv_at hl 0 rfl) ?_
    refine lv_i2l hx hb dL_law_1104 rfl ?_
    refine W.lcmp hx hb dL_law_1105 ?_
    refine lv_if_eq (tgt := 1111) hx hb dL_law_1106 (by decide) (fun _ => ?_) (fun c9 => absurd (by show lg_cmp (v9.1).toInt64 (rb.toInt64) = 0; rw [hOut]; exact ql_cmp _) c9)
    refine lv_goto (tgt := 3735) hx hb dL_law_1111 (by decide) ?_
    exact K _ _ _ _ _ _ _ _ _ _ _ _ rfl hI9 V (lv_sub hl [2, 3, 4, 5, 6] rfl)
set_option maxHeartbeats 4000000 in
set_option maxRecDepth 100000 in
theorem ql_21 {p : Program} {l : Launch} {e : Env} {s : State} {m : MethodId} {below : List Frame} {meth : Method} {c : Code} {Q : State → Prop} {D : va_G} {cy : Nat → ClassId} {Z : Nat → Prop} {b L : Nat} {xs : Nat → Int32} (hst : l.stackTraces = false) (S0 : CallFix p m c code 7 s #[Value.ref b] qw_big RL) (hX : va_X b L xs s s.heap) (hbl : b < s.heap.size) (hbA : ¬ Z b) {Inv : ql_Inv} (hE : QE_neediest Inv) {ad am : Nat → Nat} {I : Nat → Int32} {A : Nat → Nat → Int32} {G : Nat → Int32 × (Nat → Nat → Int32)} {T : Nat} {J : Nat → Int32} {B : Nat → Nat → Int32} {w : Int64} {ao : Nat} {o : Nat → Int64} {H : Heap} {locs : List Loc} {cells slots : Nat} {ls : Array Slot} (hI : Inv I A G T J B w) (V : qw_V D cy Z s (((Wo cy ad I A G T) ++ [qd_L cy ao o]) ++ (Wm cy am J B w)) H locs) {i : Int32} (hin : ∀ j : Nat, j ≤ 5 → vp_in (i + Int32.ofNat j) L) (hl : lv_has ls 7 (ql_base i ao (am 0) (ad 0) b)) (hc : cells + 1 ≤ 601024) (hs : slots + 6 ≤ 7293034) (K : ∀ (ad2 : Nat → Nat) (I : Nat → Int32) (A : Nat → Nat → Int32) (G : Nat → Int32 × (Nat → Nat → Int32)) (T : Nat) (J : Nat → Int32) (B : Nat → Nat → Int32) (w : Int64) (o : Nat → Int64) (H : Heap) (locs : List Loc) (ls : Array Slot), ad2 0 = ad 0 → Inv I A G T J B w → qw_V D cy Z s ((Wo cy ad2 I A G T ++ [qd_L cy ao o]) ++ Wm cy am J B w) H locs → lv_has ls 7 (ql_base i ao (am 0) (ad 0) b) → W p l e room_1 s m #[Value.ref b] below meth c H locs (cells + 1) (slots + 6) Q (F0 m 3735 ls [])) : W p l e room_1 s m #[Value.ref b] below meth c H locs cells slots Q (F0 m 1114 ls []) := by
  have hx := S0.1; have hb := S0.2.1
  have hc0 : cells ≤ 601024 := Nat.le_trans (Nat.le_add_right _ _) hc; have hs0 : slots ≤ 7293034 := Nat.le_trans (Nat.le_add_right _ _) hs
  obtain ⟨ro, hX7, rb, J9, hM8, h0, h1⟩ := (hE ad I A G T J B w (xs (i + 1).toNatClampNeg) hI)
  have hl : lv_has ls 7 [(4, .int i), (3, .ref ao), (2, .ref (am 0)), (1, .ref (ad 0)), (0, .ref b)] := hl
  refine lv_aload_n hx hb dL_law_1114 rfl (lv_at hl 3 rfl) ?_
  refine lv_aload_n hx hb dL_law_1115 rfl (lv_at hl 4 rfl) ?_
  refine lv_iload hx hb dL_law_1116 (lv_at hl 0 rfl) ?_
  refine lv_iconst (v := 1) hx hb dL_law_1118 (by decide) ?_
  refine lv_iadd hx hb dL_law_1119 ?_
  refine va_sld hx hb hX hbl hbA V.2.2.2.1 (hin 1 (by decide)) dL_law_1120 ?_
  refine lv_aload_n hx hb dL_law_1121 rfl (lv_at hl 1 rfl) ?_
  refine ql_cW (rest := []) (wc := (Wo cy ad I A G T) ++ [qd_L cy ao o]) (wr := (Wm cy am J B w)) S0 V hl (c_L_neediest l hst hX7) kg_L_227 rfl ⟨rfl, rfl⟩ kd_L_neediest ⟨(Nat.le_of_ble_eq_true rfl), (Nat.le_of_ble_eq_true rfl)⟩ rfl rfl (Nat.le_of_ble_eq_true rfl) ⟨hc, hs⟩ dL_law_1122 (fun H locs hro V => ?_) (fun v9 H locs hro V => ?_)
  · have hcN : cells + 1 + 0 ≤ 601024 := hc
    have hsN : slots + 6 + 0 ≤ 7293034 := hs
    obtain ⟨t1, hI9⟩ := h0 hro
    refine lv_istore (lv' := [(5, .int 1), (4, .int i), (3, .ref ao), (2, .ref (am 0)), (1, .ref (ad 0)), (0, .ref b)]) hx hb dL_law_1125 hl (by decide) rfl (fun ls hl => ?_)
    refine lv_aload_n hx hb dL_law_1127 rfl (lv_at hl 3 rfl) ?_
    refine lv_aload_n hx hb dL_law_1128 rfl (lv_at hl 5 rfl) ?_
    refine lv_iload hx hb dL_law_1129 (lv_at hl 1 rfl) ?_
    refine lv_iconst (v := 1) hx hb dL_law_1131 (by decide) ?_
    refine lv_iadd hx hb dL_law_1132 ?_
    refine va_sld hx hb hX hbl hbA V.2.2.2.1 (hin 1 (by decide)) dL_law_1133 ?_
    have V := ql_V.swap V
    refine ql_cV (rest := []) (st1 := [.int rb]) (wc := (Wm cy am J B w)) (wr := ((Wo cy ad I A G T) ++ [qd_L cy ao o])) S0 V hl 0 gM_0 rfl (c_X8_neediest l hM8) kg_L_229 rfl ⟨rfl, rfl⟩ kd_X8_neediest ⟨(Nat.le_of_ble_eq_true rfl), (Nat.le_of_ble_eq_true rfl)⟩ rfl rfl (Nat.le_of_ble_eq_true rfl) ⟨hcN, hsN⟩ rfl dL_law_1134 (fun H locs V => ?_)
    have V := ql_V.swap V
    refine lv_istore (lv' := [(6, .int rb), (5, .int 1), (4, .int i), (3, .ref ao), (2, .ref (am 0)), (1, .ref (ad 0)), (0, .ref b)]) hx hb dL_law_1137 hl (by decide) rfl (fun ls hl => ?_)
    refine lv_aload_n hx hb dL_law_1139 rfl (lv_at hl 4 rfl) ?_
    refine ql_cVR (rest := []) (st1 := [.int (J9 1)]) (wc := (Wm cy am J9 B w)) (wr := ((Wo cy ad I A G T) ++ [qd_L cy ao o])) S0 (ql_V.swap V) hl 0 gM_0 rfl (c_X8_thrown l rfl) kg_L_200 rfl ⟨rfl, rfl⟩ kd_X8_thrown ⟨(Nat.le_of_ble_eq_true rfl), (Nat.le_of_ble_eq_true rfl)⟩ rfl rfl (Nat.le_of_ble_eq_true rfl) ⟨hcN, hsN⟩ rfl dL_law_1140 ?_
    refine lv_iload hx hb dL_law_1143 (lv_at hl 1 rfl) ?_
    refine lv_icmp_eq (tgt := 1150) hx hb dL_law_1145 (by decide) (fun _ => ?_) (fun c9 => absurd t1 c9)
    refine lv_iload hx hb dL_law_1150 (lv_at hl 1 rfl) ?_
    refine lv_if_ne (tgt := 1167) hx hb dL_law_1152 (by decide) (fun _ => ?_) (fun c9 => absurd c9 (by decide))
    refine lv_goto (tgt := 3735) hx hb dL_law_1167 (by decide) ?_
    exact K _ _ _ _ _ _ _ _ _ _ _ _ rfl hI9 V (lv_sub hl [2, 3, 4, 5, 6] rfl)
  · have hcN : cells + 1 + 0 ≤ 601024 := hc
    have hsN : slots + 6 + 0 ≤ 7293034 := hs
    obtain ⟨t1, hOut, hI9⟩ := h1 v9 hro
    have V : qw_V D cy Z s (((Wo cy ad I A G T) ++ [qd_L cy ao (vp_updL o 0 (v9).toInt64)]) ++ (Wm cy am J B w)) H locs := V
    refine lv_istore (lv' := [(5, .int 0), (4, .int i), (3, .ref ao), (2, .ref (am 0)), (1, .ref (ad 0)), (0, .ref b)]) hx hb dL_law_1125 hl (by decide) rfl (fun ls hl => ?_)
    refine lv_aload_n hx hb dL_law_1127 rfl (lv_at hl 3 rfl) ?_
    refine lv_aload_n hx hb dL_law_1128 rfl (lv_at hl 5 rfl) ?_
    refine lv_iload hx hb dL_law_1129 (lv_at hl 1 rfl) ?_
    refine lv_iconst (v := 1) hx hb dL_law_1131 (by decide) ?_
    refine lv_iadd hx hb dL_law_1132 ?_
    refine va_sld hx hb hX hbl hbA V.2.2.2.1 (hin 1 (by decide)) dL_law_1133 ?_
    have V := ql_V.swap V
    refine ql_cV (rest := []) (st1 := [.int rb]) (wc := (Wm cy am J B w)) (wr := ((Wo cy ad I A G T) ++ [qd_L cy ao (vp_updL o 0 (v9).toInt64)])) S0 V hl 0 gM_0 rfl (c_X8_neediest l hM8) kg_L_229 rfl ⟨rfl, rfl⟩ kd_X8_neediest ⟨(Nat.le_of_ble_eq_true rfl), (Nat.le_of_ble_eq_true rfl)⟩ rfl rfl (Nat.le_of_ble_eq_true rfl) ⟨hcN, hsN⟩ rfl dL_law_1134 (fun H locs V => ?_)
    have V := ql_V.swap V
    refine lv_istore (lv' := [(6, .int rb), (5, .int 0), (4, .int i), (3, .ref ao), (2, .ref (am 0)), (1, .ref (ad 0)), (0, .ref b)]) hx hb dL_law_1137 hl (by decide) rfl (fun ls hl => ?_)
    refine lv_aload_n hx hb dL_law_1139 rfl (lv_at hl 4 rfl) ?_
    refine ql_cVR (rest := []) (st1 := [.int (J9 1)]) (wc := (Wm cy am J9 B w)) (wr := ((Wo cy ad I A G T) ++ [qd_L cy ao (vp_updL o 0 (v9).toInt64)])) S0 (ql_V.swap V) hl 0 gM_0 rfl (c_X8_thrown l rfl) kg_L_200 rfl ⟨rfl, rfl⟩ kd_X8_thrown ⟨(Nat.le_of_ble_eq_true rfl), (Nat.le_of_ble_eq_true rfl)⟩ rfl rfl (Nat.le_of_ble_eq_true rfl) ⟨hcN, hsN⟩ rfl dL_law_1140 ?_
    refine lv_iload hx hb dL_law_1143 (lv_at hl 1 rfl) ?_
    refine lv_icmp_eq (tgt := 1150) hx hb dL_law_1145 (by decide) (fun _ => ?_) (fun c9 => absurd t1 c9)
    refine lv_iload hx hb dL_law_1150 (lv_at hl 1 rfl) ?_
    refine lv_if_ne (tgt := 1167) hx hb dL_law_1152 (by decide) (fun c9 => absurd rfl c9) (fun _ => ?_)
    refine lv_aload_n hx hb dL_law_1155 rfl (lv_at hl 3 rfl) ?_
    refine lv_iconst (v := 0) hx hb dL_law_1156 (by decide) ?_
    refine ql_lald S0 V rfl dL_law_1157 ?_
    refine lv_iload hx hb dL_law_1158 (lv_at hl 0 rfl) ?_
    refine lv_i2l hx hb dL_law_1160 rfl ?_
    refine W.lcmp hx hb dL_law_1161 ?_
    refine lv_if_eq (tgt := 1167) hx hb dL_law_1162 (by decide) (fun _ => ?_) (fun c9 => absurd (by show lg_cmp (v9).toInt64 (rb.toInt64) = 0; rw [hOut]; exact ql_cmp _) c9)
    refine lv_goto (tgt := 3735) hx hb dL_law_1167 (by decide) ?_
    exact K _ _ _ _ _ _ _ _ _ _ _ _ rfl hI9 V (lv_sub hl [2, 3, 4, 5, 6] rfl)
set_option maxHeartbeats 4000000 in
set_option maxRecDepth 100000 in
theorem ql_22 {p : Program} {l : Launch} {e : Env} {s : State} {m : MethodId} {below : List Frame} {meth : Method} {c : Code} {Q : State → Prop} {D : va_G} {cy : Nat → ClassId} {Z : Nat → Prop} {b L : Nat} {xs : Nat → Int32} (hst : l.stackTraces = false) (S0 : CallFix p m c code 7 s #[Value.ref b] qw_big RL) (hX : va_X b L xs s s.heap) (hbl : b < s.heap.size) (hbA : ¬ Z b) {Inv : ql_Inv} (hE : QE_givenBy Inv) {ad am : Nat → Nat} {I : Nat → Int32} {A : Nat → Nat → Int32} {G : Nat → Int32 × (Nat → Nat → Int32)} {T : Nat} {J : Nat → Int32} {B : Nat → Nat → Int32} {w : Int64} {ao : Nat} {o : Nat → Int64} {H : Heap} {locs : List Loc} {cells slots : Nat} {ls : Array Slot} (hI : Inv I A G T J B w) (V : qw_V D cy Z s (((Wo cy ad I A G T) ++ [qd_L cy ao o]) ++ (Wm cy am J B w)) H locs) {i : Int32} (hin : ∀ j : Nat, j ≤ 5 → vp_in (i + Int32.ofNat j) L) (hl : lv_has ls 7 (ql_base i ao (am 0) (ad 0) b)) (hc : cells + 1 ≤ 601024) (hs : slots + 6 ≤ 7293034) (K : ∀ (ad2 : Nat → Nat) (I : Nat → Int32) (A : Nat → Nat → Int32) (G : Nat → Int32 × (Nat → Nat → Int32)) (T : Nat) (J : Nat → Int32) (B : Nat → Nat → Int32) (w : Int64) (o : Nat → Int64) (H : Heap) (locs : List Loc) (ls : Array Slot), ad2 0 = ad 0 → Inv I A G T J B w → qw_V D cy Z s ((Wo cy ad2 I A G T ++ [qd_L cy ao o]) ++ Wm cy am J B w) H locs → lv_has ls 7 (ql_base i ao (am 0) (ad 0) b) → W p l e room_1 s m #[Value.ref b] below meth c H locs (cells + 1) (slots + 6) Q (F0 m 3735 ls [])) : W p l e room_1 s m #[Value.ref b] below meth c H locs cells slots Q (F0 m 1170 ls []) := by
  have hx := S0.1; have hb := S0.2.1
  have hc0 : cells ≤ 601024 := Nat.le_trans (Nat.le_add_right _ _) hc; have hs0 : slots ≤ 7293034 := Nat.le_trans (Nat.le_add_right _ _) hs
  obtain ⟨ro, hX7, rb, J9, hM8, h0, h1⟩ := (hE ad I A G T J B w (xs (i + 1).toNatClampNeg) hI)
  have hl : lv_has ls 7 [(4, .int i), (3, .ref ao), (2, .ref (am 0)), (1, .ref (ad 0)), (0, .ref b)] := hl
  refine lv_aload_n hx hb dL_law_1170 rfl (lv_at hl 3 rfl) ?_
  refine lv_aload_n hx hb dL_law_1171 rfl (lv_at hl 4 rfl) ?_
  refine lv_iload hx hb dL_law_1172 (lv_at hl 0 rfl) ?_
  refine lv_iconst (v := 1) hx hb dL_law_1174 (by decide) ?_
  refine lv_iadd hx hb dL_law_1175 ?_
  refine va_sld hx hb hX hbl hbA V.2.2.2.1 (hin 1 (by decide)) dL_law_1176 ?_
  refine lv_aload_n hx hb dL_law_1177 rfl (lv_at hl 1 rfl) ?_
  refine ql_cW (rest := []) (wc := (Wo cy ad I A G T) ++ [qd_L cy ao o]) (wr := (Wm cy am J B w)) S0 V hl (c_L_givenBy l hst hX7) kg_L_230 rfl ⟨rfl, rfl⟩ kd_L_givenBy ⟨(Nat.le_of_ble_eq_true rfl), (Nat.le_of_ble_eq_true rfl)⟩ rfl rfl (Nat.le_of_ble_eq_true rfl) ⟨hc, hs⟩ dL_law_1178 (fun H locs hro V => ?_) (fun v9 H locs hro V => ?_)
  · have hcN : cells + 1 + 0 ≤ 601024 := hc
    have hsN : slots + 6 + 0 ≤ 7293034 := hs
    obtain ⟨t1, hI9⟩ := h0 hro
    refine lv_istore (lv' := [(5, .int 1), (4, .int i), (3, .ref ao), (2, .ref (am 0)), (1, .ref (ad 0)), (0, .ref b)]) hx hb dL_law_1181 hl (by decide) rfl (fun ls hl => ?_)
    refine lv_aload_n hx hb dL_law_1183 rfl (lv_at hl 3 rfl) ?_
    refine lv_aload_n hx hb dL_law_1184 rfl (lv_at hl 5 rfl) ?_
    refine lv_iload hx hb dL_law_1185 (lv_at hl 1 rfl) ?_
    refine lv_iconst (v := 1) hx hb dL_law_1187 (by decide) ?_
    refine lv_iadd hx hb dL_law_1188 ?_
    refine va_sld hx hb hX hbl hbA V.2.2.2.1 (hin 1 (by decide)) dL_law_1189 ?_
    have V := ql_V.swap V
    refine ql_cV (rest := []) (st1 := [.int rb]) (wc := (Wm cy am J B w)) (wr := ((Wo cy ad I A G T) ++ [qd_L cy ao o])) S0 V hl 0 gM_0 rfl (c_X8_givenBy l hM8) kg_L_232 rfl ⟨rfl, rfl⟩ kd_X8_givenBy ⟨(Nat.le_of_ble_eq_true rfl), (Nat.le_of_ble_eq_true rfl)⟩ rfl rfl (Nat.le_of_ble_eq_true rfl) ⟨hcN, hsN⟩ rfl dL_law_1190 (fun H locs V => ?_)
    have V := ql_V.swap V
    refine lv_istore (lv' := [(6, .int rb), (5, .int 1), (4, .int i), (3, .ref ao), (2, .ref (am 0)), (1, .ref (ad 0)), (0, .ref b)]) hx hb dL_law_1193 hl (by decide) rfl (fun ls hl => ?_)
    refine lv_aload_n hx hb dL_law_1195 rfl (lv_at hl 4 rfl) ?_
    refine ql_cVR (rest := []) (st1 := [.int (J9 1)]) (wc := (Wm cy am J9 B w)) (wr := ((Wo cy ad I A G T) ++ [qd_L cy ao o])) S0 (ql_V.swap V) hl 0 gM_0 rfl (c_X8_thrown l rfl) kg_L_200 rfl ⟨rfl, rfl⟩ kd_X8_thrown ⟨(Nat.le_of_ble_eq_true rfl), (Nat.le_of_ble_eq_true rfl)⟩ rfl rfl (Nat.le_of_ble_eq_true rfl) ⟨hcN, hsN⟩ rfl dL_law_1196 ?_
    refine lv_iload hx hb dL_law_1199 (lv_at hl 1 rfl) ?_
    refine lv_icmp_eq (tgt := 1206) hx hb dL_law_1201 (by decide) (fun _ => ?_) (fun c9 => absurd t1 c9)
    refine lv_iload hx hb dL_law_1206 (lv_at hl 1 rfl) ?_
    refine lv_if_ne (tgt := 1223) hx hb dL_law_1208 (by decide) (fun _ => ?_) (fun c9 => absurd c9 (by decide))
    refine lv_goto (tgt := 3735) hx hb dL_law_1223 (by decide) ?_
    exact K _ _ _ _ _ _ _ _ _ _ _ _ rfl hI9 V (lv_sub hl [2, 3, 4, 5, 6] rfl)
  · have hcN : cells + 1 + 0 ≤ 601024 := hc
    have hsN : slots + 6 + 0 ≤ 7293034 := hs
    obtain ⟨t1, hOut, hI9⟩ := h1 v9 hro
    have V : qw_V D cy Z s (((Wo cy ad I A G T) ++ [qd_L cy ao (vp_updL o 0 (v9).toInt64)]) ++ (Wm cy am J B w)) H locs := V
    refine lv_istore (lv' := [(5, .int 0), (4, .int i), (3, .ref ao), (2, .ref (am 0)), (1, .ref (ad 0)), (0, .ref b)]) hx hb dL_law_1181 hl (by decide) rfl (fun ls hl => ?_)
    refine lv_aload_n hx hb dL_law_1183 rfl (lv_at hl 3 rfl) ?_
    refine lv_aload_n hx hb dL_law_1184 rfl (lv_at hl 5 rfl) ?_
    refine lv_iload hx hb dL_law_1185 (lv_at hl 1 rfl) ?_
    refine lv_iconst (v := 1) hx hb dL_law_1187 (by decide) ?_
    refine lv_iadd hx hb dL_law_1188 ?_
    refine va_sld hx hb hX hbl hbA V.2.2.2.1 (hin 1 (by decide)) dL_law_1189 ?_
    have V := ql_V.swap V
    refine ql_cV (rest := []) (st1 := [.int rb]) (wc := (Wm cy am J B w)) (wr := ((Wo cy ad I A G T) ++ [qd_L cy ao (vp_updL o 0 (v9).toInt64)])) S0 V hl 0 gM_0 rfl (c_X8_givenBy l hM8) kg_L_232 rfl ⟨rfl, rfl⟩ kd_X8_givenBy ⟨(Nat.le_of_ble_eq_true rfl), (Nat.le_of_ble_eq_true rfl)⟩ rfl rfl (Nat.le_of_ble_eq_true rfl) ⟨hcN, hsN⟩ rfl dL_law_1190 (fun H locs V => ?_)
    have V := ql_V.swap V
    refine lv_istore (lv' := [(6, .int rb), (5, .int 0), (4, .int i), (3, .ref ao), (2, .ref (am 0)), (1, .ref (ad 0)), (0, .ref b)]) hx hb dL_law_1193 hl (by decide) rfl (fun ls hl => ?_)
    refine lv_aload_n hx hb dL_law_1195 rfl (lv_at hl 4 rfl) ?_
    refine ql_cVR (rest := []) (st1 := [.int (J9 1)]) (wc := (Wm cy am J9 B w)) (wr := ((Wo cy ad I A G T) ++ [qd_L cy ao (vp_updL o 0 (v9).toInt64)])) S0 (ql_V.swap V) hl 0 gM_0 rfl (c_X8_thrown l rfl) kg_L_200 rfl ⟨rfl, rfl⟩ kd_X8_thrown ⟨(Nat.le_of_ble_eq_true rfl), (Nat.le_of_ble_eq_true rfl)⟩ rfl rfl (Nat.le_of_ble_eq_true rfl) ⟨hcN, hsN⟩ rfl dL_law_1196 ?_
    refine lv_iload hx hb dL_law_1199 (lv_at hl 1 rfl) ?_
    refine lv_icmp_eq (tgt := 1206) hx hb dL_law_1201 (by decide) (fun _ => ?_) (fun c9 => absurd t1 c9)
    refine lv_iload hx hb dL_law_1206 (lv_at hl 1 rfl) ?_
    refine lv_if_ne (tgt := 1223) hx hb dL_law_1208 (by decide) (fun c9 => absurd rfl c9) (fun _ => ?_)
    refine lv_aload_n hx hb dL_law_1211 rfl (lv_at hl 3 rfl) ?_
    refine lv_iconst (v := 0) hx hb dL_law_1212 (by decide) ?_
    refine ql_lald S0 V rfl dL_law_1213 ?_
    refine lv_iload hx hb dL_law_1214 (lv_at hl 0 rfl) ?_
    refine lv_i2l hx hb dL_law_1216 rfl ?_
    refine W.lcmp hx hb dL_law_1217 ?_
    refine lv_if_eq (tgt := 1223) hx hb dL_law_1218 (by decide) (fun _ => ?_) (fun c9 => absurd (by show lg_cmp (v9).toInt64 (rb.toInt64) = 0; rw [hOut]; exact ql_cmp _) c9)
    refine lv_goto (tgt := 3735) hx hb dL_law_1223 (by decide) ?_
    exact K _ _ _ _ _ _ _ _ _ _ _ _ rfl hI9 V (lv_sub hl [2, 3, 4, 5, 6] rfl)
set_option maxHeartbeats 4000000 in
set_option maxRecDepth 100000 in
theorem ql_23 {p : Program} {l : Launch} {e : Env} {s : State} {m : MethodId} {below : List Frame} {meth : Method} {c : Code} {Q : State → Prop} {D : va_G} {cy : Nat → ClassId} {Z : Nat → Prop} {b L : Nat} {xs : Nat → Int32} (hst : l.stackTraces = false) (S0 : CallFix p m c code 7 s #[Value.ref b] qw_big RL) (hX : va_X b L xs s s.heap) (hbl : b < s.heap.size) (hbA : ¬ Z b) {Inv : ql_Inv} (hE : QE_takenBy Inv) {ad am : Nat → Nat} {I : Nat → Int32} {A : Nat → Nat → Int32} {G : Nat → Int32 × (Nat → Nat → Int32)} {T : Nat} {J : Nat → Int32} {B : Nat → Nat → Int32} {w : Int64} {ao : Nat} {o : Nat → Int64} {H : Heap} {locs : List Loc} {cells slots : Nat} {ls : Array Slot} (hI : Inv I A G T J B w) (V : qw_V D cy Z s (((Wo cy ad I A G T) ++ [qd_L cy ao o]) ++ (Wm cy am J B w)) H locs) {i : Int32} (hin : ∀ j : Nat, j ≤ 5 → vp_in (i + Int32.ofNat j) L) (hl : lv_has ls 7 (ql_base i ao (am 0) (ad 0) b)) (hc : cells + 1 ≤ 601024) (hs : slots + 6 ≤ 7293034) (K : ∀ (ad2 : Nat → Nat) (I : Nat → Int32) (A : Nat → Nat → Int32) (G : Nat → Int32 × (Nat → Nat → Int32)) (T : Nat) (J : Nat → Int32) (B : Nat → Nat → Int32) (w : Int64) (o : Nat → Int64) (H : Heap) (locs : List Loc) (ls : Array Slot), ad2 0 = ad 0 → Inv I A G T J B w → qw_V D cy Z s ((Wo cy ad2 I A G T ++ [qd_L cy ao o]) ++ Wm cy am J B w) H locs → lv_has ls 7 (ql_base i ao (am 0) (ad 0) b) → W p l e room_1 s m #[Value.ref b] below meth c H locs (cells + 1) (slots + 6) Q (F0 m 3735 ls [])) : W p l e room_1 s m #[Value.ref b] below meth c H locs cells slots Q (F0 m 1226 ls []) := by
  have hx := S0.1; have hb := S0.2.1
  have hc0 : cells ≤ 601024 := Nat.le_trans (Nat.le_add_right _ _) hc; have hs0 : slots ≤ 7293034 := Nat.le_trans (Nat.le_add_right _ _) hs
  obtain ⟨ro, hX7, rb, J9, hM8, h0, h1⟩ := (hE ad I A G T J B w (xs (i + 1).toNatClampNeg) hI)
  have hl : lv_has ls 7 [(4, .int i), (3, .ref ao), (2, .ref (am 0)), (1, .ref (ad 0)), (0, .ref b)] := hl
  refine lv_aload_n hx hb dL_law_1226 rfl (lv_at hl 3 rfl) ?_
  refine lv_aload_n hx hb dL_law_1227 rfl (lv_at hl 4 rfl) ?_
  refine lv_iload hx hb dL_law_1228 (lv_at hl 0 rfl) ?_
  refine lv_iconst (v := 1) hx hb dL_law_1230 (by decide) ?_
  refine lv_iadd hx hb dL_law_1231 ?_
  refine va_sld hx hb hX hbl hbA V.2.2.2.1 (hin 1 (by decide)) dL_law_1232 ?_
  refine lv_aload_n hx hb dL_law_1233 rfl (lv_at hl 1 rfl) ?_
  refine ql_cW (rest := []) (wc := (Wo cy ad I A G T) ++ [qd_L cy ao o]) (wr := (Wm cy am J B w)) S0 V hl (c_L_takenBy l hst hX7) kg_L_233 rfl ⟨rfl, rfl⟩ kd_L_takenBy ⟨(Nat.le_of_ble_eq_true rfl), (Nat.le_of_ble_eq_true rfl)⟩ rfl rfl (Nat.le_of_ble_eq_true rfl) ⟨hc, hs⟩ dL_law_1234 (fun H locs hro V => ?_) (fun v9 H locs hro V => ?_)
  · have hcN : cells + 1 + 0 ≤ 601024 := hc
    have hsN : slots + 6 + 0 ≤ 7293034 := hs
    obtain ⟨t1, hI9⟩ := h0 hro
    refine lv_istore (lv' := [(5, .int 1), (4, .int i), (3, .ref ao), (2, .ref (am 0)), (1, .ref (ad 0)), (0, .ref b)]) hx hb dL_law_1237 hl (by decide) rfl (fun ls hl => ?_)
    refine lv_aload_n hx hb dL_law_1239 rfl (lv_at hl 3 rfl) ?_
    refine lv_aload_n hx hb dL_law_1240 rfl (lv_at hl 5 rfl) ?_
    refine lv_iload hx hb dL_law_1241 (lv_at hl 1 rfl) ?_
    refine lv_iconst (v := 1) hx hb dL_law_1243 (by decide) ?_
    refine lv_iadd hx hb dL_law_1244 ?_
    refine va_sld hx hb hX hbl hbA V.2.2.2.1 (hin 1 (by decide)) dL_law_1245 ?_
    have V := ql_V.swap V
    refine ql_cV (rest := []) (st1 := [.int rb]) (wc := (Wm cy am J B w)) (wr := ((Wo cy ad I A G T) ++ [qd_L cy ao o])) S0 V hl 0 gM_0 rfl (c_X8_takenBy l hM8) kg_L_235 rfl ⟨rfl, rfl⟩ kd_X8_takenBy ⟨(Nat.le_of_ble_eq_true rfl), (Nat.le_of_ble_eq_true rfl)⟩ rfl rfl (Nat.le_of_ble_eq_true rfl) ⟨hcN, hsN⟩ rfl dL_law_1246 (fun H locs V => ?_)
    have V := ql_V.swap V
    refine lv_istore (lv' := [(6, .int rb), (5, .int 1), (4, .int i), (3, .ref ao), (2, .ref (am 0)), (1, .ref (ad 0)), (0, .ref b)]) hx hb dL_law_1249 hl (by decide) rfl (fun ls hl => ?_)
    refine lv_aload_n hx hb dL_law_1251 rfl (lv_at hl 4 rfl) ?_
    refine ql_cVR (rest := []) (st1 := [.int (J9 1)]) (wc := (Wm cy am J9 B w)) (wr := ((Wo cy ad I A G T) ++ [qd_L cy ao o])) S0 (ql_V.swap V) hl 0 gM_0 rfl (c_X8_thrown l rfl) kg_L_200 rfl ⟨rfl, rfl⟩ kd_X8_thrown ⟨(Nat.le_of_ble_eq_true rfl), (Nat.le_of_ble_eq_true rfl)⟩ rfl rfl (Nat.le_of_ble_eq_true rfl) ⟨hcN, hsN⟩ rfl dL_law_1252 ?_
    refine lv_iload hx hb dL_law_1255 (lv_at hl 1 rfl) ?_
    refine lv_icmp_eq (tgt := 1262) hx hb dL_law_1257 (by decide) (fun _ => ?_) (fun c9 => absurd t1 c9)
    refine lv_iload hx hb dL_law_1262 (lv_at hl 1 rfl) ?_
    refine lv_if_ne (tgt := 1279) hx hb dL_law_1264 (by decide) (fun _ => ?_) (fun c9 => absurd c9 (by decide))
    refine lv_goto (tgt := 3735) hx hb dL_law_1279 (by decide) ?_
    exact K _ _ _ _ _ _ _ _ _ _ _ _ rfl hI9 V (lv_sub hl [2, 3, 4, 5, 6] rfl)
  · have hcN : cells + 1 + 0 ≤ 601024 := hc
    have hsN : slots + 6 + 0 ≤ 7293034 := hs
    obtain ⟨t1, hOut, hI9⟩ := h1 v9 hro
    have V : qw_V D cy Z s (((Wo cy ad I A G T) ++ [qd_L cy ao (vp_updL o 0 (v9).toInt64)]) ++ (Wm cy am J B w)) H locs := V
    refine lv_istore (lv' := [(5, .int 0), (4, .int i), (3, .ref ao), (2, .ref (am 0)), (1, .ref (ad 0)), (0, .ref b)]) hx hb dL_law_1237 hl (by decide) rfl (fun ls hl => ?_)
    refine lv_aload_n hx hb dL_law_1239 rfl (lv_at hl 3 rfl) ?_
    refine lv_aload_n hx hb dL_law_1240 rfl (lv_at hl 5 rfl) ?_
    refine lv_iload hx hb dL_law_1241 (lv_at hl 1 rfl) ?_
    refine lv_iconst (v := 1) hx hb dL_law_1243 (by decide) ?_
    refine lv_iadd hx hb dL_law_1244 ?_
    refine va_sld hx hb hX hbl hbA V.2.2.2.1 (hin 1 (by decide)) dL_law_1245 ?_
    have V := ql_V.swap V
    refine ql_cV (rest := []) (st1 := [.int rb]) (wc := (Wm cy am J B w)) (wr := ((Wo cy ad I A G T) ++ [qd_L cy ao (vp_updL o 0 (v9).toInt64)])) S0 V hl 0 gM_0 rfl (c_X8_takenBy l hM8) kg_L_235 rfl ⟨rfl, rfl⟩ kd_X8_takenBy ⟨(Nat.le_of_ble_eq_true rfl), (Nat.le_of_ble_eq_true rfl)⟩ rfl rfl (Nat.le_of_ble_eq_true rfl) ⟨hcN, hsN⟩ rfl dL_law_1246 (fun H locs V => ?_)
    have V := ql_V.swap V
    refine lv_istore (lv' := [(6, .int rb), (5, .int 0), (4, .int i), (3, .ref ao), (2, .ref (am 0)), (1, .ref (ad 0)), (0, .ref b)]) hx hb dL_law_1249 hl (by decide) rfl (fun ls hl => ?_)
    refine lv_aload_n hx hb dL_law_1251 rfl (lv_at hl 4 rfl) ?_
    refine ql_cVR (rest := []) (st1 := [.int (J9 1)]) (wc := (Wm cy am J9 B w)) (wr := ((Wo cy ad I A G T) ++ [qd_L cy ao (vp_updL o 0 (v9).toInt64)])) S0 (ql_V.swap V) hl 0 gM_0 rfl (c_X8_thrown l rfl) kg_L_200 rfl ⟨rfl, rfl⟩ kd_X8_thrown ⟨(Nat.le_of_ble_eq_true rfl), (Nat.le_of_ble_eq_true rfl)⟩ rfl rfl (Nat.le_of_ble_eq_true rfl) ⟨hcN, hsN⟩ rfl dL_law_1252 ?_
    refine lv_iload hx hb dL_law_1255 (lv_at hl 1 rfl) ?_
    refine lv_icmp_eq (tgt := 1262) hx hb dL_law_1257 (by decide) (fun _ => ?_) (fun c9 => absurd t1 c9)
    refine lv_iload hx hb dL_law_1262 (lv_at hl 1 rfl) ?_
    refine lv_if_ne (tgt := 1279) hx hb dL_law_1264 (by decide) (fun c9 => absurd rfl c9) (fun _ => ?_)
    refine lv_aload_n hx hb dL_law_1267 rfl (lv_at hl 3 rfl) ?_
    refine lv_iconst (v := 0) hx hb dL_law_1268 (by decide) ?_
    refine ql_lald S0 V rfl dL_law_1269 ?_
    refine lv_iload hx hb dL_law_1270 (lv_at hl 0 rfl) ?_
    refine lv_i2l hx hb dL_law_1272 rfl ?_
    refine W.lcmp hx hb dL_law_1273 ?_
    refine lv_if_eq (tgt := 1279) hx hb dL_law_1274 (by decide) (fun _ => ?_) (fun c9 => absurd (by show lg_cmp (v9).toInt64 (rb.toInt64) = 0; rw [hOut]; exact ql_cmp _) c9)
    refine lv_goto (tgt := 3735) hx hb dL_law_1279 (by decide) ?_
    exact K _ _ _ _ _ _ _ _ _ _ _ _ rfl hI9 V (lv_sub hl [2, 3, 4, 5, 6] rfl)
set_option maxHeartbeats 4000000 in
set_option maxRecDepth 100000 in
theorem ql_24 {p : Program} {l : Launch} {e : Env} {s : State} {m : MethodId} {below : List Frame} {meth : Method} {c : Code} {Q : State → Prop} {D : va_G} {cy : Nat → ClassId} {Z : Nat → Prop} {b L : Nat} {xs : Nat → Int32} (hst : l.stackTraces = false) (S0 : CallFix p m c code 7 s #[Value.ref b] qw_big RL) (hX : va_X b L xs s s.heap) (hbl : b < s.heap.size) (hbA : ¬ Z b) {Inv : ql_Inv} (hE : QE_tradeRoom Inv) {ad am : Nat → Nat} {I : Nat → Int32} {A : Nat → Nat → Int32} {G : Nat → Int32 × (Nat → Nat → Int32)} {T : Nat} {J : Nat → Int32} {B : Nat → Nat → Int32} {w : Int64} {ao : Nat} {o : Nat → Int64} {H : Heap} {locs : List Loc} {cells slots : Nat} {ls : Array Slot} (hI : Inv I A G T J B w) (V : qw_V D cy Z s (((Wo cy ad I A G T) ++ [qd_L cy ao o]) ++ (Wm cy am J B w)) H locs) {i : Int32} (hin : ∀ j : Nat, j ≤ 5 → vp_in (i + Int32.ofNat j) L) (hl : lv_has ls 7 (ql_base i ao (am 0) (ad 0) b)) (hc : cells + 1 ≤ 601024) (hs : slots + 6 ≤ 7293034) (K : ∀ (ad2 : Nat → Nat) (I : Nat → Int32) (A : Nat → Nat → Int32) (G : Nat → Int32 × (Nat → Nat → Int32)) (T : Nat) (J : Nat → Int32) (B : Nat → Nat → Int32) (w : Int64) (o : Nat → Int64) (H : Heap) (locs : List Loc) (ls : Array Slot), ad2 0 = ad 0 → Inv I A G T J B w → qw_V D cy Z s ((Wo cy ad2 I A G T ++ [qd_L cy ao o]) ++ Wm cy am J B w) H locs → lv_has ls 7 (ql_base i ao (am 0) (ad 0) b) → W p l e room_1 s m #[Value.ref b] below meth c H locs (cells + 1) (slots + 6) Q (F0 m 3735 ls [])) : W p l e room_1 s m #[Value.ref b] below meth c H locs cells slots Q (F0 m 1282 ls []) := by
  have hx := S0.1; have hb := S0.2.1
  have hc0 : cells ≤ 601024 := Nat.le_trans (Nat.le_add_right _ _) hc; have hs0 : slots ≤ 7293034 := Nat.le_trans (Nat.le_add_right _ _) hs
  obtain ⟨ro, hX7, rb, J9, hM8, h0, h1⟩ := (hE ad I A G T J B w (xs (i + 1).toNatClampNeg) (xs (i + 2).toNatClampNeg) (xs (i + 3).toNatClampNeg) hI)
  have hl : lv_has ls 7 [(4, .int i), (3, .ref ao), (2, .ref (am 0)), (1, .ref (ad 0)), (0, .ref b)] := hl
  refine lv_aload_n hx hb dL_law_1282 rfl (lv_at hl 3 rfl) ?_
  refine lv_aload_n hx hb dL_law_1283 rfl (lv_at hl 4 rfl) ?_
  refine lv_iload hx hb dL_law_1284 (lv_at hl 0 rfl) ?_
  refine lv_iconst (v := 1) hx hb dL_law_1286 (by decide) ?_
  refine lv_iadd hx hb dL_law_1287 ?_
  refine va_sld hx hb hX hbl hbA V.2.2.2.1 (hin 1 (by decide)) dL_law_1288 ?_
  refine lv_aload_n hx hb dL_law_1289 rfl (lv_at hl 4 rfl) ?_
  refine lv_iload hx hb dL_law_1290 (lv_at hl 0 rfl) ?_
  refine lv_iconst (v := 2) hx hb dL_law_1292 (by decide) ?_
  refine lv_iadd hx hb dL_law_1293 ?_
  refine va_sld hx hb hX hbl hbA V.2.2.2.1 (hin 2 (by decide)) dL_law_1294 ?_
  refine lv_aload_n hx hb dL_law_1295 rfl (lv_at hl 4 rfl) ?_
  refine lv_iload hx hb dL_law_1296 (lv_at hl 0 rfl) ?_
  refine lv_iconst (v := 3) hx hb dL_law_1298 (by decide) ?_
  refine lv_iadd hx hb dL_law_1299 ?_
  refine va_sld hx hb hX hbl hbA V.2.2.2.1 (hin 3 (by decide)) dL_law_1300 ?_
  refine lv_aload_n hx hb dL_law_1301 rfl (lv_at hl 1 rfl) ?_
  refine ql_cW (rest := []) (wc := (Wo cy ad I A G T) ++ [qd_L cy ao o]) (wr := (Wm cy am J B w)) S0 V hl (c_L_tradeRoom l hst hX7) kg_L_236 rfl ⟨rfl, rfl⟩ kd_L_tradeRoom ⟨(Nat.le_of_ble_eq_true rfl), (Nat.le_of_ble_eq_true rfl)⟩ rfl rfl (Nat.le_of_ble_eq_true rfl) ⟨hc, hs⟩ dL_law_1302 (fun H locs hro V => ?_) (fun v9 H locs hro V => ?_)
  · have hcN : cells + 1 + 0 ≤ 601024 := hc
    have hsN : slots + 6 + 0 ≤ 7293034 := hs
    obtain ⟨t1, hI9⟩ := h0 hro
    refine lv_istore (lv' := [(5, .int 1), (4, .int i), (3, .ref ao), (2, .ref (am 0)), (1, .ref (ad 0)), (0, .ref b)]) hx hb dL_law_1305 hl (by decide) rfl (fun ls hl => ?_)
    refine lv_aload_n hx hb dL_law_1307 rfl (lv_at hl 3 rfl) ?_
    refine lv_aload_n hx hb dL_law_1308 rfl (lv_at hl 5 rfl) ?_
    refine lv_iload hx hb dL_law_1309 (lv_at hl 1 rfl) ?_
    refine lv_iconst (v := 1) hx hb dL_law_1311 (by decide) ?_
    refine lv_iadd hx hb dL_law_1312 ?_
    refine va_sld hx hb hX hbl hbA V.2.2.2.1 (hin 1 (by decide)) dL_law_1313 ?_
    refine lv_aload_n hx hb dL_law_1314 rfl (lv_at hl 5 rfl) ?_
    refine lv_iload hx hb dL_law_1315 (lv_at hl 1 rfl) ?_
    refine lv_iconst (v := 2) hx hb dL_law_1317 (by decide) ?_
    refine lv_iadd hx hb dL_law_1318 ?_
    refine va_sld hx hb hX hbl hbA V.2.2.2.1 (hin 2 (by decide)) dL_law_1319 ?_
    refine lv_aload_n hx hb dL_law_1320 rfl (lv_at hl 5 rfl) ?_
    refine lv_iload hx hb dL_law_1321 (lv_at hl 1 rfl) ?_
    refine lv_iconst (v := 3) hx hb dL_law_1323 (by decide) ?_
    refine lv_iadd hx hb dL_law_1324 ?_
    refine va_sld hx hb hX hbl hbA V.2.2.2.1 (hin 3 (by decide)) dL_law_1325 ?_
    have V := ql_V.swap V
    refine ql_cV (rest := []) (st1 := [.int rb]) (wc := (Wm cy am J B w)) (wr := ((Wo cy ad I A G T) ++ [qd_L cy ao o])) S0 V hl 0 gM_0 rfl (c_X8_tradeRoom l hM8) kg_L_238 rfl ⟨rfl, rfl⟩ kd_X8_tradeRoom ⟨(Nat.le_of_ble_eq_true rfl), (Nat.le_of_ble_eq_true rfl)⟩ rfl rfl (Nat.le_of_ble_eq_true rfl) ⟨hcN, hsN⟩ rfl dL_law_1326 (fun H locs V => ?_)
    have V := ql_V.swap V
    refine lv_istore (lv' := [(6, .int rb), (5, .int 1), (4, .int i), (3, .ref ao), (2, .ref (am 0)), (1, .ref (ad 0)), (0, .ref b)]) hx hb dL_law_1329 hl (by decide) rfl (fun ls hl => ?_)
    refine lv_aload_n hx hb dL_law_1331 rfl (lv_at hl 4 rfl) ?_
    refine ql_cVR (rest := []) (st1 := [.int (J9 1)]) (wc := (Wm cy am J9 B w)) (wr := ((Wo cy ad I A G T) ++ [qd_L cy ao o])) S0 (ql_V.swap V) hl 0 gM_0 rfl (c_X8_thrown l rfl) kg_L_200 rfl ⟨rfl, rfl⟩ kd_X8_thrown ⟨(Nat.le_of_ble_eq_true rfl), (Nat.le_of_ble_eq_true rfl)⟩ rfl rfl (Nat.le_of_ble_eq_true rfl) ⟨hcN, hsN⟩ rfl dL_law_1332 ?_
    refine lv_iload hx hb dL_law_1335 (lv_at hl 1 rfl) ?_
    refine lv_icmp_eq (tgt := 1342) hx hb dL_law_1337 (by decide) (fun _ => ?_) (fun c9 => absurd t1 c9)
    refine lv_iload hx hb dL_law_1342 (lv_at hl 1 rfl) ?_
    refine lv_if_ne (tgt := 1359) hx hb dL_law_1344 (by decide) (fun _ => ?_) (fun c9 => absurd c9 (by decide))
    refine lv_goto (tgt := 3735) hx hb dL_law_1359 (by decide) ?_
    exact K _ _ _ _ _ _ _ _ _ _ _ _ rfl hI9 V (lv_sub hl [2, 3, 4, 5, 6] rfl)
  · have hcN : cells + 1 + 0 ≤ 601024 := hc
    have hsN : slots + 6 + 0 ≤ 7293034 := hs
    obtain ⟨t1, hOut, hI9⟩ := h1 v9 hro
    have V : qw_V D cy Z s (((Wo cy ad I A G T) ++ [qd_L cy ao (vp_updL o 0 (v9).toInt64)]) ++ (Wm cy am J B w)) H locs := V
    refine lv_istore (lv' := [(5, .int 0), (4, .int i), (3, .ref ao), (2, .ref (am 0)), (1, .ref (ad 0)), (0, .ref b)]) hx hb dL_law_1305 hl (by decide) rfl (fun ls hl => ?_)
    refine lv_aload_n hx hb dL_law_1307 rfl (lv_at hl 3 rfl) ?_
    refine lv_aload_n hx hb dL_law_1308 rfl (lv_at hl 5 rfl) ?_
    refine lv_iload hx hb dL_law_1309 (lv_at hl 1 rfl) ?_
    refine lv_iconst (v := 1) hx hb dL_law_1311 (by decide) ?_
    refine lv_iadd hx hb dL_law_1312 ?_
    refine va_sld hx hb hX hbl hbA V.2.2.2.1 (hin 1 (by decide)) dL_law_1313 ?_
    refine lv_aload_n hx hb dL_law_1314 rfl (lv_at hl 5 rfl) ?_
    refine lv_iload hx hb dL_law_1315 (lv_at hl 1 rfl) ?_
    refine lv_iconst (v := 2) hx hb dL_law_1317 (by decide) ?_
    refine lv_iadd hx hb dL_law_1318 ?_
    refine va_sld hx hb hX hbl hbA V.2.2.2.1 (hin 2 (by decide)) dL_law_1319 ?_
    refine lv_aload_n hx hb dL_law_1320 rfl (lv_at hl 5 rfl) ?_
    refine lv_iload hx hb dL_law_1321 (lv_at hl 1 rfl) ?_
    refine lv_iconst (v := 3) hx hb dL_law_1323 (by decide) ?_
    refine lv_iadd hx hb dL_law_1324 ?_
    refine va_sld hx hb hX hbl hbA V.2.2.2.1 (hin 3 (by decide)) dL_law_1325 ?_
    have V := ql_V.swap V
    refine ql_cV (rest := []) (st1 := [.int rb]) (wc := (Wm cy am J B w)) (wr := ((Wo cy ad I A G T) ++ [qd_L cy ao (vp_updL o 0 (v9).toInt64)])) S0 V hl 0 gM_0 rfl (c_X8_tradeRoom l hM8) kg_L_238 rfl ⟨rfl, rfl⟩ kd_X8_tradeRoom ⟨(Nat.le_of_ble_eq_true rfl), (Nat.le_of_ble_eq_true rfl)⟩ rfl rfl (Nat.le_of_ble_eq_true rfl) ⟨hcN, hsN⟩ rfl dL_law_1326 (fun H locs V => ?_)
    have V := ql_V.swap V
    refine lv_istore (lv' := [(6, .int rb), (5, .int 0), (4, .int i), (3, .ref ao), (2, .ref (am 0)), (1, .ref (ad 0)), (0, .ref b)]) hx hb dL_law_1329 hl (by decide) rfl (fun ls hl => ?_)
    refine lv_aload_n hx hb dL_law_1331 rfl (lv_at hl 4 rfl) ?_
    refine ql_cVR (rest := []) (st1 := [.int (J9 1)]) (wc := (Wm cy am J9 B w)) (wr := ((Wo cy ad I A G T) ++ [qd_L cy ao (vp_updL o 0 (v9).toInt64)])) S0 (ql_V.swap V) hl 0 gM_0 rfl (c_X8_thrown l rfl) kg_L_200 rfl ⟨rfl, rfl⟩ kd_X8_thrown ⟨(Nat.le_of_ble_eq_true rfl), (Nat.le_of_ble_eq_true rfl)⟩ rfl rfl (Nat.le_of_ble_eq_true rfl) ⟨hcN, hsN⟩ rfl dL_law_1332 ?_
    refine lv_iload hx hb dL_law_1335 (lv_at hl 1 rfl) ?_
    refine lv_icmp_eq (tgt := 1342) hx hb dL_law_1337 (by decide) (fun _ => ?_) (fun c9 => absurd t1 c9)
    refine lv_iload hx hb dL_law_1342 (lv_at hl 1 rfl) ?_
    refine lv_if_ne (tgt := 1359) hx hb dL_law_1344 (by decide) (fun c9 => absurd rfl c9) (fun _ => ?_)
    refine lv_aload_n hx hb dL_law_1347 rfl (lv_at hl 3 rfl) ?_
    refine lv_iconst (v := 0) hx hb dL_law_1348 (by decide) ?_
    refine ql_lald S0 V rfl dL_law_1349 ?_
    refine lv_iload hx hb dL_law_1350 (lv_at hl 0 rfl) ?_
    refine lv_i2l hx hb dL_law_1352 rfl ?_
    refine W.lcmp hx hb dL_law_1353 ?_
    refine lv_if_eq (tgt := 1359) hx hb dL_law_1354 (by decide) (fun _ => ?_) (fun c9 => absurd (by show lg_cmp (v9).toInt64 (rb.toInt64) = 0; rw [hOut]; exact ql_cmp _) c9)
    refine lv_goto (tgt := 3735) hx hb dL_law_1359 (by decide) ?_
    exact K _ _ _ _ _ _ _ _ _ _ _ _ rfl hI9 V (lv_sub hl [2, 3, 4, 5, 6] rfl)
set_option maxHeartbeats 4000000 in
set_option maxRecDepth 100000 in
theorem ql_25 {p : Program} {l : Launch} {e : Env} {s : State} {m : MethodId} {below : List Frame} {meth : Method} {c : Code} {Q : State → Prop} {D : va_G} {cy : Nat → ClassId} {Z : Nat → Prop} {b L : Nat} {xs : Nat → Int32} (hst : l.stackTraces = false) (S0 : CallFix p m c code 7 s #[Value.ref b] qw_big RL) (hX : va_X b L xs s s.heap) (hbl : b < s.heap.size) (hbA : ¬ Z b) {Inv : ql_Inv} (hE : QE_helpers Inv) {ad am : Nat → Nat} {I : Nat → Int32} {A : Nat → Nat → Int32} {G : Nat → Int32 × (Nat → Nat → Int32)} {T : Nat} {J : Nat → Int32} {B : Nat → Nat → Int32} {w : Int64} {ao : Nat} {o : Nat → Int64} {H : Heap} {locs : List Loc} {cells slots : Nat} {ls : Array Slot} (hI : Inv I A G T J B w) (V : qw_V D cy Z s (((Wo cy ad I A G T) ++ [qd_L cy ao o]) ++ (Wm cy am J B w)) H locs) {i : Int32} (hin : ∀ j : Nat, j ≤ 5 → vp_in (i + Int32.ofNat j) L) (hl : lv_has ls 7 (ql_base i ao (am 0) (ad 0) b)) (hc : cells + 1 ≤ 601024) (hs : slots + 6 ≤ 7293034) (K : ∀ (ad2 : Nat → Nat) (I : Nat → Int32) (A : Nat → Nat → Int32) (G : Nat → Int32 × (Nat → Nat → Int32)) (T : Nat) (J : Nat → Int32) (B : Nat → Nat → Int32) (w : Int64) (o : Nat → Int64) (H : Heap) (locs : List Loc) (ls : Array Slot), ad2 0 = ad 0 → Inv I A G T J B w → qw_V D cy Z s ((Wo cy ad2 I A G T ++ [qd_L cy ao o]) ++ Wm cy am J B w) H locs → lv_has ls 7 (ql_base i ao (am 0) (ad 0) b) → W p l e room_1 s m #[Value.ref b] below meth c H locs (cells + 1) (slots + 6) Q (F0 m 3735 ls [])) : W p l e room_1 s m #[Value.ref b] below meth c H locs cells slots Q (F0 m 1362 ls []) := by
  have hx := S0.1; have hb := S0.2.1
  have hc0 : cells ≤ 601024 := Nat.le_trans (Nat.le_add_right _ _) hc; have hs0 : slots ≤ 7293034 := Nat.le_trans (Nat.le_add_right _ _) hs
  obtain ⟨ro, hX7, rb, J9, hM8, h0, h1⟩ := (hE ad I A G T J B w (xs (i + 1).toNatClampNeg) (xs (i + 2).toNatClampNeg) (xs (i + 3).toNatClampNeg) hI)
  have hl : lv_has ls 7 [(4, .int i), (3, .ref ao), (2, .ref (am 0)), (1, .ref (ad 0)), (0, .ref b)] := hl
  refine lv_aload_n hx hb dL_law_1362 rfl (lv_at hl 3 rfl) ?_
  refine lv_aload_n hx hb dL_law_1363 rfl (lv_at hl 4 rfl) ?_
  refine lv_iload hx hb dL_law_1364 (lv_at hl 0 rfl) ?_
  refine lv_iconst (v := 1) hx hb dL_law_1366 (by decide) ?_
  refine lv_iadd hx hb dL_law_1367 ?_
  refine va_sld hx hb hX hbl hbA V.2.2.2.1 (hin 1 (by decide)) dL_law_1368 ?_
  refine lv_aload_n hx hb dL_law_1369 rfl (lv_at hl 4 rfl) ?_
  refine lv_iload hx hb dL_law_1370 (lv_at hl 0 rfl) ?_
  refine lv_iconst (v := 2) hx hb dL_law_1372 (by decide) ?_
  refine lv_iadd hx hb dL_law_1373 ?_
  refine va_sld hx hb hX hbl hbA V.2.2.2.1 (hin 2 (by decide)) dL_law_1374 ?_
  refine lv_aload_n hx hb dL_law_1375 rfl (lv_at hl 4 rfl) ?_
  refine lv_iload hx hb dL_law_1376 (lv_at hl 0 rfl) ?_
  refine lv_iconst (v := 3) hx hb dL_law_1378 (by decide) ?_
  refine lv_iadd hx hb dL_law_1379 ?_
  refine va_sld hx hb hX hbl hbA V.2.2.2.1 (hin 3 (by decide)) dL_law_1380 ?_
  refine lv_aload_n hx hb dL_law_1381 rfl (lv_at hl 1 rfl) ?_
  refine ql_cW (rest := []) (wc := (Wo cy ad I A G T) ++ [qd_L cy ao o]) (wr := (Wm cy am J B w)) S0 V hl (c_L_helpers l hst hX7) kg_L_239 rfl ⟨rfl, rfl⟩ kd_L_helpers ⟨(Nat.le_of_ble_eq_true rfl), (Nat.le_of_ble_eq_true rfl)⟩ rfl rfl (Nat.le_of_ble_eq_true rfl) ⟨hc, hs⟩ dL_law_1382 (fun H locs hro V => ?_) (fun v9 H locs hro V => ?_)
  · have hcN : cells + 1 + 0 ≤ 601024 := hc
    have hsN : slots + 6 + 0 ≤ 7293034 := hs
    obtain ⟨t1, hI9⟩ := h0 hro
    refine lv_istore (lv' := [(5, .int 1), (4, .int i), (3, .ref ao), (2, .ref (am 0)), (1, .ref (ad 0)), (0, .ref b)]) hx hb dL_law_1385 hl (by decide) rfl (fun ls hl => ?_)
    refine lv_aload_n hx hb dL_law_1387 rfl (lv_at hl 3 rfl) ?_
    refine lv_aload_n hx hb dL_law_1388 rfl (lv_at hl 5 rfl) ?_
    refine lv_iload hx hb dL_law_1389 (lv_at hl 1 rfl) ?_
    refine lv_iconst (v := 1) hx hb dL_law_1391 (by decide) ?_
    refine lv_iadd hx hb dL_law_1392 ?_
    refine va_sld hx hb hX hbl hbA V.2.2.2.1 (hin 1 (by decide)) dL_law_1393 ?_
    refine lv_aload_n hx hb dL_law_1394 rfl (lv_at hl 5 rfl) ?_
    refine lv_iload hx hb dL_law_1395 (lv_at hl 1 rfl) ?_
    refine lv_iconst (v := 2) hx hb dL_law_1397 (by decide) ?_
    refine lv_iadd hx hb dL_law_1398 ?_
    refine va_sld hx hb hX hbl hbA V.2.2.2.1 (hin 2 (by decide)) dL_law_1399 ?_
    refine lv_aload_n hx hb dL_law_1400 rfl (lv_at hl 5 rfl) ?_
    refine lv_iload hx hb dL_law_1401 (lv_at hl 1 rfl) ?_
    refine lv_iconst (v := 3) hx hb dL_law_1403 (by decide) ?_
    refine lv_iadd hx hb dL_law_1404 ?_
    refine va_sld hx hb hX hbl hbA V.2.2.2.1 (hin 3 (by decide)) dL_law_1405 ?_
    have V := ql_V.swap V
    refine ql_cV (rest := []) (st1 := [.int rb]) (wc := (Wm cy am J B w)) (wr := ((Wo cy ad I A G T) ++ [qd_L cy ao o])) S0 V hl 0 gM_0 rfl (c_X8_helpers l hM8) kg_L_241 rfl ⟨rfl, rfl⟩ kd_X8_helpers ⟨(Nat.le_of_ble_eq_true rfl), (Nat.le_of_ble_eq_true rfl)⟩ rfl rfl (Nat.le_of_ble_eq_true rfl) ⟨hcN, hsN⟩ rfl dL_law_1406 (fun H locs V => ?_)
    have V := ql_V.swap V
    refine lv_istore (lv' := [(6, .int rb), (5, .int 1), (4, .int i), (3, .ref ao), (2, .ref (am 0)), (1, .ref (ad 0)), (0, .ref b)]) hx hb dL_law_1409 hl (by decide) rfl (fun ls hl => ?_)
    refine lv_aload_n hx hb dL_law_1411 rfl (lv_at hl 4 rfl) ?_
    refine ql_cVR (rest := []) (st1 := [.int (J9 1)]) (wc := (Wm cy am J9 B w)) (wr := ((Wo cy ad I A G T) ++ [qd_L cy ao o])) S0 (ql_V.swap V) hl 0 gM_0 rfl (c_X8_thrown l rfl) kg_L_200 rfl ⟨rfl, rfl⟩ kd_X8_thrown ⟨(Nat.le_of_ble_eq_true rfl), (Nat.le_of_ble_eq_true rfl)⟩ rfl rfl (Nat.le_of_ble_eq_true rfl) ⟨hcN, hsN⟩ rfl dL_law_1412 ?_
    refine lv_iload hx hb dL_law_1415 (lv_at hl 1 rfl) ?_
    refine lv_icmp_eq (tgt := 1422) hx hb dL_law_1417 (by decide) (fun _ => ?_) (fun c9 => absurd t1 c9)
    refine lv_iload hx hb dL_law_1422 (lv_at hl 1 rfl) ?_
    refine lv_if_ne (tgt := 1439) hx hb dL_law_1424 (by decide) (fun _ => ?_) (fun c9 => absurd c9 (by decide))
    refine lv_goto (tgt := 3735) hx hb dL_law_1439 (by decide) ?_
    exact K _ _ _ _ _ _ _ _ _ _ _ _ rfl hI9 V (lv_sub hl [2, 3, 4, 5, 6] rfl)
  · have hcN : cells + 1 + 0 ≤ 601024 := hc
    have hsN : slots + 6 + 0 ≤ 7293034 := hs
    obtain ⟨t1, hOut, hI9⟩ := h1 v9 hro
    have V : qw_V D cy Z s (((Wo cy ad I A G T) ++ [qd_L cy ao (vp_updL o 0 (v9).toInt64)]) ++ (Wm cy am J B w)) H locs := V
    refine lv_istore (lv' := [(5, .int 0), (4, .int i), (3, .ref ao), (2, .ref (am 0)), (1, .ref (ad 0)), (0, .ref b)]) hx hb dL_law_1385 hl (by decide) rfl (fun ls hl => ?_)
    refine lv_aload_n hx hb dL_law_1387 rfl (lv_at hl 3 rfl) ?_
    refine lv_aload_n hx hb dL_law_1388 rfl (lv_at hl 5 rfl) ?_
    refine lv_iload hx hb dL_law_1389 (lv_at hl 1 rfl) ?_
    refine lv_iconst (v := 1) hx hb dL_law_1391 (by decide) ?_
    refine lv_iadd hx hb dL_law_1392 ?_
    refine va_sld hx hb hX hbl hbA V.2.2.2.1 (hin 1 (by decide)) dL_law_1393 ?_
    refine lv_aload_n hx hb dL_law_1394 rfl (lv_at hl 5 rfl) ?_
    refine lv_iload hx hb dL_law_1395 (lv_at hl 1 rfl) ?_
    refine lv_iconst (v := 2) hx hb dL_law_1397 (by decide) ?_
    refine lv_iadd hx hb dL_law_1398 ?_
    refine va_sld hx hb hX hbl hbA V.2.2.2.1 (hin 2 (by decide)) dL_law_1399 ?_
    refine lv_aload_n hx hb dL_law_1400 rfl (lv_at hl 5 rfl) ?_
    refine lv_iload hx hb dL_law_1401 (lv_at hl 1 rfl) ?_
    refine lv_iconst (v := 3) hx hb dL_law_1403 (by decide) ?_
    refine lv_iadd hx hb dL_law_1404 ?_
    refine va_sld hx hb hX hbl hbA V.2.2.2.1 (hin 3 (by decide)) dL_law_1405 ?_
    have V := ql_V.swap V
    refine ql_cV (rest := []) (st1 := [.int rb]) (wc := (Wm cy am J B w)) (wr := ((Wo cy ad I A G T) ++ [qd_L cy ao (vp_updL o 0 (v9).toInt64)])) S0 V hl 0 gM_0 rfl (c_X8_helpers l hM8) kg_L_241 rfl ⟨rfl, rfl⟩ kd_X8_helpers ⟨(Nat.le_of_ble_eq_true rfl), (Nat.le_of_ble_eq_true rfl)⟩ rfl rfl (Nat.le_of_ble_eq_true rfl) ⟨hcN, hsN⟩ rfl dL_law_1406 (fun H locs V => ?_)
    have V := ql_V.swap V
    refine lv_istore (lv' := [(6, .int rb), (5, .int 0), (4, .int i), (3, .ref ao), (2, .ref (am 0)), (1, .ref (ad 0)), (0, .ref b)]) hx hb dL_law_1409 hl (by decide) rfl (fun ls hl => ?_)
    refine lv_aload_n hx hb dL_law_1411 rfl (lv_at hl 4 rfl) ?_
    refine ql_cVR (rest := []) (st1 := [.int (J9 1)]) (wc := (Wm cy am J9 B w)) (wr := ((Wo cy ad I A G T) ++ [qd_L cy ao (vp_updL o 0 (v9).toInt64)])) S0 (ql_V.swap V) hl 0 gM_0 rfl (c_X8_thrown l rfl) kg_L_200 rfl ⟨rfl, rfl⟩ kd_X8_thrown ⟨(Nat.le_of_ble_eq_true rfl), (Nat.le_of_ble_eq_true rfl)⟩ rfl rfl (Nat.le_of_ble_eq_true rfl) ⟨hcN, hsN⟩ rfl dL_law_1412 ?_
    refine lv_iload hx hb dL_law_1415 (lv_at hl 1 rfl) ?_
    refine lv_icmp_eq (tgt := 1422) hx hb dL_law_1417 (by decide) (fun _ => ?_) (fun c9 => absurd t1 c9)
    refine lv_iload hx hb dL_law_1422 (lv_at hl 1 rfl) ?_
    refine lv_if_ne (tgt := 1439) hx hb dL_law_1424 (by decide) (fun c9 => absurd rfl c9) (fun _ => ?_)
    refine lv_aload_n hx hb dL_law_1427 rfl (lv_at hl 3 rfl) ?_
    refine lv_iconst (v := 0) hx hb dL_law_1428 (by decide) ?_
    refine ql_lald S0 V rfl dL_law_1429 ?_
    refine lv_iload hx hb dL_law_1430 (lv_at hl 0 rfl) ?_
    refine lv_i2l hx hb dL_law_1432 rfl ?_
    refine W.lcmp hx hb dL_law_1433 ?_
    refine lv_if_eq (tgt := 1439) hx hb dL_law_1434 (by decide) (fun _ => ?_) (fun c9 => absurd (by show lg_cmp (v9).toInt64 (rb.toInt64) = 0; rw [hOut]; exact ql_cmp _) c9)
    refine lv_goto (tgt := 3735) hx hb dL_law_1439 (by decide) ?_
    exact K _ _ _ _ _ _ _ _ _ _ _ _ rfl hI9 V (lv_sub hl [2, 3, 4, 5, 6] rfl)
set_option maxHeartbeats 4000000 in
set_option maxRecDepth 100000 in
theorem ql_26 {p : Program} {l : Launch} {e : Env} {s : State} {m : MethodId} {below : List Frame} {meth : Method} {c : Code} {Q : State → Prop} {D : va_G} {cy : Nat → ClassId} {Z : Nat → Prop} {b L : Nat} {xs : Nat → Int32} (hst : l.stackTraces = false) (S0 : CallFix p m c code 7 s #[Value.ref b] qw_big RL) (hX : va_X b L xs s s.heap) (hbl : b < s.heap.size) (hbA : ¬ Z b) {Inv : ql_Inv} (hE : QE_stockOf Inv) {ad am : Nat → Nat} {I : Nat → Int32} {A : Nat → Nat → Int32} {G : Nat → Int32 × (Nat → Nat → Int32)} {T : Nat} {J : Nat → Int32} {B : Nat → Nat → Int32} {w : Int64} {ao : Nat} {o : Nat → Int64} {H : Heap} {locs : List Loc} {cells slots : Nat} {ls : Array Slot} (hI : Inv I A G T J B w) (V : qw_V D cy Z s (((Wo cy ad I A G T) ++ [qd_L cy ao o]) ++ (Wm cy am J B w)) H locs) {i : Int32} (hin : ∀ j : Nat, j ≤ 5 → vp_in (i + Int32.ofNat j) L) (hl : lv_has ls 7 (ql_base i ao (am 0) (ad 0) b)) (hc : cells + 1 ≤ 601024) (hs : slots + 6 ≤ 7293034) (K : ∀ (ad2 : Nat → Nat) (I : Nat → Int32) (A : Nat → Nat → Int32) (G : Nat → Int32 × (Nat → Nat → Int32)) (T : Nat) (J : Nat → Int32) (B : Nat → Nat → Int32) (w : Int64) (o : Nat → Int64) (H : Heap) (locs : List Loc) (ls : Array Slot), ad2 0 = ad 0 → Inv I A G T J B w → qw_V D cy Z s ((Wo cy ad2 I A G T ++ [qd_L cy ao o]) ++ Wm cy am J B w) H locs → lv_has ls 7 (ql_base i ao (am 0) (ad 0) b) → W p l e room_1 s m #[Value.ref b] below meth c H locs (cells + 1) (slots + 6) Q (F0 m 3735 ls [])) : W p l e room_1 s m #[Value.ref b] below meth c H locs cells slots Q (F0 m 1442 ls []) := by
  have hx := S0.1; have hb := S0.2.1
  have hc0 : cells ≤ 601024 := Nat.le_trans (Nat.le_add_right _ _) hc; have hs0 : slots ≤ 7293034 := Nat.le_trans (Nat.le_add_right _ _) hs
  obtain ⟨ro, hX7, rb, J9, hM8, h0, h1⟩ := (hE ad I A G T J B w (xs (i + 1).toNatClampNeg) (xs (i + 2).toNatClampNeg) hI)
  have hl : lv_has ls 7 [(4, .int i), (3, .ref ao), (2, .ref (am 0)), (1, .ref (ad 0)), (0, .ref b)] := hl
  refine lv_aload_n hx hb dL_law_1442 rfl (lv_at hl 3 rfl) ?_
  refine lv_aload_n hx hb dL_law_1443 rfl (lv_at hl 4 rfl) ?_
  refine lv_iload hx hb dL_law_1444 (lv_at hl 0 rfl) ?_
  refine lv_iconst (v := 1) hx hb dL_law_1446 (by decide) ?_
  refine lv_iadd hx hb dL_law_1447 ?_
  refine va_sld hx hb hX hbl hbA V.2.2.2.1 (hin 1 (by decide)) dL_law_1448 ?_
  refine lv_aload_n hx hb dL_law_1449 rfl (lv_at hl 4 rfl) ?_
  refine lv_iload hx hb dL_law_1450 (lv_at hl 0 rfl) ?_
  refine lv_iconst (v := 2) hx hb dL_law_1452 (by decide) ?_
  refine lv_iadd hx hb dL_law_1453 ?_
  refine va_sld hx hb hX hbl hbA V.2.2.2.1 (hin 2 (by decide)) dL_law_1454 ?_
  refine lv_aload_n hx hb dL_law_1455 rfl (lv_at hl 1 rfl) ?_
  refine ql_cW (rest := []) (wc := (Wo cy ad I A G T) ++ [qd_L cy ao o]) (wr := (Wm cy am J B w)) S0 V hl (c_L_stockOf l hst hX7) kg_L_242 rfl ⟨rfl, rfl⟩ kd_L_stockOf ⟨(Nat.le_of_ble_eq_true rfl), (Nat.le_of_ble_eq_true rfl)⟩ rfl rfl (Nat.le_of_ble_eq_true rfl) ⟨hc, hs⟩ dL_law_1456 (fun H locs hro V => ?_) (fun v9 H locs hro V => ?_)
  · have hcN : cells + 1 + 0 ≤ 601024 := hc
    have hsN : slots + 6 + 0 ≤ 7293034 := hs
    obtain ⟨t1, hI9⟩ := h0 hro
    refine lv_istore (lv' := [(5, .int 1), (4, .int i), (3, .ref ao), (2, .ref (am 0)), (1, .ref (ad 0)), (0, .ref b)]) hx hb dL_law_1459 hl (by decide) rfl (fun ls hl => ?_)
    refine lv_aload_n hx hb dL_law_1461 rfl (lv_at hl 3 rfl) ?_
    refine lv_aload_n hx hb dL_law_1462 rfl (lv_at hl 5 rfl) ?_
    refine lv_iload hx hb dL_law_1463 (lv_at hl 1 rfl) ?_
    refine lv_iconst (v := 1) hx hb dL_law_1465 (by decide) ?_
    refine lv_iadd hx hb dL_law_1466 ?_
    refine va_sld hx hb hX hbl hbA V.2.2.2.1 (hin 1 (by decide)) dL_law_1467 ?_
    refine lv_aload_n hx hb dL_law_1468 rfl (lv_at hl 5 rfl) ?_
    refine lv_iload hx hb dL_law_1469 (lv_at hl 1 rfl) ?_
    refine lv_iconst (v := 2) hx hb dL_law_1471 (by decide) ?_
    refine lv_iadd hx hb dL_law_1472 ?_
    refine va_sld hx hb hX hbl hbA V.2.2.2.1 (hin 2 (by decide)) dL_law_1473 ?_
    have V := ql_V.swap V
    refine ql_cV (rest := []) (st1 := [.int rb]) (wc := (Wm cy am J B w)) (wr := ((Wo cy ad I A G T) ++ [qd_L cy ao o])) S0 V hl 0 gM_0 rfl (c_X8_stockOf l hM8) kg_L_244 rfl ⟨rfl, rfl⟩ kd_X8_stockOf ⟨(Nat.le_of_ble_eq_true rfl), (Nat.le_of_ble_eq_true rfl)⟩ rfl rfl (Nat.le_of_ble_eq_true rfl) ⟨hcN, hsN⟩ rfl dL_law_1474 (fun H locs V => ?_)
    have V := ql_V.swap V
    refine lv_istore (lv' := [(6, .int rb), (5, .int 1), (4, .int i), (3, .ref ao), (2, .ref (am 0)), (1, .ref (ad 0)), (0, .ref b)]) hx hb dL_law_1477 hl (by decide) rfl (fun ls hl => ?_)
    refine lv_aload_n hx hb dL_law_1479 rfl (lv_at hl 4 rfl) ?_
    refine ql_cVR (rest := []) (st1 := [.int (J9 1)]) (wc := (Wm cy am J9 B w)) (wr := ((Wo cy ad I A G T) ++ [qd_L cy ao o])) S0 (ql_V.swap V) hl 0 gM_0 rfl (c_X8_thrown l rfl) kg_L_200 rfl ⟨rfl, rfl⟩ kd_X8_thrown ⟨(Nat.le_of_ble_eq_true rfl), (Nat.le_of_ble_eq_true rfl)⟩ rfl rfl (Nat.le_of_ble_eq_true rfl) ⟨hcN, hsN⟩ rfl dL_law_1480 ?_
    refine lv_iload hx hb dL_law_1483 (lv_at hl 1 rfl) ?_
    refine lv_icmp_eq (tgt := 1490) hx hb dL_law_1485 (by decide) (fun _ => ?_) (fun c9 => absurd t1 c9)
    refine lv_iload hx hb dL_law_1490 (lv_at hl 1 rfl) ?_
    refine lv_if_ne (tgt := 1507) hx hb dL_law_1492 (by decide) (fun _ => ?_) (fun c9 => absurd c9 (by decide))
    refine lv_goto (tgt := 3735) hx hb dL_law_1507 (by decide) ?_
    exact K _ _ _ _ _ _ _ _ _ _ _ _ rfl hI9 V (lv_sub hl [2, 3, 4, 5, 6] rfl)
  · have hcN : cells + 1 + 0 ≤ 601024 := hc
    have hsN : slots + 6 + 0 ≤ 7293034 := hs
    obtain ⟨t1, hOut, hI9⟩ := h1 v9 hro
    have V : qw_V D cy Z s (((Wo cy ad I A G T) ++ [qd_L cy ao (vp_updL o 0 (v9).toInt64)]) ++ (Wm cy am J B w)) H locs := V
    refine lv_istore (lv' := [(5, .int 0), (4, .int i), (3, .ref ao), (2, .ref (am 0)), (1, .ref (ad 0)), (0, .ref b)]) hx hb dL_law_1459 hl (by decide) rfl (fun ls hl => ?_)
    refine lv_aload_n hx hb dL_law_1461 rfl (lv_at hl 3 rfl) ?_
    refine lv_aload_n hx hb dL_law_1462 rfl (lv_at hl 5 rfl) ?_
    refine lv_iload hx hb dL_law_1463 (lv_at hl 1 rfl) ?_
    refine lv_iconst (v := 1) hx hb dL_law_1465 (by decide) ?_
    refine lv_iadd hx hb dL_law_1466 ?_
    refine va_sld hx hb hX hbl hbA V.2.2.2.1 (hin 1 (by decide)) dL_law_1467 ?_
    refine lv_aload_n hx hb dL_law_1468 rfl (lv_at hl 5 rfl) ?_
    refine lv_iload hx hb dL_law_1469 (lv_at hl 1 rfl) ?_
    refine lv_iconst (v := 2) hx hb dL_law_1471 (by decide) ?_
    refine lv_iadd hx hb dL_law_1472 ?_
    refine va_sld hx hb hX hbl hbA V.2.2.2.1 (hin 2 (by decide)) dL_law_1473 ?_
    have V := ql_V.swap V
    refine ql_cV (rest := []) (st1 := [.int rb]) (wc := (Wm cy am J B w)) (wr := ((Wo cy ad I A G T) ++ [qd_L cy ao (vp_updL o 0 (v9).toInt64)])) S0 V hl 0 gM_0 rfl (c_X8_stockOf l hM8) kg_L_244 rfl ⟨rfl, rfl⟩ kd_X8_stockOf ⟨(Nat.le_of_ble_eq_true rfl), (Nat.le_of_ble_eq_true rfl)⟩ rfl rfl (Nat.le_of_ble_eq_true rfl) ⟨hcN, hsN⟩ rfl dL_law_1474 (fun H locs V => ?_)
    have V := ql_V.swap V
    refine lv_istore (lv' := [(6, .int rb), (5, .int 0), (4, .int i), (3, .ref ao), (2, .ref (am 0)), (1, .ref (ad 0)), (0, .ref b)]) hx hb dL_law_1477 hl (by decide) rfl (fun ls hl => ?_)
    refine lv_aload_n hx hb dL_law_1479 rfl (lv_at hl 4 rfl) ?_
    refine ql_cVR (rest := []) (st1 := [.int (J9 1)]) (wc := (Wm cy am J9 B w)) (wr := ((Wo cy ad I A G T) ++ [qd_L cy ao (vp_updL o 0 (v9).toInt64)])) S0 (ql_V.swap V) hl 0 gM_0 rfl (c_X8_thrown l rfl) kg_L_200 rfl ⟨rfl, rfl⟩ kd_X8_thrown ⟨(Nat.le_of_ble_eq_true rfl), (Nat.le_of_ble_eq_true rfl)⟩ rfl rfl (Nat.le_of_ble_eq_true rfl) ⟨hcN, hsN⟩ rfl dL_law_1480 ?_
    refine lv_iload hx hb dL_law_1483 (lv_at hl 1 rfl) ?_
    refine lv_icmp_eq (tgt := 1490) hx hb dL_law_1485 (by decide) (fun _ => ?_) (fun c9 => absurd t1 c9)
    refine lv_iload hx hb dL_law_1490 (lv_at hl 1 rfl) ?_
    refine lv_if_ne (tgt := 1507) hx hb dL_law_1492 (by decide) (fun c9 => absurd rfl c9) (fun _ => ?_)
    refine lv_aload_n hx hb dL_law_1495 rfl (lv_at hl 3 rfl) ?_
    refine lv_iconst (v := 0) hx hb dL_law_1496 (by decide) ?_
    refine ql_lald S0 V rfl dL_law_1497 ?_
    refine lv_iload hx hb dL_law_1498 (lv_at hl 0 rfl) ?_
    refine lv_i2l hx hb dL_law_1500 rfl ?_
    refine W.lcmp hx hb dL_law_1501 ?_
    refine lv_if_eq (tgt := 1507) hx hb dL_law_1502 (by decide) (fun _ => ?_) (fun c9 => absurd (by show lg_cmp (v9).toInt64 (rb.toInt64) = 0; rw [hOut]; exact ql_cmp _) c9)
    refine lv_goto (tgt := 3735) hx hb dL_law_1507 (by decide) ?_
    exact K _ _ _ _ _ _ _ _ _ _ _ _ rfl hI9 V (lv_sub hl [2, 3, 4, 5, 6] rfl)
set_option maxHeartbeats 4000000 in
set_option maxRecDepth 100000 in
theorem ql_27 {p : Program} {l : Launch} {e : Env} {s : State} {m : MethodId} {below : List Frame} {meth : Method} {c : Code} {Q : State → Prop} {D : va_G} {cy : Nat → ClassId} {Z : Nat → Prop} {b L : Nat} {xs : Nat → Int32} (hst : l.stackTraces = false) (S0 : CallFix p m c code 7 s #[Value.ref b] qw_big RL) (hX : va_X b L xs s s.heap) (hbl : b < s.heap.size) (hbA : ¬ Z b) {Inv : ql_Inv} (hE : QE_accountOf Inv) {ad am : Nat → Nat} {I : Nat → Int32} {A : Nat → Nat → Int32} {G : Nat → Int32 × (Nat → Nat → Int32)} {T : Nat} {J : Nat → Int32} {B : Nat → Nat → Int32} {w : Int64} {ao : Nat} {o : Nat → Int64} {H : Heap} {locs : List Loc} {cells slots : Nat} {ls : Array Slot} (hI : Inv I A G T J B w) (V : qw_V D cy Z s (((Wo cy ad I A G T) ++ [qd_L cy ao o]) ++ (Wm cy am J B w)) H locs) {i : Int32} (hin : ∀ j : Nat, j ≤ 5 → vp_in (i + Int32.ofNat j) L) (hl : lv_has ls 7 (ql_base i ao (am 0) (ad 0) b)) (hc : cells + 1 ≤ 601024) (hs : slots + 6 ≤ 7293034) (K : ∀ (ad2 : Nat → Nat) (I : Nat → Int32) (A : Nat → Nat → Int32) (G : Nat → Int32 × (Nat → Nat → Int32)) (T : Nat) (J : Nat → Int32) (B : Nat → Nat → Int32) (w : Int64) (o : Nat → Int64) (H : Heap) (locs : List Loc) (ls : Array Slot), ad2 0 = ad 0 → Inv I A G T J B w → qw_V D cy Z s ((Wo cy ad2 I A G T ++ [qd_L cy ao o]) ++ Wm cy am J B w) H locs → lv_has ls 7 (ql_base i ao (am 0) (ad 0) b) → W p l e room_1 s m #[Value.ref b] below meth c H locs (cells + 1) (slots + 6) Q (F0 m 3735 ls [])) : W p l e room_1 s m #[Value.ref b] below meth c H locs cells slots Q (F0 m 1510 ls []) := by
  have hx := S0.1; have hb := S0.2.1
  have hc0 : cells ≤ 601024 := Nat.le_trans (Nat.le_add_right _ _) hc; have hs0 : slots ≤ 7293034 := Nat.le_trans (Nat.le_add_right _ _) hs
  obtain ⟨ro, hX7, rb, J9, hM8, h0, h1⟩ := (hE ad I A G T J B w (xs (i + 1).toNatClampNeg) (xs (i + 2).toNatClampNeg) hI)
  have hl : lv_has ls 7 [(4, .int i), (3, .ref ao), (2, .ref (am 0)), (1, .ref (ad 0)), (0, .ref b)] := hl
  refine lv_aload_n hx hb dL_law_1510 rfl (lv_at hl 3 rfl) ?_
  refine lv_aload_n hx hb dL_law_1511 rfl (lv_at hl 4 rfl) ?_
  refine lv_iload hx hb dL_law_1512 (lv_at hl 0 rfl) ?_
  refine lv_iconst (v := 1) hx hb dL_law_1514 (by decide) ?_
  refine lv_iadd hx hb dL_law_1515 ?_
  refine va_sld hx hb hX hbl hbA V.2.2.2.1 (hin 1 (by decide)) dL_law_1516 ?_
  refine lv_aload_n hx hb dL_law_1517 rfl (lv_at hl 4 rfl) ?_
  refine lv_iload hx hb dL_law_1518 (lv_at hl 0 rfl) ?_
  refine lv_iconst (v := 2) hx hb dL_law_1520 (by decide) ?_
  refine lv_iadd hx hb dL_law_1521 ?_
  refine va_sld hx hb hX hbl hbA V.2.2.2.1 (hin 2 (by decide)) dL_law_1522 ?_
  refine lv_aload_n hx hb dL_law_1523 rfl (lv_at hl 1 rfl) ?_
  refine ql_cW (rest := []) (wc := (Wo cy ad I A G T) ++ [qd_L cy ao o]) (wr := (Wm cy am J B w)) S0 V hl (c_L_accountOf l hst hX7) kg_L_245 rfl ⟨rfl, rfl⟩ kd_L_accountOf ⟨(Nat.le_of_ble_eq_true rfl), (Nat.le_of_ble_eq_true rfl)⟩ rfl rfl (Nat.le_of_ble_eq_true rfl) ⟨hc, hs⟩ dL_law_1524 (fun H locs hro V => ?_) (fun v9 H locs hro V => ?_)
  · have hcN : cells + 1 + 0 ≤ 601024 := hc
    have hsN : slots + 6 + 0 ≤ 7293034 := hs
    obtain ⟨t1, hI9⟩ := h0 hro
    refine lv_istore (lv' := [(5, .int 1), (4, .int i), (3, .ref ao), (2, .ref (am 0)), (1, .ref (ad 0)), (0, .ref b)]) hx hb dL_law_1527 hl (by decide) rfl (fun ls hl => ?_)
    refine lv_aload_n hx hb dL_law_1529 rfl (lv_at hl 3 rfl) ?_
    refine lv_aload_n hx hb dL_law_1530 rfl (lv_at hl 5 rfl) ?_
    refine lv_iload hx hb dL_law_1531 (lv_at hl 1 rfl) ?_
    refine lv_iconst (v := 1) hx hb dL_law_1533 (by decide) ?_
    refine lv_iadd hx hb dL_law_1534 ?_
    refine va_sld hx hb hX hbl hbA V.2.2.2.1 (hin 1 (by decide)) dL_law_1535 ?_
    refine lv_aload_n hx hb dL_law_1536 rfl (lv_at hl 5 rfl) ?_
    refine lv_iload hx hb dL_law_1537 (lv_at hl 1 rfl) ?_
    refine lv_iconst (v := 2) hx hb dL_law_1539 (by decide) ?_
    refine lv_iadd hx hb dL_law_1540 ?_
    refine va_sld hx hb hX hbl hbA V.2.2.2.1 (hin 2 (by decide)) dL_law_1541 ?_
    have V := ql_V.swap V
    refine ql_cV (rest := []) (st1 := [.int rb]) (wc := (Wm cy am J B w)) (wr := ((Wo cy ad I A G T) ++ [qd_L cy ao o])) S0 V hl 0 gM_0 rfl (c_X8_accountOf l hM8) kg_L_247 rfl ⟨rfl, rfl⟩ kd_X8_accountOf ⟨(Nat.le_of_ble_eq_true rfl), (Nat.le_of_ble_eq_true rfl)⟩ rfl rfl (Nat.le_of_ble_eq_true rfl) ⟨hcN, hsN⟩ rfl dL_law_1542 (fun H locs V => ?_)
    have V := ql_V.swap V
    refine lv_istore (lv' := [(6, .int rb), (5, .int 1), (4, .int i), (3, .ref ao), (2, .ref (am 0)), (1, .ref (ad 0)), (0, .ref b)]) hx hb dL_law_1545 hl (by decide) rfl (fun ls hl => ?_)
    refine lv_aload_n hx hb dL_law_1547 rfl (lv_at hl 4 rfl) ?_
    refine ql_cVR (rest := []) (st1 := [.int (J9 1)]) (wc := (Wm cy am J9 B w)) (wr := ((Wo cy ad I A G T) ++ [qd_L cy ao o])) S0 (ql_V.swap V) hl 0 gM_0 rfl (c_X8_thrown l rfl) kg_L_200 rfl ⟨rfl, rfl⟩ kd_X8_thrown ⟨(Nat.le_of_ble_eq_true rfl), (Nat.le_of_ble_eq_true rfl)⟩ rfl rfl (Nat.le_of_ble_eq_true rfl) ⟨hcN, hsN⟩ rfl dL_law_1548 ?_
    refine lv_iload hx hb dL_law_1551 (lv_at hl 1 rfl) ?_
    refine lv_icmp_eq (tgt := 1558) hx hb dL_law_1553 (by decide) (fun _ => ?_) (fun c9 => absurd t1 c9)
    refine lv_iload hx hb dL_law_1558 (lv_at hl 1 rfl) ?_
    refine lv_if_ne (tgt := 1575) hx hb dL_law_1560 (by decide) (fun _ => ?_) (fun c9 => absurd c9 (by decide))
    refine lv_goto (tgt := 3735) hx hb dL_law_1575 (by decide) ?_
    exact K _ _ _ _ _ _ _ _ _ _ _ _ rfl hI9 V (lv_sub hl [2, 3, 4, 5, 6] rfl)
  · have hcN : cells + 1 + 0 ≤ 601024 := hc
    have hsN : slots + 6 + 0 ≤ 7293034 := hs
    obtain ⟨t1, hOut, hI9⟩ := h1 v9 hro
    have V : qw_V D cy Z s (((Wo cy ad I A G T) ++ [qd_L cy ao (vp_updL o 0 (v9).toInt64)]) ++ (Wm cy am J B w)) H locs := V
    refine lv_istore (lv' := [(5, .int 0), (4, .int i), (3, .ref ao), (2, .ref (am 0)), (1, .ref (ad 0)), (0, .ref b)]) hx hb dL_law_1527 hl (by decide) rfl (fun ls hl => ?_)
    refine lv_aload_n hx hb dL_law_1529 rfl (lv_at hl 3 rfl) ?_
    refine lv_aload_n hx hb dL_law_1530 rfl (lv_at hl 5 rfl) ?_
    refine lv_iload hx hb dL_law_1531 (lv_at hl 1 rfl) ?_
    refine lv_iconst (v := 1) hx hb dL_law_1533 (by decide) ?_
    refine lv_iadd hx hb dL_law_1534 ?_
    refine va_sld hx hb hX hbl hbA V.2.2.2.1 (hin 1 (by decide)) dL_law_1535 ?_
    refine lv_aload_n hx hb dL_law_1536 rfl (lv_at hl 5 rfl) ?_
    refine lv_iload hx hb dL_law_1537 (lv_at hl 1 rfl) ?_
    refine lv_iconst (v := 2) hx hb dL_law_1539 (by decide) ?_
    refine lv_iadd hx hb dL_law_1540 ?_
    refine va_sld hx hb hX hbl hbA V.2.2.2.1 (hin 2 (by decide)) dL_law_1541 ?_
    have V := ql_V.swap V
    refine ql_cV (rest := []) (st1 := [.int rb]) (wc := (Wm cy am J B w)) (wr := ((Wo cy ad I A G T) ++ [qd_L cy ao (vp_updL o 0 (v9).toInt64)])) S0 V hl 0 gM_0 rfl (c_X8_accountOf l hM8) kg_L_247 rfl ⟨rfl, rfl⟩ kd_X8_accountOf ⟨(Nat.le_of_ble_eq_true rfl), (Nat.le_of_ble_eq_true rfl)⟩ rfl rfl (Nat.le_of_ble_eq_true rfl) ⟨hcN, hsN⟩ rfl dL_law_1542 (fun H locs V => ?_)
    have V := ql_V.swap V
    refine lv_istore (lv' := [(6, .int rb), (5, .int 0), (4, .int i), (3, .ref ao), (2, .ref (am 0)), (1, .ref (ad 0)), (0, .ref b)]) hx hb dL_law_1545 hl (by decide) rfl (fun ls hl => ?_)
    refine lv_aload_n hx hb dL_law_1547 rfl (lv_at hl 4 rfl) ?_
    refine ql_cVR (rest := []) (st1 := [.int (J9 1)]) (wc := (Wm cy am J9 B w)) (wr := ((Wo cy ad I A G T) ++ [qd_L cy ao (vp_updL o 0 (v9).toInt64)])) S0 (ql_V.swap V) hl 0 gM_0 rfl (c_X8_thrown l rfl) kg_L_200 rfl ⟨rfl, rfl⟩ kd_X8_thrown ⟨(Nat.le_of_ble_eq_true rfl), (Nat.le_of_ble_eq_true rfl)⟩ rfl rfl (Nat.le_of_ble_eq_true rfl) ⟨hcN, hsN⟩ rfl dL_law_1548 ?_
    refine lv_iload hx hb dL_law_1551 (lv_at hl 1 rfl) ?_
    refine lv_icmp_eq (tgt := 1558) hx hb dL_law_1553 (by decide) (fun _ => ?_) (fun c9 => absurd t1 c9)
    refine lv_iload hx hb dL_law_1558 (lv_at hl 1 rfl) ?_
    refine lv_if_ne (tgt := 1575) hx hb dL_law_1560 (by decide) (fun c9 => absurd rfl c9) (fun _ => ?_)
    refine lv_aload_n hx hb dL_law_1563 rfl (lv_at hl 3 rfl) ?_
    refine lv_iconst (v := 0) hx hb dL_law_1564 (by decide) ?_
    refine ql_lald S0 V rfl dL_law_1565 ?_
    refine lv_iload hx hb dL_law_1566 (lv_at hl 0 rfl) ?_
    refine lv_i2l hx hb dL_law_1568 rfl ?_
    refine W.lcmp hx hb dL_law_1569 ?_
    refine lv_if_eq (tgt := 1575) hx hb dL_law_1570 (by decide) (fun _ => ?_) (fun c9 => absurd (by show lg_cmp (v9).toInt64 (rb.toInt64) = 0; rw [hOut]; exact ql_cmp _) c9)
    refine lv_goto (tgt := 3735) hx hb dL_law_1575 (by decide) ?_
    exact K _ _ _ _ _ _ _ _ _ _ _ _ rfl hI9 V (lv_sub hl [2, 3, 4, 5, 6] rfl)
set_option maxHeartbeats 4000000 in
set_option maxRecDepth 100000 in
theorem ql_28 {p : Program} {l : Launch} {e : Env} {s : State} {m : MethodId} {below : List Frame} {meth : Method} {c : Code} {Q : State → Prop} {D : va_G} {cy : Nat → ClassId} {Z : Nat → Prop} {b L : Nat} {xs : Nat → Int32} (hst : l.stackTraces = false) (S0 : CallFix p m c code 7 s #[Value.ref b] qw_big RL) (hX : va_X b L xs s s.heap) (hbl : b < s.heap.size) (hbA : ¬ Z b) {Inv : ql_Inv} (hE : QE_penaltyOf Inv) {ad am : Nat → Nat} {I : Nat → Int32} {A : Nat → Nat → Int32} {G : Nat → Int32 × (Nat → Nat → Int32)} {T : Nat} {J : Nat → Int32} {B : Nat → Nat → Int32} {w : Int64} {ao : Nat} {o : Nat → Int64} {H : Heap} {locs : List Loc} {cells slots : Nat} {ls : Array Slot} (hI : Inv I A G T J B w) (V : qw_V D cy Z s (((Wo cy ad I A G T) ++ [qd_L cy ao o]) ++ (Wm cy am J B w)) H locs) {i : Int32} (hin : ∀ j : Nat, j ≤ 5 → vp_in (i + Int32.ofNat j) L) (hl : lv_has ls 7 (ql_base i ao (am 0) (ad 0) b)) (hc : cells + 1 ≤ 601024) (hs : slots + 6 ≤ 7293034) (K : ∀ (ad2 : Nat → Nat) (I : Nat → Int32) (A : Nat → Nat → Int32) (G : Nat → Int32 × (Nat → Nat → Int32)) (T : Nat) (J : Nat → Int32) (B : Nat → Nat → Int32) (w : Int64) (o : Nat → Int64) (H : Heap) (locs : List Loc) (ls : Array Slot), ad2 0 = ad 0 → Inv I A G T J B w → qw_V D cy Z s ((Wo cy ad2 I A G T ++ [qd_L cy ao o]) ++ Wm cy am J B w) H locs → lv_has ls 7 (ql_base i ao (am 0) (ad 0) b) → W p l e room_1 s m #[Value.ref b] below meth c H locs (cells + 1) (slots + 6) Q (F0 m 3735 ls [])) : W p l e room_1 s m #[Value.ref b] below meth c H locs cells slots Q (F0 m 1578 ls []) := by
  have hx := S0.1; have hb := S0.2.1
  have hc0 : cells ≤ 601024 := Nat.le_trans (Nat.le_add_right _ _) hc; have hs0 : slots ≤ 7293034 := Nat.le_trans (Nat.le_add_right _ _) hs
  obtain ⟨ro, hX7, rb, J9, hM8, h0, h1⟩ := (hE ad I A G T J B w (xs (i + 1).toNatClampNeg) hI)
  have hl : lv_has ls 7 [(4, .int i), (3, .ref ao), (2, .ref (am 0)), (1, .ref (ad 0)), (0, .ref b)] := hl
  refine lv_aload_n hx hb dL_law_1578 rfl (lv_at hl 3 rfl) ?_
  refine lv_aload_n hx hb dL_law_1579 rfl (lv_at hl 4 rfl) ?_
  refine lv_iload hx hb dL_law_1580 (lv_at hl 0 rfl) ?_
  refine lv_iconst (v := 1) hx hb dL_law_1582 (by decide) ?_
  refine lv_iadd hx hb dL_law_1583 ?_
  refine va_sld hx hb hX hbl hbA V.2.2.2.1 (hin 1 (by decide)) dL_law_1584 ?_
  refine lv_aload_n hx hb dL_law_1585 rfl (lv_at hl 1 rfl) ?_
  refine ql_cW (rest := []) (wc := (Wo cy ad I A G T) ++ [qd_L cy ao o]) (wr := (Wm cy am J B w)) S0 V hl (c_L_penaltyOf l hst hX7) kg_L_248 rfl ⟨rfl, rfl⟩ kd_L_penaltyOf ⟨(Nat.le_of_ble_eq_true rfl), (Nat.le_of_ble_eq_true rfl)⟩ rfl rfl (Nat.le_of_ble_eq_true rfl) ⟨hc, hs⟩ dL_law_1586 (fun H locs hro V => ?_) (fun v9 H locs hro V => ?_)
  · have hcN : cells + 1 + 0 ≤ 601024 := hc
    have hsN : slots + 6 + 0 ≤ 7293034 := hs
    obtain ⟨t1, hI9⟩ := h0 hro
    refine lv_istore (lv' := [(5, .int 1), (4, .int i), (3, .ref ao), (2, .ref (am 0)), (1, .ref (ad 0)), (0, .ref b)]) hx hb dL_law_1589 hl (by decide) rfl (fun ls hl => ?_)
    refine lv_aload_n hx hb dL_law_1591 rfl (lv_at hl 3 rfl) ?_
    refine lv_aload_n hx hb dL_law_1592 rfl (lv_at hl 5 rfl) ?_
    refine lv_iload hx hb dL_law_1593 (lv_at hl 1 rfl) ?_
    refine lv_iconst (v := 1) hx hb dL_law_1595 (by decide) ?_
    refine lv_iadd hx hb dL_law_1596 ?_
    refine va_sld hx hb hX hbl hbA V.2.2.2.1 (hin 1 (by decide)) dL_law_1597 ?_
    have V := ql_V.swap V
    refine ql_cV (rest := []) (st1 := [.int rb]) (wc := (Wm cy am J B w)) (wr := ((Wo cy ad I A G T) ++ [qd_L cy ao o])) S0 V hl 0 gM_0 rfl (c_X8_penaltyOf l hM8) kg_L_250 rfl ⟨rfl, rfl⟩ kd_X8_penaltyOf ⟨(Nat.le_of_ble_eq_true rfl), (Nat.le_of_ble_eq_true rfl)⟩ rfl rfl (Nat.le_of_ble_eq_true rfl) ⟨hcN, hsN⟩ rfl dL_law_1598 (fun H locs V => ?_)
    have V := ql_V.swap V
    refine lv_istore (lv' := [(6, .int rb), (5, .int 1), (4, .int i), (3, .ref ao), (2, .ref (am 0)), (1, .ref (ad 0)), (0, .ref b)]) hx hb dL_law_1601 hl (by decide) rfl (fun ls hl => ?_)
    refine lv_aload_n hx hb dL_law_1603 rfl (lv_at hl 4 rfl) ?_
    refine ql_cVR (rest := []) (st1 := [.int (J9 1)]) (wc := (Wm cy am J9 B w)) (wr := ((Wo cy ad I A G T) ++ [qd_L cy ao o])) S0 (ql_V.swap V) hl 0 gM_0 rfl (c_X8_thrown l rfl) kg_L_200 rfl ⟨rfl, rfl⟩ kd_X8_thrown ⟨(Nat.le_of_ble_eq_true rfl), (Nat.le_of_ble_eq_true rfl)⟩ rfl rfl (Nat.le_of_ble_eq_true rfl) ⟨hcN, hsN⟩ rfl dL_law_1604 ?_
    refine lv_iload hx hb dL_law_1607 (lv_at hl 1 rfl) ?_
    refine lv_icmp_eq (tgt := 1614) hx hb dL_law_1609 (by decide) (fun _ => ?_) (fun c9 => absurd t1 c9)
    refine lv_iload hx hb dL_law_1614 (lv_at hl 1 rfl) ?_
    refine lv_if_ne (tgt := 1631) hx hb dL_law_1616 (by decide) (fun _ => ?_) (fun c9 => absurd c9 (by decide))
    refine lv_goto (tgt := 3735) hx hb dL_law_1631 (by decide) ?_
    exact K _ _ _ _ _ _ _ _ _ _ _ _ rfl hI9 V (lv_sub hl [2, 3, 4, 5, 6] rfl)
  · have hcN : cells + 1 + 0 ≤ 601024 := hc
    have hsN : slots + 6 + 0 ≤ 7293034 := hs
    obtain ⟨t1, hOut, hI9⟩ := h1 v9 hro
    have V : qw_V D cy Z s (((Wo cy ad I A G T) ++ [qd_L cy ao (vp_updL o 0 (v9).toInt64)]) ++ (Wm cy am J B w)) H locs := V
    refine lv_istore (lv' := [(5, .int 0), (4, .int i), (3, .ref ao), (2, .ref (am 0)), (1, .ref (ad 0)), (0, .ref b)]) hx hb dL_law_1589 hl (by decide) rfl (fun ls hl => ?_)
    refine lv_aload_n hx hb dL_law_1591 rfl (lv_at hl 3 rfl) ?_
    refine lv_aload_n hx hb dL_law_1592 rfl (lv_at hl 5 rfl) ?_
    refine lv_iload hx hb dL_law_1593 (lv_at hl 1 rfl) ?_
    refine lv_iconst (v := 1) hx hb dL_law_1595 (by decide) ?_
    refine lv_iadd hx hb dL_law_1596 ?_
    refine va_sld hx hb hX hbl hbA V.2.2.2.1 (hin 1 (by decide)) dL_law_1597 ?_
    have V := ql_V.swap V
    refine ql_cV (rest := []) (st1 := [.int rb]) (wc := (Wm cy am J B w)) (wr := ((Wo cy ad I A G T) ++ [qd_L cy ao (vp_updL o 0 (v9).toInt64)])) S0 V hl 0 gM_0 rfl (c_X8_penaltyOf l hM8) kg_L_250 rfl ⟨rfl, rfl⟩ kd_X8_penaltyOf ⟨(Nat.le_of_ble_eq_true rfl), (Nat.le_of_ble_eq_true rfl)⟩ rfl rfl (Nat.le_of_ble_eq_true rfl) ⟨hcN, hsN⟩ rfl dL_law_1598 (fun H locs V => ?_)
    have V := ql_V.swap V
    refine lv_istore (lv' := [(6, .int rb), (5, .int 0), (4, .int i), (3, .ref ao), (2, .ref (am 0)), (1, .ref (ad 0)), (0, .ref b)]) hx hb dL_law_1601 hl (by decide) rfl (fun ls hl => ?_)
    refine lv_aload_n hx hb dL_law_1603 rfl (lv_at hl 4 rfl) ?_
    refine ql_cVR (rest := []) (st1 := [.int (J9 1)]) (wc := (Wm cy am J9 B w)) (wr := ((Wo cy ad I A G T) ++ [qd_L cy ao (vp_updL o 0 (v9).toInt64)])) S0 (ql_V.swap V) hl 0 gM_0 rfl (c_X8_thrown l rfl) kg_L_200 rfl ⟨rfl, rfl⟩ kd_X8_thrown ⟨(Nat.le_of_ble_eq_true rfl), (Nat.le_of_ble_eq_true rfl)⟩ rfl rfl (Nat.le_of_ble_eq_true rfl) ⟨hcN, hsN⟩ rfl dL_law_1604 ?_
    refine lv_iload hx hb dL_law_1607 (lv_at hl 1 rfl) ?_
    refine lv_icmp_eq (tgt := 1614) hx hb dL_law_1609 (by decide) (fun _ => ?_) (fun c9 => absurd t1 c9)
    refine lv_iload hx hb dL_law_1614 (lv_at hl 1 rfl) ?_
    refine lv_if_ne (tgt := 1631) hx hb dL_law_1616 (by decide) (fun c9 => absurd rfl c9) (fun _ => ?_)
    refine lv_aload_n hx hb dL_law_1619 rfl (lv_at hl 3 rfl) ?_
    refine lv_iconst (v := 0) hx hb dL_law_1620 (by decide) ?_
    refine ql_lald S0 V rfl dL_law_1621 ?_
    refine lv_iload hx hb dL_law_1622 (lv_at hl 0 rfl) ?_
    refine lv_i2l hx hb dL_law_1624 rfl ?_
    refine W.lcmp hx hb dL_law_1625 ?_
    refine lv_if_eq (tgt := 1631) hx hb dL_law_1626 (by decide) (fun _ => ?_) (fun c9 => absurd (by show lg_cmp (v9).toInt64 (rb.toInt64) = 0; rw [hOut]; exact ql_cmp _) c9)
    refine lv_goto (tgt := 3735) hx hb dL_law_1631 (by decide) ?_
    exact K _ _ _ _ _ _ _ _ _ _ _ _ rfl hI9 V (lv_sub hl [2, 3, 4, 5, 6] rfl)
set_option maxHeartbeats 4000000 in
set_option maxRecDepth 100000 in
theorem ql_30 {p : Program} {l : Launch} {e : Env} {s : State} {m : MethodId} {below : List Frame} {meth : Method} {c : Code} {Q : State → Prop} {D : va_G} {cy : Nat → ClassId} {Z : Nat → Prop} {b L : Nat} {xs : Nat → Int32} (hst : l.stackTraces = false) (S0 : CallFix p m c code 7 s #[Value.ref b] qw_big RL) (hX : va_X b L xs s s.heap) (hbl : b < s.heap.size) (hbA : ¬ Z b) {Inv : ql_Inv} (hE : QE_soldBy Inv) {ad am : Nat → Nat} {I : Nat → Int32} {A : Nat → Nat → Int32} {G : Nat → Int32 × (Nat → Nat → Int32)} {T : Nat} {J : Nat → Int32} {B : Nat → Nat → Int32} {w : Int64} {ao : Nat} {o : Nat → Int64} {H : Heap} {locs : List Loc} {cells slots : Nat} {ls : Array Slot} (hI : Inv I A G T J B w) (V : qw_V D cy Z s (((Wo cy ad I A G T) ++ [qd_L cy ao o]) ++ (Wm cy am J B w)) H locs) {i : Int32} (hin : ∀ j : Nat, j ≤ 5 → vp_in (i + Int32.ofNat j) L) (hl : lv_has ls 7 (ql_base i ao (am 0) (ad 0) b)) (hc : cells + 1 ≤ 601024) (hs : slots + 6 ≤ 7293034) (K : ∀ (ad2 : Nat → Nat) (I : Nat → Int32) (A : Nat → Nat → Int32) (G : Nat → Int32 × (Nat → Nat → Int32)) (T : Nat) (J : Nat → Int32) (B : Nat → Nat → Int32) (w : Int64) (o : Nat → Int64) (H : Heap) (locs : List Loc) (ls : Array Slot), ad2 0 = ad 0 → Inv I A G T J B w → qw_V D cy Z s ((Wo cy ad2 I A G T ++ [qd_L cy ao o]) ++ Wm cy am J B w) H locs → lv_has ls 7 (ql_base i ao (am 0) (ad 0) b) → W p l e room_1 s m #[Value.ref b] below meth c H locs (cells + 1) (slots + 6) Q (F0 m 3735 ls [])) : W p l e room_1 s m #[Value.ref b] below meth c H locs cells slots Q (F0 m 1697 ls []) := by
  have hx := S0.1; have hb := S0.2.1
  have hc0 : cells ≤ 601024 := Nat.le_trans (Nat.le_add_right _ _) hc; have hs0 : slots ≤ 7293034 := Nat.le_trans (Nat.le_add_right _ _) hs
  obtain ⟨ro, hX7, rb, J9, hM8, h0, h1⟩ := (hE ad I A G T J B w (xs (i + 1).toNatClampNeg) (xs (i + 2).toNatClampNeg) hI)
  have hl : lv_has ls 7 [(4, .int i), (3, .ref ao), (2, .ref (am 0)), (1, .ref (ad 0)), (0, .ref b)] := hl
  refine lv_aload_n hx hb dL_law_1697 rfl (lv_at hl 3 rfl) ?_
  refine lv_aload_n hx hb dL_law_1698 rfl (lv_at hl 4 rfl) ?_
  refine lv_iload hx hb dL_law_1699 (lv_at hl 0 rfl) ?_
  refine lv_iconst (v := 1) hx hb dL_law_1701 (by decide) ?_
  refine lv_iadd hx hb dL_law_1702 ?_
  refine va_sld hx hb hX hbl hbA V.2.2.2.1 (hin 1 (by decide)) dL_law_1703 ?_
  refine lv_aload_n hx hb dL_law_1704 rfl (lv_at hl 4 rfl) ?_
  refine lv_iload hx hb dL_law_1705 (lv_at hl 0 rfl) ?_
  refine lv_iconst (v := 2) hx hb dL_law_1707 (by decide) ?_
  refine lv_iadd hx hb dL_law_1708 ?_
  refine va_sld hx hb hX hbl hbA V.2.2.2.1 (hin 2 (by decide)) dL_law_1709 ?_
  refine lv_aload_n hx hb dL_law_1710 rfl (lv_at hl 1 rfl) ?_
  refine ql_cW (rest := []) (wc := (Wo cy ad I A G T) ++ [qd_L cy ao o]) (wr := (Wm cy am J B w)) S0 V hl (c_L_soldBy l hst hX7) kg_L_254 rfl ⟨rfl, rfl⟩ kd_L_soldBy ⟨(Nat.le_of_ble_eq_true rfl), (Nat.le_of_ble_eq_true rfl)⟩ rfl rfl (Nat.le_of_ble_eq_true rfl) ⟨hc, hs⟩ dL_law_1711 (fun H locs hro V => ?_) (fun v9 H locs hro V => ?_)
  · have hcN : cells + 1 + 0 ≤ 601024 := hc
    have hsN : slots + 6 + 0 ≤ 7293034 := hs
    obtain ⟨t1, hI9⟩ := h0 hro
    refine lv_istore (lv' := [(5, .int 1), (4, .int i), (3, .ref ao), (2, .ref (am 0)), (1, .ref (ad 0)), (0, .ref b)]) hx hb dL_law_1714 hl (by decide) rfl (fun ls hl => ?_)
    refine lv_aload_n hx hb dL_law_1716 rfl (lv_at hl 3 rfl) ?_
    refine lv_aload_n hx hb dL_law_1717 rfl (lv_at hl 5 rfl) ?_
    refine lv_iload hx hb dL_law_1718 (lv_at hl 1 rfl) ?_
    refine lv_iconst (v := 1) hx hb dL_law_1720 (by decide) ?_
    refine lv_iadd hx hb dL_law_1721 ?_
    refine va_sld hx hb hX hbl hbA V.2.2.2.1 (hin 1 (by decide)) dL_law_1722 ?_
    refine lv_aload_n hx hb dL_law_1723 rfl (lv_at hl 5 rfl) ?_
    refine lv_iload hx hb dL_law_1724 (lv_at hl 1 rfl) ?_
    refine lv_iconst (v := 2) hx hb dL_law_1726 (by decide) ?_
    refine lv_iadd hx hb dL_law_1727 ?_
    refine va_sld hx hb hX hbl hbA V.2.2.2.1 (hin 2 (by decide)) dL_law_1728 ?_
    have V := ql_V.swap V
    refine ql_cV (rest := []) (st1 := [.int rb]) (wc := (Wm cy am J B w)) (wr := ((Wo cy ad I A G T) ++ [qd_L cy ao o])) S0 V hl 0 gM_0 rfl (c_X8_soldBy l hM8) kg_L_256 rfl ⟨rfl, rfl⟩ kd_X8_soldBy ⟨(Nat.le_of_ble_eq_true rfl), (Nat.le_of_ble_eq_true rfl)⟩ rfl rfl (Nat.le_of_ble_eq_true rfl) ⟨hcN, hsN⟩ rfl dL_law_1729 (fun H locs V => ?_)
    have V := ql_V.swap V
    refine lv_istore (lv' := [(6, .int rb), (5, .int 1), (4, .int i), (3, .ref ao), (2, .ref (am 0)), (1, .ref (ad 0)), (0, .ref b)]) hx hb dL_law_1732 hl (by decide) rfl (fun ls hl => ?_)
    refine lv_aload_n hx hb dL_law_1734 rfl (lv_at hl 4 rfl) ?_
    refine ql_cVR (rest := []) (st1 := [.int (J9 1)]) (wc := (Wm cy am J9 B w)) (wr := ((Wo cy ad I A G T) ++ [qd_L cy ao o])) S0 (ql_V.swap V) hl 0 gM_0 rfl (c_X8_thrown l rfl) kg_L_200 rfl ⟨rfl, rfl⟩ kd_X8_thrown ⟨(Nat.le_of_ble_eq_true rfl), (Nat.le_of_ble_eq_true rfl)⟩ rfl rfl (Nat.le_of_ble_eq_true rfl) ⟨hcN, hsN⟩ rfl dL_law_1735 ?_
    refine lv_iload hx hb dL_law_1738 (lv_at hl 1 rfl) ?_
    refine lv_icmp_eq (tgt := 1745) hx hb dL_law_1740 (by decide) (fun _ => ?_) (fun c9 => absurd t1 c9)
    refine lv_iload hx hb dL_law_1745 (lv_at hl 1 rfl) ?_
    refine lv_if_ne (tgt := 1762) hx hb dL_law_1747 (by decide) (fun _ => ?_) (fun c9 => absurd c9 (by decide))
    refine lv_goto (tgt := 3735) hx hb dL_law_1762 (by decide) ?_
    exact K _ _ _ _ _ _ _ _ _ _ _ _ rfl hI9 V (lv_sub hl [2, 3, 4, 5, 6] rfl)
  · have hcN : cells + 1 + 0 ≤ 601024 := hc
    have hsN : slots + 6 + 0 ≤ 7293034 := hs
    obtain ⟨t1, hOut, hI9⟩ := h1 v9 hro
    have V : qw_V D cy Z s (((Wo cy ad I A G T) ++ [qd_L cy ao (vp_updL o 0 (v9).toInt64)]) ++ (Wm cy am J B w)) H locs := V
    refine lv_istore (lv' := [(5, .int 0), (4, .int i), (3, .ref ao), (2, .ref (am 0)), (1, .ref (ad 0)), (0, .ref b)]) hx hb dL_law_1714 hl (by decide) rfl (fun ls hl => ?_)
    refine lv_aload_n hx hb dL_law_1716 rfl (lv_at hl 3 rfl) ?_
    refine lv_aload_n hx hb dL_law_1717 rfl (lv_at hl 5 rfl) ?_
    refine lv_iload hx hb dL_law_1718 (lv_at hl 1 rfl) ?_
    refine lv_iconst (v := 1) hx hb dL_law_1720 (by decide) ?_
    refine lv_iadd hx hb dL_law_1721 ?_
    refine va_sld hx hb hX hbl hbA V.2.2.2.1 (hin 1 (by decide)) dL_law_1722 ?_
    refine lv_aload_n hx hb dL_law_1723 rfl (lv_at hl 5 rfl) ?_
    refine lv_iload hx hb dL_law_1724 (lv_at hl 1 rfl) ?_
    refine lv_iconst (v := 2) hx hb dL_law_1726 (by decide) ?_
    refine lv_iadd hx hb dL_law_1727 ?_
    refine va_sld hx hb hX hbl hbA V.2.2.2.1 (hin 2 (by decide)) dL_law_1728 ?_
    have V := ql_V.swap V
    refine ql_cV (rest := []) (st1 := [.int rb]) (wc := (Wm cy am J B w)) (wr := ((Wo cy ad I A G T) ++ [qd_L cy ao (vp_updL o 0 (v9).toInt64)])) S0 V hl 0 gM_0 rfl (c_X8_soldBy l hM8) kg_L_256 rfl ⟨rfl, rfl⟩ kd_X8_soldBy ⟨(Nat.le_of_ble_eq_true rfl), (Nat.le_of_ble_eq_true rfl)⟩ rfl rfl (Nat.le_of_ble_eq_true rfl) ⟨hcN, hsN⟩ rfl dL_law_1729 (fun H locs V => ?_)
    have V := ql_V.swap V
    refine lv_istore (lv' := [(6, .int rb), (5, .int 0), (4, .int i), (3, .ref ao), (2, .ref (am 0)), (1, .ref (ad 0)), (0, .ref b)]) hx hb dL_law_1732 hl (by decide) rfl (fun ls hl => ?_)
    refine lv_aload_n hx hb dL_law_1734 rfl (lv_at hl 4 rfl) ?_
    refine ql_cVR (rest := []) (st1 := [.int (J9 1)]) (wc := (Wm cy am J9 B w)) (wr := ((Wo cy ad I A G T) ++ [qd_L cy ao (vp_updL o 0 (v9).toInt64)])) S0 (ql_V.swap V) hl 0 gM_0 rfl (c_X8_thrown l rfl) kg_L_200 rfl ⟨rfl, rfl⟩ kd_X8_thrown ⟨(Nat.le_of_ble_eq_true rfl), (Nat.le_of_ble_eq_true rfl)⟩ rfl rfl (Nat.le_of_ble_eq_true rfl) ⟨hcN, hsN⟩ rfl dL_law_1735 ?_
    refine lv_iload hx hb dL_law_1738 (lv_at hl 1 rfl) ?_
    refine lv_icmp_eq (tgt := 1745) hx hb dL_law_1740 (by decide) (fun _ => ?_) (fun c9 => absurd t1 c9)
    refine lv_iload hx hb dL_law_1745 (lv_at hl 1 rfl) ?_
    refine lv_if_ne (tgt := 1762) hx hb dL_law_1747 (by decide) (fun c9 => absurd rfl c9) (fun _ => ?_)
    refine lv_aload_n hx hb dL_law_1750 rfl (lv_at hl 3 rfl) ?_
    refine lv_iconst (v := 0) hx hb dL_law_1751 (by decide) ?_
    refine ql_lald S0 V rfl dL_law_1752 ?_
    refine lv_iload hx hb dL_law_1753 (lv_at hl 0 rfl) ?_
    refine lv_i2l hx hb dL_law_1755 rfl ?_
    refine W.lcmp hx hb dL_law_1756 ?_
    refine lv_if_eq (tgt := 1762) hx hb dL_law_1757 (by decide) (fun _ => ?_) (fun c9 => absurd (by show lg_cmp (v9).toInt64 (rb.toInt64) = 0; rw [hOut]; exact ql_cmp _) c9)
    refine lv_goto (tgt := 3735) hx hb dL_law_1762 (by decide) ?_
    exact K _ _ _ _ _ _ _ _ _ _ _ _ rfl hI9 V (lv_sub hl [2, 3, 4, 5, 6] rfl)
set_option maxHeartbeats 4000000 in
set_option maxRecDepth 100000 in
theorem ql_31 {p : Program} {l : Launch} {e : Env} {s : State} {m : MethodId} {below : List Frame} {meth : Method} {c : Code} {Q : State → Prop} {D : va_G} {cy : Nat → ClassId} {Z : Nat → Prop} {b L : Nat} {xs : Nat → Int32} (hst : l.stackTraces = false) (S0 : CallFix p m c code 7 s #[Value.ref b] qw_big RL) (hX : va_X b L xs s s.heap) (hbl : b < s.heap.size) (hbA : ¬ Z b) {Inv : ql_Inv} (hE : QE_deliveredTo Inv) {ad am : Nat → Nat} {I : Nat → Int32} {A : Nat → Nat → Int32} {G : Nat → Int32 × (Nat → Nat → Int32)} {T : Nat} {J : Nat → Int32} {B : Nat → Nat → Int32} {w : Int64} {ao : Nat} {o : Nat → Int64} {H : Heap} {locs : List Loc} {cells slots : Nat} {ls : Array Slot} (hI : Inv I A G T J B w) (V : qw_V D cy Z s (((Wo cy ad I A G T) ++ [qd_L cy ao o]) ++ (Wm cy am J B w)) H locs) {i : Int32} (hin : ∀ j : Nat, j ≤ 5 → vp_in (i + Int32.ofNat j) L) (hl : lv_has ls 7 (ql_base i ao (am 0) (ad 0) b)) (hc : cells + 1 ≤ 601024) (hs : slots + 6 ≤ 7293034) (K : ∀ (ad2 : Nat → Nat) (I : Nat → Int32) (A : Nat → Nat → Int32) (G : Nat → Int32 × (Nat → Nat → Int32)) (T : Nat) (J : Nat → Int32) (B : Nat → Nat → Int32) (w : Int64) (o : Nat → Int64) (H : Heap) (locs : List Loc) (ls : Array Slot), ad2 0 = ad 0 → Inv I A G T J B w → qw_V D cy Z s ((Wo cy ad2 I A G T ++ [qd_L cy ao o]) ++ Wm cy am J B w) H locs → lv_has ls 7 (ql_base i ao (am 0) (ad 0) b) → W p l e room_1 s m #[Value.ref b] below meth c H locs (cells + 1) (slots + 6) Q (F0 m 3735 ls [])) : W p l e room_1 s m #[Value.ref b] below meth c H locs cells slots Q (F0 m 1765 ls []) := by
  have hx := S0.1; have hb := S0.2.1
  have hc0 : cells ≤ 601024 := Nat.le_trans (Nat.le_add_right _ _) hc; have hs0 : slots ≤ 7293034 := Nat.le_trans (Nat.le_add_right _ _) hs
  obtain ⟨ro, hX7, rb, J9, hM8, h0, h1⟩ := (hE ad I A G T J B w (xs (i + 1).toNatClampNeg) (xs (i + 2).toNatClampNeg) hI)
  have hl : lv_has ls 7 [(4, .int i), (3, .ref ao), (2, .ref (am 0)), (1, .ref (ad 0)), (0, .ref b)] := hl
  refine lv_aload_n hx hb dL_law_1765 rfl (lv_at hl 3 rfl) ?_
  refine lv_aload_n hx hb dL_law_1766 rfl (lv_at hl 4 rfl) ?_
  refine lv_iload hx hb dL_law_1767 (lv_at hl 0 rfl) ?_
  refine lv_iconst (v := 1) hx hb dL_law_1769 (by decide) ?_
  refine lv_iadd hx hb dL_law_1770 ?_
  refine va_sld hx hb hX hbl hbA V.2.2.2.1 (hin 1 (by decide)) dL_law_1771 ?_
  refine lv_aload_n hx hb dL_law_1772 rfl (lv_at hl 4 rfl) ?_
  refine lv_iload hx hb dL_law_1773 (lv_at hl 0 rfl) ?_
  refine lv_iconst (v := 2) hx hb dL_law_1775 (by decide) ?_
  refine lv_iadd hx hb dL_law_1776 ?_
  refine va_sld hx hb hX hbl hbA V.2.2.2.1 (hin 2 (by decide)) dL_law_1777 ?_
  refine lv_aload_n hx hb dL_law_1778 rfl (lv_at hl 1 rfl) ?_
  refine ql_cW (rest := []) (wc := (Wo cy ad I A G T) ++ [qd_L cy ao o]) (wr := (Wm cy am J B w)) S0 V hl (c_L_deliveredTo l hst hX7) kg_L_257 rfl ⟨rfl, rfl⟩ kd_L_deliveredTo ⟨(Nat.le_of_ble_eq_true rfl), (Nat.le_of_ble_eq_true rfl)⟩ rfl rfl (Nat.le_of_ble_eq_true rfl) ⟨hc, hs⟩ dL_law_1779 (fun H locs hro V => ?_) (fun v9 H locs hro V => ?_)
  · have hcN : cells + 1 + 0 ≤ 601024 := hc
    have hsN : slots + 6 + 0 ≤ 7293034 := hs
    obtain ⟨t1, hI9⟩ := h0 hro
    refine lv_istore (lv' := [(5, .int 1), (4, .int i), (3, .ref ao), (2, .ref (am 0)), (1, .ref (ad 0)), (0, .ref b)]) hx hb dL_law_1782 hl (by decide) rfl (fun ls hl => ?_)
    refine lv_aload_n hx hb dL_law_1784 rfl (lv_at hl 3 rfl) ?_
    refine lv_aload_n hx hb dL_law_1785 rfl (lv_at hl 5 rfl) ?_
    refine lv_iload hx hb dL_law_1786 (lv_at hl 1 rfl) ?_
    refine lv_iconst (v := 1) hx hb dL_law_1788 (by decide) ?_
    refine lv_iadd hx hb dL_law_1789 ?_
    refine va_sld hx hb hX hbl hbA V.2.2.2.1 (hin 1 (by decide)) dL_law_1790 ?_
    refine lv_aload_n hx hb dL_law_1791 rfl (lv_at hl 5 rfl) ?_
    refine lv_iload hx hb dL_law_1792 (lv_at hl 1 rfl) ?_
    refine lv_iconst (v := 2) hx hb dL_law_1794 (by decide) ?_
    refine lv_iadd hx hb dL_law_1795 ?_
    refine va_sld hx hb hX hbl hbA V.2.2.2.1 (hin 2 (by decide)) dL_law_1796 ?_
    have V := ql_V.swap V
    refine ql_cV (rest := []) (st1 := [.int rb]) (wc := (Wm cy am J B w)) (wr := ((Wo cy ad I A G T) ++ [qd_L cy ao o])) S0 V hl 0 gM_0 rfl (c_X8_deliveredTo l hM8) kg_L_259 rfl ⟨rfl, rfl⟩ kd_X8_deliveredTo ⟨(Nat.le_of_ble_eq_true rfl), (Nat.le_of_ble_eq_true rfl)⟩ rfl rfl (Nat.le_of_ble_eq_true rfl) ⟨hcN, hsN⟩ rfl dL_law_1797 (fun H locs V => ?_)
    have V := ql_V.swap V
    refine lv_istore (lv' := [(6, .int rb), (5, .int 1), (4, .int i), (3, .ref ao), (2, .ref (am 0)), (1, .ref (ad 0)), (0, .ref b)]) hx hb dL_law_1800 hl (by decide) rfl (fun ls hl => ?_)
    refine lv_aload_n hx hb dL_law_1802 rfl (lv_at hl 4 rfl) ?_
    refine ql_cVR (rest := []) (st1 := [.int (J9 1)]) (wc := (Wm cy am J9 B w)) (wr := ((Wo cy ad I A G T) ++ [qd_L cy ao o])) S0 (ql_V.swap V) hl 0 gM_0 rfl (c_X8_thrown l rfl) kg_L_200 rfl ⟨rfl, rfl⟩ kd_X8_thrown ⟨(Nat.le_of_ble_eq_true rfl), (Nat.le_of_ble_eq_true rfl)⟩ rfl rfl (Nat.le_of_ble_eq_true rfl) ⟨hcN, hsN⟩ rfl dL_law_1803 ?_
    refine lv_iload hx hb dL_law_1806 (lv_at hl 1 rfl) ?_
    refine lv_icmp_eq (tgt := 1813) hx hb dL_law_1808 (by decide) (fun _ => ?_) (fun c9 => absurd t1 c9)
    refine lv_iload hx hb dL_law_1813 (lv_at hl 1 rfl) ?_
    refine lv_if_ne (tgt := 1830) hx hb dL_law_1815 (by decide) (fun _ => ?_) (fun c9 => absurd c9 (by decide))
    refine lv_goto (tgt := 3735) hx hb dL_law_1830 (by decide) ?_
    exact K _ _ _ _ _ _ _ _ _ _ _ _ rfl hI9 V (lv_sub hl [2, 3, 4, 5, 6] rfl)
  · have hcN : cells + 1 + 0 ≤ 601024 := hc
    have hsN : slots + 6 + 0 ≤ 7293034 := hs
    obtain ⟨t1, hOut, hI9⟩ := h1 v9 hro
    have V : qw_V D cy Z s (((Wo cy ad I A G T) ++ [qd_L cy ao (vp_updL o 0 (v9).toInt64)]) ++ (Wm cy am J B w)) H locs := V
    refine lv_istore (lv' := [(5, .int 0), (4, .int i), (3, .ref ao), (2, .ref (am 0)), (1, .ref (ad 0)), (0, .ref b)]) hx hb dL_law_1782 hl (by decide) rfl (fun ls hl => ?_)
    refine lv_aload_n hx hb dL_law_1784 rfl (lv_at hl 3 rfl) ?_
    refine lv_aload_n hx hb dL_law_1785 rfl (lv_at hl 5 rfl) ?_
    refine lv_iload hx hb dL_law_1786 (lv_at hl 1 rfl) ?_
    refine lv_iconst (v := 1) hx hb dL_law_1788 (by decide) ?_
    refine lv_iadd hx hb dL_law_1789 ?_
    refine va_sld hx hb hX hbl hbA V.2.2.2.1 (hin 1 (by decide)) dL_law_1790 ?_
    refine lv_aload_n hx hb dL_law_1791 rfl (lv_at hl 5 rfl) ?_
    refine lv_iload hx hb dL_law_1792 (lv_at hl 1 rfl) ?_
    refine lv_iconst (v := 2) hx hb dL_law_1794 (by decide) ?_
    refine lv_iadd hx hb dL_law_1795 ?_
    refine va_sld hx hb hX hbl hbA V.2.2.2.1 (hin 2 (by decide)) dL_law_1796 ?_
    have V := ql_V.swap V
    refine ql_cV (rest := []) (st1 := [.int rb]) (wc := (Wm cy am J B w)) (wr := ((Wo cy ad I A G T) ++ [qd_L cy ao (vp_updL o 0 (v9).toInt64)])) S0 V hl 0 gM_0 rfl (c_X8_deliveredTo l hM8) kg_L_259 rfl ⟨rfl, rfl⟩ kd_X8_deliveredTo ⟨(Nat.le_of_ble_eq_true rfl), (Nat.le_of_ble_eq_true rfl)⟩ rfl rfl (Nat.le_of_ble_eq_true rfl) ⟨hcN, hsN⟩ rfl dL_law_1797 (fun H locs V => ?_)
    have V := ql_V.swap V
    refine lv_istore (lv' := [(6, .int rb), (5, .int 0), (4, .int i), (3, .ref ao), (2, .ref (am 0)), (1, .ref (ad 0)), (0, .ref b)]) hx hb dL_law_1800 hl (by decide) rfl (fun ls hl => ?_)
    refine lv_aload_n hx hb dL_law_1802 rfl (lv_at hl 4 rfl) ?_
    refine ql_cVR (rest := []) (st1 := [.int (J9 1)]) (wc := (Wm cy am J9 B w)) (wr := ((Wo cy ad I A G T) ++ [qd_L cy ao (vp_updL o 0 (v9).toInt64)])) S0 (ql_V.swap V) hl 0 gM_0 rfl (c_X8_thrown l rfl) kg_L_200 rfl ⟨rfl, rfl⟩ kd_X8_thrown ⟨(Nat.le_of_ble_eq_true rfl), (Nat.le_of_ble_eq_true rfl)⟩ rfl rfl (Nat.le_of_ble_eq_true rfl) ⟨hcN, hsN⟩ rfl dL_law_1803 ?_
    refine lv_iload hx hb dL_law_1806 (lv_at hl 1 rfl) ?_
    refine lv_icmp_eq (tgt := 1813) hx hb dL_law_1808 (by decide) (fun _ => ?_) (fun c9 => absurd t1 c9)
    refine lv_iload hx hb dL_law_1813 (lv_at hl 1 rfl) ?_
    refine lv_if_ne (tgt := 1830) hx hb dL_law_1815 (by decide) (fun c9 => absurd rfl c9) (fun _ => ?_)
    refine lv_aload_n hx hb dL_law_1818 rfl (lv_at hl 3 rfl) ?_
    refine lv_iconst (v := 0) hx hb dL_law_1819 (by decide) ?_
    refine ql_lald S0 V rfl dL_law_1820 ?_
    refine lv_iload hx hb dL_law_1821 (lv_at hl 0 rfl) ?_
    refine lv_i2l hx hb dL_law_1823 rfl ?_
    refine W.lcmp hx hb dL_law_1824 ?_
    refine lv_if_eq (tgt := 1830) hx hb dL_law_1825 (by decide) (fun _ => ?_) (fun c9 => absurd (by show lg_cmp (v9).toInt64 (rb.toInt64) = 0; rw [hOut]; exact ql_cmp _) c9)
    refine lv_goto (tgt := 3735) hx hb dL_law_1830 (by decide) ?_
    exact K _ _ _ _ _ _ _ _ _ _ _ _ rfl hI9 V (lv_sub hl [2, 3, 4, 5, 6] rfl)
set_option maxHeartbeats 4000000 in
set_option maxRecDepth 100000 in
theorem ql_32 {p : Program} {l : Launch} {e : Env} {s : State} {m : MethodId} {below : List Frame} {meth : Method} {c : Code} {Q : State → Prop} {D : va_G} {cy : Nat → ClassId} {Z : Nat → Prop} {b L : Nat} {xs : Nat → Int32} (hst : l.stackTraces = false) (S0 : CallFix p m c code 7 s #[Value.ref b] qw_big RL) (hX : va_X b L xs s s.heap) (hbl : b < s.heap.size) (hbA : ¬ Z b) {Inv : ql_Inv} (hE : QE_turnover Inv) {ad am : Nat → Nat} {I : Nat → Int32} {A : Nat → Nat → Int32} {G : Nat → Int32 × (Nat → Nat → Int32)} {T : Nat} {J : Nat → Int32} {B : Nat → Nat → Int32} {w : Int64} {ao : Nat} {o : Nat → Int64} {H : Heap} {locs : List Loc} {cells slots : Nat} {ls : Array Slot} (hI : Inv I A G T J B w) (V : qw_V D cy Z s (((Wo cy ad I A G T) ++ [qd_L cy ao o]) ++ (Wm cy am J B w)) H locs) {i : Int32} (hin : ∀ j : Nat, j ≤ 5 → vp_in (i + Int32.ofNat j) L) (hl : lv_has ls 7 (ql_base i ao (am 0) (ad 0) b)) (hc : cells + 1 ≤ 601024) (hs : slots + 6 ≤ 7293034) (K : ∀ (ad2 : Nat → Nat) (I : Nat → Int32) (A : Nat → Nat → Int32) (G : Nat → Int32 × (Nat → Nat → Int32)) (T : Nat) (J : Nat → Int32) (B : Nat → Nat → Int32) (w : Int64) (o : Nat → Int64) (H : Heap) (locs : List Loc) (ls : Array Slot), ad2 0 = ad 0 → Inv I A G T J B w → qw_V D cy Z s ((Wo cy ad2 I A G T ++ [qd_L cy ao o]) ++ Wm cy am J B w) H locs → lv_has ls 7 (ql_base i ao (am 0) (ad 0) b) → W p l e room_1 s m #[Value.ref b] below meth c H locs (cells + 1) (slots + 6) Q (F0 m 3735 ls [])) : W p l e room_1 s m #[Value.ref b] below meth c H locs cells slots Q (F0 m 1833 ls []) := by
  have hx := S0.1; have hb := S0.2.1
  have hc0 : cells ≤ 601024 := Nat.le_trans (Nat.le_add_right _ _) hc; have hs0 : slots ≤ 7293034 := Nat.le_trans (Nat.le_add_right _ _) hs
  obtain ⟨ro, hX7, rb, J9, hM8, h0, h1⟩ := (hE ad I A G T J B w (xs (i + 1).toNatClampNeg) hI)
  have hl : lv_has ls 7 [(4, .int i), (3, .ref ao), (2, .ref (am 0)), (1, .ref (ad 0)), (0, .ref b)] := hl
  refine lv_aload_n hx hb dL_law_1833 rfl (lv_at hl 3 rfl) ?_
  refine lv_aload_n hx hb dL_law_1834 rfl (lv_at hl 4 rfl) ?_
  refine lv_iload hx hb dL_law_1835 (lv_at hl 0 rfl) ?_
  refine lv_iconst (v := 1) hx hb dL_law_1837 (by decide) ?_
  refine lv_iadd hx hb dL_law_1838 ?_
  refine va_sld hx hb hX hbl hbA V.2.2.2.1 (hin 1 (by decide)) dL_law_1839 ?_
  refine lv_aload_n hx hb dL_law_1840 rfl (lv_at hl 1 rfl) ?_
  refine ql_cW (rest := []) (wc := (Wo cy ad I A G T) ++ [qd_L cy ao o]) (wr := (Wm cy am J B w)) S0 V hl (c_L_turnover l hst hX7) kg_L_260 rfl ⟨rfl, rfl⟩ kd_L_turnover ⟨(Nat.le_of_ble_eq_true rfl), (Nat.le_of_ble_eq_true rfl)⟩ rfl rfl (Nat.le_of_ble_eq_true rfl) ⟨hc, hs⟩ dL_law_1841 (fun H locs hro V => ?_) (fun v9 H locs hro V => ?_)
  · have hcN : cells + 1 + 0 ≤ 601024 := hc
    have hsN : slots + 6 + 0 ≤ 7293034 := hs
    obtain ⟨t1, hI9⟩ := h0 hro
    refine lv_istore (lv' := [(5, .int 1), (4, .int i), (3, .ref ao), (2, .ref (am 0)), (1, .ref (ad 0)), (0, .ref b)]) hx hb dL_law_1844 hl (by decide) rfl (fun ls hl => ?_)
    refine lv_aload_n hx hb dL_law_1846 rfl (lv_at hl 3 rfl) ?_
    refine lv_aload_n hx hb dL_law_1847 rfl (lv_at hl 5 rfl) ?_
    refine lv_iload hx hb dL_law_1848 (lv_at hl 1 rfl) ?_
    refine lv_iconst (v := 1) hx hb dL_law_1850 (by decide) ?_
    refine lv_iadd hx hb dL_law_1851 ?_
    refine va_sld hx hb hX hbl hbA V.2.2.2.1 (hin 1 (by decide)) dL_law_1852 ?_
    have V := ql_V.swap V
    refine ql_cV (rest := []) (st1 := [.int rb]) (wc := (Wm cy am J B w)) (wr := ((Wo cy ad I A G T) ++ [qd_L cy ao o])) S0 V hl 0 gM_0 rfl (c_X8_turnover l hM8) kg_L_262 rfl ⟨rfl, rfl⟩ kd_X8_turnover ⟨(Nat.le_of_ble_eq_true rfl), (Nat.le_of_ble_eq_true rfl)⟩ rfl rfl (Nat.le_of_ble_eq_true rfl) ⟨hcN, hsN⟩ rfl dL_law_1853 (fun H locs V => ?_)
    have V := ql_V.swap V
    refine lv_istore (lv' := [(6, .int rb), (5, .int 1), (4, .int i), (3, .ref ao), (2, .ref (am 0)), (1, .ref (ad 0)), (0, .ref b)]) hx hb dL_law_1856 hl (by decide) rfl (fun ls hl => ?_)
    refine lv_aload_n hx hb dL_law_1858 rfl (lv_at hl 4 rfl) ?_
    refine ql_cVR (rest := []) (st1 := [.int (J9 1)]) (wc := (Wm cy am J9 B w)) (wr := ((Wo cy ad I A G T) ++ [qd_L cy ao o])) S0 (ql_V.swap V) hl 0 gM_0 rfl (c_X8_thrown l rfl) kg_L_200 rfl ⟨rfl, rfl⟩ kd_X8_thrown ⟨(Nat.le_of_ble_eq_true rfl), (Nat.le_of_ble_eq_true rfl)⟩ rfl rfl (Nat.le_of_ble_eq_true rfl) ⟨hcN, hsN⟩ rfl dL_law_1859 ?_
    refine lv_iload hx hb dL_law_1862 (lv_at hl 1 rfl) ?_
    refine lv_icmp_eq (tgt := 1869) hx hb dL_law_1864 (by decide) (fun _ => ?_) (fun c9 => absurd t1 c9)
    refine lv_iload hx hb dL_law_1869 (lv_at hl 1 rfl) ?_
    refine lv_if_ne (tgt := 1886) hx hb dL_law_1871 (by decide) (fun _ => ?_) (fun c9 => absurd c9 (by decide))
    refine lv_goto (tgt := 3735) hx hb dL_law_1886 (by decide) ?_
    exact K _ _ _ _ _ _ _ _ _ _ _ _ rfl hI9 V (lv_sub hl [2, 3, 4, 5, 6] rfl)
  · have hcN : cells + 1 + 0 ≤ 601024 := hc
    have hsN : slots + 6 + 0 ≤ 7293034 := hs
    obtain ⟨t1, hOut, hI9⟩ := h1 v9 hro
    have V : qw_V D cy Z s (((Wo cy ad I A G T) ++ [qd_L cy ao (vp_updL o 0 (v9).toInt64)]) ++ (Wm cy am J B w)) H locs := V
    refine lv_istore (lv' := [(5, .int 0), (4, .int i), (3, .ref ao), (2, .ref (am 0)), (1, .ref (ad 0)), (0, .ref b)]) hx hb dL_law_1844 hl (by decide) rfl (fun ls hl => ?_)
    refine lv_aload_n hx hb dL_law_1846 rfl (lv_at hl 3 rfl) ?_
    refine lv_aload_n hx hb dL_law_1847 rfl (lv_at hl 5 rfl) ?_
    refine lv_iload hx hb dL_law_1848 (lv_at hl 1 rfl) ?_
    refine lv_iconst (v := 1) hx hb dL_law_1850 (by decide) ?_
    refine lv_iadd hx hb dL_law_1851 ?_
    refine va_sld hx hb hX hbl hbA V.2.2.2.1 (hin 1 (by decide)) dL_law_1852 ?_
    have V := ql_V.swap V
    refine ql_cV (rest := []) (st1 := [.int rb]) (wc := (Wm cy am J B w)) (wr := ((Wo cy ad I A G T) ++ [qd_L cy ao (vp_updL o 0 (v9).toInt64)])) S0 V hl 0 gM_0 rfl (c_X8_turnover l hM8) kg_L_262 rfl ⟨rfl, rfl⟩ kd_X8_turnover ⟨(Nat.le_of_ble_eq_true rfl), (Nat.le_of_ble_eq_true rfl)⟩ rfl rfl (Nat.le_of_ble_eq_true rfl) ⟨hcN, hsN⟩ rfl dL_law_1853 (fun H locs V => ?_)
    have V := ql_V.swap V
    refine lv_istore (lv' := [(6, .int rb), (5, .int 0), (4, .int i), (3, .ref ao), (2, .ref (am 0)), (1, .ref (ad 0)), (0, .ref b)]) hx hb dL_law_1856 hl (by decide) rfl (fun ls hl => ?_)
    refine lv_aload_n hx hb dL_law_1858 rfl (lv_at hl 4 rfl) ?_
    refine ql_cVR (rest := []) (st1 := [.int (J9 1)]) (wc := (Wm cy am J9 B w)) (wr := ((Wo cy ad I A G T) ++ [qd_L cy ao (vp_updL o 0 (v9).toInt64)])) S0 (ql_V.swap V) hl 0 gM_0 rfl (c_X8_thrown l rfl) kg_L_200 rfl ⟨rfl, rfl⟩ kd_X8_thrown ⟨(Nat.le_of_ble_eq_true rfl), (Nat.le_of_ble_eq_true rfl)⟩ rfl rfl (Nat.le_of_ble_eq_true rfl) ⟨hcN, hsN⟩ rfl dL_law_1859 ?_
    refine lv_iload hx hb dL_law_1862 (lv_at hl 1 rfl) ?_
    refine lv_icmp_eq (tgt := 1869) hx hb dL_law_1864 (by decide) (fun _ => ?_) (fun c9 => absurd t1 c9)
    refine lv_iload hx hb dL_law_1869 (lv_at hl 1 rfl) ?_
    refine lv_if_ne (tgt := 1886) hx hb dL_law_1871 (by decide) (fun c9 => absurd rfl c9) (fun _ => ?_)
    refine lv_aload_n hx hb dL_law_1874 rfl (lv_at hl 3 rfl) ?_
    refine lv_iconst (v := 0) hx hb dL_law_1875 (by decide) ?_
    refine ql_lald S0 V rfl dL_law_1876 ?_
    refine lv_iload hx hb dL_law_1877 (lv_at hl 0 rfl) ?_
    refine lv_i2l hx hb dL_law_1879 rfl ?_
    refine W.lcmp hx hb dL_law_1880 ?_
    refine lv_if_eq (tgt := 1886) hx hb dL_law_1881 (by decide) (fun _ => ?_) (fun c9 => absurd (by show lg_cmp (v9).toInt64 (rb.toInt64) = 0; rw [hOut]; exact ql_cmp _) c9)
    refine lv_goto (tgt := 3735) hx hb dL_law_1886 (by decide) ?_
    exact K _ _ _ _ _ _ _ _ _ _ _ _ rfl hI9 V (lv_sub hl [2, 3, 4, 5, 6] rfl)
set_option maxHeartbeats 4000000 in
set_option maxRecDepth 100000 in
theorem ql_33 {p : Program} {l : Launch} {e : Env} {s : State} {m : MethodId} {below : List Frame} {meth : Method} {c : Code} {Q : State → Prop} {D : va_G} {cy : Nat → ClassId} {Z : Nat → Prop} {b L : Nat} {xs : Nat → Int32} (hst : l.stackTraces = false) (S0 : CallFix p m c code 7 s #[Value.ref b] qw_big RL) (hX : va_X b L xs s s.heap) (hbl : b < s.heap.size) (hbA : ¬ Z b) {Inv : ql_Inv} (hE : QE_issued Inv) {ad am : Nat → Nat} {I : Nat → Int32} {A : Nat → Nat → Int32} {G : Nat → Int32 × (Nat → Nat → Int32)} {T : Nat} {J : Nat → Int32} {B : Nat → Nat → Int32} {w : Int64} {ao : Nat} {o : Nat → Int64} {H : Heap} {locs : List Loc} {cells slots : Nat} {ls : Array Slot} (hI : Inv I A G T J B w) (V : qw_V D cy Z s (((Wo cy ad I A G T) ++ [qd_L cy ao o]) ++ (Wm cy am J B w)) H locs) {i : Int32} (hin : ∀ j : Nat, j ≤ 5 → vp_in (i + Int32.ofNat j) L) (hl : lv_has ls 7 (ql_base i ao (am 0) (ad 0) b)) (hc : cells + 1 ≤ 601024) (hs : slots + 6 ≤ 7293034) (K : ∀ (ad2 : Nat → Nat) (I : Nat → Int32) (A : Nat → Nat → Int32) (G : Nat → Int32 × (Nat → Nat → Int32)) (T : Nat) (J : Nat → Int32) (B : Nat → Nat → Int32) (w : Int64) (o : Nat → Int64) (H : Heap) (locs : List Loc) (ls : Array Slot), ad2 0 = ad 0 → Inv I A G T J B w → qw_V D cy Z s ((Wo cy ad2 I A G T ++ [qd_L cy ao o]) ++ Wm cy am J B w) H locs → lv_has ls 7 (ql_base i ao (am 0) (ad 0) b) → W p l e room_1 s m #[Value.ref b] below meth c H locs (cells + 1) (slots + 6) Q (F0 m 3735 ls [])) : W p l e room_1 s m #[Value.ref b] below meth c H locs cells slots Q (F0 m 1889 ls []) := by
  have hx := S0.1; have hb := S0.2.1
  have hc0 : cells ≤ 601024 := Nat.le_trans (Nat.le_add_right _ _) hc; have hs0 : slots ≤ 7293034 := Nat.le_trans (Nat.le_add_right _ _) hs
  obtain ⟨ro, hX7, rb, J9, hM8, h0, h1⟩ := (hE ad I A G T J B w (xs (i + 1).toNatClampNeg) hI)
  have hl : lv_has ls 7 [(4, .int i), (3, .ref ao), (2, .ref (am 0)), (1, .ref (ad 0)), (0, .ref b)] := hl
  refine lv_aload_n hx hb dL_law_1889 rfl (lv_at hl 3 rfl) ?_
  refine lv_aload_n hx hb dL_law_1890 rfl (lv_at hl 4 rfl) ?_
  refine lv_iload hx hb dL_law_1891 (lv_at hl 0 rfl) ?_
  refine lv_iconst (v := 1) hx hb dL_law_1893 (by decide) ?_
  refine lv_iadd hx hb dL_law_1894 ?_
  refine va_sld hx hb hX hbl hbA V.2.2.2.1 (hin 1 (by decide)) dL_law_1895 ?_
  refine lv_aload_n hx hb dL_law_1896 rfl (lv_at hl 1 rfl) ?_
  refine ql_cW (rest := []) (wc := (Wo cy ad I A G T) ++ [qd_L cy ao o]) (wr := (Wm cy am J B w)) S0 V hl (c_L_issued l hst hX7) kg_L_263 rfl ⟨rfl, rfl⟩ kd_L_issued ⟨(Nat.le_of_ble_eq_true rfl), (Nat.le_of_ble_eq_true rfl)⟩ rfl rfl (Nat.le_of_ble_eq_true rfl) ⟨hc, hs⟩ dL_law_1897 (fun H locs hro V => ?_) (fun v9 H locs hro V => ?_)
  · have hcN : cells + 1 + 0 ≤ 601024 := hc
    have hsN : slots + 6 + 0 ≤ 7293034 := hs
    obtain ⟨t1, hI9⟩ := h0 hro
    refine lv_istore (lv' := [(5, .int 1), (4, .int i), (3, .ref ao), (2, .ref (am 0)), (1, .ref (ad 0)), (0, .ref b)]) hx hb dL_law_1900 hl (by decide) rfl (fun ls hl => ?_)
    refine lv_aload_n hx hb dL_law_1902 rfl (lv_at hl 3 rfl) ?_
    refine lv_aload_n hx hb dL_law_1903 rfl (lv_at hl 5 rfl) ?_
    refine lv_iload hx hb dL_law_1904 (lv_at hl 1 rfl) ?_
    refine lv_iconst (v := 1) hx hb dL_law_1906 (by decide) ?_
    refine lv_iadd hx hb dL_law_1907 ?_
    refine va_sld hx hb hX hbl hbA V.2.2.2.1 (hin 1 (by decide)) dL_law_1908 ?_
    have V := ql_V.swap V
    refine ql_cV (rest := []) (st1 := [.int rb]) (wc := (Wm cy am J B w)) (wr := ((Wo cy ad I A G T) ++ [qd_L cy ao o])) S0 V hl 0 gM_0 rfl (c_X8_issued l hM8) kg_L_265 rfl ⟨rfl, rfl⟩ kd_X8_issued ⟨(Nat.le_of_ble_eq_true rfl), (Nat.le_of_ble_eq_true rfl)⟩ rfl rfl (Nat.le_of_ble_eq_true rfl) ⟨hcN, hsN⟩ rfl dL_law_1909 (fun H locs V => ?_)
    have V := ql_V.swap V
    refine lv_istore (lv' := [(6, .int rb), (5, .int 1), (4, .int i), (3, .ref ao), (2, .ref (am 0)), (1, .ref (ad 0)), (0, .ref b)]) hx hb dL_law_1912 hl (by decide) rfl (fun ls hl => ?_)
    refine lv_aload_n hx hb dL_law_1914 rfl (lv_at hl 4 rfl) ?_
    refine ql_cVR (rest := []) (st1 := [.int (J9 1)]) (wc := (Wm cy am J9 B w)) (wr := ((Wo cy ad I A G T) ++ [qd_L cy ao o])) S0 (ql_V.swap V) hl 0 gM_0 rfl (c_X8_thrown l rfl) kg_L_200 rfl ⟨rfl, rfl⟩ kd_X8_thrown ⟨(Nat.le_of_ble_eq_true rfl), (Nat.le_of_ble_eq_true rfl)⟩ rfl rfl (Nat.le_of_ble_eq_true rfl) ⟨hcN, hsN⟩ rfl dL_law_1915 ?_
    refine lv_iload hx hb dL_law_1918 (lv_at hl 1 rfl) ?_
    refine lv_icmp_eq (tgt := 1925) hx hb dL_law_1920 (by decide) (fun _ => ?_) (fun c9 => absurd t1 c9)
    refine lv_iload hx hb dL_law_1925 (lv_at hl 1 rfl) ?_
    refine lv_if_ne (tgt := 1942) hx hb dL_law_1927 (by decide) (fun _ => ?_) (fun c9 => absurd c9 (by decide))
    refine lv_goto (tgt := 3735) hx hb dL_law_1942 (by decide) ?_
    exact K _ _ _ _ _ _ _ _ _ _ _ _ rfl hI9 V (lv_sub hl [2, 3, 4, 5, 6] rfl)
  · have hcN : cells + 1 + 0 ≤ 601024 := hc
    have hsN : slots + 6 + 0 ≤ 7293034 := hs
    obtain ⟨t1, hOut, hI9⟩ := h1 v9 hro
    have V : qw_V D cy Z s (((Wo cy ad I A G T) ++ [qd_L cy ao (vp_updL o 0 (v9).toInt64)]) ++ (Wm cy am J B w)) H locs := V
    refine lv_istore (lv' := [(5, .int 0), (4, .int i), (3, .ref ao), (2, .ref (am 0)), (1, .ref (ad 0)), (0, .ref b)]) hx hb dL_law_1900 hl (by decide) rfl (fun ls hl => ?_)
    refine lv_aload_n hx hb dL_law_1902 rfl (lv_at hl 3 rfl) ?_
    refine lv_aload_n hx hb dL_law_1903 rfl (lv_at hl 5 rfl) ?_
    refine lv_iload hx hb dL_law_1904 (lv_at hl 1 rfl) ?_
    refine lv_iconst (v := 1) hx hb dL_law_1906 (by decide) ?_
    refine lv_iadd hx hb dL_law_1907 ?_
    refine va_sld hx hb hX hbl hbA V.2.2.2.1 (hin 1 (by decide)) dL_law_1908 ?_
    have V := ql_V.swap V
    refine ql_cV (rest := []) (st1 := [.int rb]) (wc := (Wm cy am J B w)) (wr := ((Wo cy ad I A G T) ++ [qd_L cy ao (vp_updL o 0 (v9).toInt64)])) S0 V hl 0 gM_0 rfl (c_X8_issued l hM8) kg_L_265 rfl ⟨rfl, rfl⟩ kd_X8_issued ⟨(Nat.le_of_ble_eq_true rfl), (Nat.le_of_ble_eq_true rfl)⟩ rfl rfl (Nat.le_of_ble_eq_true rfl) ⟨hcN, hsN⟩ rfl dL_law_1909 (fun H locs V => ?_)
    have V := ql_V.swap V
    refine lv_istore (lv' := [(6, .int rb), (5, .int 0), (4, .int i), (3, .ref ao), (2, .ref (am 0)), (1, .ref (ad 0)), (0, .ref b)]) hx hb dL_law_1912 hl (by decide) rfl (fun ls hl => ?_)
    refine lv_aload_n hx hb dL_law_1914 rfl (lv_at hl 4 rfl) ?_
    refine ql_cVR (rest := []) (st1 := [.int (J9 1)]) (wc := (Wm cy am J9 B w)) (wr := ((Wo cy ad I A G T) ++ [qd_L cy ao (vp_updL o 0 (v9).toInt64)])) S0 (ql_V.swap V) hl 0 gM_0 rfl (c_X8_thrown l rfl) kg_L_200 rfl ⟨rfl, rfl⟩ kd_X8_thrown ⟨(Nat.le_of_ble_eq_true rfl), (Nat.le_of_ble_eq_true rfl)⟩ rfl rfl (Nat.le_of_ble_eq_true rfl) ⟨hcN, hsN⟩ rfl dL_law_1915 ?_
    refine lv_iload hx hb dL_law_1918 (lv_at hl 1 rfl) ?_
    refine lv_icmp_eq (tgt := 1925) hx hb dL_law_1920 (by decide) (fun _ => ?_) (fun c9 => absurd t1 c9)
    refine lv_iload hx hb dL_law_1925 (lv_at hl 1 rfl) ?_
    refine lv_if_ne (tgt := 1942) hx hb dL_law_1927 (by decide) (fun c9 => absurd rfl c9) (fun _ => ?_)
    refine lv_aload_n hx hb dL_law_1930 rfl (lv_at hl 3 rfl) ?_
    refine lv_iconst (v := 0) hx hb dL_law_1931 (by decide) ?_
    refine ql_lald S0 V rfl dL_law_1932 ?_
    refine lv_iload hx hb dL_law_1933 (lv_at hl 0 rfl) ?_
    refine lv_i2l hx hb dL_law_1935 rfl ?_
    refine W.lcmp hx hb dL_law_1936 ?_
    refine lv_if_eq (tgt := 1942) hx hb dL_law_1937 (by decide) (fun _ => ?_) (fun c9 => absurd (by show lg_cmp (v9).toInt64 (rb.toInt64) = 0; rw [hOut]; exact ql_cmp _) c9)
    refine lv_goto (tgt := 3735) hx hb dL_law_1942 (by decide) ?_
    exact K _ _ _ _ _ _ _ _ _ _ _ _ rfl hI9 V (lv_sub hl [2, 3, 4, 5, 6] rfl)
set_option maxHeartbeats 4000000 in
set_option maxRecDepth 100000 in
theorem ql_34 {p : Program} {l : Launch} {e : Env} {s : State} {m : MethodId} {below : List Frame} {meth : Method} {c : Code} {Q : State → Prop} {D : va_G} {cy : Nat → ClassId} {Z : Nat → Prop} {b L : Nat} {xs : Nat → Int32} (hst : l.stackTraces = false) (S0 : CallFix p m c code 7 s #[Value.ref b] qw_big RL) (hX : va_X b L xs s s.heap) (hbl : b < s.heap.size) (hbA : ¬ Z b) {Inv : ql_Inv} (hE : QE_spent Inv) {ad am : Nat → Nat} {I : Nat → Int32} {A : Nat → Nat → Int32} {G : Nat → Int32 × (Nat → Nat → Int32)} {T : Nat} {J : Nat → Int32} {B : Nat → Nat → Int32} {w : Int64} {ao : Nat} {o : Nat → Int64} {H : Heap} {locs : List Loc} {cells slots : Nat} {ls : Array Slot} (hI : Inv I A G T J B w) (V : qw_V D cy Z s (((Wo cy ad I A G T) ++ [qd_L cy ao o]) ++ (Wm cy am J B w)) H locs) {i : Int32} (hin : ∀ j : Nat, j ≤ 5 → vp_in (i + Int32.ofNat j) L) (hl : lv_has ls 7 (ql_base i ao (am 0) (ad 0) b)) (hc : cells + 1 ≤ 601024) (hs : slots + 6 ≤ 7293034) (K : ∀ (ad2 : Nat → Nat) (I : Nat → Int32) (A : Nat → Nat → Int32) (G : Nat → Int32 × (Nat → Nat → Int32)) (T : Nat) (J : Nat → Int32) (B : Nat → Nat → Int32) (w : Int64) (o : Nat → Int64) (H : Heap) (locs : List Loc) (ls : Array Slot), ad2 0 = ad 0 → Inv I A G T J B w → qw_V D cy Z s ((Wo cy ad2 I A G T ++ [qd_L cy ao o]) ++ Wm cy am J B w) H locs → lv_has ls 7 (ql_base i ao (am 0) (ad 0) b) → W p l e room_1 s m #[Value.ref b] below meth c H locs (cells + 1) (slots + 6) Q (F0 m 3735 ls [])) : W p l e room_1 s m #[Value.ref b] below meth c H locs cells slots Q (F0 m 1945 ls []) := by
  have hx := S0.1; have hb := S0.2.1
  have hc0 : cells ≤ 601024 := Nat.le_trans (Nat.le_add_right _ _) hc; have hs0 : slots ≤ 7293034 := Nat.le_trans (Nat.le_add_right _ _) hs
  obtain ⟨ro, hX7, rb, J9, hM8, h0, h1⟩ := (hE ad I A G T J B w (xs (i + 1).toNatClampNeg) hI)
  have hl : lv_has ls 7 [(4, .int i), (3, .ref ao), (2, .ref (am 0)), (1, .ref (ad 0)), (0, .ref b)] := hl
  refine lv_aload_n hx hb dL_law_1945 rfl (lv_at hl 3 rfl) ?_
  refine lv_aload_n hx hb dL_law_1946 rfl (lv_at hl 4 rfl) ?_
  refine lv_iload hx hb dL_law_1947 (lv_at hl 0 rfl) ?_
  refine lv_iconst (v := 1) hx hb dL_law_1949 (by decide) ?_
  refine lv_iadd hx hb dL_law_1950 ?_
  refine va_sld hx hb hX hbl hbA V.2.2.2.1 (hin 1 (by decide)) dL_law_1951 ?_
  refine lv_aload_n hx hb dL_law_1952 rfl (lv_at hl 1 rfl) ?_
  refine ql_cW (rest := []) (wc := (Wo cy ad I A G T) ++ [qd_L cy ao o]) (wr := (Wm cy am J B w)) S0 V hl (c_L_spent l hst hX7) kg_L_266 rfl ⟨rfl, rfl⟩ kd_L_spent ⟨(Nat.le_of_ble_eq_true rfl), (Nat.le_of_ble_eq_true rfl)⟩ rfl rfl (Nat.le_of_ble_eq_true rfl) ⟨hc, hs⟩ dL_law_1953 (fun H locs hro V => ?_) (fun v9 H locs hro V => ?_)
  · have hcN : cells + 1 + 0 ≤ 601024 := hc
    have hsN : slots + 6 + 0 ≤ 7293034 := hs
    obtain ⟨t1, hI9⟩ := h0 hro
    refine lv_istore (lv' := [(5, .int 1), (4, .int i), (3, .ref ao), (2, .ref (am 0)), (1, .ref (ad 0)), (0, .ref b)]) hx hb dL_law_1956 hl (by decide) rfl (fun ls hl => ?_)
    refine lv_aload_n hx hb dL_law_1958 rfl (lv_at hl 3 rfl) ?_
    refine lv_aload_n hx hb dL_law_1959 rfl (lv_at hl 5 rfl) ?_
    refine lv_iload hx hb dL_law_1960 (lv_at hl 1 rfl) ?_
    refine lv_iconst (v := 1) hx hb dL_law_1962 (by decide) ?_
    refine lv_iadd hx hb dL_law_1963 ?_
    refine va_sld hx hb hX hbl hbA V.2.2.2.1 (hin 1 (by decide)) dL_law_1964 ?_
    have V := ql_V.swap V
    refine ql_cV (rest := []) (st1 := [.int rb]) (wc := (Wm cy am J B w)) (wr := ((Wo cy ad I A G T) ++ [qd_L cy ao o])) S0 V hl 0 gM_0 rfl (c_X8_spent l hM8) kg_L_268 rfl ⟨rfl, rfl⟩ kd_X8_spent ⟨(Nat.le_of_ble_eq_true rfl), (Nat.le_of_ble_eq_true rfl)⟩ rfl rfl (Nat.le_of_ble_eq_true rfl) ⟨hcN, hsN⟩ rfl dL_law_1965 (fun H locs V => ?_)
    have V := ql_V.swap V
    refine lv_istore (lv' := [(6, .int rb), (5, .int 1), (4, .int i), (3, .ref ao), (2, .ref (am 0)), (1, .ref (ad 0)), (0, .ref b)]) hx hb dL_law_1968 hl (by decide) rfl (fun ls hl => ?_)
    refine lv_aload_n hx hb dL_law_1970 rfl (lv_at hl 4 rfl) ?_
    refine ql_cVR (rest := []) (st1 := [.int (J9 1)]) (wc := (Wm cy am J9 B w)) (wr := ((Wo cy ad I A G T) ++ [qd_L cy ao o])) S0 (ql_V.swap V) hl 0 gM_0 rfl (c_X8_thrown l rfl) kg_L_200 rfl ⟨rfl, rfl⟩ kd_X8_thrown ⟨(Nat.le_of_ble_eq_true rfl), (Nat.le_of_ble_eq_true rfl)⟩ rfl rfl (Nat.le_of_ble_eq_true rfl) ⟨hcN, hsN⟩ rfl dL_law_1971 ?_
    refine lv_iload hx hb dL_law_1974 (lv_at hl 1 rfl) ?_
    refine lv_icmp_eq (tgt := 1981) hx hb dL_law_1976 (by decide) (fun _ => ?_) (fun c9 => absurd t1 c9)
    refine lv_iload hx hb dL_law_1981 (lv_at hl 1 rfl) ?_
    refine lv_if_ne (tgt := 1998) hx hb dL_law_1983 (by decide) (fun _ => ?_) (fun c9 => absurd c9 (by decide))
    refine lv_goto (tgt := 3735) hx hb dL_law_1998 (by decide) ?_
    exact K _ _ _ _ _ _ _ _ _ _ _ _ rfl hI9 V (lv_sub hl [2, 3, 4, 5, 6] rfl)
  · have hcN : cells + 1 + 0 ≤ 601024 := hc
    have hsN : slots + 6 + 0 ≤ 7293034 := hs
    obtain ⟨t1, hOut, hI9⟩ := h1 v9 hro
    have V : qw_V D cy Z s (((Wo cy ad I A G T) ++ [qd_L cy ao (vp_updL o 0 (v9).toInt64)]) ++ (Wm cy am J B w)) H locs := V
    refine lv_istore (lv' := [(5, .int 0), (4, .int i), (3, .ref ao), (2, .ref (am 0)), (1, .ref (ad 0)), (0, .ref b)]) hx hb dL_law_1956 hl (by decide) rfl (fun ls hl => ?_)
    refine lv_aload_n hx hb dL_law_1958 rfl (lv_at hl 3 rfl) ?_
    refine lv_aload_n hx hb dL_law_1959 rfl (lv_at hl 5 rfl) ?_
    refine lv_iload hx hb dL_law_1960 (lv_at hl 1 rfl) ?_
    refine lv_iconst (v := 1) hx hb dL_law_1962 (by decide) ?_
    refine lv_iadd hx hb dL_law_1963 ?_
    refine va_sld hx hb hX hbl hbA V.2.2.2.1 (hin 1 (by decide)) dL_law_1964 ?_
    have V := ql_V.swap V
    refine ql_cV (rest := []) (st1 := [.int rb]) (wc := (Wm cy am J B w)) (wr := ((Wo cy ad I A G T) ++ [qd_L cy ao (vp_updL o 0 (v9).toInt64)])) S0 V hl 0 gM_0 rfl (c_X8_spent l hM8) kg_L_268 rfl ⟨rfl, rfl⟩ kd_X8_spent ⟨(Nat.le_of_ble_eq_true rfl), (Nat.le_of_ble_eq_true rfl)⟩ rfl rfl (Nat.le_of_ble_eq_true rfl) ⟨hcN, hsN⟩ rfl dL_law_1965 (fun H locs V => ?_)
    have V := ql_V.swap V
    refine lv_istore (lv' := [(6, .int rb), (5, .int 0), (4, .int i), (3, .ref ao), (2, .ref (am 0)), (1, .ref (ad 0)), (0, .ref b)]) hx hb dL_law_1968 hl (by decide) rfl (fun ls hl => ?_)
    refine lv_aload_n hx hb dL_law_1970 rfl (lv_at hl 4 rfl) ?_
    refine ql_cVR (rest := []) (st1 := [.int (J9 1)]) (wc := (Wm cy am J9 B w)) (wr := ((Wo cy ad I A G T) ++ [qd_L cy ao (vp_updL o 0 (v9).toInt64)])) S0 (ql_V.swap V) hl 0 gM_0 rfl (c_X8_thrown l rfl) kg_L_200 rfl ⟨rfl, rfl⟩ kd_X8_thrown ⟨(Nat.le_of_ble_eq_true rfl), (Nat.le_of_ble_eq_true rfl)⟩ rfl rfl (Nat.le_of_ble_eq_true rfl) ⟨hcN, hsN⟩ rfl dL_law_1971 ?_
    refine lv_iload hx hb dL_law_1974 (lv_at hl 1 rfl) ?_
    refine lv_icmp_eq (tgt := 1981) hx hb dL_law_1976 (by decide) (fun _ => ?_) (fun c9 => absurd t1 c9)
    refine lv_iload hx hb dL_law_1981 (lv_at hl 1 rfl) ?_
    refine lv_if_ne (tgt := 1998) hx hb dL_law_1983 (by decide) (fun c9 => absurd rfl c9) (fun _ => ?_)
    refine lv_aload_n hx hb dL_law_1986 rfl (lv_at hl 3 rfl) ?_
    refine lv_iconst (v := 0) hx hb dL_law_1987 (by decide) ?_
    refine ql_lald S0 V rfl dL_law_1988 ?_
    refine lv_iload hx hb dL_law_1989 (lv_at hl 0 rfl) ?_
    refine lv_i2l hx hb dL_law_1991 rfl ?_
    refine W.lcmp hx hb dL_law_1992 ?_
    refine lv_if_eq (tgt := 1998) hx hb dL_law_1993 (by decide) (fun _ => ?_) (fun c9 => absurd (by show lg_cmp (v9).toInt64 (rb.toInt64) = 0; rw [hOut]; exact ql_cmp _) c9)
    refine lv_goto (tgt := 3735) hx hb dL_law_1998 (by decide) ?_
    exact K _ _ _ _ _ _ _ _ _ _ _ _ rfl hI9 V (lv_sub hl [2, 3, 4, 5, 6] rfl)
set_option maxHeartbeats 4000000 in
set_option maxRecDepth 100000 in
theorem ql_35 {p : Program} {l : Launch} {e : Env} {s : State} {m : MethodId} {below : List Frame} {meth : Method} {c : Code} {Q : State → Prop} {D : va_G} {cy : Nat → ClassId} {Z : Nat → Prop} {b L : Nat} {xs : Nat → Int32} (hst : l.stackTraces = false) (S0 : CallFix p m c code 7 s #[Value.ref b] qw_big RL) (hX : va_X b L xs s s.heap) (hbl : b < s.heap.size) (hbA : ¬ Z b) {Inv : ql_Inv} (hE : QE_lapsed Inv) {ad am : Nat → Nat} {I : Nat → Int32} {A : Nat → Nat → Int32} {G : Nat → Int32 × (Nat → Nat → Int32)} {T : Nat} {J : Nat → Int32} {B : Nat → Nat → Int32} {w : Int64} {ao : Nat} {o : Nat → Int64} {H : Heap} {locs : List Loc} {cells slots : Nat} {ls : Array Slot} (hI : Inv I A G T J B w) (V : qw_V D cy Z s (((Wo cy ad I A G T) ++ [qd_L cy ao o]) ++ (Wm cy am J B w)) H locs) {i : Int32} (hin : ∀ j : Nat, j ≤ 5 → vp_in (i + Int32.ofNat j) L) (hl : lv_has ls 7 (ql_base i ao (am 0) (ad 0) b)) (hc : cells + 1 ≤ 601024) (hs : slots + 6 ≤ 7293034) (K : ∀ (ad2 : Nat → Nat) (I : Nat → Int32) (A : Nat → Nat → Int32) (G : Nat → Int32 × (Nat → Nat → Int32)) (T : Nat) (J : Nat → Int32) (B : Nat → Nat → Int32) (w : Int64) (o : Nat → Int64) (H : Heap) (locs : List Loc) (ls : Array Slot), ad2 0 = ad 0 → Inv I A G T J B w → qw_V D cy Z s ((Wo cy ad2 I A G T ++ [qd_L cy ao o]) ++ Wm cy am J B w) H locs → lv_has ls 7 (ql_base i ao (am 0) (ad 0) b) → W p l e room_1 s m #[Value.ref b] below meth c H locs (cells + 1) (slots + 6) Q (F0 m 3735 ls [])) : W p l e room_1 s m #[Value.ref b] below meth c H locs cells slots Q (F0 m 2001 ls []) := by
  have hx := S0.1; have hb := S0.2.1
  have hc0 : cells ≤ 601024 := Nat.le_trans (Nat.le_add_right _ _) hc; have hs0 : slots ≤ 7293034 := Nat.le_trans (Nat.le_add_right _ _) hs
  obtain ⟨ro, hX7, rb, J9, hM8, h0, h1⟩ := (hE ad I A G T J B w (xs (i + 1).toNatClampNeg) hI)
  have hl : lv_has ls 7 [(4, .int i), (3, .ref ao), (2, .ref (am 0)), (1, .ref (ad 0)), (0, .ref b)] := hl
  refine lv_aload_n hx hb dL_law_2001 rfl (lv_at hl 3 rfl) ?_
  refine lv_aload_n hx hb dL_law_2002 rfl (lv_at hl 4 rfl) ?_
  refine lv_iload hx hb dL_law_2003 (lv_at hl 0 rfl) ?_
  refine lv_iconst (v := 1) hx hb dL_law_2005 (by decide) ?_
  refine lv_iadd hx hb dL_law_2006 ?_
  refine va_sld hx hb hX hbl hbA V.2.2.2.1 (hin 1 (by decide)) dL_law_2007 ?_
  refine lv_aload_n hx hb dL_law_2008 rfl (lv_at hl 1 rfl) ?_
  refine ql_cW (rest := []) (wc := (Wo cy ad I A G T) ++ [qd_L cy ao o]) (wr := (Wm cy am J B w)) S0 V hl (c_L_lapsed l hst hX7) kg_L_269 rfl ⟨rfl, rfl⟩ kd_L_lapsed ⟨(Nat.le_of_ble_eq_true rfl), (Nat.le_of_ble_eq_true rfl)⟩ rfl rfl (Nat.le_of_ble_eq_true rfl) ⟨hc, hs⟩ dL_law_2009 (fun H locs hro V => ?_) (fun v9 H locs hro V => ?_)
  · have hcN : cells + 1 + 0 ≤ 601024 := hc
    have hsN : slots + 6 + 0 ≤ 7293034 := hs
    obtain ⟨t1, hI9⟩ := h0 hro
    refine lv_istore (lv' := [(5, .int 1), (4, .int i), (3, .ref ao), (2, .ref (am 0)), (1, .ref (ad 0)), (0, .ref b)]) hx hb dL_law_2012 hl (by decide) rfl (fun ls hl => ?_)
    refine lv_aload_n hx hb dL_law_2014 rfl (lv_at hl 3 rfl) ?_
    refine lv_aload_n hx hb dL_law_2015 rfl (lv_at hl 5 rfl) ?_
    refine lv_iload hx hb dL_law_2016 (lv_at hl 1 rfl) ?_
    refine lv_iconst (v := 1) hx hb dL_law_2018 (by decide) ?_
    refine lv_iadd hx hb dL_law_2019 ?_
    refine va_sld hx hb hX hbl hbA V.2.2.2.1 (hin 1 (by decide)) dL_law_2020 ?_
    have V := ql_V.swap V
    refine ql_cV (rest := []) (st1 := [.int rb]) (wc := (Wm cy am J B w)) (wr := ((Wo cy ad I A G T) ++ [qd_L cy ao o])) S0 V hl 0 gM_0 rfl (c_X8_lapsed l hM8) kg_L_271 rfl ⟨rfl, rfl⟩ kd_X8_lapsed ⟨(Nat.le_of_ble_eq_true rfl), (Nat.le_of_ble_eq_true rfl)⟩ rfl rfl (Nat.le_of_ble_eq_true rfl) ⟨hcN, hsN⟩ rfl dL_law_2021 (fun H locs V => ?_)
    have V := ql_V.swap V
    refine lv_istore (lv' := [(6, .int rb), (5, .int 1), (4, .int i), (3, .ref ao), (2, .ref (am 0)), (1, .ref (ad 0)), (0, .ref b)]) hx hb dL_law_2024 hl (by decide) rfl (fun ls hl => ?_)
    refine lv_aload_n hx hb dL_law_2026 rfl (lv_at hl 4 rfl) ?_
    refine ql_cVR (rest := []) (st1 := [.int (J9 1)]) (wc := (Wm cy am J9 B w)) (wr := ((Wo cy ad I A G T) ++ [qd_L cy ao o])) S0 (ql_V.swap V) hl 0 gM_0 rfl (c_X8_thrown l rfl) kg_L_200 rfl ⟨rfl, rfl⟩ kd_X8_thrown ⟨(Nat.le_of_ble_eq_true rfl), (Nat.le_of_ble_eq_true rfl)⟩ rfl rfl (Nat.le_of_ble_eq_true rfl) ⟨hcN, hsN⟩ rfl dL_law_2027 ?_
    refine lv_iload hx hb dL_law_2030 (lv_at hl 1 rfl) ?_
    refine lv_icmp_eq (tgt := 2037) hx hb dL_law_2032 (by decide) (fun _ => ?_) (fun c9 => absurd t1 c9)
    refine lv_iload hx hb dL_law_2037 (lv_at hl 1 rfl) ?_
    refine lv_if_ne (tgt := 2054) hx hb dL_law_2039 (by decide) (fun _ => ?_) (fun c9 => absurd c9 (by decide))
    refine lv_goto (tgt := 3735) hx hb dL_law_2054 (by decide) ?_
    exact K _ _ _ _ _ _ _ _ _ _ _ _ rfl hI9 V (lv_sub hl [2, 3, 4, 5, 6] rfl)
  · have hcN : cells + 1 + 0 ≤ 601024 := hc
    have hsN : slots + 6 + 0 ≤ 7293034 := hs
    obtain ⟨t1, hOut, hI9⟩ := h1 v9 hro
    have V : qw_V D cy Z s (((Wo cy ad I A G T) ++ [qd_L cy ao (vp_updL o 0 (v9).toInt64)]) ++ (Wm cy am J B w)) H locs := V
    refine lv_istore (lv' := [(5, .int 0), (4, .int i), (3, .ref ao), (2, .ref (am 0)), (1, .ref (ad 0)), (0, .ref b)]) hx hb dL_law_2012 hl (by decide) rfl (fun ls hl => ?_)
    refine lv_aload_n hx hb dL_law_2014 rfl (lv_at hl 3 rfl) ?_
    refine lv_aload_n hx hb dL_law_2015 rfl (lv_at hl 5 rfl) ?_
    refine lv_iload hx hb dL_law_2016 (lv_at hl 1 rfl) ?_
    refine lv_iconst (v := 1) hx hb dL_law_2018 (by decide) ?_
    refine lv_iadd hx hb dL_law_2019 ?_
    refine va_sld hx hb hX hbl hbA V.2.2.2.1 (hin 1 (by decide)) dL_law_2020 ?_
    have V := ql_V.swap V
    refine ql_cV (rest := []) (st1 := [.int rb]) (wc := (Wm cy am J B w)) (wr := ((Wo cy ad I A G T) ++ [qd_L cy ao (vp_updL o 0 (v9).toInt64)])) S0 V hl 0 gM_0 rfl (c_X8_lapsed l hM8) kg_L_271 rfl ⟨rfl, rfl⟩ kd_X8_lapsed ⟨(Nat.le_of_ble_eq_true rfl), (Nat.le_of_ble_eq_true rfl)⟩ rfl rfl (Nat.le_of_ble_eq_true rfl) ⟨hcN, hsN⟩ rfl dL_law_2021 (fun H locs V => ?_)
    have V := ql_V.swap V
    refine lv_istore (lv' := [(6, .int rb), (5, .int 0), (4, .int i), (3, .ref ao), (2, .ref (am 0)), (1, .ref (ad 0)), (0, .ref b)]) hx hb dL_law_2024 hl (by decide) rfl (fun ls hl => ?_)
    refine lv_aload_n hx hb dL_law_2026 rfl (lv_at hl 4 rfl) ?_
    refine ql_cVR (rest := []) (st1 := [.int (J9 1)]) (wc := (Wm cy am J9 B w)) (wr := ((Wo cy ad I A G T) ++ [qd_L cy ao (vp_updL o 0 (v9).toInt64)])) S0 (ql_V.swap V) hl 0 gM_0 rfl (c_X8_thrown l rfl) kg_L_200 rfl ⟨rfl, rfl⟩ kd_X8_thrown ⟨(Nat.le_of_ble_eq_true rfl), (Nat.le_of_ble_eq_true rfl)⟩ rfl rfl (Nat.le_of_ble_eq_true rfl) ⟨hcN, hsN⟩ rfl dL_law_2027 ?_
    refine lv_iload hx hb dL_law_2030 (lv_at hl 1 rfl) ?_
    refine lv_icmp_eq (tgt := 2037) hx hb dL_law_2032 (by decide) (fun _ => ?_) (fun c9 => absurd t1 c9)
    refine lv_iload hx hb dL_law_2037 (lv_at hl 1 rfl) ?_
    refine lv_if_ne (tgt := 2054) hx hb dL_law_2039 (by decide) (fun c9 => absurd rfl c9) (fun _ => ?_)
    refine lv_aload_n hx hb dL_law_2042 rfl (lv_at hl 3 rfl) ?_
    refine lv_iconst (v := 0) hx hb dL_law_2043 (by decide) ?_
    refine ql_lald S0 V rfl dL_law_2044 ?_
    refine lv_iload hx hb dL_law_2045 (lv_at hl 0 rfl) ?_
    refine lv_i2l hx hb dL_law_2047 rfl ?_
    refine W.lcmp hx hb dL_law_2048 ?_
    refine lv_if_eq (tgt := 2054) hx hb dL_law_2049 (by decide) (fun _ => ?_) (fun c9 => absurd (by show lg_cmp (v9).toInt64 (rb.toInt64) = 0; rw [hOut]; exact ql_cmp _) c9)
    refine lv_goto (tgt := 3735) hx hb dL_law_2054 (by decide) ?_
    exact K _ _ _ _ _ _ _ _ _ _ _ _ rfl hI9 V (lv_sub hl [2, 3, 4, 5, 6] rfl)
set_option maxHeartbeats 4000000 in
set_option maxRecDepth 100000 in
theorem ql_36 {p : Program} {l : Launch} {e : Env} {s : State} {m : MethodId} {below : List Frame} {meth : Method} {c : Code} {Q : State → Prop} {D : va_G} {cy : Nat → ClassId} {Z : Nat → Prop} {b L : Nat} {xs : Nat → Int32} (hst : l.stackTraces = false) (S0 : CallFix p m c code 7 s #[Value.ref b] qw_big RL) (hX : va_X b L xs s s.heap) (hbl : b < s.heap.size) (hbA : ¬ Z b) {Inv : ql_Inv} (hE : QE_held Inv) {ad am : Nat → Nat} {I : Nat → Int32} {A : Nat → Nat → Int32} {G : Nat → Int32 × (Nat → Nat → Int32)} {T : Nat} {J : Nat → Int32} {B : Nat → Nat → Int32} {w : Int64} {ao : Nat} {o : Nat → Int64} {H : Heap} {locs : List Loc} {cells slots : Nat} {ls : Array Slot} (hI : Inv I A G T J B w) (V : qw_V D cy Z s (((Wo cy ad I A G T) ++ [qd_L cy ao o]) ++ (Wm cy am J B w)) H locs) {i : Int32} (hin : ∀ j : Nat, j ≤ 5 → vp_in (i + Int32.ofNat j) L) (hl : lv_has ls 7 (ql_base i ao (am 0) (ad 0) b)) (hc : cells + 1 ≤ 601024) (hs : slots + 6 ≤ 7293034) (K : ∀ (ad2 : Nat → Nat) (I : Nat → Int32) (A : Nat → Nat → Int32) (G : Nat → Int32 × (Nat → Nat → Int32)) (T : Nat) (J : Nat → Int32) (B : Nat → Nat → Int32) (w : Int64) (o : Nat → Int64) (H : Heap) (locs : List Loc) (ls : Array Slot), ad2 0 = ad 0 → Inv I A G T J B w → qw_V D cy Z s ((Wo cy ad2 I A G T ++ [qd_L cy ao o]) ++ Wm cy am J B w) H locs → lv_has ls 7 (ql_base i ao (am 0) (ad 0) b) → W p l e room_1 s m #[Value.ref b] below meth c H locs (cells + 1) (slots + 6) Q (F0 m 3735 ls [])) : W p l e room_1 s m #[Value.ref b] below meth c H locs cells slots Q (F0 m 2057 ls []) := by
  have hx := S0.1; have hb := S0.2.1
  have hc0 : cells ≤ 601024 := Nat.le_trans (Nat.le_add_right _ _) hc; have hs0 : slots ≤ 7293034 := Nat.le_trans (Nat.le_add_right _ _) hs
  obtain ⟨ro, hX7, rb, J9, hM8, h0, h1⟩ := (hE ad I A G T J B w (xs (i + 1).toNatClampNeg) hI)
  have hl : lv_has ls 7 [(4, .int i), (3, .ref ao), (2, .ref (am 0)), (1, .ref (ad 0)), (0, .ref b)] := hl
  refine lv_aload_n hx hb dL_law_2057 rfl (lv_at hl 3 rfl) ?_
  refine lv_aload_n hx hb dL_law_2058 rfl (lv_at hl 4 rfl) ?_
  refine lv_iload hx hb dL_law_2059 (lv_at hl 0 rfl) ?_
  refine lv_iconst (v := 1) hx hb dL_law_2061 (by decide) ?_
  refine lv_iadd hx hb dL_law_2062 ?_
  refine va_sld hx hb hX hbl hbA V.2.2.2.1 (hin 1 (by decide)) dL_law_2063 ?_
  refine lv_aload_n hx hb dL_law_2064 rfl (lv_at hl 1 rfl) ?_
  refine ql_cW (rest := []) (wc := (Wo cy ad I A G T) ++ [qd_L cy ao o]) (wr := (Wm cy am J B w)) S0 V hl (c_L_held l hst hX7) kg_L_272 rfl ⟨rfl, rfl⟩ kd_L_held ⟨(Nat.le_of_ble_eq_true rfl), (Nat.le_of_ble_eq_true rfl)⟩ rfl rfl (Nat.le_of_ble_eq_true rfl) ⟨hc, hs⟩ dL_law_2065 (fun H locs hro V => ?_) (fun v9 H locs hro V => ?_)
  · have hcN : cells + 1 + 0 ≤ 601024 := hc
    have hsN : slots + 6 + 0 ≤ 7293034 := hs
    obtain ⟨t1, hI9⟩ := h0 hro
    refine lv_istore (lv' := [(5, .int 1), (4, .int i), (3, .ref ao), (2, .ref (am 0)), (1, .ref (ad 0)), (0, .ref b)]) hx hb dL_law_2068 hl (by decide) rfl (fun ls hl => ?_)
    refine lv_aload_n hx hb dL_law_2070 rfl (lv_at hl 3 rfl) ?_
    refine lv_aload_n hx hb dL_law_2071 rfl (lv_at hl 5 rfl) ?_
    refine lv_iload hx hb dL_law_2072 (lv_at hl 1 rfl) ?_
    refine lv_iconst (v := 1) hx hb dL_law_2074 (by decide) ?_
    refine lv_iadd hx hb dL_law_2075 ?_
    refine va_sld hx hb hX hbl hbA V.2.2.2.1 (hin 1 (by decide)) dL_law_2076 ?_
    have V := ql_V.swap V
    refine ql_cV (rest := []) (st1 := [.int rb]) (wc := (Wm cy am J B w)) (wr := ((Wo cy ad I A G T) ++ [qd_L cy ao o])) S0 V hl 0 gM_0 rfl (c_X8_held l hM8) kg_L_274 rfl ⟨rfl, rfl⟩ kd_X8_held ⟨(Nat.le_of_ble_eq_true rfl), (Nat.le_of_ble_eq_true rfl)⟩ rfl rfl (Nat.le_of_ble_eq_true rfl) ⟨hcN, hsN⟩ rfl dL_law_2077 (fun H locs V => ?_)
    have V := ql_V.swap V
    refine lv_istore (lv' := [(6, .int rb), (5, .int 1), (4, .int i), (3, .ref ao), (2, .ref (am 0)), (1, .ref (ad 0)), (0, .ref b)]) hx hb dL_law_2080 hl (by decide) rfl (fun ls hl => ?_)
    refine lv_aload_n hx hb dL_law_2082 rfl (lv_at hl 4 rfl) ?_
    refine ql_cVR (rest := []) (st1 := [.int (J9 1)]) (wc := (Wm cy am J9 B w)) (wr := ((Wo cy ad I A G T) ++ [qd_L cy ao o])) S0 (ql_V.swap V) hl 0 gM_0 rfl (c_X8_thrown l rfl) kg_L_200 rfl ⟨rfl, rfl⟩ kd_X8_thrown ⟨(Nat.le_of_ble_eq_true rfl), (Nat.le_of_ble_eq_true rfl)⟩ rfl rfl (Nat.le_of_ble_eq_true rfl) ⟨hcN, hsN⟩ rfl dL_law_2083 ?_
    refine lv_iload hx hb dL_law_2086 (lv_at hl 1 rfl) ?_
    refine lv_icmp_eq (tgt := 2093) hx hb dL_law_2088 (by decide) (fun _ => ?_) (fun c9 => absurd t1 c9)
    refine lv_iload hx hb dL_law_2093 (lv_at hl 1 rfl) ?_
    refine lv_if_ne (tgt := 2110) hx hb dL_law_2095 (by decide) (fun _ => ?_) (fun c9 => absurd c9 (by decide))
    refine lv_goto (tgt := 3735) hx hb dL_law_2110 (by decide) ?_
    exact K _ _ _ _ _ _ _ _ _ _ _ _ rfl hI9 V (lv_sub hl [2, 3, 4, 5, 6] rfl)
  · have hcN : cells + 1 + 0 ≤ 601024 := hc
    have hsN : slots + 6 + 0 ≤ 7293034 := hs
    obtain ⟨t1, hOut, hI9⟩ := h1 v9 hro
    have V : qw_V D cy Z s (((Wo cy ad I A G T) ++ [qd_L cy ao (vp_updL o 0 (v9).toInt64)]) ++ (Wm cy am J B w)) H locs := V
    refine lv_istore (lv' := [(5, .int 0), (4, .int i), (3, .ref ao), (2, .ref (am 0)), (1, .ref (ad 0)), (0, .ref b)]) hx hb dL_law_2068 hl (by decide) rfl (fun ls hl => ?_)
    refine lv_aload_n hx hb dL_law_2070 rfl (lv_at hl 3 rfl) ?_
    refine lv_aload_n hx hb dL_law_2071 rfl (lv_at hl 5 rfl) ?_
    refine lv_iload hx hb dL_law_2072 (lv_at hl 1 rfl) ?_
    refine lv_iconst (v := 1) hx hb dL_law_2074 (by decide) ?_
    refine lv_iadd hx hb dL_law_2075 ?_
    refine va_sld hx hb hX hbl hbA V.2.2.2.1 (hin 1 (by decide)) dL_law_2076 ?_
    have V := ql_V.swap V
    refine ql_cV (rest := []) (st1 := [.int rb]) (wc := (Wm cy am J B w)) (wr := ((Wo cy ad I A G T) ++ [qd_L cy ao (vp_updL o 0 (v9).toInt64)])) S0 V hl 0 gM_0 rfl (c_X8_held l hM8) kg_L_274 rfl ⟨rfl, rfl⟩ kd_X8_held ⟨(Nat.le_of_ble_eq_true rfl), (Nat.le_of_ble_eq_true rfl)⟩ rfl rfl (Nat.le_of_ble_eq_true rfl) ⟨hcN, hsN⟩ rfl dL_law_2077 (fun H locs V => ?_)
    have V := ql_V.swap V
    refine lv_istore (lv' := [(6, .int rb), (5, .int 0), (4, .int i), (3, .ref ao), (2, .ref (am 0)), (1, .ref (ad 0)), (0, .ref b)]) hx hb dL_law_2080 hl (by decide) rfl (fun ls hl => ?_)
    refine lv_aload_n hx hb dL_law_2082 rfl (lv_at hl 4 rfl) ?_
    refine ql_cVR (rest := []) (st1 := [.int (J9 1)]) (wc := (Wm cy am J9 B w)) (wr := ((Wo cy ad I A G T) ++ [qd_L cy ao (vp_updL o 0 (v9).toInt64)])) S0 (ql_V.swap V) hl 0 gM_0 rfl (c_X8_thrown l rfl) kg_L_200 rfl ⟨rfl, rfl⟩ kd_X8_thrown ⟨(Nat.le_of_ble_eq_true rfl), (Nat.le_of_ble_eq_true rfl)⟩ rfl rfl (Nat.le_of_ble_eq_true rfl) ⟨hcN, hsN⟩ rfl dL_law_2083 ?_
    refine lv_iload hx hb dL_law_2086 (lv_at hl 1 rfl) ?_
    refine lv_icmp_eq (tgt := 2093) hx hb dL_law_2088 (by decide) (fun _ => ?_) (fun c9 => absurd t1 c9)
    refine lv_iload hx hb dL_law_2093 (lv_at hl 1 rfl) ?_
    refine lv_if_ne (tgt := 2110) hx hb dL_law_2095 (by decide) (fun c9 => absurd rfl c9) (fun _ => ?_)
    refine lv_aload_n hx hb dL_law_2098 rfl (lv_at hl 3 rfl) ?_
    refine lv_iconst (v := 0) hx hb dL_law_2099 (by decide) ?_
    refine ql_lald S0 V rfl dL_law_2100 ?_
    refine lv_iload hx hb dL_law_2101 (lv_at hl 0 rfl) ?_
    refine lv_i2l hx hb dL_law_2103 rfl ?_
    refine W.lcmp hx hb dL_law_2104 ?_
    refine lv_if_eq (tgt := 2110) hx hb dL_law_2105 (by decide) (fun _ => ?_) (fun c9 => absurd (by show lg_cmp (v9).toInt64 (rb.toInt64) = 0; rw [hOut]; exact ql_cmp _) c9)
    refine lv_goto (tgt := 3735) hx hb dL_law_2110 (by decide) ?_
    exact K _ _ _ _ _ _ _ _ _ _ _ _ rfl hI9 V (lv_sub hl [2, 3, 4, 5, 6] rfl)
set_option maxHeartbeats 4000000 in
set_option maxRecDepth 100000 in
theorem ql_37 {p : Program} {l : Launch} {e : Env} {s : State} {m : MethodId} {below : List Frame} {meth : Method} {c : Code} {Q : State → Prop} {D : va_G} {cy : Nat → ClassId} {Z : Nat → Prop} {b L : Nat} {xs : Nat → Int32} (hst : l.stackTraces = false) (S0 : CallFix p m c code 7 s #[Value.ref b] qw_big RL) (hX : va_X b L xs s s.heap) (hbl : b < s.heap.size) (hbA : ¬ Z b) {Inv : ql_Inv} (hE : QE_reasonFor Inv) {ad am : Nat → Nat} {I : Nat → Int32} {A : Nat → Nat → Int32} {G : Nat → Int32 × (Nat → Nat → Int32)} {T : Nat} {J : Nat → Int32} {B : Nat → Nat → Int32} {w : Int64} {ao : Nat} {o : Nat → Int64} {H : Heap} {locs : List Loc} {cells slots : Nat} {ls : Array Slot} (hI : Inv I A G T J B w) (V : qw_V D cy Z s (((Wo cy ad I A G T) ++ [qd_L cy ao o]) ++ (Wm cy am J B w)) H locs) {i : Int32} (hin : ∀ j : Nat, j ≤ 5 → vp_in (i + Int32.ofNat j) L) (hl : lv_has ls 7 (ql_base i ao (am 0) (ad 0) b)) (hc : cells + 1 ≤ 601024) (hs : slots + 6 ≤ 7293034) (K : ∀ (ad2 : Nat → Nat) (I : Nat → Int32) (A : Nat → Nat → Int32) (G : Nat → Int32 × (Nat → Nat → Int32)) (T : Nat) (J : Nat → Int32) (B : Nat → Nat → Int32) (w : Int64) (o : Nat → Int64) (H : Heap) (locs : List Loc) (ls : Array Slot), ad2 0 = ad 0 → Inv I A G T J B w → qw_V D cy Z s ((Wo cy ad2 I A G T ++ [qd_L cy ao o]) ++ Wm cy am J B w) H locs → lv_has ls 7 (ql_base i ao (am 0) (ad 0) b) → W p l e room_1 s m #[Value.ref b] below meth c H locs (cells + 1) (slots + 6) Q (F0 m 3735 ls [])) : W p l e room_1 s m #[Value.ref b] below meth c H locs cells slots Q (F0 m 2113 ls []) := by
  have hx := S0.1; have hb := S0.2.1
  have hc0 : cells ≤ 601024 := Nat.le_trans (Nat.le_add_right _ _) hc; have hs0 : slots ≤ 7293034 := Nat.le_trans (Nat.le_add_right _ _) hs
  obtain ⟨ro, hX7, rb, J9, hM8, h0, h1⟩ := (hE ad I A G T J B w (xs (i + 1).toNatClampNeg) (xs (i + 2).toNatClampNeg) (xs (i + 3).toNatClampNeg) (xs (i + 4).toNatClampNeg) hI)
  have hl : lv_has ls 7 [(4, .int i), (3, .ref ao), (2, .ref (am 0)), (1, .ref (ad 0)), (0, .ref b)] := hl
  refine lv_aload_n hx hb dL_law_2113 rfl (lv_at hl 3 rfl) ?_
  refine lv_aload_n hx hb dL_law_2114 rfl (lv_at hl 4 rfl) ?_
  refine lv_iload hx hb dL_law_2115 (lv_at hl 0 rfl) ?_
  refine lv_iconst (v := 1) hx hb dL_law_2117 (by decide) ?_
  refine lv_iadd hx hb dL_law_2118 ?_
  refine va_sld hx hb hX hbl hbA V.2.2.2.1 (hin 1 (by decide)) dL_law_2119 ?_
  refine lv_aload_n hx hb dL_law_2120 rfl (lv_at hl 4 rfl) ?_
  refine lv_iload hx hb dL_law_2121 (lv_at hl 0 rfl) ?_
  refine lv_iconst (v := 2) hx hb dL_law_2123 (by decide) ?_
  refine lv_iadd hx hb dL_law_2124 ?_
  refine va_sld hx hb hX hbl hbA V.2.2.2.1 (hin 2 (by decide)) dL_law_2125 ?_
  refine lv_aload_n hx hb dL_law_2126 rfl (lv_at hl 4 rfl) ?_
  refine lv_iload hx hb dL_law_2127 (lv_at hl 0 rfl) ?_
  refine lv_iconst (v := 3) hx hb dL_law_2129 (by decide) ?_
  refine lv_iadd hx hb dL_law_2130 ?_
  refine va_sld hx hb hX hbl hbA V.2.2.2.1 (hin 3 (by decide)) dL_law_2131 ?_
  refine lv_aload_n hx hb dL_law_2132 rfl (lv_at hl 4 rfl) ?_
  refine lv_iload hx hb dL_law_2133 (lv_at hl 0 rfl) ?_
  refine lv_iconst (v := 4) hx hb dL_law_2135 (by decide) ?_
  refine lv_iadd hx hb dL_law_2136 ?_
  refine va_sld hx hb hX hbl hbA V.2.2.2.1 (hin 4 (by decide)) dL_law_2137 ?_
  refine lv_aload_n hx hb dL_law_2138 rfl (lv_at hl 1 rfl) ?_
  refine ql_cW (rest := []) (wc := (Wo cy ad I A G T) ++ [qd_L cy ao o]) (wr := (Wm cy am J B w)) S0 V hl (c_L_reasonFor l hst hX7) kg_L_275 rfl ⟨rfl, rfl⟩ kd_L_reasonFor ⟨(Nat.le_of_ble_eq_true rfl), (Nat.le_of_ble_eq_true rfl)⟩ rfl rfl (Nat.le_of_ble_eq_true rfl) ⟨hc, hs⟩ dL_law_2139 (fun H locs hro V => ?_) (fun v9 H locs hro V => ?_)
  · have hcN : cells + 1 + 0 ≤ 601024 := hc
    have hsN : slots + 6 + 0 ≤ 7293034 := hs
    obtain ⟨t1, hI9⟩ := h0 hro
    refine lv_istore (lv' := [(5, .int 1), (4, .int i), (3, .ref ao), (2, .ref (am 0)), (1, .ref (ad 0)), (0, .ref b)]) hx hb dL_law_2142 hl (by decide) rfl (fun ls hl => ?_)
    refine lv_aload_n hx hb dL_law_2144 rfl (lv_at hl 3 rfl) ?_
    refine lv_aload_n hx hb dL_law_2145 rfl (lv_at hl 5 rfl) ?_
    refine lv_iload hx hb dL_law_2146 (lv_at hl 1 rfl) ?_
    refine lv_iconst (v := 1) hx hb dL_law_2148 (by decide) ?_
    refine lv_iadd hx hb dL_law_2149 ?_
    refine va_sld hx hb hX hbl hbA V.2.2.2.1 (hin 1 (by decide)) dL_law_2150 ?_
    refine lv_aload_n hx hb dL_law_2151 rfl (lv_at hl 5 rfl) ?_
    refine lv_iload hx hb dL_law_2152 (lv_at hl 1 rfl) ?_
    refine lv_iconst (v := 2) hx hb dL_law_2154 (by decide) ?_
    refine lv_iadd hx hb dL_law_2155 ?_
    refine va_sld hx hb hX hbl hbA V.2.2.2.1 (hin 2 (by decide)) dL_law_2156 ?_
    refine lv_aload_n hx hb dL_law_2157 rfl (lv_at hl 5 rfl) ?_
    refine lv_iload hx hb dL_law_2158 (lv_at hl 1 rfl) ?_
    refine lv_iconst (v := 3) hx hb dL_law_2160 (by decide) ?_
    refine lv_iadd hx hb dL_law_2161 ?_
    refine va_sld hx hb hX hbl hbA V.2.2.2.1 (hin 3 (by decide)) dL_law_2162 ?_
    refine lv_aload_n hx hb dL_law_2163 rfl (lv_at hl 5 rfl) ?_
    refine lv_iload hx hb dL_law_2164 (lv_at hl 1 rfl) ?_
    refine lv_iconst (v := 4) hx hb dL_law_2166 (by decide) ?_
    refine lv_iadd hx hb dL_law_2167 ?_
    refine va_sld hx hb hX hbl hbA V.2.2.2.1 (hin 4 (by decide)) dL_law_2168 ?_
    have V := ql_V.swap V
    refine ql_cV (rest := []) (st1 := [.int rb]) (wc := (Wm cy am J B w)) (wr := ((Wo cy ad I A G T) ++ [qd_L cy ao o])) S0 V hl 0 gM_0 rfl (c_X8_reasonFor l hM8) kg_L_278 rfl ⟨rfl, rfl⟩ kd_X8_reasonFor ⟨(Nat.le_of_ble_eq_true rfl), (Nat.le_of_ble_eq_true rfl)⟩ rfl rfl (Nat.le_of_ble_eq_true rfl) ⟨hcN, hsN⟩ rfl dL_law_2169 (fun H locs V => ?_)
    have V := ql_V.swap V
    refine lv_istore (lv' := [(6, .int rb), (5, .int 1), (4, .int i), (3, .ref ao), (2, .ref (am 0)), (1, .ref (ad 0)), (0, .ref b)]) hx hb dL_law_2172 hl (by decide) rfl (fun ls hl => ?_)
    refine lv_aload_n hx hb dL_law_2174 rfl (lv_at hl 4 rfl) ?_
    refine ql_cVR (rest := []) (st1 := [.int (J9 1)]) (wc := (Wm cy am J9 B w)) (wr := ((Wo cy ad I A G T) ++ [qd_L cy ao o])) S0 (ql_V.swap V) hl 0 gM_0 rfl (c_X8_thrown l rfl) kg_L_200 rfl ⟨rfl, rfl⟩ kd_X8_thrown ⟨(Nat.le_of_ble_eq_true rfl), (Nat.le_of_ble_eq_true rfl)⟩ rfl rfl (Nat.le_of_ble_eq_true rfl) ⟨hcN, hsN⟩ rfl dL_law_2175 ?_
    refine lv_iload hx hb dL_law_2178 (lv_at hl 1 rfl) ?_
    refine lv_icmp_eq (tgt := 2185) hx hb dL_law_2180 (by decide) (fun _ => ?_) (fun c9 => absurd t1 c9)
    refine lv_iload hx hb dL_law_2185 (lv_at hl 1 rfl) ?_
    refine lv_if_ne (tgt := 2202) hx hb dL_law_2187 (by decide) (fun _ => ?_) (fun c9 => absurd c9 (by decide))
    refine lv_goto (tgt := 3735) hx hb dL_law_2202 (by decide) ?_
    exact K _ _ _ _ _ _ _ _ _ _ _ _ rfl hI9 V (lv_sub hl [2, 3, 4, 5, 6] rfl)
  · have hcN : cells + 1 + 0 ≤ 601024 := hc
    have hsN : slots + 6 + 0 ≤ 7293034 := hs
    obtain ⟨t1, hOut, hI9⟩ := h1 v9 hro
    have V : qw_V D cy Z s (((Wo cy ad I A G T) ++ [qd_L cy ao (vp_updL o 0 (v9).toInt64)]) ++ (Wm cy am J B w)) H locs := V
    refine lv_istore (lv' := [(5, .int 0), (4, .int i), (3, .ref ao), (2, .ref (am 0)), (1, .ref (ad 0)), (0, .ref b)]) hx hb dL_law_2142 hl (by decide) rfl (fun ls hl => ?_)
    refine lv_aload_n hx hb dL_law_2144 rfl (lv_at hl 3 rfl) ?_
    refine lv_aload_n hx hb dL_law_2145 rfl (lv_at hl 5 rfl) ?_
    refine lv_iload hx hb dL_law_2146 (lv_at hl 1 rfl) ?_
    refine lv_iconst (v := 1) hx hb dL_law_2148 (by decide) ?_
    refine lv_iadd hx hb dL_law_2149 ?_
    refine va_sld hx hb hX hbl hbA V.2.2.2.1 (hin 1 (by decide)) dL_law_2150 ?_
    refine lv_aload_n hx hb dL_law_2151 rfl (lv_at hl 5 rfl) ?_
    refine lv_iload hx hb dL_law_2152 (lv_at hl 1 rfl) ?_
    refine lv_iconst (v := 2) hx hb dL_law_2154 (by decide) ?_
    refine lv_iadd hx hb dL_law_2155 ?_
    refine va_sld hx hb hX hbl hbA V.2.2.2.1 (hin 2 (by decide)) dL_law_2156 ?_
    refine lv_aload_n hx hb dL_law_2157 rfl (lv_at hl 5 rfl) ?_
    refine lv_iload hx hb dL_law_2158 (lv_at hl 1 rfl) ?_
    refine lv_iconst (v := 3) hx hb dL_law_2160 (by decide) ?_
    refine lv_iadd hx hb dL_law_2161 ?_
    refine va_sld hx hb hX hbl hbA V.2.2.2.1 (hin 3 (by decide)) dL_law_2162 ?_
    refine lv_aload_n hx hb dL_law_2163 rfl (lv_at hl 5 rfl) ?_
    refine lv_iload hx hb dL_law_2164 (lv_at hl 1 rfl) ?_
    refine lv_iconst (v := 4) hx hb dL_law_2166 (by decide) ?_
    refine lv_iadd hx hb dL_law_2167 ?_
    refine va_sld hx hb hX hbl hbA V.2.2.2.1 (hin 4 (by decide)) dL_law_2168 ?_
    have V := ql_V.swap V
    refine ql_cV (rest := []) (st1 := [.int rb]) (wc := (Wm cy am J B w)) (wr := ((Wo cy ad I A G T) ++ [qd_L cy ao (vp_updL o 0 (v9).toInt64)])) S0 V hl 0 gM_0 rfl (c_X8_reasonFor l hM8) kg_L_278 rfl ⟨rfl, rfl⟩ kd_X8_reasonFor ⟨(Nat.le_of_ble_eq_true rfl), (Nat.le_of_ble_eq_true rfl)⟩ rfl rfl (Nat.le_of_ble_eq_true rfl) ⟨hcN, hsN⟩ rfl dL_law_2169 (fun H locs V => ?_)
    have V := ql_V.swap V
    refine lv_istore (lv' := [(6, .int rb), (5, .int 0), (4, .int i), (3, .ref ao), (2, .ref (am 0)), (1, .ref (ad 0)), (0, .ref b)]) hx hb dL_law_2172 hl (by decide) rfl (fun ls hl => ?_)
    refine lv_aload_n hx hb dL_law_2174 rfl (lv_at hl 4 rfl) ?_
    refine ql_cVR (rest := []) (st1 := [.int (J9 1)]) (wc := (Wm cy am J9 B w)) (wr := ((Wo cy ad I A G T) ++ [qd_L cy ao (vp_updL o 0 (v9).toInt64)])) S0 (ql_V.swap V) hl 0 gM_0 rfl (c_X8_thrown l rfl) kg_L_200 rfl ⟨rfl, rfl⟩ kd_X8_thrown ⟨(Nat.le_of_ble_eq_true rfl), (Nat.le_of_ble_eq_true rfl)⟩ rfl rfl (Nat.le_of_ble_eq_true rfl) ⟨hcN, hsN⟩ rfl dL_law_2175 ?_
    refine lv_iload hx hb dL_law_2178 (lv_at hl 1 rfl) ?_
    refine lv_icmp_eq (tgt := 2185) hx hb dL_law_2180 (by decide) (fun _ => ?_) (fun c9 => absurd t1 c9)
    refine lv_iload hx hb dL_law_2185 (lv_at hl 1 rfl) ?_
    refine lv_if_ne (tgt := 2202) hx hb dL_law_2187 (by decide) (fun c9 => absurd rfl c9) (fun _ => ?_)
    refine lv_aload_n hx hb dL_law_2190 rfl (lv_at hl 3 rfl) ?_
    refine lv_iconst (v := 0) hx hb dL_law_2191 (by decide) ?_
    refine ql_lald S0 V rfl dL_law_2192 ?_
    refine lv_iload hx hb dL_law_2193 (lv_at hl 0 rfl) ?_
    refine lv_i2l hx hb dL_law_2195 rfl ?_
    refine W.lcmp hx hb dL_law_2196 ?_
    refine lv_if_eq (tgt := 2202) hx hb dL_law_2197 (by decide) (fun _ => ?_) (fun c9 => absurd (by show lg_cmp (v9).toInt64 (rb.toInt64) = 0; rw [hOut]; exact ql_cmp _) c9)
    refine lv_goto (tgt := 3735) hx hb dL_law_2202 (by decide) ?_
    exact K _ _ _ _ _ _ _ _ _ _ _ _ rfl hI9 V (lv_sub hl [2, 3, 4, 5, 6] rfl)
set_option maxHeartbeats 4000000 in
set_option maxRecDepth 100000 in
theorem ql_38 {p : Program} {l : Launch} {e : Env} {s : State} {m : MethodId} {below : List Frame} {meth : Method} {c : Code} {Q : State → Prop} {D : va_G} {cy : Nat → ClassId} {Z : Nat → Prop} {b L : Nat} {xs : Nat → Int32} (hst : l.stackTraces = false) (S0 : CallFix p m c code 7 s #[Value.ref b] qw_big RL) (hX : va_X b L xs s s.heap) (hbl : b < s.heap.size) (hbA : ¬ Z b) {Inv : ql_Inv} (hE : QE_mostUnits Inv) {ad am : Nat → Nat} {I : Nat → Int32} {A : Nat → Nat → Int32} {G : Nat → Int32 × (Nat → Nat → Int32)} {T : Nat} {J : Nat → Int32} {B : Nat → Nat → Int32} {w : Int64} {ao : Nat} {o : Nat → Int64} {H : Heap} {locs : List Loc} {cells slots : Nat} {ls : Array Slot} (hI : Inv I A G T J B w) (V : qw_V D cy Z s (((Wo cy ad I A G T) ++ [qd_L cy ao o]) ++ (Wm cy am J B w)) H locs) {i : Int32} (hin : ∀ j : Nat, j ≤ 5 → vp_in (i + Int32.ofNat j) L) (hl : lv_has ls 7 (ql_base i ao (am 0) (ad 0) b)) (hc : cells + 1 ≤ 601024) (hs : slots + 6 ≤ 7293034) (K : ∀ (ad2 : Nat → Nat) (I : Nat → Int32) (A : Nat → Nat → Int32) (G : Nat → Int32 × (Nat → Nat → Int32)) (T : Nat) (J : Nat → Int32) (B : Nat → Nat → Int32) (w : Int64) (o : Nat → Int64) (H : Heap) (locs : List Loc) (ls : Array Slot), ad2 0 = ad 0 → Inv I A G T J B w → qw_V D cy Z s ((Wo cy ad2 I A G T ++ [qd_L cy ao o]) ++ Wm cy am J B w) H locs → lv_has ls 7 (ql_base i ao (am 0) (ad 0) b) → W p l e room_1 s m #[Value.ref b] below meth c H locs (cells + 1) (slots + 6) Q (F0 m 3735 ls [])) : W p l e room_1 s m #[Value.ref b] below meth c H locs cells slots Q (F0 m 2205 ls []) := by
  have hx := S0.1; have hb := S0.2.1
  have hc0 : cells ≤ 601024 := Nat.le_trans (Nat.le_add_right _ _) hc; have hs0 : slots ≤ 7293034 := Nat.le_trans (Nat.le_add_right _ _) hs
  obtain ⟨ro, hX7, rb, J9, hM8, h0, h1⟩ := (hE ad I A G T J B w (xs (i + 1).toNatClampNeg) (xs (i + 2).toNatClampNeg) (xs (i + 3).toNatClampNeg) hI)
  have hl : lv_has ls 7 [(4, .int i), (3, .ref ao), (2, .ref (am 0)), (1, .ref (ad 0)), (0, .ref b)] := hl
  refine lv_aload_n hx hb dL_law_2205 rfl (lv_at hl 3 rfl) ?_
  refine lv_aload_n hx hb dL_law_2206 rfl (lv_at hl 4 rfl) ?_
  refine lv_iload hx hb dL_law_2207 (lv_at hl 0 rfl) ?_
  refine lv_iconst (v := 1) hx hb dL_law_2209 (by decide) ?_
  refine lv_iadd hx hb dL_law_2210 ?_
  refine va_sld hx hb hX hbl hbA V.2.2.2.1 (hin 1 (by decide)) dL_law_2211 ?_
  refine lv_aload_n hx hb dL_law_2212 rfl (lv_at hl 4 rfl) ?_
  refine lv_iload hx hb dL_law_2213 (lv_at hl 0 rfl) ?_
  refine lv_iconst (v := 2) hx hb dL_law_2215 (by decide) ?_
  refine lv_iadd hx hb dL_law_2216 ?_
  refine va_sld hx hb hX hbl hbA V.2.2.2.1 (hin 2 (by decide)) dL_law_2217 ?_
  refine lv_aload_n hx hb dL_law_2218 rfl (lv_at hl 4 rfl) ?_
  refine lv_iload hx hb dL_law_2219 (lv_at hl 0 rfl) ?_
  refine lv_iconst (v := 3) hx hb dL_law_2221 (by decide) ?_
  refine lv_iadd hx hb dL_law_2222 ?_
  refine va_sld hx hb hX hbl hbA V.2.2.2.1 (hin 3 (by decide)) dL_law_2223 ?_
  refine lv_aload_n hx hb dL_law_2224 rfl (lv_at hl 1 rfl) ?_
  refine ql_cW (rest := []) (wc := (Wo cy ad I A G T) ++ [qd_L cy ao o]) (wr := (Wm cy am J B w)) S0 V hl (c_L_mostUnits l hst hX7) kg_L_279 rfl ⟨rfl, rfl⟩ kd_L_mostUnits ⟨(Nat.le_of_ble_eq_true rfl), (Nat.le_of_ble_eq_true rfl)⟩ rfl rfl (Nat.le_of_ble_eq_true rfl) ⟨hc, hs⟩ dL_law_2225 (fun H locs hro V => ?_) (fun v9 H locs hro V => ?_)
  · have hcN : cells + 1 + 0 ≤ 601024 := hc
    have hsN : slots + 6 + 0 ≤ 7293034 := hs
    obtain ⟨t1, hI9⟩ := h0 hro
    refine lv_istore (lv' := [(5, .int 1), (4, .int i), (3, .ref ao), (2, .ref (am 0)), (1, .ref (ad 0)), (0, .ref b)]) hx hb dL_law_2228 hl (by decide) rfl (fun ls hl => ?_)
    refine lv_aload_n hx hb dL_law_2230 rfl (lv_at hl 3 rfl) ?_
    refine lv_aload_n hx hb dL_law_2231 rfl (lv_at hl 5 rfl) ?_
    refine lv_iload hx hb dL_law_2232 (lv_at hl 1 rfl) ?_
    refine lv_iconst (v := 1) hx hb dL_law_2234 (by decide) ?_
    refine lv_iadd hx hb dL_law_2235 ?_
    refine va_sld hx hb hX hbl hbA V.2.2.2.1 (hin 1 (by decide)) dL_law_2236 ?_
    refine lv_aload_n hx hb dL_law_2237 rfl (lv_at hl 5 rfl) ?_
    refine lv_iload hx hb dL_law_2238 (lv_at hl 1 rfl) ?_
    refine lv_iconst (v := 2) hx hb dL_law_2240 (by decide) ?_
    refine lv_iadd hx hb dL_law_2241 ?_
    refine va_sld hx hb hX hbl hbA V.2.2.2.1 (hin 2 (by decide)) dL_law_2242 ?_
    refine lv_aload_n hx hb dL_law_2243 rfl (lv_at hl 5 rfl) ?_
    refine lv_iload hx hb dL_law_2244 (lv_at hl 1 rfl) ?_
    refine lv_iconst (v := 3) hx hb dL_law_2246 (by decide) ?_
    refine lv_iadd hx hb dL_law_2247 ?_
    refine va_sld hx hb hX hbl hbA V.2.2.2.1 (hin 3 (by decide)) dL_law_2248 ?_
    have V := ql_V.swap V
    refine ql_cV (rest := []) (st1 := [.int rb]) (wc := (Wm cy am J B w)) (wr := ((Wo cy ad I A G T) ++ [qd_L cy ao o])) S0 V hl 0 gM_0 rfl (c_X8_mostUnits l hM8) kg_L_281 rfl ⟨rfl, rfl⟩ kd_X8_mostUnits ⟨(Nat.le_of_ble_eq_true rfl), (Nat.le_of_ble_eq_true rfl)⟩ rfl rfl (Nat.le_of_ble_eq_true rfl) ⟨hcN, hsN⟩ rfl dL_law_2249 (fun H locs V => ?_)
    have V := ql_V.swap V
    refine lv_istore (lv' := [(6, .int rb), (5, .int 1), (4, .int i), (3, .ref ao), (2, .ref (am 0)), (1, .ref (ad 0)), (0, .ref b)]) hx hb dL_law_2252 hl (by decide) rfl (fun ls hl => ?_)
    refine lv_aload_n hx hb dL_law_2254 rfl (lv_at hl 4 rfl) ?_
    refine ql_cVR (rest := []) (st1 := [.int (J9 1)]) (wc := (Wm cy am J9 B w)) (wr := ((Wo cy ad I A G T) ++ [qd_L cy ao o])) S0 (ql_V.swap V) hl 0 gM_0 rfl (c_X8_thrown l rfl) kg_L_200 rfl ⟨rfl, rfl⟩ kd_X8_thrown ⟨(Nat.le_of_ble_eq_true rfl), (Nat.le_of_ble_eq_true rfl)⟩ rfl rfl (Nat.le_of_ble_eq_true rfl) ⟨hcN, hsN⟩ rfl dL_law_2255 ?_
    refine lv_iload hx hb dL_law_2258 (lv_at hl 1 rfl) ?_
    refine lv_icmp_eq (tgt := 2265) hx hb dL_law_2260 (by decide) (fun _ => ?_) (fun c9 => absurd t1 c9)
    refine lv_iload hx hb dL_law_2265 (lv_at hl 1 rfl) ?_
    refine lv_if_ne (tgt := 2282) hx hb dL_law_2267 (by decide) (fun _ => ?_) (fun c9 => absurd c9 (by decide))
    refine lv_goto (tgt := 3735) hx hb dL_law_2282 (by decide) ?_
    exact K _ _ _ _ _ _ _ _ _ _ _ _ rfl hI9 V (lv_sub hl [2, 3, 4, 5, 6] rfl)
  · have hcN : cells + 1 + 0 ≤ 601024 := hc
    have hsN : slots + 6 + 0 ≤ 7293034 := hs
    obtain ⟨t1, hOut, hI9⟩ := h1 v9 hro
    have V : qw_V D cy Z s (((Wo cy ad I A G T) ++ [qd_L cy ao (vp_updL o 0 (v9).toInt64)]) ++ (Wm cy am J B w)) H locs := V
    refine lv_istore (lv' := [(5, .int 0), (4, .int i), (3, .ref ao), (2, .ref (am 0)), (1, .ref (ad 0)), (0, .ref b)]) hx hb dL_law_2228 hl (by decide) rfl (fun ls hl => ?_)
    refine lv_aload_n hx hb dL_law_2230 rfl (lv_at hl 3 rfl) ?_
    refine lv_aload_n hx hb dL_law_2231 rfl (lv_at hl 5 rfl) ?_
    refine lv_iload hx hb dL_law_2232 (lv_at hl 1 rfl) ?_
    refine lv_iconst (v := 1) hx hb dL_law_2234 (by decide) ?_
    refine lv_iadd hx hb dL_law_2235 ?_
    refine va_sld hx hb hX hbl hbA V.2.2.2.1 (hin 1 (by decide)) dL_law_2236 ?_
    refine lv_aload_n hx hb dL_law_2237 rfl (lv_at hl 5 rfl) ?_
    refine lv_iload hx hb dL_law_2238 (lv_at hl 1 rfl) ?_
    refine lv_iconst (v := 2) hx hb dL_law_2240 (by decide) ?_
    refine lv_iadd hx hb dL_law_2241 ?_
    refine va_sld hx hb hX hbl hbA V.2.2.2.1 (hin 2 (by decide)) dL_law_2242 ?_
    refine lv_aload_n hx hb dL_law_2243 rfl (lv_at hl 5 rfl) ?_
    refine lv_iload hx hb dL_law_2244 (lv_at hl 1 rfl) ?_
    refine lv_iconst (v := 3) hx hb dL_law_2246 (by decide) ?_
    refine lv_iadd hx hb dL_law_2247 ?_
    refine va_sld hx hb hX hbl hbA V.2.2.2.1 (hin 3 (by decide)) dL_law_2248 ?_
    have V := ql_V.swap V
    refine ql_cV (rest := []) (st1 := [.int rb]) (wc := (Wm cy am J B w)) (wr := ((Wo cy ad I A G T) ++ [qd_L cy ao (vp_updL o 0 (v9).toInt64)])) S0 V hl 0 gM_0 rfl (c_X8_mostUnits l hM8) kg_L_281 rfl ⟨rfl, rfl⟩ kd_X8_mostUnits ⟨(Nat.le_of_ble_eq_true rfl), (Nat.le_of_ble_eq_true rfl)⟩ rfl rfl (Nat.le_of_ble_eq_true rfl) ⟨hcN, hsN⟩ rfl dL_law_2249 (fun H locs V => ?_)
    have V := ql_V.swap V
    refine lv_istore (lv' := [(6, .int rb), (5, .int 0), (4, .int i), (3, .ref ao), (2, .ref (am 0)), (1, .ref (ad 0)), (0, .ref b)]) hx hb dL_law_2252 hl (by decide) rfl (fun ls hl => ?_)
    refine lv_aload_n hx hb dL_law_2254 rfl (lv_at hl 4 rfl) ?_
    refine ql_cVR (rest := []) (st1 := [.int (J9 1)]) (wc := (Wm cy am J9 B w)) (wr := ((Wo cy ad I A G T) ++ [qd_L cy ao (vp_updL o 0 (v9).toInt64)])) S0 (ql_V.swap V) hl 0 gM_0 rfl (c_X8_thrown l rfl) kg_L_200 rfl ⟨rfl, rfl⟩ kd_X8_thrown ⟨(Nat.le_of_ble_eq_true rfl), (Nat.le_of_ble_eq_true rfl)⟩ rfl rfl (Nat.le_of_ble_eq_true rfl) ⟨hcN, hsN⟩ rfl dL_law_2255 ?_
    refine lv_iload hx hb dL_law_2258 (lv_at hl 1 rfl) ?_
    refine lv_icmp_eq (tgt := 2265) hx hb dL_law_2260 (by decide) (fun _ => ?_) (fun c9 => absurd t1 c9)
    refine lv_iload hx hb dL_law_2265 (lv_at hl 1 rfl) ?_
    refine lv_if_ne (tgt := 2282) hx hb dL_law_2267 (by decide) (fun c9 => absurd rfl c9) (fun _ => ?_)
    refine lv_aload_n hx hb dL_law_2270 rfl (lv_at hl 3 rfl) ?_
    refine lv_iconst (v := 0) hx hb dL_law_2271 (by decide) ?_
    refine ql_lald S0 V rfl dL_law_2272 ?_
    refine lv_iload hx hb dL_law_2273 (lv_at hl 0 rfl) ?_
    refine lv_i2l hx hb dL_law_2275 rfl ?_
    refine W.lcmp hx hb dL_law_2276 ?_
    refine lv_if_eq (tgt := 2282) hx hb dL_law_2277 (by decide) (fun _ => ?_) (fun c9 => absurd (by show lg_cmp (v9).toInt64 (rb.toInt64) = 0; rw [hOut]; exact ql_cmp _) c9)
    refine lv_goto (tgt := 3735) hx hb dL_law_2282 (by decide) ?_
    exact K _ _ _ _ _ _ _ _ _ _ _ _ rfl hI9 V (lv_sub hl [2, 3, 4, 5, 6] rfl)
set_option maxHeartbeats 4000000 in
set_option maxRecDepth 100000 in
theorem ql_39 {p : Program} {l : Launch} {e : Env} {s : State} {m : MethodId} {below : List Frame} {meth : Method} {c : Code} {Q : State → Prop} {D : va_G} {cy : Nat → ClassId} {Z : Nat → Prop} {b L : Nat} {xs : Nat → Int32} (hst : l.stackTraces = false) (S0 : CallFix p m c code 7 s #[Value.ref b] qw_big RL) (hX : va_X b L xs s s.heap) (hbl : b < s.heap.size) (hbA : ¬ Z b) {Inv : ql_Inv} (hE : QE_substituted Inv) {ad am : Nat → Nat} {I : Nat → Int32} {A : Nat → Nat → Int32} {G : Nat → Int32 × (Nat → Nat → Int32)} {T : Nat} {J : Nat → Int32} {B : Nat → Nat → Int32} {w : Int64} {ao : Nat} {o : Nat → Int64} {H : Heap} {locs : List Loc} {cells slots : Nat} {ls : Array Slot} (hI : Inv I A G T J B w) (V : qw_V D cy Z s (((Wo cy ad I A G T) ++ [qd_L cy ao o]) ++ (Wm cy am J B w)) H locs) {i : Int32} (hin : ∀ j : Nat, j ≤ 5 → vp_in (i + Int32.ofNat j) L) (hl : lv_has ls 7 (ql_base i ao (am 0) (ad 0) b)) (hc : cells + 1 ≤ 601024) (hs : slots + 6 ≤ 7293034) (K : ∀ (ad2 : Nat → Nat) (I : Nat → Int32) (A : Nat → Nat → Int32) (G : Nat → Int32 × (Nat → Nat → Int32)) (T : Nat) (J : Nat → Int32) (B : Nat → Nat → Int32) (w : Int64) (o : Nat → Int64) (H : Heap) (locs : List Loc) (ls : Array Slot), ad2 0 = ad 0 → Inv I A G T J B w → qw_V D cy Z s ((Wo cy ad2 I A G T ++ [qd_L cy ao o]) ++ Wm cy am J B w) H locs → lv_has ls 7 (ql_base i ao (am 0) (ad 0) b) → W p l e room_1 s m #[Value.ref b] below meth c H locs (cells + 1) (slots + 6) Q (F0 m 3735 ls [])) : W p l e room_1 s m #[Value.ref b] below meth c H locs cells slots Q (F0 m 2285 ls []) := by
  have hx := S0.1; have hb := S0.2.1
  have hc0 : cells ≤ 601024 := Nat.le_trans (Nat.le_add_right _ _) hc; have hs0 : slots ≤ 7293034 := Nat.le_trans (Nat.le_add_right _ _) hs
  obtain ⟨ro, hX7, rb, J9, hM8, h0, h1⟩ := (hE ad I A G T J B w (xs (i + 1).toNatClampNeg) (xs (i + 2).toNatClampNeg) (xs (i + 3).toNatClampNeg) hI)
  have hl : lv_has ls 7 [(4, .int i), (3, .ref ao), (2, .ref (am 0)), (1, .ref (ad 0)), (0, .ref b)] := hl
  refine lv_aload_n hx hb dL_law_2285 rfl (lv_at hl 3 rfl) ?_
  refine lv_aload_n hx hb dL_law_2286 rfl (lv_at hl 4 rfl) ?_
  refine lv_iload hx hb dL_law_2287 (lv_at hl 0 rfl) ?_
  refine lv_iconst (v := 1) hx hb dL_law_2289 (by decide) ?_
  refine lv_iadd hx hb dL_law_2290 ?_
  refine va_sld hx hb hX hbl hbA V.2.2.2.1 (hin 1 (by decide)) dL_law_2291 ?_
  refine lv_aload_n hx hb dL_law_2292 rfl (lv_at hl 4 rfl) ?_
  refine lv_iload hx hb dL_law_2293 (lv_at hl 0 rfl) ?_
  refine lv_iconst (v := 2) hx hb dL_law_2295 (by decide) ?_
  refine lv_iadd hx hb dL_law_2296 ?_
  refine va_sld hx hb hX hbl hbA V.2.2.2.1 (hin 2 (by decide)) dL_law_2297 ?_
  refine lv_aload_n hx hb dL_law_2298 rfl (lv_at hl 4 rfl) ?_
  refine lv_iload hx hb dL_law_2299 (lv_at hl 0 rfl) ?_
  refine lv_iconst (v := 3) hx hb dL_law_2301 (by decide) ?_
  refine lv_iadd hx hb dL_law_2302 ?_
  refine va_sld hx hb hX hbl hbA V.2.2.2.1 (hin 3 (by decide)) dL_law_2303 ?_
  refine lv_aload_n hx hb dL_law_2304 rfl (lv_at hl 1 rfl) ?_
  refine ql_cW (rest := []) (wc := (Wo cy ad I A G T) ++ [qd_L cy ao o]) (wr := (Wm cy am J B w)) S0 V hl (c_L_substituted l hst hX7) kg_L_282 rfl ⟨rfl, rfl⟩ kd_L_substituted ⟨(Nat.le_of_ble_eq_true rfl), (Nat.le_of_ble_eq_true rfl)⟩ rfl rfl (Nat.le_of_ble_eq_true rfl) ⟨hc, hs⟩ dL_law_2305 (fun H locs hro V => ?_) (fun v9 H locs hro V => ?_)
  · have hcN : cells + 1 + 0 ≤ 601024 := hc
    have hsN : slots + 6 + 0 ≤ 7293034 := hs
    obtain ⟨t1, hI9⟩ := h0 hro
    refine lv_istore (lv' := [(5, .int 1), (4, .int i), (3, .ref ao), (2, .ref (am 0)), (1, .ref (ad 0)), (0, .ref b)]) hx hb dL_law_2308 hl (by decide) rfl (fun ls hl => ?_)
    refine lv_aload_n hx hb dL_law_2310 rfl (lv_at hl 3 rfl) ?_
    refine lv_aload_n hx hb dL_law_2311 rfl (lv_at hl 5 rfl) ?_
    refine lv_iload hx hb dL_law_2312 (lv_at hl 1 rfl) ?_
    refine lv_iconst (v := 1) hx hb dL_law_2314 (by decide) ?_
    refine lv_iadd hx hb dL_law_2315 ?_
    refine va_sld hx hb hX hbl hbA V.2.2.2.1 (hin 1 (by decide)) dL_law_2316 ?_
    refine lv_aload_n hx hb dL_law_2317 rfl (lv_at hl 5 rfl) ?_
    refine lv_iload hx hb dL_law_2318 (lv_at hl 1 rfl) ?_
    refine lv_iconst (v := 2) hx hb dL_law_2320 (by decide) ?_
    refine lv_iadd hx hb dL_law_2321 ?_
    refine va_sld hx hb hX hbl hbA V.2.2.2.1 (hin 2 (by decide)) dL_law_2322 ?_
    refine lv_aload_n hx hb dL_law_2323 rfl (lv_at hl 5 rfl) ?_
    refine lv_iload hx hb dL_law_2324 (lv_at hl 1 rfl) ?_
    refine lv_iconst (v := 3) hx hb dL_law_2326 (by decide) ?_
    refine lv_iadd hx hb dL_law_2327 ?_
    refine va_sld hx hb hX hbl hbA V.2.2.2.1 (hin 3 (by decide)) dL_law_2328 ?_
    have V := ql_V.swap V
    refine ql_cV (rest := []) (st1 := [.int rb]) (wc := (Wm cy am J B w)) (wr := ((Wo cy ad I A G T) ++ [qd_L cy ao o])) S0 V hl 0 gM_0 rfl (c_X8_substituted l hM8) kg_L_284 rfl ⟨rfl, rfl⟩ kd_X8_substituted ⟨(Nat.le_of_ble_eq_true rfl), (Nat.le_of_ble_eq_true rfl)⟩ rfl rfl (Nat.le_of_ble_eq_true rfl) ⟨hcN, hsN⟩ rfl dL_law_2329 (fun H locs V => ?_)
    have V := ql_V.swap V
    refine lv_istore (lv' := [(6, .int rb), (5, .int 1), (4, .int i), (3, .ref ao), (2, .ref (am 0)), (1, .ref (ad 0)), (0, .ref b)]) hx hb dL_law_2332 hl (by decide) rfl (fun ls hl => ?_)
    refine lv_aload_n hx hb dL_law_2334 rfl (lv_at hl 4 rfl) ?_
    refine ql_cVR (rest := []) (st1 := [.int (J9 1)]) (wc := (Wm cy am J9 B w)) (wr := ((Wo cy ad I A G T) ++ [qd_L cy ao o])) S0 (ql_V.swap V) hl 0 gM_0 rfl (c_X8_thrown l rfl) kg_L_200 rfl ⟨rfl, rfl⟩ kd_X8_thrown ⟨(Nat.le_of_ble_eq_true rfl), (Nat.le_of_ble_eq_true rfl)⟩ rfl rfl (Nat.le_of_ble_eq_true rfl) ⟨hcN, hsN⟩ rfl dL_law_2335 ?_
    refine lv_iload hx hb dL_law_2338 (lv_at hl 1 rfl) ?_
    refine lv_icmp_eq (tgt := 2345) hx hb dL_law_2340 (by decide) (fun _ => ?_) (fun c9 => absurd t1 c9)
    refine lv_iload hx hb dL_law_2345 (lv_at hl 1 rfl) ?_
    refine lv_if_ne (tgt := 2362) hx hb dL_law_2347 (by decide) (fun _ => ?_) (fun c9 => absurd c9 (by decide))
    refine lv_goto (tgt := 3735) hx hb dL_law_2362 (by decide) ?_
    exact K _ _ _ _ _ _ _ _ _ _ _ _ rfl hI9 V (lv_sub hl [2, 3, 4, 5, 6] rfl)
  · have hcN : cells + 1 + 0 ≤ 601024 := hc
    have hsN : slots + 6 + 0 ≤ 7293034 := hs
    obtain ⟨t1, hOut, hI9⟩ := h1 v9 hro
    have V : qw_V D cy Z s (((Wo cy ad I A G T) ++ [qd_L cy ao (vp_updL o 0 (v9).toInt64)]) ++ (Wm cy am J B w)) H locs := V
    refine lv_istore (lv' := [(5, .int 0), (4, .int i), (3, .ref ao), (2, .ref (am 0)), (1, .ref (ad 0)), (0, .ref b)]) hx hb dL_law_2308 hl (by decide) rfl (fun ls hl => ?_)
    refine lv_aload_n hx hb dL_law_2310 rfl (lv_at hl 3 rfl) ?_
    refine lv_aload_n hx hb dL_law_2311 rfl (lv_at hl 5 rfl) ?_
    refine lv_iload hx hb dL_law_2312 (lv_at hl 1 rfl) ?_
    refine lv_iconst (v := 1) hx hb dL_law_2314 (by decide) ?_
    refine lv_iadd hx hb dL_law_2315 ?_
    refine va_sld hx hb hX hbl hbA V.2.2.2.1 (hin 1 (by decide)) dL_law_2316 ?_
    refine lv_aload_n hx hb dL_law_2317 rfl (lv_at hl 5 rfl) ?_
    refine lv_iload hx hb dL_law_2318 (lv_at hl 1 rfl) ?_
    refine lv_iconst (v := 2) hx hb dL_law_2320 (by decide) ?_
    refine lv_iadd hx hb dL_law_2321 ?_
    refine va_sld hx hb hX hbl hbA V.2.2.2.1 (hin 2 (by decide)) dL_law_2322 ?_
    refine lv_aload_n hx hb dL_law_2323 rfl (lv_at hl 5 rfl) ?_
    refine lv_iload hx hb dL_law_2324 (lv_at hl 1 rfl) ?_
    refine lv_iconst (v := 3) hx hb dL_law_2326 (by decide) ?_
    refine lv_iadd hx hb dL_law_2327 ?_
    refine va_sld hx hb hX hbl hbA V.2.2.2.1 (hin 3 (by decide)) dL_law_2328 ?_
    have V := ql_V.swap V
    refine ql_cV (rest := []) (st1 := [.int rb]) (wc := (Wm cy am J B w)) (wr := ((Wo cy ad I A G T) ++ [qd_L cy ao (vp_updL o 0 (v9).toInt64)])) S0 V hl 0 gM_0 rfl (c_X8_substituted l hM8) kg_L_284 rfl ⟨rfl, rfl⟩ kd_X8_substituted ⟨(Nat.le_of_ble_eq_true rfl), (Nat.le_of_ble_eq_true rfl)⟩ rfl rfl (Nat.le_of_ble_eq_true rfl) ⟨hcN, hsN⟩ rfl dL_law_2329 (fun H locs V => ?_)
    have V := ql_V.swap V
    refine lv_istore (lv' := [(6, .int rb), (5, .int 0), (4, .int i), (3, .ref ao), (2, .ref (am 0)), (1, .ref (ad 0)), (0, .ref b)]) hx hb dL_law_2332 hl (by decide) rfl (fun ls hl => ?_)
    refine lv_aload_n hx hb dL_law_2334 rfl (lv_at hl 4 rfl) ?_
    refine ql_cVR (rest := []) (st1 := [.int (J9 1)]) (wc := (Wm cy am J9 B w)) (wr := ((Wo cy ad I A G T) ++ [qd_L cy ao (vp_updL o 0 (v9).toInt64)])) S0 (ql_V.swap V) hl 0 gM_0 rfl (c_X8_thrown l rfl) kg_L_200 rfl ⟨rfl, rfl⟩ kd_X8_thrown ⟨(Nat.le_of_ble_eq_true rfl), (Nat.le_of_ble_eq_true rfl)⟩ rfl rfl (Nat.le_of_ble_eq_true rfl) ⟨hcN, hsN⟩ rfl dL_law_2335 ?_
    refine lv_iload hx hb dL_law_2338 (lv_at hl 1 rfl) ?_
    refine lv_icmp_eq (tgt := 2345) hx hb dL_law_2340 (by decide) (fun _ => ?_) (fun c9 => absurd t1 c9)
    refine lv_iload hx hb dL_law_2345 (lv_at hl 1 rfl) ?_
    refine lv_if_ne (tgt := 2362) hx hb dL_law_2347 (by decide) (fun c9 => absurd rfl c9) (fun _ => ?_)
    refine lv_aload_n hx hb dL_law_2350 rfl (lv_at hl 3 rfl) ?_
    refine lv_iconst (v := 0) hx hb dL_law_2351 (by decide) ?_
    refine ql_lald S0 V rfl dL_law_2352 ?_
    refine lv_iload hx hb dL_law_2353 (lv_at hl 0 rfl) ?_
    refine lv_i2l hx hb dL_law_2355 rfl ?_
    refine W.lcmp hx hb dL_law_2356 ?_
    refine lv_if_eq (tgt := 2362) hx hb dL_law_2357 (by decide) (fun _ => ?_) (fun c9 => absurd (by show lg_cmp (v9).toInt64 (rb.toInt64) = 0; rw [hOut]; exact ql_cmp _) c9)
    refine lv_goto (tgt := 3735) hx hb dL_law_2362 (by decide) ?_
    exact K _ _ _ _ _ _ _ _ _ _ _ _ rfl hI9 V (lv_sub hl [2, 3, 4, 5, 6] rfl)
set_option maxHeartbeats 4000000 in
set_option maxRecDepth 100000 in
theorem ql_40 {p : Program} {l : Launch} {e : Env} {s : State} {m : MethodId} {below : List Frame} {meth : Method} {c : Code} {Q : State → Prop} {D : va_G} {cy : Nat → ClassId} {Z : Nat → Prop} {b L : Nat} {xs : Nat → Int32} (hst : l.stackTraces = false) (S0 : CallFix p m c code 7 s #[Value.ref b] qw_big RL) (hX : va_X b L xs s s.heap) (hbl : b < s.heap.size) (hbA : ¬ Z b) {Inv : ql_Inv} (hE : QE_served Inv) {ad am : Nat → Nat} {I : Nat → Int32} {A : Nat → Nat → Int32} {G : Nat → Int32 × (Nat → Nat → Int32)} {T : Nat} {J : Nat → Int32} {B : Nat → Nat → Int32} {w : Int64} {ao : Nat} {o : Nat → Int64} {H : Heap} {locs : List Loc} {cells slots : Nat} {ls : Array Slot} (hI : Inv I A G T J B w) (V : qw_V D cy Z s (((Wo cy ad I A G T) ++ [qd_L cy ao o]) ++ (Wm cy am J B w)) H locs) {i : Int32} (hin : ∀ j : Nat, j ≤ 5 → vp_in (i + Int32.ofNat j) L) (hl : lv_has ls 7 (ql_base i ao (am 0) (ad 0) b)) (hc : cells + 1 ≤ 601024) (hs : slots + 6 ≤ 7293034) (K : ∀ (ad2 : Nat → Nat) (I : Nat → Int32) (A : Nat → Nat → Int32) (G : Nat → Int32 × (Nat → Nat → Int32)) (T : Nat) (J : Nat → Int32) (B : Nat → Nat → Int32) (w : Int64) (o : Nat → Int64) (H : Heap) (locs : List Loc) (ls : Array Slot), ad2 0 = ad 0 → Inv I A G T J B w → qw_V D cy Z s ((Wo cy ad2 I A G T ++ [qd_L cy ao o]) ++ Wm cy am J B w) H locs → lv_has ls 7 (ql_base i ao (am 0) (ad 0) b) → W p l e room_1 s m #[Value.ref b] below meth c H locs (cells + 1) (slots + 6) Q (F0 m 3735 ls [])) : W p l e room_1 s m #[Value.ref b] below meth c H locs cells slots Q (F0 m 2365 ls []) := by
  have hx := S0.1; have hb := S0.2.1
  have hc0 : cells ≤ 601024 := Nat.le_trans (Nat.le_add_right _ _) hc; have hs0 : slots ≤ 7293034 := Nat.le_trans (Nat.le_add_right _ _) hs
  obtain ⟨ro, hX7, rb, J9, hM8, h0, h1⟩ := (hE ad I A G T J B w (xs (i + 1).toNatClampNeg) (xs (i + 2).toNatClampNeg) (xs (i + 3).toNatClampNeg) hI)
  have hl : lv_has ls 7 [(4, .int i), (3, .ref ao), (2, .ref (am 0)), (1, .ref (ad 0)), (0, .ref b)] := hl
  refine lv_aload_n hx hb dL_law_2365 rfl (lv_at hl 3 rfl) ?_
  refine lv_aload_n hx hb dL_law_2366 rfl (lv_at hl 4 rfl) ?_
  refine lv_iload hx hb dL_law_2367 (lv_at hl 0 rfl) ?_
  refine lv_iconst (v := 1) hx hb dL_law_2369 (by decide) ?_
  refine lv_iadd hx hb dL_law_2370 ?_
  refine va_sld hx hb hX hbl hbA V.2.2.2.1 (hin 1 (by decide)) dL_law_2371 ?_
  refine lv_aload_n hx hb dL_law_2372 rfl (lv_at hl 4 rfl) ?_
  refine lv_iload hx hb dL_law_2373 (lv_at hl 0 rfl) ?_
  refine lv_iconst (v := 2) hx hb dL_law_2375 (by decide) ?_
  refine lv_iadd hx hb dL_law_2376 ?_
  refine va_sld hx hb hX hbl hbA V.2.2.2.1 (hin 2 (by decide)) dL_law_2377 ?_
  refine lv_aload_n hx hb dL_law_2378 rfl (lv_at hl 4 rfl) ?_
  refine lv_iload hx hb dL_law_2379 (lv_at hl 0 rfl) ?_
  refine lv_iconst (v := 3) hx hb dL_law_2381 (by decide) ?_
  refine lv_iadd hx hb dL_law_2382 ?_
  refine va_sld hx hb hX hbl hbA V.2.2.2.1 (hin 3 (by decide)) dL_law_2383 ?_
  refine lv_aload_n hx hb dL_law_2384 rfl (lv_at hl 1 rfl) ?_
  refine ql_cW (rest := []) (wc := (Wo cy ad I A G T) ++ [qd_L cy ao o]) (wr := (Wm cy am J B w)) S0 V hl (c_L_served l hst hX7) kg_L_285 rfl ⟨rfl, rfl⟩ kd_L_served ⟨(Nat.le_of_ble_eq_true rfl), (Nat.le_of_ble_eq_true rfl)⟩ rfl rfl (Nat.le_of_ble_eq_true rfl) ⟨hc, hs⟩ dL_law_2385 (fun H locs hro V => ?_) (fun v9 H locs hro V => ?_)
  · have hcN : cells + 1 + 0 ≤ 601024 := hc
    have hsN : slots + 6 + 0 ≤ 7293034 := hs
    obtain ⟨t1, hI9⟩ := h0 hro
    refine lv_istore (lv' := [(5, .int 1), (4, .int i), (3, .ref ao), (2, .ref (am 0)), (1, .ref (ad 0)), (0, .ref b)]) hx hb dL_law_2388 hl (by decide) rfl (fun ls hl => ?_)
    refine lv_aload_n hx hb dL_law_2390 rfl (lv_at hl 3 rfl) ?_
    refine lv_aload_n hx hb dL_law_2391 rfl (lv_at hl 5 rfl) ?_
    refine lv_iload hx hb dL_law_2392 (lv_at hl 1 rfl) ?_
    refine lv_iconst (v := 1) hx hb dL_law_2394 (by decide) ?_
    refine lv_iadd hx hb dL_law_2395 ?_
    refine va_sld hx hb hX hbl hbA V.2.2.2.1 (hin 1 (by decide)) dL_law_2396 ?_
    refine lv_aload_n hx hb dL_law_2397 rfl (lv_at hl 5 rfl) ?_
    refine lv_iload hx hb dL_law_2398 (lv_at hl 1 rfl) ?_
    refine lv_iconst (v := 2) hx hb dL_law_2400 (by decide) ?_
    refine lv_iadd hx hb dL_law_2401 ?_
    refine va_sld hx hb hX hbl hbA V.2.2.2.1 (hin 2 (by decide)) dL_law_2402 ?_
    refine lv_aload_n hx hb dL_law_2403 rfl (lv_at hl 5 rfl) ?_
    refine lv_iload hx hb dL_law_2404 (lv_at hl 1 rfl) ?_
    refine lv_iconst (v := 3) hx hb dL_law_2406 (by decide) ?_
    refine lv_iadd hx hb dL_law_2407 ?_
    refine va_sld hx hb hX hbl hbA V.2.2.2.1 (hin 3 (by decide)) dL_law_2408 ?_
    have V := ql_V.swap V
    refine ql_cV (rest := []) (st1 := [.int rb]) (wc := (Wm cy am J B w)) (wr := ((Wo cy ad I A G T) ++ [qd_L cy ao o])) S0 V hl 0 gM_0 rfl (c_X8_served l hM8) kg_L_287 rfl ⟨rfl, rfl⟩ kd_X8_served ⟨(Nat.le_of_ble_eq_true rfl), (Nat.le_of_ble_eq_true rfl)⟩ rfl rfl (Nat.le_of_ble_eq_true rfl) ⟨hcN, hsN⟩ rfl dL_law_2409 (fun H locs V => ?_)
    have V := ql_V.swap V
    refine lv_istore (lv' := [(6, .int rb), (5, .int 1), (4, .int i), (3, .ref ao), (2, .ref (am 0)), (1, .ref (ad 0)), (0, .ref b)]) hx hb dL_law_2412 hl (by decide) rfl (fun ls hl => ?_)
    refine lv_aload_n hx hb dL_law_2414 rfl (lv_at hl 4 rfl) ?_
    refine ql_cVR (rest := []) (st1 := [.int (J9 1)]) (wc := (Wm cy am J9 B w)) (wr := ((Wo cy ad I A G T) ++ [qd_L cy ao o])) S0 (ql_V.swap V) hl 0 gM_0 rfl (c_X8_thrown l rfl) kg_L_200 rfl ⟨rfl, rfl⟩ kd_X8_thrown ⟨(Nat.le_of_ble_eq_true rfl), (Nat.le_of_ble_eq_true rfl)⟩ rfl rfl (Nat.le_of_ble_eq_true rfl) ⟨hcN, hsN⟩ rfl dL_law_2415 ?_
    refine lv_iload hx hb dL_law_2418 (lv_at hl 1 rfl) ?_
    refine lv_icmp_eq (tgt := 2425) hx hb dL_law_2420 (by decide) (fun _ => ?_) (fun c9 => absurd t1 c9)
    refine lv_iload hx hb dL_law_2425 (lv_at hl 1 rfl) ?_
    refine lv_if_ne (tgt := 2442) hx hb dL_law_2427 (by decide) (fun _ => ?_) (fun c9 => absurd c9 (by decide))
    refine lv_goto (tgt := 3735) hx hb dL_law_2442 (by decide) ?_
    exact K _ _ _ _ _ _ _ _ _ _ _ _ rfl hI9 V (lv_sub hl [2, 3, 4, 5, 6] rfl)
  · have hcN : cells + 1 + 0 ≤ 601024 := hc
    have hsN : slots + 6 + 0 ≤ 7293034 := hs
    obtain ⟨t1, hOut, hI9⟩ := h1 v9 hro
    have V : qw_V D cy Z s (((Wo cy ad I A G T) ++ [qd_L cy ao (vp_updL o 0 (v9).toInt64)]) ++ (Wm cy am J B w)) H locs := V
    refine lv_istore (lv' := [(5, .int 0), (4, .int i), (3, .ref ao), (2, .ref (am 0)), (1, .ref (ad 0)), (0, .ref b)]) hx hb dL_law_2388 hl (by decide) rfl (fun ls hl => ?_)
    refine lv_aload_n hx hb dL_law_2390 rfl (lv_at hl 3 rfl) ?_
    refine lv_aload_n hx hb dL_law_2391 rfl (lv_at hl 5 rfl) ?_
    refine lv_iload hx hb dL_law_2392 (lv_at hl 1 rfl) ?_
    refine lv_iconst (v := 1) hx hb dL_law_2394 (by decide) ?_
    refine lv_iadd hx hb dL_law_2395 ?_
    refine va_sld hx hb hX hbl hbA V.2.2.2.1 (hin 1 (by decide)) dL_law_2396 ?_
    refine lv_aload_n hx hb dL_law_2397 rfl (lv_at hl 5 rfl) ?_
    refine lv_iload hx hb dL_law_2398 (lv_at hl 1 rfl) ?_
    refine lv_iconst (v := 2) hx hb dL_law_2400 (by decide) ?_
    refine lv_iadd hx hb dL_law_2401 ?_
    refine va_sld hx hb hX hbl hbA V.2.2.2.1 (hin 2 (by decide)) dL_law_2402 ?_
    refine lv_aload_n hx hb dL_law_2403 rfl (lv_at hl 5 rfl) ?_
    refine lv_iload hx hb dL_law_2404 (lv_at hl 1 rfl) ?_
    refine lv_iconst (v := 3) hx hb dL_law_2406 (by decide) ?_
    refine lv_iadd hx hb dL_law_2407 ?_
    refine va_sld hx hb hX hbl hbA V.2.2.2.1 (hin 3 (by decide)) dL_law_2408 ?_
    have V := ql_V.swap V
    refine ql_cV (rest := []) (st1 := [.int rb]) (wc := (Wm cy am J B w)) (wr := ((Wo cy ad I A G T) ++ [qd_L cy ao (vp_updL o 0 (v9).toInt64)])) S0 V hl 0 gM_0 rfl (c_X8_served l hM8) kg_L_287 rfl ⟨rfl, rfl⟩ kd_X8_served ⟨(Nat.le_of_ble_eq_true rfl), (Nat.le_of_ble_eq_true rfl)⟩ rfl rfl (Nat.le_of_ble_eq_true rfl) ⟨hcN, hsN⟩ rfl dL_law_2409 (fun H locs V => ?_)
    have V := ql_V.swap V
    refine lv_istore (lv' := [(6, .int rb), (5, .int 0), (4, .int i), (3, .ref ao), (2, .ref (am 0)), (1, .ref (ad 0)), (0, .ref b)]) hx hb dL_law_2412 hl (by decide) rfl (fun ls hl => ?_)
    refine lv_aload_n hx hb dL_law_2414 rfl (lv_at hl 4 rfl) ?_
    refine ql_cVR (rest := []) (st1 := [.int (J9 1)]) (wc := (Wm cy am J9 B w)) (wr := ((Wo cy ad I A G T) ++ [qd_L cy ao (vp_updL o 0 (v9).toInt64)])) S0 (ql_V.swap V) hl 0 gM_0 rfl (c_X8_thrown l rfl) kg_L_200 rfl ⟨rfl, rfl⟩ kd_X8_thrown ⟨(Nat.le_of_ble_eq_true rfl), (Nat.le_of_ble_eq_true rfl)⟩ rfl rfl (Nat.le_of_ble_eq_true rfl) ⟨hcN, hsN⟩ rfl dL_law_2415 ?_
    refine lv_iload hx hb dL_law_2418 (lv_at hl 1 rfl) ?_
    refine lv_icmp_eq (tgt := 2425) hx hb dL_law_2420 (by decide) (fun _ => ?_) (fun c9 => absurd t1 c9)
    refine lv_iload hx hb dL_law_2425 (lv_at hl 1 rfl) ?_
    refine lv_if_ne (tgt := 2442) hx hb dL_law_2427 (by decide) (fun c9 => absurd rfl c9) (fun _ => ?_)
    refine lv_aload_n hx hb dL_law_2430 rfl (lv_at hl 3 rfl) ?_
    refine lv_iconst (v := 0) hx hb dL_law_2431 (by decide) ?_
    refine ql_lald S0 V rfl dL_law_2432 ?_
    refine lv_iload hx hb dL_law_2433 (lv_at hl 0 rfl) ?_
    refine lv_i2l hx hb dL_law_2435 rfl ?_
    refine W.lcmp hx hb dL_law_2436 ?_
    refine lv_if_eq (tgt := 2442) hx hb dL_law_2437 (by decide) (fun _ => ?_) (fun c9 => absurd (by show lg_cmp (v9).toInt64 (rb.toInt64) = 0; rw [hOut]; exact ql_cmp _) c9)
    refine lv_goto (tgt := 3735) hx hb dL_law_2442 (by decide) ?_
    exact K _ _ _ _ _ _ _ _ _ _ _ _ rfl hI9 V (lv_sub hl [2, 3, 4, 5, 6] rfl)
set_option maxHeartbeats 4000000 in
set_option maxRecDepth 100000 in
theorem ql_41 {p : Program} {l : Launch} {e : Env} {s : State} {m : MethodId} {below : List Frame} {meth : Method} {c : Code} {Q : State → Prop} {D : va_G} {cy : Nat → ClassId} {Z : Nat → Prop} {b L : Nat} {xs : Nat → Int32} (hst : l.stackTraces = false) (S0 : CallFix p m c code 7 s #[Value.ref b] qw_big RL) (hX : va_X b L xs s s.heap) (hbl : b < s.heap.size) (hbA : ¬ Z b) {Inv : ql_Inv} (hE : QE_basketValue Inv) {ad am : Nat → Nat} {I : Nat → Int32} {A : Nat → Nat → Int32} {G : Nat → Int32 × (Nat → Nat → Int32)} {T : Nat} {J : Nat → Int32} {B : Nat → Nat → Int32} {w : Int64} {ao : Nat} {o : Nat → Int64} {H : Heap} {locs : List Loc} {cells slots : Nat} {ls : Array Slot} (hI : Inv I A G T J B w) (V : qw_V D cy Z s (((Wo cy ad I A G T) ++ [qd_L cy ao o]) ++ (Wm cy am J B w)) H locs) {i : Int32} (hin : ∀ j : Nat, j ≤ 5 → vp_in (i + Int32.ofNat j) L) (hl : lv_has ls 7 (ql_base i ao (am 0) (ad 0) b)) (hc : cells + 1 ≤ 601024) (hs : slots + 6 ≤ 7293034) (K : ∀ (ad2 : Nat → Nat) (I : Nat → Int32) (A : Nat → Nat → Int32) (G : Nat → Int32 × (Nat → Nat → Int32)) (T : Nat) (J : Nat → Int32) (B : Nat → Nat → Int32) (w : Int64) (o : Nat → Int64) (H : Heap) (locs : List Loc) (ls : Array Slot), ad2 0 = ad 0 → Inv I A G T J B w → qw_V D cy Z s ((Wo cy ad2 I A G T ++ [qd_L cy ao o]) ++ Wm cy am J B w) H locs → lv_has ls 7 (ql_base i ao (am 0) (ad 0) b) → W p l e room_1 s m #[Value.ref b] below meth c H locs (cells + 1) (slots + 6) Q (F0 m 3735 ls [])) : W p l e room_1 s m #[Value.ref b] below meth c H locs cells slots Q (F0 m 2445 ls []) := by
  have hx := S0.1; have hb := S0.2.1
  have hc0 : cells ≤ 601024 := Nat.le_trans (Nat.le_add_right _ _) hc; have hs0 : slots ≤ 7293034 := Nat.le_trans (Nat.le_add_right _ _) hs
  obtain ⟨ro, hX7, rb, J9, B9, hM8, h0, h1⟩ := (hE ad I A G T J B w (xs (i + 1).toNatClampNeg) (xs (i + 2).toNatClampNeg) hI)
  have hl : lv_has ls 7 [(4, .int i), (3, .ref ao), (2, .ref (am 0)), (1, .ref (ad 0)), (0, .ref b)] := hl
  refine lv_aload_n hx hb dL_law_2445 rfl (lv_at hl 3 rfl) ?_
  refine lv_aload_n hx hb dL_law_2446 rfl (lv_at hl 4 rfl) ?_
  refine lv_iload hx hb dL_law_2447 (lv_at hl 0 rfl) ?_
  refine lv_iconst (v := 1) hx hb dL_law_2449 (by decide) ?_
  refine lv_iadd hx hb dL_law_2450 ?_
  refine va_sld hx hb hX hbl hbA V.2.2.2.1 (hin 1 (by decide)) dL_law_2451 ?_
  refine lv_aload_n hx hb dL_law_2452 rfl (lv_at hl 4 rfl) ?_
  refine lv_iload hx hb dL_law_2453 (lv_at hl 0 rfl) ?_
  refine lv_iconst (v := 2) hx hb dL_law_2455 (by decide) ?_
  refine lv_iadd hx hb dL_law_2456 ?_
  refine va_sld hx hb hX hbl hbA V.2.2.2.1 (hin 2 (by decide)) dL_law_2457 ?_
  refine lv_aload_n hx hb dL_law_2458 rfl (lv_at hl 1 rfl) ?_
  refine ql_cW (rest := []) (wc := (Wo cy ad I A G T) ++ [qd_L cy ao o]) (wr := (Wm cy am J B w)) S0 V hl (c_L_basketValue l hst hX7) kg_L_288 rfl ⟨rfl, rfl⟩ kd_L_basketValue ⟨(Nat.le_of_ble_eq_true rfl), (Nat.le_of_ble_eq_true rfl)⟩ rfl rfl (Nat.le_of_ble_eq_true rfl) ⟨hc, hs⟩ dL_law_2459 (fun H locs hro V => ?_) (fun v9 H locs hro V => ?_)
  · have hcN : cells + 1 + 0 ≤ 601024 := hc
    have hsN : slots + 6 + 0 ≤ 7293034 := hs
    obtain ⟨t1, hI9⟩ := h0 hro
    refine lv_istore (lv' := [(5, .int 1), (4, .int i), (3, .ref ao), (2, .ref (am 0)), (1, .ref (ad 0)), (0, .ref b)]) hx hb dL_law_2462 hl (by decide) rfl (fun ls hl => ?_)
    refine lv_aload_n hx hb dL_law_2464 rfl (lv_at hl 3 rfl) ?_
    refine lv_aload_n hx hb dL_law_2465 rfl (lv_at hl 5 rfl) ?_
    refine lv_iload hx hb dL_law_2466 (lv_at hl 1 rfl) ?_
    refine lv_iconst (v := 1) hx hb dL_law_2468 (by decide) ?_
    refine lv_iadd hx hb dL_law_2469 ?_
    refine va_sld hx hb hX hbl hbA V.2.2.2.1 (hin 1 (by decide)) dL_law_2470 ?_
    refine lv_aload_n hx hb dL_law_2471 rfl (lv_at hl 5 rfl) ?_
    refine lv_iload hx hb dL_law_2472 (lv_at hl 1 rfl) ?_
    refine lv_iconst (v := 2) hx hb dL_law_2474 (by decide) ?_
    refine lv_iadd hx hb dL_law_2475 ?_
    refine va_sld hx hb hX hbl hbA V.2.2.2.1 (hin 2 (by decide)) dL_law_2476 ?_
    have V := ql_V.swap V
    refine ql_cV (rest := []) (st1 := [.int rb]) (wc := (Wm cy am J B w)) (wr := ((Wo cy ad I A G T) ++ [qd_L cy ao o])) S0 V hl 0 gM_0 rfl (c_X8_basketValue l hM8) kg_L_290 rfl ⟨rfl, rfl⟩ kd_X8_basketValue ⟨(Nat.le_of_ble_eq_true rfl), (Nat.le_of_ble_eq_true rfl)⟩ rfl rfl (Nat.le_of_ble_eq_true rfl) ⟨hcN, hsN⟩ rfl dL_law_2477 (fun H locs V => ?_)
    have V := ql_V.swap V
    refine lv_istore (lv' := [(6, .int rb), (5, .int 1), (4, .int i), (3, .ref ao), (2, .ref (am 0)), (1, .ref (ad 0)), (0, .ref b)]) hx hb dL_law_2480 hl (by decide) rfl (fun ls hl => ?_)
    refine lv_aload_n hx hb dL_law_2482 rfl (lv_at hl 4 rfl) ?_
    refine ql_cVR (rest := []) (st1 := [.int (J9 1)]) (wc := (Wm cy am J9 B9 w)) (wr := ((Wo cy ad I A G T) ++ [qd_L cy ao o])) S0 (ql_V.swap V) hl 0 gM_0 rfl (c_X8_thrown l rfl) kg_L_200 rfl ⟨rfl, rfl⟩ kd_X8_thrown ⟨(Nat.le_of_ble_eq_true rfl), (Nat.le_of_ble_eq_true rfl)⟩ rfl rfl (Nat.le_of_ble_eq_true rfl) ⟨hcN, hsN⟩ rfl dL_law_2483 ?_
    refine lv_iload hx hb dL_law_2486 (lv_at hl 1 rfl) ?_
    refine lv_icmp_eq (tgt := 2493) hx hb dL_law_2488 (by decide) (fun _ => ?_) (fun c9 => absurd t1 c9)
    refine lv_iload hx hb dL_law_2493 (lv_at hl 1 rfl) ?_
    refine lv_if_ne (tgt := 2510) hx hb dL_law_2495 (by decide) (fun _ => ?_) (fun c9 => absurd c9 (by decide))
    refine lv_goto (tgt := 3735) hx hb dL_law_2510 (by decide) ?_
    exact K _ _ _ _ _ _ _ _ _ _ _ _ rfl hI9 V (lv_sub hl [2, 3, 4, 5, 6] rfl)
  · have hcN : cells + 1 + 0 ≤ 601024 := hc
    have hsN : slots + 6 + 0 ≤ 7293034 := hs
    obtain ⟨t1, hOut, hI9⟩ := h1 v9 hro
    have V : qw_V D cy Z s (((Wo cy ad (v9.2.1) (v9.2.2) G T) ++ [qd_L cy ao (vp_updL o 0 (v9.1).toInt64)]) ++ (Wm cy am J B w)) H locs := V
    refine lv_istore (lv' := [(5, .int 0), (4, .int i), (3, .ref ao), (2, .ref (am 0)), (1, .ref (ad 0)), (0, .ref b)]) hx hb dL_law_2462 hl (by decide) rfl (fun ls hl => ?_)
    refine lv_aload_n hx hb dL_law_2464 rfl (lv_at hl 3 rfl) ?_
    refine lv_aload_n hx hb dL_law_2465 rfl (lv_at hl 5 rfl) ?_
    refine lv_iload hx hb dL_law_2466 (lv_at hl 1 rfl) ?_
    refine lv_iconst (v := 1) hx hb dL_law_2468 (by decide) ?_
    refine lv_iadd hx hb dL_law_2469 ?_
    refine va_sld hx hb hX hbl hbA V.2.2.2.1 (hin 1 (by decide)) dL_law_2470 ?_
    refine lv_aload_n hx hb dL_law_2471 rfl (lv_at hl 5 rfl) ?_
    refine lv_iload hx hb dL_law_2472 (lv_at hl 1 rfl) ?_
    refine lv_iconst (v := 2) hx hb dL_law_2474 (by decide) ?_
    refine lv_iadd hx hb dL_law_2475 ?_
    refine va_sld hx hb hX hbl hbA V.2.2.2.1 (hin 2 (by decide)) dL_law_2476 ?_
    have V := ql_V.swap V
    refine ql_cV (rest := []) (st1 := [.int rb]) (wc := (Wm cy am J B w)) (wr := ((Wo cy ad (v9.2.1) (v9.2.2) G T) ++ [qd_L cy ao (vp_updL o 0 (v9.1).toInt64)])) S0 V hl 0 gM_0 rfl (c_X8_basketValue l hM8) kg_L_290 rfl ⟨rfl, rfl⟩ kd_X8_basketValue ⟨(Nat.le_of_ble_eq_true rfl), (Nat.le_of_ble_eq_true rfl)⟩ rfl rfl (Nat.le_of_ble_eq_true rfl) ⟨hcN, hsN⟩ rfl dL_law_2477 (fun H locs V => ?_)
    have V := ql_V.swap V
    refine lv_istore (lv' := [(6, .int rb), (5, .int 0), (4, .int i), (3, .ref ao), (2, .ref (am 0)), (1, .ref (ad 0)), (0, .ref b)]) hx hb dL_law_2480 hl (by decide) rfl (fun ls hl => ?_)
    refine lv_aload_n hx hb dL_law_2482 rfl (lv_at hl 4 rfl) ?_
    refine ql_cVR (rest := []) (st1 := [.int (J9 1)]) (wc := (Wm cy am J9 B9 w)) (wr := ((Wo cy ad (v9.2.1) (v9.2.2) G T) ++ [qd_L cy ao (vp_updL o 0 (v9.1).toInt64)])) S0 (ql_V.swap V) hl 0 gM_0 rfl (c_X8_thrown l rfl) kg_L_200 rfl ⟨rfl, rfl⟩ kd_X8_thrown ⟨(Nat.le_of_ble_eq_true rfl), (Nat.le_of_ble_eq_true rfl)⟩ rfl rfl (Nat.le_of_ble_eq_true rfl) ⟨hcN, hsN⟩ rfl dL_law_2483 ?_
    refine lv_iload hx hb dL_law_2486 (lv_at hl 1 rfl) ?_
    refine lv_icmp_eq (tgt := 2493) hx hb dL_law_2488 (by decide) (fun _ => ?_) (fun c9 => absurd t1 c9)
    refine lv_iload hx hb dL_law_2493 (lv_at hl 1 rfl) ?_
    refine lv_if_ne (tgt := 2510) hx hb dL_law_2495 (by decide) (fun c9 => absurd rfl c9) (fun _ => ?_)
    refine lv_aload_n hx hb dL_law_2498 rfl (lv_at hl 3 rfl) ?_
    refine lv_iconst (v := 0) hx hb dL_law_2499 (by decide) ?_
    refine ql_lald S0 V rfl dL_law_2500 ?_
    refine lv_iload hx hb dL_law_2501 (lv_at hl 0 rfl) ?_
    refine lv_i2l hx hb dL_law_2503 rfl ?_
    refine W.lcmp hx hb dL_law_2504 ?_
    refine lv_if_eq (tgt := 2510) hx hb dL_law_2505 (by decide) (fun _ => ?_) (fun c9 => absurd (by show lg_cmp (v9.1).toInt64 (rb.toInt64) = 0; rw [hOut]; exact ql_cmp _) c9)
    refine lv_goto (tgt := 3735) hx hb dL_law_2510 (by decide) ?_
    exact K _ _ _ _ _ _ _ _ _ _ _ _ rfl hI9 V (lv_sub hl [2, 3, 4, 5, 6] rfl)
set_option maxHeartbeats 4000000 in
set_option maxRecDepth 100000 in
theorem ql_42 {p : Program} {l : Launch} {e : Env} {s : State} {m : MethodId} {below : List Frame} {meth : Method} {c : Code} {Q : State → Prop} {D : va_G} {cy : Nat → ClassId} {Z : Nat → Prop} {b L : Nat} {xs : Nat → Int32} (hst : l.stackTraces = false) (S0 : CallFix p m c code 7 s #[Value.ref b] qw_big RL) (hX : va_X b L xs s s.heap) (hbl : b < s.heap.size) (hbA : ¬ Z b) {Inv : ql_Inv} (hE : QE_basketUnits Inv) {ad am : Nat → Nat} {I : Nat → Int32} {A : Nat → Nat → Int32} {G : Nat → Int32 × (Nat → Nat → Int32)} {T : Nat} {J : Nat → Int32} {B : Nat → Nat → Int32} {w : Int64} {ao : Nat} {o : Nat → Int64} {H : Heap} {locs : List Loc} {cells slots : Nat} {ls : Array Slot} (hI : Inv I A G T J B w) (V : qw_V D cy Z s (((Wo cy ad I A G T) ++ [qd_L cy ao o]) ++ (Wm cy am J B w)) H locs) {i : Int32} (hin : ∀ j : Nat, j ≤ 5 → vp_in (i + Int32.ofNat j) L) (hl : lv_has ls 7 (ql_base i ao (am 0) (ad 0) b)) (hc : cells + 1 ≤ 601024) (hs : slots + 6 ≤ 7293034) (K : ∀ (ad2 : Nat → Nat) (I : Nat → Int32) (A : Nat → Nat → Int32) (G : Nat → Int32 × (Nat → Nat → Int32)) (T : Nat) (J : Nat → Int32) (B : Nat → Nat → Int32) (w : Int64) (o : Nat → Int64) (H : Heap) (locs : List Loc) (ls : Array Slot), ad2 0 = ad 0 → Inv I A G T J B w → qw_V D cy Z s ((Wo cy ad2 I A G T ++ [qd_L cy ao o]) ++ Wm cy am J B w) H locs → lv_has ls 7 (ql_base i ao (am 0) (ad 0) b) → W p l e room_1 s m #[Value.ref b] below meth c H locs (cells + 1) (slots + 6) Q (F0 m 3735 ls [])) : W p l e room_1 s m #[Value.ref b] below meth c H locs cells slots Q (F0 m 2513 ls []) := by
  have hx := S0.1; have hb := S0.2.1
  have hc0 : cells ≤ 601024 := Nat.le_trans (Nat.le_add_right _ _) hc; have hs0 : slots ≤ 7293034 := Nat.le_trans (Nat.le_add_right _ _) hs
  obtain ⟨ro, hX7, rb, J9, B9, hM8, h0, h1⟩ := (hE ad I A G T J B w (xs (i + 1).toNatClampNeg) (xs (i + 2).toNatClampNeg) (xs (i + 3).toNatClampNeg) hI)
  have hl : lv_has ls 7 [(4, .int i), (3, .ref ao), (2, .ref (am 0)), (1, .ref (ad 0)), (0, .ref b)] := hl
  refine lv_aload_n hx hb dL_law_2513 rfl (lv_at hl 3 rfl) ?_
  refine lv_aload_n hx hb dL_law_2514 rfl (lv_at hl 4 rfl) ?_
  refine lv_iload hx hb dL_law_2515 (lv_at hl 0 rfl) ?_
  refine lv_iconst (v := 1) hx hb dL_law_2517 (by decide) ?_
  refine lv_iadd hx hb dL_law_2518 ?_
  refine va_sld hx hb hX hbl hbA V.2.2.2.1 (hin 1 (by decide)) dL_law_2519 ?_
  refine lv_aload_n hx hb dL_law_2520 rfl (lv_at hl 4 rfl) ?_
  refine lv_iload hx hb dL_law_2521 (lv_at hl 0 rfl) ?_
  refine lv_iconst (v := 2) hx hb dL_law_2523 (by decide) ?_
  refine lv_iadd hx hb dL_law_2524 ?_
  refine va_sld hx hb hX hbl hbA V.2.2.2.1 (hin 2 (by decide)) dL_law_2525 ?_
  refine lv_aload_n hx hb dL_law_2526 rfl (lv_at hl 4 rfl) ?_
  refine lv_iload hx hb dL_law_2527 (lv_at hl 0 rfl) ?_
  refine lv_iconst (v := 3) hx hb dL_law_2529 (by decide) ?_
  refine lv_iadd hx hb dL_law_2530 ?_
  refine va_sld hx hb hX hbl hbA V.2.2.2.1 (hin 3 (by decide)) dL_law_2531 ?_
  refine lv_aload_n hx hb dL_law_2532 rfl (lv_at hl 1 rfl) ?_
  refine ql_cW (rest := []) (wc := (Wo cy ad I A G T) ++ [qd_L cy ao o]) (wr := (Wm cy am J B w)) S0 V hl (c_L_basketUnits l hst hX7) kg_L_291 rfl ⟨rfl, rfl⟩ kd_L_basketUnits ⟨(Nat.le_of_ble_eq_true rfl), (Nat.le_of_ble_eq_true rfl)⟩ rfl rfl (Nat.le_of_ble_eq_true rfl) ⟨hc, hs⟩ dL_law_2533 (fun H locs hro V => ?_) (fun v9 H locs hro V => ?_)
  · have hcN : cells + 1 + 0 ≤ 601024 := hc
    have hsN : slots + 6 + 0 ≤ 7293034 := hs
    obtain ⟨t1, hI9⟩ := h0 hro
    refine lv_istore (lv' := [(5, .int 1), (4, .int i), (3, .ref ao), (2, .ref (am 0)), (1, .ref (ad 0)), (0, .ref b)]) hx hb dL_law_2536 hl (by decide) rfl (fun ls hl => ?_)
    refine lv_aload_n hx hb dL_law_2538 rfl (lv_at hl 3 rfl) ?_
    refine lv_aload_n hx hb dL_law_2539 rfl (lv_at hl 5 rfl) ?_
    refine lv_iload hx hb dL_law_2540 (lv_at hl 1 rfl) ?_
    refine lv_iconst (v := 1) hx hb dL_law_2542 (by decide) ?_
    refine lv_iadd hx hb dL_law_2543 ?_
    refine va_sld hx hb hX hbl hbA V.2.2.2.1 (hin 1 (by decide)) dL_law_2544 ?_
    refine lv_aload_n hx hb dL_law_2545 rfl (lv_at hl 5 rfl) ?_
    refine lv_iload hx hb dL_law_2546 (lv_at hl 1 rfl) ?_
    refine lv_iconst (v := 2) hx hb dL_law_2548 (by decide) ?_
    refine lv_iadd hx hb dL_law_2549 ?_
    refine va_sld hx hb hX hbl hbA V.2.2.2.1 (hin 2 (by decide)) dL_law_2550 ?_
    refine lv_aload_n hx hb dL_law_2551 rfl (lv_at hl 5 rfl) ?_
    refine lv_iload hx hb dL_law_2552 (lv_at hl 1 rfl) ?_
    refine lv_iconst (v := 3) hx hb dL_law_2554 (by decide) ?_
    refine lv_iadd hx hb dL_law_2555 ?_
    refine va_sld hx hb hX hbl hbA V.2.2.2.1 (hin 3 (by decide)) dL_law_2556 ?_
    have V := ql_V.swap V
    refine ql_cV (rest := []) (st1 := [.int rb]) (wc := (Wm cy am J B w)) (wr := ((Wo cy ad I A G T) ++ [qd_L cy ao o])) S0 V hl 0 gM_0 rfl (c_X8_basketUnits l hM8) kg_L_293 rfl ⟨rfl, rfl⟩ kd_X8_basketUnits ⟨(Nat.le_of_ble_eq_true rfl), (Nat.le_of_ble_eq_true rfl)⟩ rfl rfl (Nat.le_of_ble_eq_true rfl) ⟨hcN, hsN⟩ rfl dL_law_2557 (fun H locs V => ?_)
    have V := ql_V.swap V
    refine lv_istore (lv' := [(6, .int rb), (5, .int 1), (4, .int i), (3, .ref ao), (2, .ref (am 0)), (1, .ref (ad 0)), (0, .ref b)]) hx hb dL_law_2560 hl (by decide) rfl (fun ls hl => ?_)
    refine lv_aload_n hx hb dL_law_2562 rfl (lv_at hl 4 rfl) ?_
    refine ql_cVR (rest := []) (st1 := [.int (J9 1)]) (wc := (Wm cy am J9 B9 w)) (wr := ((Wo cy ad I A G T) ++ [qd_L cy ao o])) S0 (ql_V.swap V) hl 0 gM_0 rfl (c_X8_thrown l rfl) kg_L_200 rfl ⟨rfl, rfl⟩ kd_X8_thrown ⟨(Nat.le_of_ble_eq_true rfl), (Nat.le_of_ble_eq_true rfl)⟩ rfl rfl (Nat.le_of_ble_eq_true rfl) ⟨hcN, hsN⟩ rfl dL_law_2563 ?_
    refine lv_iload hx hb dL_law_2566 (lv_at hl 1 rfl) ?_
    refine lv_icmp_eq (tgt := 2573) hx hb dL_law_2568 (by decide) (fun _ => ?_) (fun c9 => absurd t1 c9)
    refine lv_iload hx hb dL_law_2573 (lv_at hl 1 rfl) ?_
    refine lv_if_ne (tgt := 2590) hx hb dL_law_2575 (by decide) (fun _ => ?_) (fun c9 => absurd c9 (by decide))
    refine lv_goto (tgt := 3735) hx hb dL_law_2590 (by decide) ?_
    exact K _ _ _ _ _ _ _ _ _ _ _ _ rfl hI9 V (lv_sub hl [2, 3, 4, 5, 6] rfl)
  · have hcN : cells + 1 + 0 ≤ 601024 := hc
    have hsN : slots + 6 + 0 ≤ 7293034 := hs
    obtain ⟨t1, hOut, hI9⟩ := h1 v9 hro
    have V : qw_V D cy Z s (((Wo cy ad (v9.2.1) (v9.2.2) G T) ++ [qd_L cy ao (vp_updL o 0 (v9.1).toInt64)]) ++ (Wm cy am J B w)) H locs := V
    refine lv_istore (lv' := [(5, .int 0), (4, .int i), (3, .ref ao), (2, .ref (am 0)), (1, .ref (ad 0)), (0, .ref b)]) hx hb dL_law_2536 hl (by decide) rfl (fun ls hl => ?_)
    refine lv_aload_n hx hb dL_law_2538 rfl (lv_at hl 3 rfl) ?_
    refine lv_aload_n hx hb dL_law_2539 rfl (lv_at hl 5 rfl) ?_
    refine lv_iload hx hb dL_law_2540 (lv_at hl 1 rfl) ?_
    refine lv_iconst (v := 1) hx hb dL_law_2542 (by decide) ?_
    refine lv_iadd hx hb dL_law_2543 ?_
    refine va_sld hx hb hX hbl hbA V.2.2.2.1 (hin 1 (by decide)) dL_law_2544 ?_
    refine lv_aload_n hx hb dL_law_2545 rfl (lv_at hl 5 rfl) ?_
    refine lv_iload hx hb dL_law_2546 (lv_at hl 1 rfl) ?_
    refine lv_iconst (v := 2) hx hb dL_law_2548 (by decide) ?_
    refine lv_iadd hx hb dL_law_2549 ?_
    refine va_sld hx hb hX hbl hbA V.2.2.2.1 (hin 2 (by decide)) dL_law_2550 ?_
    refine lv_aload_n hx hb dL_law_2551 rfl (lv_at hl 5 rfl) ?_
    refine lv_iload hx hb dL_law_2552 (lv_at hl 1 rfl) ?_
    refine lv_iconst (v := 3) hx hb dL_law_2554 (by decide) ?_
    refine lv_iadd hx hb dL_law_2555 ?_
    refine va_sld hx hb hX hbl hbA V.2.2.2.1 (hin 3 (by decide)) dL_law_2556 ?_
    have V := ql_V.swap V
    refine ql_cV (rest := []) (st1 := [.int rb]) (wc := (Wm cy am J B w)) (wr := ((Wo cy ad (v9.2.1) (v9.2.2) G T) ++ [qd_L cy ao (vp_updL o 0 (v9.1).toInt64)])) S0 V hl 0 gM_0 rfl (c_X8_basketUnits l hM8) kg_L_293 rfl ⟨rfl, rfl⟩ kd_X8_basketUnits ⟨(Nat.le_of_ble_eq_true rfl), (Nat.le_of_ble_eq_true rfl)⟩ rfl rfl (Nat.le_of_ble_eq_true rfl) ⟨hcN, hsN⟩ rfl dL_law_2557 (fun H locs V => ?_)
    have V := ql_V.swap V
    refine lv_istore (lv' := [(6, .int rb), (5, .int 0), (4, .int i), (3, .ref ao), (2, .ref (am 0)), (1, .ref (ad 0)), (0, .ref b)]) hx hb dL_law_2560 hl (by decide) rfl (fun ls hl => ?_)
    refine lv_aload_n hx hb dL_law_2562 rfl (lv_at hl 4 rfl) ?_
    refine ql_cVR (rest := []) (st1 := [.int (J9 1)]) (wc := (Wm cy am J9 B9 w)) (wr := ((Wo cy ad (v9.2.1) (v9.2.2) G T) ++ [qd_L cy ao (vp_updL o 0 (v9.1).toInt64)])) S0 (ql_V.swap V) hl 0 gM_0 rfl (c_X8_thrown l rfl) kg_L_200 rfl ⟨rfl, rfl⟩ kd_X8_thrown ⟨(Nat.le_of_ble_eq_true rfl), (Nat.le_of_ble_eq_true rfl)⟩ rfl rfl (Nat.le_of_ble_eq_true rfl) ⟨hcN, hsN⟩ rfl dL_law_2563 ?_
    refine lv_iload hx hb dL_law_2566 (lv_at hl 1 rfl) ?_
    refine lv_icmp_eq (tgt := 2573) hx hb dL_law_2568 (by decide) (fun _ => ?_) (fun c9 => absurd t1 c9)
    refine lv_iload hx hb dL_law_2573 (lv_at hl 1 rfl) ?_
    refine lv_if_ne (tgt := 2590) hx hb dL_law_2575 (by decide) (fun c9 => absurd rfl c9) (fun _ => ?_)
    refine lv_aload_n hx hb dL_law_2578 rfl (lv_at hl 3 rfl) ?_
    refine lv_iconst (v := 0) hx hb dL_law_2579 (by decide) ?_
    refine ql_lald S0 V rfl dL_law_2580 ?_
    refine lv_iload hx hb dL_law_2581 (lv_at hl 0 rfl) ?_
    refine lv_i2l hx hb dL_law_2583 rfl ?_
    refine W.lcmp hx hb dL_law_2584 ?_
    refine lv_if_eq (tgt := 2590) hx hb dL_law_2585 (by decide) (fun _ => ?_) (fun c9 => absurd (by show lg_cmp (v9.1).toInt64 (rb.toInt64) = 0; rw [hOut]; exact ql_cmp _) c9)
    refine lv_goto (tgt := 3735) hx hb dL_law_2590 (by decide) ?_
    exact K _ _ _ _ _ _ _ _ _ _ _ _ rfl hI9 V (lv_sub hl [2, 3, 4, 5, 6] rfl)
set_option maxHeartbeats 4000000 in
set_option maxRecDepth 100000 in
theorem ql_43 {p : Program} {l : Launch} {e : Env} {s : State} {m : MethodId} {below : List Frame} {meth : Method} {c : Code} {Q : State → Prop} {D : va_G} {cy : Nat → ClassId} {Z : Nat → Prop} {b L : Nat} {xs : Nat → Int32} (hst : l.stackTraces = false) (S0 : CallFix p m c code 7 s #[Value.ref b] qw_big RL) (hX : va_X b L xs s s.heap) (hbl : b < s.heap.size) (hbA : ¬ Z b) {Inv : ql_Inv} (hE : QE_waitFor Inv) {ad am : Nat → Nat} {I : Nat → Int32} {A : Nat → Nat → Int32} {G : Nat → Int32 × (Nat → Nat → Int32)} {T : Nat} {J : Nat → Int32} {B : Nat → Nat → Int32} {w : Int64} {ao : Nat} {o : Nat → Int64} {H : Heap} {locs : List Loc} {cells slots : Nat} {ls : Array Slot} (hI : Inv I A G T J B w) (V : qw_V D cy Z s (((Wo cy ad I A G T) ++ [qd_L cy ao o]) ++ (Wm cy am J B w)) H locs) {i : Int32} (hin : ∀ j : Nat, j ≤ 5 → vp_in (i + Int32.ofNat j) L) (hl : lv_has ls 7 (ql_base i ao (am 0) (ad 0) b)) (hc : cells + 1 ≤ 601024) (hs : slots + 6 ≤ 7293034) (K : ∀ (ad2 : Nat → Nat) (I : Nat → Int32) (A : Nat → Nat → Int32) (G : Nat → Int32 × (Nat → Nat → Int32)) (T : Nat) (J : Nat → Int32) (B : Nat → Nat → Int32) (w : Int64) (o : Nat → Int64) (H : Heap) (locs : List Loc) (ls : Array Slot), ad2 0 = ad 0 → Inv I A G T J B w → qw_V D cy Z s ((Wo cy ad2 I A G T ++ [qd_L cy ao o]) ++ Wm cy am J B w) H locs → lv_has ls 7 (ql_base i ao (am 0) (ad 0) b) → W p l e room_1 s m #[Value.ref b] below meth c H locs (cells + 1) (slots + 6) Q (F0 m 3735 ls [])) : W p l e room_1 s m #[Value.ref b] below meth c H locs cells slots Q (F0 m 2593 ls []) := by
  have hx := S0.1; have hb := S0.2.1
  have hc0 : cells ≤ 601024 := Nat.le_trans (Nat.le_add_right _ _) hc; have hs0 : slots ≤ 7293034 := Nat.le_trans (Nat.le_add_right _ _) hs
  obtain ⟨ro, hX7, rb, J9, B9, hM8, h0, h1⟩ := (hE ad I A G T J B w (xs (i + 1).toNatClampNeg) (xs (i + 2).toNatClampNeg) (xs (i + 3).toNatClampNeg) hI)
  have hl : lv_has ls 7 [(4, .int i), (3, .ref ao), (2, .ref (am 0)), (1, .ref (ad 0)), (0, .ref b)] := hl
  refine lv_aload_n hx hb dL_law_2593 rfl (lv_at hl 3 rfl) ?_
  refine lv_aload_n hx hb dL_law_2594 rfl (lv_at hl 4 rfl) ?_
  refine lv_iload hx hb dL_law_2595 (lv_at hl 0 rfl) ?_
  refine lv_iconst (v := 1) hx hb dL_law_2597 (by decide) ?_
  refine lv_iadd hx hb dL_law_2598 ?_
  refine va_sld hx hb hX hbl hbA V.2.2.2.1 (hin 1 (by decide)) dL_law_2599 ?_
  refine lv_aload_n hx hb dL_law_2600 rfl (lv_at hl 4 rfl) ?_
  refine lv_iload hx hb dL_law_2601 (lv_at hl 0 rfl) ?_
  refine lv_iconst (v := 2) hx hb dL_law_2603 (by decide) ?_
  refine lv_iadd hx hb dL_law_2604 ?_
  refine va_sld hx hb hX hbl hbA V.2.2.2.1 (hin 2 (by decide)) dL_law_2605 ?_
  refine lv_aload_n hx hb dL_law_2606 rfl (lv_at hl 4 rfl) ?_
  refine lv_iload hx hb dL_law_2607 (lv_at hl 0 rfl) ?_
  refine lv_iconst (v := 3) hx hb dL_law_2609 (by decide) ?_
  refine lv_iadd hx hb dL_law_2610 ?_
  refine va_sld hx hb hX hbl hbA V.2.2.2.1 (hin 3 (by decide)) dL_law_2611 ?_
  refine lv_aload_n hx hb dL_law_2612 rfl (lv_at hl 1 rfl) ?_
  refine ql_cW (rest := []) (wc := (Wo cy ad I A G T) ++ [qd_L cy ao o]) (wr := (Wm cy am J B w)) S0 V hl (c_L_waitFor l hst hX7) kg_L_294 rfl ⟨rfl, rfl⟩ kd_L_waitFor ⟨(Nat.le_of_ble_eq_true rfl), (Nat.le_of_ble_eq_true rfl)⟩ rfl rfl (Nat.le_of_ble_eq_true rfl) ⟨hc, hs⟩ dL_law_2613 (fun H locs hro V => ?_) (fun v9 H locs hro V => ?_)
  · have hcN : cells + 1 + 0 ≤ 601024 := hc
    have hsN : slots + 6 + 0 ≤ 7293034 := hs
    obtain ⟨t1, hI9⟩ := h0 hro
    refine lv_istore (lv' := [(5, .int 1), (4, .int i), (3, .ref ao), (2, .ref (am 0)), (1, .ref (ad 0)), (0, .ref b)]) hx hb dL_law_2616 hl (by decide) rfl (fun ls hl => ?_)
    refine lv_aload_n hx hb dL_law_2618 rfl (lv_at hl 3 rfl) ?_
    refine lv_aload_n hx hb dL_law_2619 rfl (lv_at hl 5 rfl) ?_
    refine lv_iload hx hb dL_law_2620 (lv_at hl 1 rfl) ?_
    refine lv_iconst (v := 1) hx hb dL_law_2622 (by decide) ?_
    refine lv_iadd hx hb dL_law_2623 ?_
    refine va_sld hx hb hX hbl hbA V.2.2.2.1 (hin 1 (by decide)) dL_law_2624 ?_
    refine lv_aload_n hx hb dL_law_2625 rfl (lv_at hl 5 rfl) ?_
    refine lv_iload hx hb dL_law_2626 (lv_at hl 1 rfl) ?_
    refine lv_iconst (v := 2) hx hb dL_law_2628 (by decide) ?_
    refine lv_iadd hx hb dL_law_2629 ?_
    refine va_sld hx hb hX hbl hbA V.2.2.2.1 (hin 2 (by decide)) dL_law_2630 ?_
    refine lv_aload_n hx hb dL_law_2631 rfl (lv_at hl 5 rfl) ?_
    refine lv_iload hx hb dL_law_2632 (lv_at hl 1 rfl) ?_
    refine lv_iconst (v := 3) hx hb dL_law_2634 (by decide) ?_
    refine lv_iadd hx hb dL_law_2635 ?_
    refine va_sld hx hb hX hbl hbA V.2.2.2.1 (hin 3 (by decide)) dL_law_2636 ?_
    have V := ql_V.swap V
    refine ql_cV (rest := []) (st1 := [.int rb]) (wc := (Wm cy am J B w)) (wr := ((Wo cy ad I A G T) ++ [qd_L cy ao o])) S0 V hl 0 gM_0 rfl (c_X8_waitFor l hM8) kg_L_296 rfl ⟨rfl, rfl⟩ kd_X8_waitFor ⟨(Nat.le_of_ble_eq_true rfl), (Nat.le_of_ble_eq_true rfl)⟩ rfl rfl (Nat.le_of_ble_eq_true rfl) ⟨hcN, hsN⟩ rfl dL_law_2637 (fun H locs V => ?_)
    have V := ql_V.swap V
    refine lv_istore (lv' := [(6, .int rb), (5, .int 1), (4, .int i), (3, .ref ao), (2, .ref (am 0)), (1, .ref (ad 0)), (0, .ref b)]) hx hb dL_law_2640 hl (by decide) rfl (fun ls hl => ?_)
    refine lv_aload_n hx hb dL_law_2642 rfl (lv_at hl 4 rfl) ?_
    refine ql_cVR (rest := []) (st1 := [.int (J9 1)]) (wc := (Wm cy am J9 B9 w)) (wr := ((Wo cy ad I A G T) ++ [qd_L cy ao o])) S0 (ql_V.swap V) hl 0 gM_0 rfl (c_X8_thrown l rfl) kg_L_200 rfl ⟨rfl, rfl⟩ kd_X8_thrown ⟨(Nat.le_of_ble_eq_true rfl), (Nat.le_of_ble_eq_true rfl)⟩ rfl rfl (Nat.le_of_ble_eq_true rfl) ⟨hcN, hsN⟩ rfl dL_law_2643 ?_
    refine lv_iload hx hb dL_law_2646 (lv_at hl 1 rfl) ?_
    refine lv_icmp_eq (tgt := 2653) hx hb dL_law_2648 (by decide) (fun _ => ?_) (fun c9 => absurd t1 c9)
    refine lv_iload hx hb dL_law_2653 (lv_at hl 1 rfl) ?_
    refine lv_if_ne (tgt := 2670) hx hb dL_law_2655 (by decide) (fun _ => ?_) (fun c9 => absurd c9 (by decide))
    refine lv_goto (tgt := 3735) hx hb dL_law_2670 (by decide) ?_
    exact K _ _ _ _ _ _ _ _ _ _ _ _ rfl hI9 V (lv_sub hl [2, 3, 4, 5, 6] rfl)
  · have hcN : cells + 1 + 0 ≤ 601024 := hc
    have hsN : slots + 6 + 0 ≤ 7293034 := hs
    obtain ⟨t1, hOut, hI9⟩ := h1 v9 hro
    have V : qw_V D cy Z s (((Wo cy ad I (v9.2) G T) ++ [qd_L cy ao (vp_updL o 0 (v9.1).toInt64)]) ++ (Wm cy am J B w)) H locs := V
    refine lv_istore (lv' := [(5, .int 0), (4, .int i), (3, .ref ao), (2, .ref (am 0)), (1, .ref (ad 0)), (0, .ref b)]) hx hb dL_law_2616 hl (by decide) rfl (fun ls hl => ?_)
    refine lv_aload_n hx hb dL_law_2618 rfl (lv_at hl 3 rfl) ?_
    refine lv_aload_n hx hb dL_law_2619 rfl (lv_at hl 5 rfl) ?_
    refine lv_iload hx hb dL_law_2620 (lv_at hl 1 rfl) ?_
    refine lv_iconst (v := 1) hx hb dL_law_2622 (by decide) ?_
    refine lv_iadd hx hb dL_law_2623 ?_
    refine va_sld hx hb hX hbl hbA V.2.2.2.1 (hin 1 (by decide)) dL_law_2624 ?_
    refine lv_aload_n hx hb dL_law_2625 rfl (lv_at hl 5 rfl) ?_
    refine lv_iload hx hb dL_law_2626 (lv_at hl 1 rfl) ?_
    refine lv_iconst (v := 2) hx hb dL_law_2628 (by decide) ?_
    refine lv_iadd hx hb dL_law_2629 ?_
    refine va_sld hx hb hX hbl hbA V.2.2.2.1 (hin 2 (by decide)) dL_law_2630 ?_
    refine lv_aload_n hx hb dL_law_2631 rfl (lv_at hl 5 rfl) ?_
    refine lv_iload hx hb dL_law_2632 (lv_at hl 1 rfl) ?_
    refine lv_iconst (v := 3) hx hb dL_law_2634 (by decide) ?_
    refine lv_iadd hx hb dL_law_2635 ?_
    refine va_sld hx hb hX hbl hbA V.2.2.2.1 (hin 3 (by decide)) dL_law_2636 ?_
    have V := ql_V.swap V
    refine ql_cV (rest := []) (st1 := [.int rb]) (wc := (Wm cy am J B w)) (wr := ((Wo cy ad I (v9.2) G T) ++ [qd_L cy ao (vp_updL o 0 (v9.1).toInt64)])) S0 V hl 0 gM_0 rfl (c_X8_waitFor l hM8) kg_L_296 rfl ⟨rfl, rfl⟩ kd_X8_waitFor ⟨(Nat.le_of_ble_eq_true rfl), (Nat.le_of_ble_eq_true rfl)⟩ rfl rfl (Nat.le_of_ble_eq_true rfl) ⟨hcN, hsN⟩ rfl dL_law_2637 (fun H locs V => ?_)
    have V := ql_V.swap V
    refine lv_istore (lv' := [(6, .int rb), (5, .int 0), (4, .int i), (3, .ref ao), (2, .ref (am 0)), (1, .ref (ad 0)), (0, .ref b)]) hx hb dL_law_2640 hl (by decide) rfl (fun ls hl => ?_)
    refine lv_aload_n hx hb dL_law_2642 rfl (lv_at hl 4 rfl) ?_
    refine ql_cVR (rest := []) (st1 := [.int (J9 1)]) (wc := (Wm cy am J9 B9 w)) (wr := ((Wo cy ad I (v9.2) G T) ++ [qd_L cy ao (vp_updL o 0 (v9.1).toInt64)])) S0 (ql_V.swap V) hl 0 gM_0 rfl (c_X8_thrown l rfl) kg_L_200 rfl ⟨rfl, rfl⟩ kd_X8_thrown ⟨(Nat.le_of_ble_eq_true rfl), (Nat.le_of_ble_eq_true rfl)⟩ rfl rfl (Nat.le_of_ble_eq_true rfl) ⟨hcN, hsN⟩ rfl dL_law_2643 ?_
    refine lv_iload hx hb dL_law_2646 (lv_at hl 1 rfl) ?_
    refine lv_icmp_eq (tgt := 2653) hx hb dL_law_2648 (by decide) (fun _ => ?_) (fun c9 => absurd t1 c9)
    refine lv_iload hx hb dL_law_2653 (lv_at hl 1 rfl) ?_
    refine lv_if_ne (tgt := 2670) hx hb dL_law_2655 (by decide) (fun c9 => absurd rfl c9) (fun _ => ?_)
    refine lv_aload_n hx hb dL_law_2658 rfl (lv_at hl 3 rfl) ?_
    refine lv_iconst (v := 0) hx hb dL_law_2659 (by decide) ?_
    refine ql_lald S0 V rfl dL_law_2660 ?_
    refine lv_iload hx hb dL_law_2661 (lv_at hl 0 rfl) ?_
    refine lv_i2l hx hb dL_law_2663 rfl ?_
    refine W.lcmp hx hb dL_law_2664 ?_
    refine lv_if_eq (tgt := 2670) hx hb dL_law_2665 (by decide) (fun _ => ?_) (fun c9 => absurd (by show lg_cmp (v9.1).toInt64 (rb.toInt64) = 0; rw [hOut]; exact ql_cmp _) c9)
    refine lv_goto (tgt := 3735) hx hb dL_law_2670 (by decide) ?_
    exact K _ _ _ _ _ _ _ _ _ _ _ _ rfl hI9 V (lv_sub hl [2, 3, 4, 5, 6] rfl)
set_option maxHeartbeats 4000000 in
set_option maxRecDepth 100000 in
theorem ql_44 {p : Program} {l : Launch} {e : Env} {s : State} {m : MethodId} {below : List Frame} {meth : Method} {c : Code} {Q : State → Prop} {D : va_G} {cy : Nat → ClassId} {Z : Nat → Prop} {b L : Nat} {xs : Nat → Int32} (hst : l.stackTraces = false) (S0 : CallFix p m c code 7 s #[Value.ref b] qw_big RL) (hX : va_X b L xs s s.heap) (hbl : b < s.heap.size) (hbA : ¬ Z b) {Inv : ql_Inv} (hE : QE_bestShop Inv) {ad am : Nat → Nat} {I : Nat → Int32} {A : Nat → Nat → Int32} {G : Nat → Int32 × (Nat → Nat → Int32)} {T : Nat} {J : Nat → Int32} {B : Nat → Nat → Int32} {w : Int64} {ao : Nat} {o : Nat → Int64} {H : Heap} {locs : List Loc} {cells slots : Nat} {ls : Array Slot} (hI : Inv I A G T J B w) (V : qw_V D cy Z s (((Wo cy ad I A G T) ++ [qd_L cy ao o]) ++ (Wm cy am J B w)) H locs) {i : Int32} (hin : ∀ j : Nat, j ≤ 5 → vp_in (i + Int32.ofNat j) L) (hl : lv_has ls 7 (ql_base i ao (am 0) (ad 0) b)) (hc : cells + 1 ≤ 601024) (hs : slots + 6 ≤ 7293034) (K : ∀ (ad2 : Nat → Nat) (I : Nat → Int32) (A : Nat → Nat → Int32) (G : Nat → Int32 × (Nat → Nat → Int32)) (T : Nat) (J : Nat → Int32) (B : Nat → Nat → Int32) (w : Int64) (o : Nat → Int64) (H : Heap) (locs : List Loc) (ls : Array Slot), ad2 0 = ad 0 → Inv I A G T J B w → qw_V D cy Z s ((Wo cy ad2 I A G T ++ [qd_L cy ao o]) ++ Wm cy am J B w) H locs → lv_has ls 7 (ql_base i ao (am 0) (ad 0) b) → W p l e room_1 s m #[Value.ref b] below meth c H locs (cells + 1) (slots + 6) Q (F0 m 3735 ls [])) : W p l e room_1 s m #[Value.ref b] below meth c H locs cells slots Q (F0 m 2673 ls []) := by
  have hx := S0.1; have hb := S0.2.1
  have hc0 : cells ≤ 601024 := Nat.le_trans (Nat.le_add_right _ _) hc; have hs0 : slots ≤ 7293034 := Nat.le_trans (Nat.le_add_right _ _) hs
  obtain ⟨ro, hX7, rb, J9, hM8, h0, h1⟩ := (hE ad I A G T J B w (xs (i + 1).toNatClampNeg) hI)
  have hl : lv_has ls 7 [(4, .int i), (3, .ref ao), (2, .ref (am 0)), (1, .ref (ad 0)), (0, .ref b)] := hl
  refine lv_aload_n hx hb dL_law_2673 rfl (lv_at hl 3 rfl) ?_
  refine lv_aload_n hx hb dL_law_2674 rfl (lv_at hl 4 rfl) ?_
  refine lv_iload hx hb dL_law_2675 (lv_at hl 0 rfl) ?_
  refine lv_iconst (v := 1) hx hb dL_law_2677 (by decide) ?_
  refine lv_iadd hx hb dL_law_2678 ?_
  refine va_sld hx hb hX hbl hbA V.2.2.2.1 (hin 1 (by decide)) dL_law_2679 ?_
  refine lv_aload_n hx hb dL_law_2680 rfl (lv_at hl 1 rfl) ?_
  refine ql_cW (rest := []) (wc := (Wo cy ad I A G T) ++ [qd_L cy ao o]) (wr := (Wm cy am J B w)) S0 V hl (c_L_bestShop l hst hX7) kg_L_297 rfl ⟨rfl, rfl⟩ kd_L_bestShop ⟨(Nat.le_of_ble_eq_true rfl), (Nat.le_of_ble_eq_true rfl)⟩ rfl rfl (Nat.le_of_ble_eq_true rfl) ⟨hc, hs⟩ dL_law_2681 (fun H locs hro V => ?_) (fun v9 H locs hro V => ?_)
  · have hcN : cells + 1 + 0 ≤ 601024 := hc
    have hsN : slots + 6 + 0 ≤ 7293034 := hs
    obtain ⟨t1, hI9⟩ := h0 hro
    refine lv_istore (lv' := [(5, .int 1), (4, .int i), (3, .ref ao), (2, .ref (am 0)), (1, .ref (ad 0)), (0, .ref b)]) hx hb dL_law_2684 hl (by decide) rfl (fun ls hl => ?_)
    refine lv_aload_n hx hb dL_law_2686 rfl (lv_at hl 3 rfl) ?_
    refine lv_aload_n hx hb dL_law_2687 rfl (lv_at hl 5 rfl) ?_
    refine lv_iload hx hb dL_law_2688 (lv_at hl 1 rfl) ?_
    refine lv_iconst (v := 1) hx hb dL_law_2690 (by decide) ?_
    refine lv_iadd hx hb dL_law_2691 ?_
    refine va_sld hx hb hX hbl hbA V.2.2.2.1 (hin 1 (by decide)) dL_law_2692 ?_
    have V := ql_V.swap V
    refine ql_cV (rest := []) (st1 := [.int rb]) (wc := (Wm cy am J B w)) (wr := ((Wo cy ad I A G T) ++ [qd_L cy ao o])) S0 V hl 0 gM_0 rfl (c_X8_bestShop l hM8) kg_L_299 rfl ⟨rfl, rfl⟩ kd_X8_bestShop ⟨(Nat.le_of_ble_eq_true rfl), (Nat.le_of_ble_eq_true rfl)⟩ rfl rfl (Nat.le_of_ble_eq_true rfl) ⟨hcN, hsN⟩ rfl dL_law_2693 (fun H locs V => ?_)
    have V := ql_V.swap V
    refine lv_istore (lv' := [(6, .int rb), (5, .int 1), (4, .int i), (3, .ref ao), (2, .ref (am 0)), (1, .ref (ad 0)), (0, .ref b)]) hx hb dL_law_2696 hl (by decide) rfl (fun ls hl => ?_)
    refine lv_aload_n hx hb dL_law_2698 rfl (lv_at hl 4 rfl) ?_
    refine ql_cVR (rest := []) (st1 := [.int (J9 1)]) (wc := (Wm cy am J9 B w)) (wr := ((Wo cy ad I A G T) ++ [qd_L cy ao o])) S0 (ql_V.swap V) hl 0 gM_0 rfl (c_X8_thrown l rfl) kg_L_200 rfl ⟨rfl, rfl⟩ kd_X8_thrown ⟨(Nat.le_of_ble_eq_true rfl), (Nat.le_of_ble_eq_true rfl)⟩ rfl rfl (Nat.le_of_ble_eq_true rfl) ⟨hcN, hsN⟩ rfl dL_law_2699 ?_
    refine lv_iload hx hb dL_law_2702 (lv_at hl 1 rfl) ?_
    refine lv_icmp_eq (tgt := 2709) hx hb dL_law_2704 (by decide) (fun _ => ?_) (fun c9 => absurd t1 c9)
    refine lv_iload hx hb dL_law_2709 (lv_at hl 1 rfl) ?_
    refine lv_if_ne (tgt := 2726) hx hb dL_law_2711 (by decide) (fun _ => ?_) (fun c9 => absurd c9 (by decide))
    refine lv_goto (tgt := 3735) hx hb dL_law_2726 (by decide) ?_
    exact K _ _ _ _ _ _ _ _ _ _ _ _ rfl hI9 V (lv_sub hl [2, 3, 4, 5, 6] rfl)
  · have hcN : cells + 1 + 0 ≤ 601024 := hc
    have hsN : slots + 6 + 0 ≤ 7293034 := hs
    obtain ⟨t1, hOut, hI9⟩ := h1 v9 hro
    have V : qw_V D cy Z s (((Wo cy ad I A G T) ++ [qd_L cy ao (vp_updL o 0 (v9).toInt64)]) ++ (Wm cy am J B w)) H locs := V
    refine lv_istore (lv' := [(5, .int 0), (4, .int i), (3, .ref ao), (2, .ref (am 0)), (1, .ref (ad 0)), (0, .ref b)]) hx hb dL_law_2684 hl (by decide) rfl (fun ls hl => ?_)
    refine lv_aload_n hx hb dL_law_2686 rfl (lv_at hl 3 rfl) ?_
    refine lv_aload_n hx hb dL_law_2687 rfl (lv_at hl 5 rfl) ?_
    refine lv_iload hx hb dL_law_2688 (lv_at hl 1 rfl) ?_
    refine lv_iconst (v := 1) hx hb dL_law_2690 (by decide) ?_
    refine lv_iadd hx hb dL_law_2691 ?_
    refine va_sld hx hb hX hbl hbA V.2.2.2.1 (hin 1 (by decide)) dL_law_2692 ?_
    have V := ql_V.swap V
    refine ql_cV (rest := []) (st1 := [.int rb]) (wc := (Wm cy am J B w)) (wr := ((Wo cy ad I A G T) ++ [qd_L cy ao (vp_updL o 0 (v9).toInt64)])) S0 V hl 0 gM_0 rfl (c_X8_bestShop l hM8) kg_L_299 rfl ⟨rfl, rfl⟩ kd_X8_bestShop ⟨(Nat.le_of_ble_eq_true rfl), (Nat.le_of_ble_eq_true rfl)⟩ rfl rfl (Nat.le_of_ble_eq_true rfl) ⟨hcN, hsN⟩ rfl dL_law_2693 (fun H locs V => ?_)
    have V := ql_V.swap V
    refine lv_istore (lv' := [(6, .int rb), (5, .int 0), (4, .int i), (3, .ref ao), (2, .ref (am 0)), (1, .ref (ad 0)), (0, .ref b)]) hx hb dL_law_2696 hl (by decide) rfl (fun ls hl => ?_)
    refine lv_aload_n hx hb dL_law_2698 rfl (lv_at hl 4 rfl) ?_
    refine ql_cVR (rest := []) (st1 := [.int (J9 1)]) (wc := (Wm cy am J9 B w)) (wr := ((Wo cy ad I A G T) ++ [qd_L cy ao (vp_updL o 0 (v9).toInt64)])) S0 (ql_V.swap V) hl 0 gM_0 rfl (c_X8_thrown l rfl) kg_L_200 rfl ⟨rfl, rfl⟩ kd_X8_thrown ⟨(Nat.le_of_ble_eq_true rfl), (Nat.le_of_ble_eq_true rfl)⟩ rfl rfl (Nat.le_of_ble_eq_true rfl) ⟨hcN, hsN⟩ rfl dL_law_2699 ?_
    refine lv_iload hx hb dL_law_2702 (lv_at hl 1 rfl) ?_
    refine lv_icmp_eq (tgt := 2709) hx hb dL_law_2704 (by decide) (fun _ => ?_) (fun c9 => absurd t1 c9)
    refine lv_iload hx hb dL_law_2709 (lv_at hl 1 rfl) ?_
    refine lv_if_ne (tgt := 2726) hx hb dL_law_2711 (by decide) (fun c9 => absurd rfl c9) (fun _ => ?_)
    refine lv_aload_n hx hb dL_law_2714 rfl (lv_at hl 3 rfl) ?_
    refine lv_iconst (v := 0) hx hb dL_law_2715 (by decide) ?_
    refine ql_lald S0 V rfl dL_law_2716 ?_
    refine lv_iload hx hb dL_law_2717 (lv_at hl 0 rfl) ?_
    refine lv_i2l hx hb dL_law_2719 rfl ?_
    refine W.lcmp hx hb dL_law_2720 ?_
    refine lv_if_eq (tgt := 2726) hx hb dL_law_2721 (by decide) (fun _ => ?_) (fun c9 => absurd (by show lg_cmp (v9).toInt64 (rb.toInt64) = 0; rw [hOut]; exact ql_cmp _) c9)
    refine lv_goto (tgt := 3735) hx hb dL_law_2726 (by decide) ?_
    exact K _ _ _ _ _ _ _ _ _ _ _ _ rfl hI9 V (lv_sub hl [2, 3, 4, 5, 6] rfl)
set_option maxHeartbeats 4000000 in
set_option maxRecDepth 100000 in
theorem ql_45 {p : Program} {l : Launch} {e : Env} {s : State} {m : MethodId} {below : List Frame} {meth : Method} {c : Code} {Q : State → Prop} {D : va_G} {cy : Nat → ClassId} {Z : Nat → Prop} {b L : Nat} {xs : Nat → Int32} (hst : l.stackTraces = false) (S0 : CallFix p m c code 7 s #[Value.ref b] qw_big RL) (hX : va_X b L xs s s.heap) (hbl : b < s.heap.size) (hbA : ¬ Z b) {Inv : ql_Inv} (hE : QE_bestHouse Inv) {ad am : Nat → Nat} {I : Nat → Int32} {A : Nat → Nat → Int32} {G : Nat → Int32 × (Nat → Nat → Int32)} {T : Nat} {J : Nat → Int32} {B : Nat → Nat → Int32} {w : Int64} {ao : Nat} {o : Nat → Int64} {H : Heap} {locs : List Loc} {cells slots : Nat} {ls : Array Slot} (hI : Inv I A G T J B w) (V : qw_V D cy Z s (((Wo cy ad I A G T) ++ [qd_L cy ao o]) ++ (Wm cy am J B w)) H locs) {i : Int32} (hin : ∀ j : Nat, j ≤ 5 → vp_in (i + Int32.ofNat j) L) (hl : lv_has ls 7 (ql_base i ao (am 0) (ad 0) b)) (hc : cells + 1 ≤ 601024) (hs : slots + 6 ≤ 7293034) (K : ∀ (ad2 : Nat → Nat) (I : Nat → Int32) (A : Nat → Nat → Int32) (G : Nat → Int32 × (Nat → Nat → Int32)) (T : Nat) (J : Nat → Int32) (B : Nat → Nat → Int32) (w : Int64) (o : Nat → Int64) (H : Heap) (locs : List Loc) (ls : Array Slot), ad2 0 = ad 0 → Inv I A G T J B w → qw_V D cy Z s ((Wo cy ad2 I A G T ++ [qd_L cy ao o]) ++ Wm cy am J B w) H locs → lv_has ls 7 (ql_base i ao (am 0) (ad 0) b) → W p l e room_1 s m #[Value.ref b] below meth c H locs (cells + 1) (slots + 6) Q (F0 m 3735 ls [])) : W p l e room_1 s m #[Value.ref b] below meth c H locs cells slots Q (F0 m 2729 ls []) := by
  have hx := S0.1; have hb := S0.2.1
  have hc0 : cells ≤ 601024 := Nat.le_trans (Nat.le_add_right _ _) hc; have hs0 : slots ≤ 7293034 := Nat.le_trans (Nat.le_add_right _ _) hs
  obtain ⟨ro, hX7, rb, J9, hM8, h0, h1⟩ := (hE ad I A G T J B w (xs (i + 1).toNatClampNeg) (xs (i + 2).toNatClampNeg) hI)
  have hl : lv_has ls 7 [(4, .int i), (3, .ref ao), (2, .ref (am 0)), (1, .ref (ad 0)), (0, .ref b)] := hl
  refine lv_aload_n hx hb dL_law_2729 rfl (lv_at hl 3 rfl) ?_
  refine lv_aload_n hx hb dL_law_2730 rfl (lv_at hl 4 rfl) ?_
  refine lv_iload hx hb dL_law_2731 (lv_at hl 0 rfl) ?_
  refine lv_iconst (v := 1) hx hb dL_law_2733 (by decide) ?_
  refine lv_iadd hx hb dL_law_2734 ?_
  refine va_sld hx hb hX hbl hbA V.2.2.2.1 (hin 1 (by decide)) dL_law_2735 ?_
  refine lv_aload_n hx hb dL_law_2736 rfl (lv_at hl 4 rfl) ?_
  refine lv_iload hx hb dL_law_2737 (lv_at hl 0 rfl) ?_
  refine lv_iconst (v := 2) hx hb dL_law_2739 (by decide) ?_
  refine lv_iadd hx hb dL_law_2740 ?_
  refine va_sld hx hb hX hbl hbA V.2.2.2.1 (hin 2 (by decide)) dL_law_2741 ?_
  refine lv_aload_n hx hb dL_law_2742 rfl (lv_at hl 1 rfl) ?_
  refine ql_cW (rest := []) (wc := (Wo cy ad I A G T) ++ [qd_L cy ao o]) (wr := (Wm cy am J B w)) S0 V hl (c_L_bestHouse l hst hX7) kg_L_300 rfl ⟨rfl, rfl⟩ kd_L_bestHouse ⟨(Nat.le_of_ble_eq_true rfl), (Nat.le_of_ble_eq_true rfl)⟩ rfl rfl (Nat.le_of_ble_eq_true rfl) ⟨hc, hs⟩ dL_law_2743 (fun H locs hro V => ?_) (fun v9 H locs hro V => ?_)
  · have hcN : cells + 1 + 0 ≤ 601024 := hc
    have hsN : slots + 6 + 0 ≤ 7293034 := hs
    obtain ⟨t1, hI9⟩ := h0 hro
    refine lv_istore (lv' := [(5, .int 1), (4, .int i), (3, .ref ao), (2, .ref (am 0)), (1, .ref (ad 0)), (0, .ref b)]) hx hb dL_law_2746 hl (by decide) rfl (fun ls hl => ?_)
    refine lv_aload_n hx hb dL_law_2748 rfl (lv_at hl 3 rfl) ?_
    refine lv_aload_n hx hb dL_law_2749 rfl (lv_at hl 5 rfl) ?_
    refine lv_iload hx hb dL_law_2750 (lv_at hl 1 rfl) ?_
    refine lv_iconst (v := 1) hx hb dL_law_2752 (by decide) ?_
    refine lv_iadd hx hb dL_law_2753 ?_
    refine va_sld hx hb hX hbl hbA V.2.2.2.1 (hin 1 (by decide)) dL_law_2754 ?_
    refine lv_aload_n hx hb dL_law_2755 rfl (lv_at hl 5 rfl) ?_
    refine lv_iload hx hb dL_law_2756 (lv_at hl 1 rfl) ?_
    refine lv_iconst (v := 2) hx hb dL_law_2758 (by decide) ?_
    refine lv_iadd hx hb dL_law_2759 ?_
    refine va_sld hx hb hX hbl hbA V.2.2.2.1 (hin 2 (by decide)) dL_law_2760 ?_
    have V := ql_V.swap V
    refine ql_cV (rest := []) (st1 := [.int rb]) (wc := (Wm cy am J B w)) (wr := ((Wo cy ad I A G T) ++ [qd_L cy ao o])) S0 V hl 0 gM_0 rfl (c_X8_bestHouse l hM8) kg_L_302 rfl ⟨rfl, rfl⟩ kd_X8_bestHouse ⟨(Nat.le_of_ble_eq_true rfl), (Nat.le_of_ble_eq_true rfl)⟩ rfl rfl (Nat.le_of_ble_eq_true rfl) ⟨hcN, hsN⟩ rfl dL_law_2761 (fun H locs V => ?_)
    have V := ql_V.swap V
    refine lv_istore (lv' := [(6, .int rb), (5, .int 1), (4, .int i), (3, .ref ao), (2, .ref (am 0)), (1, .ref (ad 0)), (0, .ref b)]) hx hb dL_law_2764 hl (by decide) rfl (fun ls hl => ?_)
    refine lv_aload_n hx hb dL_law_2766 rfl (lv_at hl 4 rfl) ?_
    refine ql_cVR (rest := []) (st1 := [.int (J9 1)]) (wc := (Wm cy am J9 B w)) (wr := ((Wo cy ad I A G T) ++ [qd_L cy ao o])) S0 (ql_V.swap V) hl 0 gM_0 rfl (c_X8_thrown l rfl) kg_L_200 rfl ⟨rfl, rfl⟩ kd_X8_thrown ⟨(Nat.le_of_ble_eq_true rfl), (Nat.le_of_ble_eq_true rfl)⟩ rfl rfl (Nat.le_of_ble_eq_true rfl) ⟨hcN, hsN⟩ rfl dL_law_2767 ?_
    refine lv_iload hx hb dL_law_2770 (lv_at hl 1 rfl) ?_
    refine lv_icmp_eq (tgt := 2777) hx hb dL_law_2772 (by decide) (fun _ => ?_) (fun c9 => absurd t1 c9)
    refine lv_iload hx hb dL_law_2777 (lv_at hl 1 rfl) ?_
    refine lv_if_ne (tgt := 2794) hx hb dL_law_2779 (by decide) (fun _ => ?_) (fun c9 => absurd c9 (by decide))
    refine lv_goto (tgt := 3735) hx hb dL_law_2794 (by decide) ?_
    exact K _ _ _ _ _ _ _ _ _ _ _ _ rfl hI9 V (lv_sub hl [2, 3, 4, 5, 6] rfl)
  · have hcN : cells + 1 + 0 ≤ 601024 := hc
    have hsN : slots + 6 + 0 ≤ 7293034 := hs
    obtain ⟨t1, hOut, hI9⟩ := h1 v9 hro
    have V : qw_V D cy Z s (((Wo cy ad I A G T) ++ [qd_L cy ao (vp_updL o 0 (v9).toInt64)]) ++ (Wm cy am J B w)) H locs := V
    refine lv_istore (lv' := [(5, .int 0), (4, .int i), (3, .ref ao), (2, .ref (am 0)), (1, .ref (ad 0)), (0, .ref b)]) hx hb dL_law_2746 hl (by decide) rfl (fun ls hl => ?_)
    refine lv_aload_n hx hb dL_law_2748 rfl (lv_at hl 3 rfl) ?_
    refine lv_aload_n hx hb dL_law_2749 rfl (lv_at hl 5 rfl) ?_
    refine lv_iload hx hb dL_law_2750 (lv_at hl 1 rfl) ?_
    refine lv_iconst (v := 1) hx hb dL_law_2752 (by decide) ?_
    refine lv_iadd hx hb dL_law_2753 ?_
    refine va_sld hx hb hX hbl hbA V.2.2.2.1 (hin 1 (by decide)) dL_law_2754 ?_
    refine lv_aload_n hx hb dL_law_2755 rfl (lv_at hl 5 rfl) ?_
    refine lv_iload hx hb dL_law_2756 (lv_at hl 1 rfl) ?_
    refine lv_iconst (v := 2) hx hb dL_law_2758 (by decide) ?_
    refine lv_iadd hx hb dL_law_2759 ?_
    refine va_sld hx hb hX hbl hbA V.2.2.2.1 (hin 2 (by decide)) dL_law_2760 ?_
    have V := ql_V.swap V
    refine ql_cV (rest := []) (st1 := [.int rb]) (wc := (Wm cy am J B w)) (wr := ((Wo cy ad I A G T) ++ [qd_L cy ao (vp_updL o 0 (v9).toInt64)])) S0 V hl 0 gM_0 rfl (c_X8_bestHouse l hM8) kg_L_302 rfl ⟨rfl, rfl⟩ kd_X8_bestHouse ⟨(Nat.le_of_ble_eq_true rfl), (Nat.le_of_ble_eq_true rfl)⟩ rfl rfl (Nat.le_of_ble_eq_true rfl) ⟨hcN, hsN⟩ rfl dL_law_2761 (fun H locs V => ?_)
    have V := ql_V.swap V
    refine lv_istore (lv' := [(6, .int rb), (5, .int 0), (4, .int i), (3, .ref ao), (2, .ref (am 0)), (1, .ref (ad 0)), (0, .ref b)]) hx hb dL_law_2764 hl (by decide) rfl (fun ls hl => ?_)
    refine lv_aload_n hx hb dL_law_2766 rfl (lv_at hl 4 rfl) ?_
    refine ql_cVR (rest := []) (st1 := [.int (J9 1)]) (wc := (Wm cy am J9 B w)) (wr := ((Wo cy ad I A G T) ++ [qd_L cy ao (vp_updL o 0 (v9).toInt64)])) S0 (ql_V.swap V) hl 0 gM_0 rfl (c_X8_thrown l rfl) kg_L_200 rfl ⟨rfl, rfl⟩ kd_X8_thrown ⟨(Nat.le_of_ble_eq_true rfl), (Nat.le_of_ble_eq_true rfl)⟩ rfl rfl (Nat.le_of_ble_eq_true rfl) ⟨hcN, hsN⟩ rfl dL_law_2767 ?_
    refine lv_iload hx hb dL_law_2770 (lv_at hl 1 rfl) ?_
    refine lv_icmp_eq (tgt := 2777) hx hb dL_law_2772 (by decide) (fun _ => ?_) (fun c9 => absurd t1 c9)
    refine lv_iload hx hb dL_law_2777 (lv_at hl 1 rfl) ?_
    refine lv_if_ne (tgt := 2794) hx hb dL_law_2779 (by decide) (fun c9 => absurd rfl c9) (fun _ => ?_)
    refine lv_aload_n hx hb dL_law_2782 rfl (lv_at hl 3 rfl) ?_
    refine lv_iconst (v := 0) hx hb dL_law_2783 (by decide) ?_
    refine ql_lald S0 V rfl dL_law_2784 ?_
    refine lv_iload hx hb dL_law_2785 (lv_at hl 0 rfl) ?_
    refine lv_i2l hx hb dL_law_2787 rfl ?_
    refine W.lcmp hx hb dL_law_2788 ?_
    refine lv_if_eq (tgt := 2794) hx hb dL_law_2789 (by decide) (fun _ => ?_) (fun c9 => absurd (by show lg_cmp (v9).toInt64 (rb.toInt64) = 0; rw [hOut]; exact ql_cmp _) c9)
    refine lv_goto (tgt := 3735) hx hb dL_law_2794 (by decide) ?_
    exact K _ _ _ _ _ _ _ _ _ _ _ _ rfl hI9 V (lv_sub hl [2, 3, 4, 5, 6] rfl)
set_option maxHeartbeats 4000000 in
set_option maxRecDepth 100000 in
theorem ql_46 {p : Program} {l : Launch} {e : Env} {s : State} {m : MethodId} {below : List Frame} {meth : Method} {c : Code} {Q : State → Prop} {D : va_G} {cy : Nat → ClassId} {Z : Nat → Prop} {b L : Nat} {xs : Nat → Int32} (hst : l.stackTraces = false) (S0 : CallFix p m c code 7 s #[Value.ref b] qw_big RL) (hX : va_X b L xs s s.heap) (hbl : b < s.heap.size) (hbA : ¬ Z b) {Inv : ql_Inv} (hE : QE_basketCost Inv) {ad am : Nat → Nat} {I : Nat → Int32} {A : Nat → Nat → Int32} {G : Nat → Int32 × (Nat → Nat → Int32)} {T : Nat} {J : Nat → Int32} {B : Nat → Nat → Int32} {w : Int64} {ao : Nat} {o : Nat → Int64} {H : Heap} {locs : List Loc} {cells slots : Nat} {ls : Array Slot} (hI : Inv I A G T J B w) (V : qw_V D cy Z s (((Wo cy ad I A G T) ++ [qd_L cy ao o]) ++ (Wm cy am J B w)) H locs) {i : Int32} (hin : ∀ j : Nat, j ≤ 5 → vp_in (i + Int32.ofNat j) L) (hl : lv_has ls 7 (ql_base i ao (am 0) (ad 0) b)) (hc : cells + 1 ≤ 601024) (hs : slots + 6 ≤ 7293034) (K : ∀ (ad2 : Nat → Nat) (I : Nat → Int32) (A : Nat → Nat → Int32) (G : Nat → Int32 × (Nat → Nat → Int32)) (T : Nat) (J : Nat → Int32) (B : Nat → Nat → Int32) (w : Int64) (o : Nat → Int64) (H : Heap) (locs : List Loc) (ls : Array Slot), ad2 0 = ad 0 → Inv I A G T J B w → qw_V D cy Z s ((Wo cy ad2 I A G T ++ [qd_L cy ao o]) ++ Wm cy am J B w) H locs → lv_has ls 7 (ql_base i ao (am 0) (ad 0) b) → W p l e room_1 s m #[Value.ref b] below meth c H locs (cells + 1) (slots + 6) Q (F0 m 3735 ls [])) : W p l e room_1 s m #[Value.ref b] below meth c H locs cells slots Q (F0 m 2797 ls []) := by
  have hx := S0.1; have hb := S0.2.1
  have hc0 : cells ≤ 601024 := Nat.le_trans (Nat.le_add_right _ _) hc; have hs0 : slots ≤ 7293034 := Nat.le_trans (Nat.le_add_right _ _) hs
  obtain ⟨ro, hX7, rb, J9, B9, hM8, h0, h1⟩ := (hE ad I A G T J B w (xs (i + 1).toNatClampNeg) (xs (i + 2).toNatClampNeg) hI)
  have hl : lv_has ls 7 [(4, .int i), (3, .ref ao), (2, .ref (am 0)), (1, .ref (ad 0)), (0, .ref b)] := hl
  refine lv_aload_n hx hb dL_law_2797 rfl (lv_at hl 3 rfl) ?_
  refine lv_aload_n hx hb dL_law_2798 rfl (lv_at hl 4 rfl) ?_
  refine lv_iload hx hb dL_law_2799 (lv_at hl 0 rfl) ?_
  refine lv_iconst (v := 1) hx hb dL_law_2801 (by decide) ?_
  refine lv_iadd hx hb dL_law_2802 ?_
  refine va_sld hx hb hX hbl hbA V.2.2.2.1 (hin 1 (by decide)) dL_law_2803 ?_
  refine lv_aload_n hx hb dL_law_2804 rfl (lv_at hl 4 rfl) ?_
  refine lv_iload hx hb dL_law_2805 (lv_at hl 0 rfl) ?_
  refine lv_iconst (v := 2) hx hb dL_law_2807 (by decide) ?_
  refine lv_iadd hx hb dL_law_2808 ?_
  refine va_sld hx hb hX hbl hbA V.2.2.2.1 (hin 2 (by decide)) dL_law_2809 ?_
  refine lv_aload_n hx hb dL_law_2810 rfl (lv_at hl 1 rfl) ?_
  refine ql_cW (rest := []) (wc := (Wo cy ad I A G T) ++ [qd_L cy ao o]) (wr := (Wm cy am J B w)) S0 V hl (c_L_basketCost l hst hX7) kg_L_303 rfl ⟨rfl, rfl⟩ kd_L_basketCost ⟨(Nat.le_of_ble_eq_true rfl), (Nat.le_of_ble_eq_true rfl)⟩ rfl rfl (Nat.le_of_ble_eq_true rfl) ⟨hc, hs⟩ dL_law_2811 (fun H locs hro V => ?_) (fun v9 H locs hro V => ?_)
  · have hcN : cells + 1 + 0 ≤ 601024 := hc
    have hsN : slots + 6 + 0 ≤ 7293034 := hs
    obtain ⟨t1, hI9⟩ := h0 hro
    refine lv_istore (lv' := [(5, .int 1), (4, .int i), (3, .ref ao), (2, .ref (am 0)), (1, .ref (ad 0)), (0, .ref b)]) hx hb dL_law_2814 hl (by decide) rfl (fun ls hl => ?_)
    refine lv_aload_n hx hb dL_law_2816 rfl (lv_at hl 3 rfl) ?_
    refine lv_aload_n hx hb dL_law_2817 rfl (lv_at hl 5 rfl) ?_
    refine lv_iload hx hb dL_law_2818 (lv_at hl 1 rfl) ?_
    refine lv_iconst (v := 1) hx hb dL_law_2820 (by decide) ?_
    refine lv_iadd hx hb dL_law_2821 ?_
    refine va_sld hx hb hX hbl hbA V.2.2.2.1 (hin 1 (by decide)) dL_law_2822 ?_
    refine lv_aload_n hx hb dL_law_2823 rfl (lv_at hl 5 rfl) ?_
    refine lv_iload hx hb dL_law_2824 (lv_at hl 1 rfl) ?_
    refine lv_iconst (v := 2) hx hb dL_law_2826 (by decide) ?_
    refine lv_iadd hx hb dL_law_2827 ?_
    refine va_sld hx hb hX hbl hbA V.2.2.2.1 (hin 2 (by decide)) dL_law_2828 ?_
    have V := ql_V.swap V
    refine ql_cV (rest := []) (st1 := [.int rb]) (wc := (Wm cy am J B w)) (wr := ((Wo cy ad I A G T) ++ [qd_L cy ao o])) S0 V hl 0 gM_0 rfl (c_X8_basketCost l hM8) kg_L_305 rfl ⟨rfl, rfl⟩ kd_X8_basketCost ⟨(Nat.le_of_ble_eq_true rfl), (Nat.le_of_ble_eq_true rfl)⟩ rfl rfl (Nat.le_of_ble_eq_true rfl) ⟨hcN, hsN⟩ rfl dL_law_2829 (fun H locs V => ?_)
    have V := ql_V.swap V
    refine lv_istore (lv' := [(6, .int rb), (5, .int 1), (4, .int i), (3, .ref ao), (2, .ref (am 0)), (1, .ref (ad 0)), (0, .ref b)]) hx hb dL_law_2832 hl (by decide) rfl (fun ls hl => ?_)
    refine lv_aload_n hx hb dL_law_2834 rfl (lv_at hl 4 rfl) ?_
    refine ql_cVR (rest := []) (st1 := [.int (J9 1)]) (wc := (Wm cy am J9 B9 w)) (wr := ((Wo cy ad I A G T) ++ [qd_L cy ao o])) S0 (ql_V.swap V) hl 0 gM_0 rfl (c_X8_thrown l rfl) kg_L_200 rfl ⟨rfl, rfl⟩ kd_X8_thrown ⟨(Nat.le_of_ble_eq_true rfl), (Nat.le_of_ble_eq_true rfl)⟩ rfl rfl (Nat.le_of_ble_eq_true rfl) ⟨hcN, hsN⟩ rfl dL_law_2835 ?_
    refine lv_iload hx hb dL_law_2838 (lv_at hl 1 rfl) ?_
    refine lv_icmp_eq (tgt := 2845) hx hb dL_law_2840 (by decide) (fun _ => ?_) (fun c9 => absurd t1 c9)
    refine lv_iload hx hb dL_law_2845 (lv_at hl 1 rfl) ?_
    refine lv_if_ne (tgt := 2862) hx hb dL_law_2847 (by decide) (fun _ => ?_) (fun c9 => absurd c9 (by decide))
    refine lv_goto (tgt := 3735) hx hb dL_law_2862 (by decide) ?_
    exact K _ _ _ _ _ _ _ _ _ _ _ _ rfl hI9 V (lv_sub hl [2, 3, 4, 5, 6] rfl)
  · have hcN : cells + 1 + 0 ≤ 601024 := hc
    have hsN : slots + 6 + 0 ≤ 7293034 := hs
    obtain ⟨t1, hOut, hI9⟩ := h1 v9 hro
    have V : qw_V D cy Z s (((Wo cy ad (v9.2.1) (v9.2.2) G T) ++ [qd_L cy ao (vp_updL o 0 (v9.1).toInt64)]) ++ (Wm cy am J B w)) H locs := V
    refine lv_istore (lv' := [(5, .int 0), (4, .int i), (3, .ref ao), (2, .ref (am 0)), (1, .ref (ad 0)), (0, .ref b)]) hx hb dL_law_2814 hl (by decide) rfl (fun ls hl => ?_)
    refine lv_aload_n hx hb dL_law_2816 rfl (lv_at hl 3 rfl) ?_
    refine lv_aload_n hx hb dL_law_2817 rfl (lv_at hl 5 rfl) ?_
    refine lv_iload hx hb dL_law_2818 (lv_at hl 1 rfl) ?_
    refine lv_iconst (v := 1) hx hb dL_law_2820 (by decide) ?_
    refine lv_iadd hx hb dL_law_2821 ?_
    refine va_sld hx hb hX hbl hbA V.2.2.2.1 (hin 1 (by decide)) dL_law_2822 ?_
    refine lv_aload_n hx hb dL_law_2823 rfl (lv_at hl 5 rfl) ?_
    refine lv_iload hx hb dL_law_2824 (lv_at hl 1 rfl) ?_
    refine lv_iconst (v := 2) hx hb dL_law_2826 (by decide) ?_
    refine lv_iadd hx hb dL_law_2827 ?_
    refine va_sld hx hb hX hbl hbA V.2.2.2.1 (hin 2 (by decide)) dL_law_2828 ?_
    have V := ql_V.swap V
    refine ql_cV (rest := []) (st1 := [.int rb]) (wc := (Wm cy am J B w)) (wr := ((Wo cy ad (v9.2.1) (v9.2.2) G T) ++ [qd_L cy ao (vp_updL o 0 (v9.1).toInt64)])) S0 V hl 0 gM_0 rfl (c_X8_basketCost l hM8) kg_L_305 rfl ⟨rfl, rfl⟩ kd_X8_basketCost ⟨(Nat.le_of_ble_eq_true rfl), (Nat.le_of_ble_eq_true rfl)⟩ rfl rfl (Nat.le_of_ble_eq_true rfl) ⟨hcN, hsN⟩ rfl dL_law_2829 (fun H locs V => ?_)
    have V := ql_V.swap V
    refine lv_istore (lv' := [(6, .int rb), (5, .int 0), (4, .int i), (3, .ref ao), (2, .ref (am 0)), (1, .ref (ad 0)), (0, .ref b)]) hx hb dL_law_2832 hl (by decide) rfl (fun ls hl => ?_)
    refine lv_aload_n hx hb dL_law_2834 rfl (lv_at hl 4 rfl) ?_
    refine ql_cVR (rest := []) (st1 := [.int (J9 1)]) (wc := (Wm cy am J9 B9 w)) (wr := ((Wo cy ad (v9.2.1) (v9.2.2) G T) ++ [qd_L cy ao (vp_updL o 0 (v9.1).toInt64)])) S0 (ql_V.swap V) hl 0 gM_0 rfl (c_X8_thrown l rfl) kg_L_200 rfl ⟨rfl, rfl⟩ kd_X8_thrown ⟨(Nat.le_of_ble_eq_true rfl), (Nat.le_of_ble_eq_true rfl)⟩ rfl rfl (Nat.le_of_ble_eq_true rfl) ⟨hcN, hsN⟩ rfl dL_law_2835 ?_
    refine lv_iload hx hb dL_law_2838 (lv_at hl 1 rfl) ?_
    refine lv_icmp_eq (tgt := 2845) hx hb dL_law_2840 (by decide) (fun _ => ?_) (fun c9 => absurd t1 c9)
    refine lv_iload hx hb dL_law_2845 (lv_at hl 1 rfl) ?_
    refine lv_if_ne (tgt := 2862) hx hb dL_law_2847 (by decide) (fun c9 => absurd rfl c9) (fun _ => ?_)
    refine lv_aload_n hx hb dL_law_2850 rfl (lv_at hl 3 rfl) ?_
    refine lv_iconst (v := 0) hx hb dL_law_2851 (by decide) ?_
    refine ql_lald S0 V rfl dL_law_2852 ?_
    refine lv_iload hx hb dL_law_2853 (lv_at hl 0 rfl) ?_
    refine lv_i2l hx hb dL_law_2855 rfl ?_
    refine W.lcmp hx hb dL_law_2856 ?_
    refine lv_if_eq (tgt := 2862) hx hb dL_law_2857 (by decide) (fun _ => ?_) (fun c9 => absurd (by show lg_cmp (v9.1).toInt64 (rb.toInt64) = 0; rw [hOut]; exact ql_cmp _) c9)
    refine lv_goto (tgt := 3735) hx hb dL_law_2862 (by decide) ?_
    exact K _ _ _ _ _ _ _ _ _ _ _ _ rfl hI9 V (lv_sub hl [2, 3, 4, 5, 6] rfl)
set_option maxHeartbeats 4000000 in
set_option maxRecDepth 100000 in
theorem ql_47 {p : Program} {l : Launch} {e : Env} {s : State} {m : MethodId} {below : List Frame} {meth : Method} {c : Code} {Q : State → Prop} {D : va_G} {cy : Nat → ClassId} {Z : Nat → Prop} {b L : Nat} {xs : Nat → Int32} (hst : l.stackTraces = false) (S0 : CallFix p m c code 7 s #[Value.ref b] qw_big RL) (hX : va_X b L xs s s.heap) (hbl : b < s.heap.size) (hbA : ¬ Z b) {Inv : ql_Inv} (hE : QE_basketLeft Inv) {ad am : Nat → Nat} {I : Nat → Int32} {A : Nat → Nat → Int32} {G : Nat → Int32 × (Nat → Nat → Int32)} {T : Nat} {J : Nat → Int32} {B : Nat → Nat → Int32} {w : Int64} {ao : Nat} {o : Nat → Int64} {H : Heap} {locs : List Loc} {cells slots : Nat} {ls : Array Slot} (hI : Inv I A G T J B w) (V : qw_V D cy Z s (((Wo cy ad I A G T) ++ [qd_L cy ao o]) ++ (Wm cy am J B w)) H locs) {i : Int32} (hin : ∀ j : Nat, j ≤ 5 → vp_in (i + Int32.ofNat j) L) (hl : lv_has ls 7 (ql_base i ao (am 0) (ad 0) b)) (hc : cells + 1 ≤ 601024) (hs : slots + 6 ≤ 7293034) (K : ∀ (ad2 : Nat → Nat) (I : Nat → Int32) (A : Nat → Nat → Int32) (G : Nat → Int32 × (Nat → Nat → Int32)) (T : Nat) (J : Nat → Int32) (B : Nat → Nat → Int32) (w : Int64) (o : Nat → Int64) (H : Heap) (locs : List Loc) (ls : Array Slot), ad2 0 = ad 0 → Inv I A G T J B w → qw_V D cy Z s ((Wo cy ad2 I A G T ++ [qd_L cy ao o]) ++ Wm cy am J B w) H locs → lv_has ls 7 (ql_base i ao (am 0) (ad 0) b) → W p l e room_1 s m #[Value.ref b] below meth c H locs (cells + 1) (slots + 6) Q (F0 m 3735 ls [])) : W p l e room_1 s m #[Value.ref b] below meth c H locs cells slots Q (F0 m 2865 ls []) := by
  have hx := S0.1; have hb := S0.2.1
  have hc0 : cells ≤ 601024 := Nat.le_trans (Nat.le_add_right _ _) hc; have hs0 : slots ≤ 7293034 := Nat.le_trans (Nat.le_add_right _ _) hs
  obtain ⟨ro, hX7, rb, J9, B9, hM8, h0, h1⟩ := (hE ad I A G T J B w (xs (i + 1).toNatClampNeg) (xs (i + 2).toNatClampNeg) (xs (i + 3).toNatClampNeg) hI)
  have hl : lv_has ls 7 [(4, .int i), (3, .ref ao), (2, .ref (am 0)), (1, .ref (ad 0)), (0, .ref b)] := hl
  refine lv_aload_n hx hb dL_law_2865 rfl (lv_at hl 3 rfl) ?_
  refine lv_aload_n hx hb dL_law_2866 rfl (lv_at hl 4 rfl) ?_
  refine lv_iload hx hb dL_law_2867 (lv_at hl 0 rfl) ?_
  refine lv_iconst (v := 1) hx hb dL_law_2869 (by decide) ?_
  refine lv_iadd hx hb dL_law_2870 ?_
  refine va_sld hx hb hX hbl hbA V.2.2.2.1 (hin 1 (by decide)) dL_law_2871 ?_
  refine lv_aload_n hx hb dL_law_2872 rfl (lv_at hl 4 rfl) ?_
  refine lv_iload hx hb dL_law_2873 (lv_at hl 0 rfl) ?_
  refine lv_iconst (v := 2) hx hb dL_law_2875 (by decide) ?_
  refine lv_iadd hx hb dL_law_2876 ?_
  refine va_sld hx hb hX hbl hbA V.2.2.2.1 (hin 2 (by decide)) dL_law_2877 ?_
  refine lv_aload_n hx hb dL_law_2878 rfl (lv_at hl 4 rfl) ?_
  refine lv_iload hx hb dL_law_2879 (lv_at hl 0 rfl) ?_
  refine lv_iconst (v := 3) hx hb dL_law_2881 (by decide) ?_
  refine lv_iadd hx hb dL_law_2882 ?_
  refine va_sld hx hb hX hbl hbA V.2.2.2.1 (hin 3 (by decide)) dL_law_2883 ?_
  refine lv_aload_n hx hb dL_law_2884 rfl (lv_at hl 1 rfl) ?_
  refine ql_cW (rest := []) (wc := (Wo cy ad I A G T) ++ [qd_L cy ao o]) (wr := (Wm cy am J B w)) S0 V hl (c_L_basketLeft l hst hX7) kg_L_306 rfl ⟨rfl, rfl⟩ kd_L_basketLeft ⟨(Nat.le_of_ble_eq_true rfl), (Nat.le_of_ble_eq_true rfl)⟩ rfl rfl (Nat.le_of_ble_eq_true rfl) ⟨hc, hs⟩ dL_law_2885 (fun H locs hro V => ?_) (fun v9 H locs hro V => ?_)
  · have hcN : cells + 1 + 0 ≤ 601024 := hc
    have hsN : slots + 6 + 0 ≤ 7293034 := hs
    obtain ⟨t1, hI9⟩ := h0 hro
    refine lv_istore (lv' := [(5, .int 1), (4, .int i), (3, .ref ao), (2, .ref (am 0)), (1, .ref (ad 0)), (0, .ref b)]) hx hb dL_law_2888 hl (by decide) rfl (fun ls hl => ?_)
    refine lv_aload_n hx hb dL_law_2890 rfl (lv_at hl 3 rfl) ?_
    refine lv_aload_n hx hb dL_law_2891 rfl (lv_at hl 5 rfl) ?_
    refine lv_iload hx hb dL_law_2892 (lv_at hl 1 rfl) ?_
    refine lv_iconst (v := 1) hx hb dL_law_2894 (by decide) ?_
    refine lv_iadd hx hb dL_law_2895 ?_
    refine va_sld hx hb hX hbl hbA V.2.2.2.1 (hin 1 (by decide)) dL_law_2896 ?_
    refine lv_aload_n hx hb dL_law_2897 rfl (lv_at hl 5 rfl) ?_
    refine lv_iload hx hb dL_law_2898 (lv_at hl 1 rfl) ?_
    refine lv_iconst (v := 2) hx hb dL_law_2900 (by decide) ?_
    refine lv_iadd hx hb dL_law_2901 ?_
    refine va_sld hx hb hX hbl hbA V.2.2.2.1 (hin 2 (by decide)) dL_law_2902 ?_
    refine lv_aload_n hx hb dL_law_2903 rfl (lv_at hl 5 rfl) ?_
    refine lv_iload hx hb dL_law_2904 (lv_at hl 1 rfl) ?_
    refine lv_iconst (v := 3) hx hb dL_law_2906 (by decide) ?_
    refine lv_iadd hx hb dL_law_2907 ?_
    refine va_sld hx hb hX hbl hbA V.2.2.2.1 (hin 3 (by decide)) dL_law_2908 ?_
    have V := ql_V.swap V
    refine ql_cV (rest := []) (st1 := [.int rb]) (wc := (Wm cy am J B w)) (wr := ((Wo cy ad I A G T) ++ [qd_L cy ao o])) S0 V hl 0 gM_0 rfl (c_X8_basketLeft l hM8) kg_L_308 rfl ⟨rfl, rfl⟩ kd_X8_basketLeft ⟨(Nat.le_of_ble_eq_true rfl), (Nat.le_of_ble_eq_true rfl)⟩ rfl rfl (Nat.le_of_ble_eq_true rfl) ⟨hcN, hsN⟩ rfl dL_law_2909 (fun H locs V => ?_)
    have V := ql_V.swap V
    refine lv_istore (lv' := [(6, .int rb), (5, .int 1), (4, .int i), (3, .ref ao), (2, .ref (am 0)), (1, .ref (ad 0)), (0, .ref b)]) hx hb dL_law_2912 hl (by decide) rfl (fun ls hl => ?_)
    refine lv_aload_n hx hb dL_law_2914 rfl (lv_at hl 4 rfl) ?_
    refine ql_cVR (rest := []) (st1 := [.int (J9 1)]) (wc := (Wm cy am J9 B9 w)) (wr := ((Wo cy ad I A G T) ++ [qd_L cy ao o])) S0 (ql_V.swap V) hl 0 gM_0 rfl (c_X8_thrown l rfl) kg_L_200 rfl ⟨rfl, rfl⟩ kd_X8_thrown ⟨(Nat.le_of_ble_eq_true rfl), (Nat.le_of_ble_eq_true rfl)⟩ rfl rfl (Nat.le_of_ble_eq_true rfl) ⟨hcN, hsN⟩ rfl dL_law_2915 ?_
    refine lv_iload hx hb dL_law_2918 (lv_at hl 1 rfl) ?_
    refine lv_icmp_eq (tgt := 2925) hx hb dL_law_2920 (by decide) (fun _ => ?_) (fun c9 => absurd t1 c9)
    refine lv_iload hx hb dL_law_2925 (lv_at hl 1 rfl) ?_
    refine lv_if_ne (tgt := 2942) hx hb dL_law_2927 (by decide) (fun _ => ?_) (fun c9 => absurd c9 (by decide))
    refine lv_goto (tgt := 3735) hx hb dL_law_2942 (by decide) ?_
    exact K _ _ _ _ _ _ _ _ _ _ _ _ rfl hI9 V (lv_sub hl [2, 3, 4, 5, 6] rfl)
  · have hcN : cells + 1 + 0 ≤ 601024 := hc
    have hsN : slots + 6 + 0 ≤ 7293034 := hs
    obtain ⟨t1, hOut, hI9⟩ := h1 v9 hro
    have V : qw_V D cy Z s (((Wo cy ad (v9.2.1) (v9.2.2) G T) ++ [qd_L cy ao (vp_updL o 0 (v9.1).toInt64)]) ++ (Wm cy am J B w)) H locs := V
    refine lv_istore (lv' := [(5, .int 0), (4, .int i), (3, .ref ao), (2, .ref (am 0)), (1, .ref (ad 0)), (0, .ref b)]) hx hb dL_law_2888 hl (by decide) rfl (fun ls hl => ?_)
    refine lv_aload_n hx hb dL_law_2890 rfl (lv_at hl 3 rfl) ?_
    refine lv_aload_n hx hb dL_law_2891 rfl (lv_at hl 5 rfl) ?_
    refine lv_iload hx hb dL_law_2892 (lv_at hl 1 rfl) ?_
    refine lv_iconst (v := 1) hx hb dL_law_2894 (by decide) ?_
    refine lv_iadd hx hb dL_law_2895 ?_
    refine va_sld hx hb hX hbl hbA V.2.2.2.1 (hin 1 (by decide)) dL_law_2896 ?_
    refine lv_aload_n hx hb dL_law_2897 rfl (lv_at hl 5 rfl) ?_
    refine lv_iload hx hb dL_law_2898 (lv_at hl 1 rfl) ?_
    refine lv_iconst (v := 2) hx hb dL_law_2900 (by decide) ?_
    refine lv_iadd hx hb dL_law_2901 ?_
    refine va_sld hx hb hX hbl hbA V.2.2.2.1 (hin 2 (by decide)) dL_law_2902 ?_
    refine lv_aload_n hx hb dL_law_2903 rfl (lv_at hl 5 rfl) ?_
    refine lv_iload hx hb dL_law_2904 (lv_at hl 1 rfl) ?_
    refine lv_iconst (v := 3) hx hb dL_law_2906 (by decide) ?_
    refine lv_iadd hx hb dL_law_2907 ?_
    refine va_sld hx hb hX hbl hbA V.2.2.2.1 (hin 3 (by decide)) dL_law_2908 ?_
    have V := ql_V.swap V
    refine ql_cV (rest := []) (st1 := [.int rb]) (wc := (Wm cy am J B w)) (wr := ((Wo cy ad (v9.2.1) (v9.2.2) G T) ++ [qd_L cy ao (vp_updL o 0 (v9.1).toInt64)])) S0 V hl 0 gM_0 rfl (c_X8_basketLeft l hM8) kg_L_308 rfl ⟨rfl, rfl⟩ kd_X8_basketLeft ⟨(Nat.le_of_ble_eq_true rfl), (Nat.le_of_ble_eq_true rfl)⟩ rfl rfl (Nat.le_of_ble_eq_true rfl) ⟨hcN, hsN⟩ rfl dL_law_2909 (fun H locs V => ?_)
    have V := ql_V.swap V
    refine lv_istore (lv' := [(6, .int rb), (5, .int 0), (4, .int i), (3, .ref ao), (2, .ref (am 0)), (1, .ref (ad 0)), (0, .ref b)]) hx hb dL_law_2912 hl (by decide) rfl (fun ls hl => ?_)
    refine lv_aload_n hx hb dL_law_2914 rfl (lv_at hl 4 rfl) ?_
    refine ql_cVR (rest := []) (st1 := [.int (J9 1)]) (wc := (Wm cy am J9 B9 w)) (wr := ((Wo cy ad (v9.2.1) (v9.2.2) G T) ++ [qd_L cy ao (vp_updL o 0 (v9.1).toInt64)])) S0 (ql_V.swap V) hl 0 gM_0 rfl (c_X8_thrown l rfl) kg_L_200 rfl ⟨rfl, rfl⟩ kd_X8_thrown ⟨(Nat.le_of_ble_eq_true rfl), (Nat.le_of_ble_eq_true rfl)⟩ rfl rfl (Nat.le_of_ble_eq_true rfl) ⟨hcN, hsN⟩ rfl dL_law_2915 ?_
    refine lv_iload hx hb dL_law_2918 (lv_at hl 1 rfl) ?_
    refine lv_icmp_eq (tgt := 2925) hx hb dL_law_2920 (by decide) (fun _ => ?_) (fun c9 => absurd t1 c9)
    refine lv_iload hx hb dL_law_2925 (lv_at hl 1 rfl) ?_
    refine lv_if_ne (tgt := 2942) hx hb dL_law_2927 (by decide) (fun c9 => absurd rfl c9) (fun _ => ?_)
    refine lv_aload_n hx hb dL_law_2930 rfl (lv_at hl 3 rfl) ?_
    refine lv_iconst (v := 0) hx hb dL_law_2931 (by decide) ?_
    refine ql_lald S0 V rfl dL_law_2932 ?_
    refine lv_iload hx hb dL_law_2933 (lv_at hl 0 rfl) ?_
    refine lv_i2l hx hb dL_law_2935 rfl ?_
    refine W.lcmp hx hb dL_law_2936 ?_
    refine lv_if_eq (tgt := 2942) hx hb dL_law_2937 (by decide) (fun _ => ?_) (fun c9 => absurd (by show lg_cmp (v9.1).toInt64 (rb.toInt64) = 0; rw [hOut]; exact ql_cmp _) c9)
    refine lv_goto (tgt := 3735) hx hb dL_law_2942 (by decide) ?_
    exact K _ _ _ _ _ _ _ _ _ _ _ _ rfl hI9 V (lv_sub hl [2, 3, 4, 5, 6] rfl)
set_option maxHeartbeats 4000000 in
set_option maxRecDepth 100000 in
theorem ql_48 {p : Program} {l : Launch} {e : Env} {s : State} {m : MethodId} {below : List Frame} {meth : Method} {c : Code} {Q : State → Prop} {D : va_G} {cy : Nat → ClassId} {Z : Nat → Prop} {b L : Nat} {xs : Nat → Int32} (hst : l.stackTraces = false) (S0 : CallFix p m c code 7 s #[Value.ref b] qw_big RL) (hX : va_X b L xs s s.heap) (hbl : b < s.heap.size) (hbA : ¬ Z b) {Inv : ql_Inv} (hE : QE_swapChain Inv) {ad am : Nat → Nat} {I : Nat → Int32} {A : Nat → Nat → Int32} {G : Nat → Int32 × (Nat → Nat → Int32)} {T : Nat} {J : Nat → Int32} {B : Nat → Nat → Int32} {w : Int64} {ao : Nat} {o : Nat → Int64} {H : Heap} {locs : List Loc} {cells slots : Nat} {ls : Array Slot} (hI : Inv I A G T J B w) (V : qw_V D cy Z s (((Wo cy ad I A G T) ++ [qd_L cy ao o]) ++ (Wm cy am J B w)) H locs) {i : Int32} (hin : ∀ j : Nat, j ≤ 5 → vp_in (i + Int32.ofNat j) L) (hl : lv_has ls 7 (ql_base i ao (am 0) (ad 0) b)) (hc : cells + 1 ≤ 601024) (hs : slots + 6 ≤ 7293034) (K : ∀ (ad2 : Nat → Nat) (I : Nat → Int32) (A : Nat → Nat → Int32) (G : Nat → Int32 × (Nat → Nat → Int32)) (T : Nat) (J : Nat → Int32) (B : Nat → Nat → Int32) (w : Int64) (o : Nat → Int64) (H : Heap) (locs : List Loc) (ls : Array Slot), ad2 0 = ad 0 → Inv I A G T J B w → qw_V D cy Z s ((Wo cy ad2 I A G T ++ [qd_L cy ao o]) ++ Wm cy am J B w) H locs → lv_has ls 7 (ql_base i ao (am 0) (ad 0) b) → W p l e room_1 s m #[Value.ref b] below meth c H locs (cells + 1) (slots + 6) Q (F0 m 3735 ls [])) : W p l e room_1 s m #[Value.ref b] below meth c H locs cells slots Q (F0 m 2945 ls []) := by
  have hx := S0.1; have hb := S0.2.1
  have hc0 : cells ≤ 601024 := Nat.le_trans (Nat.le_add_right _ _) hc; have hs0 : slots ≤ 7293034 := Nat.le_trans (Nat.le_add_right _ _) hs
  obtain ⟨ro, hX7, rb, J9, hM8, h0, h1⟩ := (hE ad I A G T J B w (xs (i + 1).toNatClampNeg) hI)
  have hl : lv_has ls 7 [(4, .int i), (3, .ref ao), (2, .ref (am 0)), (1, .ref (ad 0)), (0, .ref b)] := hl
  refine lv_aload_n hx hb dL_law_2945 rfl (lv_at hl 3 rfl) ?_
  refine lv_aload_n hx hb dL_law_2946 rfl (lv_at hl 4 rfl) ?_
  refine lv_iload hx hb dL_law_2947 (lv_at hl 0 rfl) ?_
  refine lv_iconst (v := 1) hx hb dL_law_2949 (by decide) ?_
  refine lv_iadd hx hb dL_law_2950 ?_
  refine va_sld hx hb hX hbl hbA V.2.2.2.1 (hin 1 (by decide)) dL_law_2951 ?_
  refine lv_aload_n hx hb dL_law_2952 rfl (lv_at hl 1 rfl) ?_
  refine ql_cW (rest := []) (wc := (Wo cy ad I A G T) ++ [qd_L cy ao o]) (wr := (Wm cy am J B w)) S0 V hl (c_L_swapChain l hst hX7) kg_L_309 rfl ⟨rfl, rfl⟩ kd_L_swapChain ⟨(Nat.le_of_ble_eq_true rfl), (Nat.le_of_ble_eq_true rfl)⟩ rfl rfl (Nat.le_of_ble_eq_true rfl) ⟨hc, hs⟩ dL_law_2953 (fun H locs hro V => ?_) (fun v9 H locs hro V => ?_)
  · have hcN : cells + 1 + 0 ≤ 601024 := hc
    have hsN : slots + 6 + 0 ≤ 7293034 := hs
    obtain ⟨t1, hI9⟩ := h0 hro
    refine lv_istore (lv' := [(5, .int 1), (4, .int i), (3, .ref ao), (2, .ref (am 0)), (1, .ref (ad 0)), (0, .ref b)]) hx hb dL_law_2956 hl (by decide) rfl (fun ls hl => ?_)
    refine lv_aload_n hx hb dL_law_2958 rfl (lv_at hl 3 rfl) ?_
    refine lv_aload_n hx hb dL_law_2959 rfl (lv_at hl 5 rfl) ?_
    refine lv_iload hx hb dL_law_2960 (lv_at hl 1 rfl) ?_
    refine lv_iconst (v := 1) hx hb dL_law_2962 (by decide) ?_
    refine lv_iadd hx hb dL_law_2963 ?_
    refine va_sld hx hb hX hbl hbA V.2.2.2.1 (hin 1 (by decide)) dL_law_2964 ?_
    have V := ql_V.swap V
    refine ql_cV (rest := []) (st1 := [.int rb]) (wc := (Wm cy am J B w)) (wr := ((Wo cy ad I A G T) ++ [qd_L cy ao o])) S0 V hl 0 gM_0 rfl (c_X8_swapChain l hM8) kg_L_311 rfl ⟨rfl, rfl⟩ kd_X8_swapChain ⟨(Nat.le_of_ble_eq_true rfl), (Nat.le_of_ble_eq_true rfl)⟩ rfl rfl (Nat.le_of_ble_eq_true rfl) ⟨hcN, hsN⟩ rfl dL_law_2965 (fun H locs V => ?_)
    have V := ql_V.swap V
    refine lv_istore (lv' := [(6, .int rb), (5, .int 1), (4, .int i), (3, .ref ao), (2, .ref (am 0)), (1, .ref (ad 0)), (0, .ref b)]) hx hb dL_law_2968 hl (by decide) rfl (fun ls hl => ?_)
    refine lv_aload_n hx hb dL_law_2970 rfl (lv_at hl 4 rfl) ?_
    refine ql_cVR (rest := []) (st1 := [.int (J9 1)]) (wc := (Wm cy am J9 B w)) (wr := ((Wo cy ad I A G T) ++ [qd_L cy ao o])) S0 (ql_V.swap V) hl 0 gM_0 rfl (c_X8_thrown l rfl) kg_L_200 rfl ⟨rfl, rfl⟩ kd_X8_thrown ⟨(Nat.le_of_ble_eq_true rfl), (Nat.le_of_ble_eq_true rfl)⟩ rfl rfl (Nat.le_of_ble_eq_true rfl) ⟨hcN, hsN⟩ rfl dL_law_2971 ?_
    refine lv_iload hx hb dL_law_2974 (lv_at hl 1 rfl) ?_
    refine lv_icmp_eq (tgt := 2981) hx hb dL_law_2976 (by decide) (fun _ => ?_) (fun c9 => absurd t1 c9)
    refine lv_iload hx hb dL_law_2981 (lv_at hl 1 rfl) ?_
    refine lv_if_ne (tgt := 2998) hx hb dL_law_2983 (by decide) (fun _ => ?_) (fun c9 => absurd c9 (by decide))
    refine lv_goto (tgt := 3735) hx hb dL_law_2998 (by decide) ?_
    exact K _ _ _ _ _ _ _ _ _ _ _ _ rfl hI9 V (lv_sub hl [2, 3, 4, 5, 6] rfl)
  · have hcN : cells + 1 + 0 ≤ 601024 := hc
    have hsN : slots + 6 + 0 ≤ 7293034 := hs
    obtain ⟨t1, hOut, hI9⟩ := h1 v9 hro
    have V : qw_V D cy Z s (((Wo cy ad I A G T) ++ [qd_L cy ao (vp_updL o 0 (v9).toInt64)]) ++ (Wm cy am J B w)) H locs := V
    refine lv_istore (lv' := [(5, .int 0), (4, .int i), (3, .ref ao), (2, .ref (am 0)), (1, .ref (ad 0)), (0, .ref b)]) hx hb dL_law_2956 hl (by decide) rfl (fun ls hl => ?_)
    refine lv_aload_n hx hb dL_law_2958 rfl (lv_at hl 3 rfl) ?_
    refine lv_aload_n hx hb dL_law_2959 rfl (lv_at hl 5 rfl) ?_
    refine lv_iload hx hb dL_law_2960 (lv_at hl 1 rfl) ?_
    refine lv_iconst (v := 1) hx hb dL_law_2962 (by decide) ?_
    refine lv_iadd hx hb dL_law_2963 ?_
    refine va_sld hx hb hX hbl hbA V.2.2.2.1 (hin 1 (by decide)) dL_law_2964 ?_
    have V := ql_V.swap V
    refine ql_cV (rest := []) (st1 := [.int rb]) (wc := (Wm cy am J B w)) (wr := ((Wo cy ad I A G T) ++ [qd_L cy ao (vp_updL o 0 (v9).toInt64)])) S0 V hl 0 gM_0 rfl (c_X8_swapChain l hM8) kg_L_311 rfl ⟨rfl, rfl⟩ kd_X8_swapChain ⟨(Nat.le_of_ble_eq_true rfl), (Nat.le_of_ble_eq_true rfl)⟩ rfl rfl (Nat.le_of_ble_eq_true rfl) ⟨hcN, hsN⟩ rfl dL_law_2965 (fun H locs V => ?_)
    have V := ql_V.swap V
    refine lv_istore (lv' := [(6, .int rb), (5, .int 0), (4, .int i), (3, .ref ao), (2, .ref (am 0)), (1, .ref (ad 0)), (0, .ref b)]) hx hb dL_law_2968 hl (by decide) rfl (fun ls hl => ?_)
    refine lv_aload_n hx hb dL_law_2970 rfl (lv_at hl 4 rfl) ?_
    refine ql_cVR (rest := []) (st1 := [.int (J9 1)]) (wc := (Wm cy am J9 B w)) (wr := ((Wo cy ad I A G T) ++ [qd_L cy ao (vp_updL o 0 (v9).toInt64)])) S0 (ql_V.swap V) hl 0 gM_0 rfl (c_X8_thrown l rfl) kg_L_200 rfl ⟨rfl, rfl⟩ kd_X8_thrown ⟨(Nat.le_of_ble_eq_true rfl), (Nat.le_of_ble_eq_true rfl)⟩ rfl rfl (Nat.le_of_ble_eq_true rfl) ⟨hcN, hsN⟩ rfl dL_law_2971 ?_
    refine lv_iload hx hb dL_law_2974 (lv_at hl 1 rfl) ?_
    refine lv_icmp_eq (tgt := 2981) hx hb dL_law_2976 (by decide) (fun _ => ?_) (fun c9 => absurd t1 c9)
    refine lv_iload hx hb dL_law_2981 (lv_at hl 1 rfl) ?_
    refine lv_if_ne (tgt := 2998) hx hb dL_law_2983 (by decide) (fun c9 => absurd rfl c9) (fun _ => ?_)
    refine lv_aload_n hx hb dL_law_2986 rfl (lv_at hl 3 rfl) ?_
    refine lv_iconst (v := 0) hx hb dL_law_2987 (by decide) ?_
    refine ql_lald S0 V rfl dL_law_2988 ?_
    refine lv_iload hx hb dL_law_2989 (lv_at hl 0 rfl) ?_
    refine lv_i2l hx hb dL_law_2991 rfl ?_
    refine W.lcmp hx hb dL_law_2992 ?_
    refine lv_if_eq (tgt := 2998) hx hb dL_law_2993 (by decide) (fun _ => ?_) (fun c9 => absurd (by show lg_cmp (v9).toInt64 (rb.toInt64) = 0; rw [hOut]; exact ql_cmp _) c9)
    refine lv_goto (tgt := 3735) hx hb dL_law_2998 (by decide) ?_
    exact K _ _ _ _ _ _ _ _ _ _ _ _ rfl hI9 V (lv_sub hl [2, 3, 4, 5, 6] rfl)
set_option maxHeartbeats 4000000 in
set_option maxRecDepth 100000 in
theorem ql_49 {p : Program} {l : Launch} {e : Env} {s : State} {m : MethodId} {below : List Frame} {meth : Method} {c : Code} {Q : State → Prop} {D : va_G} {cy : Nat → ClassId} {Z : Nat → Prop} {b L : Nat} {xs : Nat → Int32} (hst : l.stackTraces = false) (S0 : CallFix p m c code 7 s #[Value.ref b] qw_big RL) (hX : va_X b L xs s s.heap) (hbl : b < s.heap.size) (hbA : ¬ Z b) {Inv : ql_Inv} (hE : QE_mostDeliverable Inv) {ad am : Nat → Nat} {I : Nat → Int32} {A : Nat → Nat → Int32} {G : Nat → Int32 × (Nat → Nat → Int32)} {T : Nat} {J : Nat → Int32} {B : Nat → Nat → Int32} {w : Int64} {ao : Nat} {o : Nat → Int64} {H : Heap} {locs : List Loc} {cells slots : Nat} {ls : Array Slot} (hI : Inv I A G T J B w) (V : qw_V D cy Z s (((Wo cy ad I A G T) ++ [qd_L cy ao o]) ++ (Wm cy am J B w)) H locs) {i : Int32} (hin : ∀ j : Nat, j ≤ 5 → vp_in (i + Int32.ofNat j) L) (hl : lv_has ls 7 (ql_base i ao (am 0) (ad 0) b)) (hc : cells + 1 ≤ 601024) (hs : slots + 6 ≤ 7293034) (K : ∀ (ad2 : Nat → Nat) (I : Nat → Int32) (A : Nat → Nat → Int32) (G : Nat → Int32 × (Nat → Nat → Int32)) (T : Nat) (J : Nat → Int32) (B : Nat → Nat → Int32) (w : Int64) (o : Nat → Int64) (H : Heap) (locs : List Loc) (ls : Array Slot), ad2 0 = ad 0 → Inv I A G T J B w → qw_V D cy Z s ((Wo cy ad2 I A G T ++ [qd_L cy ao o]) ++ Wm cy am J B w) H locs → lv_has ls 7 (ql_base i ao (am 0) (ad 0) b) → W p l e room_1 s m #[Value.ref b] below meth c H locs (cells + 1) (slots + 6) Q (F0 m 3735 ls [])) : W p l e room_1 s m #[Value.ref b] below meth c H locs cells slots Q (F0 m 3001 ls []) := by
  have hx := S0.1; have hb := S0.2.1
  have hc0 : cells ≤ 601024 := Nat.le_trans (Nat.le_add_right _ _) hc; have hs0 : slots ≤ 7293034 := Nat.le_trans (Nat.le_add_right _ _) hs
  obtain ⟨ro, hX7, rb, J9, hM8, h0, h1⟩ := (hE ad I A G T J B w (xs (i + 1).toNatClampNeg) (xs (i + 2).toNatClampNeg) hI)
  have hl : lv_has ls 7 [(4, .int i), (3, .ref ao), (2, .ref (am 0)), (1, .ref (ad 0)), (0, .ref b)] := hl
  refine lv_aload_n hx hb dL_law_3001 rfl (lv_at hl 3 rfl) ?_
  refine lv_aload_n hx hb dL_law_3002 rfl (lv_at hl 4 rfl) ?_
  refine lv_iload hx hb dL_law_3003 (lv_at hl 0 rfl) ?_
  refine lv_iconst (v := 1) hx hb dL_law_3005 (by decide) ?_
  refine lv_iadd hx hb dL_law_3006 ?_
  refine va_sld hx hb hX hbl hbA V.2.2.2.1 (hin 1 (by decide)) dL_law_3007 ?_
  refine lv_aload_n hx hb dL_law_3008 rfl (lv_at hl 4 rfl) ?_
  refine lv_iload hx hb dL_law_3009 (lv_at hl 0 rfl) ?_
  refine lv_iconst (v := 2) hx hb dL_law_3011 (by decide) ?_
  refine lv_iadd hx hb dL_law_3012 ?_
  refine va_sld hx hb hX hbl hbA V.2.2.2.1 (hin 2 (by decide)) dL_law_3013 ?_
  refine lv_aload_n hx hb dL_law_3014 rfl (lv_at hl 1 rfl) ?_
  refine ql_cW (rest := []) (wc := (Wo cy ad I A G T) ++ [qd_L cy ao o]) (wr := (Wm cy am J B w)) S0 V hl (c_L_mostDeliverable l hst hX7) kg_L_312 rfl ⟨rfl, rfl⟩ kd_L_mostDeliverable ⟨(Nat.le_of_ble_eq_true rfl), (Nat.le_of_ble_eq_true rfl)⟩ rfl rfl (Nat.le_of_ble_eq_true rfl) ⟨hc, hs⟩ dL_law_3015 (fun H locs hro V => ?_) (fun v9 H locs hro V => ?_)
  · have hcN : cells + 1 + 0 ≤ 601024 := hc
    have hsN : slots + 6 + 0 ≤ 7293034 := hs
    obtain ⟨t1, hI9⟩ := h0 hro
    refine lv_istore (lv' := [(5, .int 1), (4, .int i), (3, .ref ao), (2, .ref (am 0)), (1, .ref (ad 0)), (0, .ref b)]) hx hb dL_law_3018 hl (by decide) rfl (fun ls hl => ?_)
    refine lv_aload_n hx hb dL_law_3020 rfl (lv_at hl 3 rfl) ?_
    refine lv_aload_n hx hb dL_law_3021 rfl (lv_at hl 5 rfl) ?_
    refine lv_iload hx hb dL_law_3022 (lv_at hl 1 rfl) ?_
    refine lv_iconst (v := 1) hx hb dL_law_3024 (by decide) ?_
    refine lv_iadd hx hb dL_law_3025 ?_
    refine va_sld hx hb hX hbl hbA V.2.2.2.1 (hin 1 (by decide)) dL_law_3026 ?_
    refine lv_aload_n hx hb dL_law_3027 rfl (lv_at hl 5 rfl) ?_
    refine lv_iload hx hb dL_law_3028 (lv_at hl 1 rfl) ?_
    refine lv_iconst (v := 2) hx hb dL_law_3030 (by decide) ?_
    refine lv_iadd hx hb dL_law_3031 ?_
    refine va_sld hx hb hX hbl hbA V.2.2.2.1 (hin 2 (by decide)) dL_law_3032 ?_
    have V := ql_V.swap V
    refine ql_cV (rest := []) (st1 := [.int rb]) (wc := (Wm cy am J B w)) (wr := ((Wo cy ad I A G T) ++ [qd_L cy ao o])) S0 V hl 0 gM_0 rfl (c_X8_mostDeliverable l hM8) kg_L_314 rfl ⟨rfl, rfl⟩ kd_X8_mostDeliverable ⟨(Nat.le_of_ble_eq_true rfl), (Nat.le_of_ble_eq_true rfl)⟩ rfl rfl (Nat.le_of_ble_eq_true rfl) ⟨hcN, hsN⟩ rfl dL_law_3033 (fun H locs V => ?_)
    have V := ql_V.swap V
    refine lv_istore (lv' := [(6, .int rb), (5, .int 1), (4, .int i), (3, .ref ao), (2, .ref (am 0)), (1, .ref (ad 0)), (0, .ref b)]) hx hb dL_law_3036 hl (by decide) rfl (fun ls hl => ?_)
    refine lv_aload_n hx hb dL_law_3038 rfl (lv_at hl 4 rfl) ?_
    refine ql_cVR (rest := []) (st1 := [.int (J9 1)]) (wc := (Wm cy am J9 B w)) (wr := ((Wo cy ad I A G T) ++ [qd_L cy ao o])) S0 (ql_V.swap V) hl 0 gM_0 rfl (c_X8_thrown l rfl) kg_L_200 rfl ⟨rfl, rfl⟩ kd_X8_thrown ⟨(Nat.le_of_ble_eq_true rfl), (Nat.le_of_ble_eq_true rfl)⟩ rfl rfl (Nat.le_of_ble_eq_true rfl) ⟨hcN, hsN⟩ rfl dL_law_3039 ?_
    refine lv_iload hx hb dL_law_3042 (lv_at hl 1 rfl) ?_
    refine lv_icmp_eq (tgt := 3049) hx hb dL_law_3044 (by decide) (fun _ => ?_) (fun c9 => absurd t1 c9)
    refine lv_iload hx hb dL_law_3049 (lv_at hl 1 rfl) ?_
    refine lv_if_ne (tgt := 3066) hx hb dL_law_3051 (by decide) (fun _ => ?_) (fun c9 => absurd c9 (by decide))
    refine lv_goto (tgt := 3735) hx hb dL_law_3066 (by decide) ?_
    exact K _ _ _ _ _ _ _ _ _ _ _ _ rfl hI9 V (lv_sub hl [2, 3, 4, 5, 6] rfl)
  · have hcN : cells + 1 + 0 ≤ 601024 := hc
    have hsN : slots + 6 + 0 ≤ 7293034 := hs
    obtain ⟨t1, hOut, hI9⟩ := h1 v9 hro
    have V : qw_V D cy Z s (((Wo cy ad I A G T) ++ [qd_L cy ao (vp_updL o 0 (v9).toInt64)]) ++ (Wm cy am J B w)) H locs := V
    refine lv_istore (lv' := [(5, .int 0), (4, .int i), (3, .ref ao), (2, .ref (am 0)), (1, .ref (ad 0)), (0, .ref b)]) hx hb dL_law_3018 hl (by decide) rfl (fun ls hl => ?_)
    refine lv_aload_n hx hb dL_law_3020 rfl (lv_at hl 3 rfl) ?_
    refine lv_aload_n hx hb dL_law_3021 rfl (lv_at hl 5 rfl) ?_
    refine lv_iload hx hb dL_law_3022 (lv_at hl 1 rfl) ?_
    refine lv_iconst (v := 1) hx hb dL_law_3024 (by decide) ?_
    refine lv_iadd hx hb dL_law_3025 ?_
    refine va_sld hx hb hX hbl hbA V.2.2.2.1 (hin 1 (by decide)) dL_law_3026 ?_
    refine lv_aload_n hx hb dL_law_3027 rfl (lv_at hl 5 rfl) ?_
    refine lv_iload hx hb dL_law_3028 (lv_at hl 1 rfl) ?_
    refine lv_iconst (v := 2) hx hb dL_law_3030 (by decide) ?_
    refine lv_iadd hx hb dL_law_3031 ?_
    refine va_sld hx hb hX hbl hbA V.2.2.2.1 (hin 2 (by decide)) dL_law_3032 ?_
    have V := ql_V.swap V
    refine ql_cV (rest := []) (st1 := [.int rb]) (wc := (Wm cy am J B w)) (wr := ((Wo cy ad I A G T) ++ [qd_L cy ao (vp_updL o 0 (v9).toInt64)])) S0 V hl 0 gM_0 rfl (c_X8_mostDeliverable l hM8) kg_L_314 rfl ⟨rfl, rfl⟩ kd_X8_mostDeliverable ⟨(Nat.le_of_ble_eq_true rfl), (Nat.le_of_ble_eq_true rfl)⟩ rfl rfl (Nat.le_of_ble_eq_true rfl) ⟨hcN, hsN⟩ rfl dL_law_3033 (fun H locs V => ?_)
    have V := ql_V.swap V
    refine lv_istore (lv' := [(6, .int rb), (5, .int 0), (4, .int i), (3, .ref ao), (2, .ref (am 0)), (1, .ref (ad 0)), (0, .ref b)]) hx hb dL_law_3036 hl (by decide) rfl (fun ls hl => ?_)
    refine lv_aload_n hx hb dL_law_3038 rfl (lv_at hl 4 rfl) ?_
    refine ql_cVR (rest := []) (st1 := [.int (J9 1)]) (wc := (Wm cy am J9 B w)) (wr := ((Wo cy ad I A G T) ++ [qd_L cy ao (vp_updL o 0 (v9).toInt64)])) S0 (ql_V.swap V) hl 0 gM_0 rfl (c_X8_thrown l rfl) kg_L_200 rfl ⟨rfl, rfl⟩ kd_X8_thrown ⟨(Nat.le_of_ble_eq_true rfl), (Nat.le_of_ble_eq_true rfl)⟩ rfl rfl (Nat.le_of_ble_eq_true rfl) ⟨hcN, hsN⟩ rfl dL_law_3039 ?_
    refine lv_iload hx hb dL_law_3042 (lv_at hl 1 rfl) ?_
    refine lv_icmp_eq (tgt := 3049) hx hb dL_law_3044 (by decide) (fun _ => ?_) (fun c9 => absurd t1 c9)
    refine lv_iload hx hb dL_law_3049 (lv_at hl 1 rfl) ?_
    refine lv_if_ne (tgt := 3066) hx hb dL_law_3051 (by decide) (fun c9 => absurd rfl c9) (fun _ => ?_)
    refine lv_aload_n hx hb dL_law_3054 rfl (lv_at hl 3 rfl) ?_
    refine lv_iconst (v := 0) hx hb dL_law_3055 (by decide) ?_
    refine ql_lald S0 V rfl dL_law_3056 ?_
    refine lv_iload hx hb dL_law_3057 (lv_at hl 0 rfl) ?_
    refine lv_i2l hx hb dL_law_3059 rfl ?_
    refine W.lcmp hx hb dL_law_3060 ?_
    refine lv_if_eq (tgt := 3066) hx hb dL_law_3061 (by decide) (fun _ => ?_) (fun c9 => absurd (by show lg_cmp (v9).toInt64 (rb.toInt64) = 0; rw [hOut]; exact ql_cmp _) c9)
    refine lv_goto (tgt := 3735) hx hb dL_law_3066 (by decide) ?_
    exact K _ _ _ _ _ _ _ _ _ _ _ _ rfl hI9 V (lv_sub hl [2, 3, 4, 5, 6] rfl)
set_option maxHeartbeats 4000000 in
set_option maxRecDepth 100000 in
theorem ql_50 {p : Program} {l : Launch} {e : Env} {s : State} {m : MethodId} {below : List Frame} {meth : Method} {c : Code} {Q : State → Prop} {D : va_G} {cy : Nat → ClassId} {Z : Nat → Prop} {b L : Nat} {xs : Nat → Int32} (hst : l.stackTraces = false) (S0 : CallFix p m c code 7 s #[Value.ref b] qw_big RL) (hX : va_X b L xs s s.heap) (hbl : b < s.heap.size) (hbA : ¬ Z b) {Inv : ql_Inv} (hE : QE_spreadOf Inv) {ad am : Nat → Nat} {I : Nat → Int32} {A : Nat → Nat → Int32} {G : Nat → Int32 × (Nat → Nat → Int32)} {T : Nat} {J : Nat → Int32} {B : Nat → Nat → Int32} {w : Int64} {ao : Nat} {o : Nat → Int64} {H : Heap} {locs : List Loc} {cells slots : Nat} {ls : Array Slot} (hI : Inv I A G T J B w) (V : qw_V D cy Z s (((Wo cy ad I A G T) ++ [qd_L cy ao o]) ++ (Wm cy am J B w)) H locs) {i : Int32} (hin : ∀ j : Nat, j ≤ 5 → vp_in (i + Int32.ofNat j) L) (hl : lv_has ls 7 (ql_base i ao (am 0) (ad 0) b)) (hc : cells + 1 ≤ 601024) (hs : slots + 6 ≤ 7293034) (K : ∀ (ad2 : Nat → Nat) (I : Nat → Int32) (A : Nat → Nat → Int32) (G : Nat → Int32 × (Nat → Nat → Int32)) (T : Nat) (J : Nat → Int32) (B : Nat → Nat → Int32) (w : Int64) (o : Nat → Int64) (H : Heap) (locs : List Loc) (ls : Array Slot), ad2 0 = ad 0 → Inv I A G T J B w → qw_V D cy Z s ((Wo cy ad2 I A G T ++ [qd_L cy ao o]) ++ Wm cy am J B w) H locs → lv_has ls 7 (ql_base i ao (am 0) (ad 0) b) → W p l e room_1 s m #[Value.ref b] below meth c H locs (cells + 1) (slots + 6) Q (F0 m 3735 ls [])) : W p l e room_1 s m #[Value.ref b] below meth c H locs cells slots Q (F0 m 3069 ls []) := by
  have hx := S0.1; have hb := S0.2.1
  have hc0 : cells ≤ 601024 := Nat.le_trans (Nat.le_add_right _ _) hc; have hs0 : slots ≤ 7293034 := Nat.le_trans (Nat.le_add_right _ _) hs
  obtain ⟨ro, hX7, rb, J9, hM8, h0, h1⟩ := (hE ad I A G T J B w (xs (i + 1).toNatClampNeg) hI)
  have hl : lv_has ls 7 [(4, .int i), (3, .ref ao), (2, .ref (am 0)), (1, .ref (ad 0)), (0, .ref b)] := hl
  refine lv_aload_n hx hb dL_law_3069 rfl (lv_at hl 3 rfl) ?_
  refine lv_aload_n hx hb dL_law_3070 rfl (lv_at hl 4 rfl) ?_
  refine lv_iload hx hb dL_law_3071 (lv_at hl 0 rfl) ?_
  refine lv_iconst (v := 1) hx hb dL_law_3073 (by decide) ?_
  refine lv_iadd hx hb dL_law_3074 ?_
  refine va_sld hx hb hX hbl hbA V.2.2.2.1 (hin 1 (by decide)) dL_law_3075 ?_
  refine lv_aload_n hx hb dL_law_3076 rfl (lv_at hl 1 rfl) ?_
  refine ql_cW (rest := []) (wc := (Wo cy ad I A G T) ++ [qd_L cy ao o]) (wr := (Wm cy am J B w)) S0 V hl (c_L_spreadOf l hst hX7) kg_L_315 rfl ⟨rfl, rfl⟩ kd_L_spreadOf ⟨(Nat.le_of_ble_eq_true rfl), (Nat.le_of_ble_eq_true rfl)⟩ rfl rfl (Nat.le_of_ble_eq_true rfl) ⟨hc, hs⟩ dL_law_3077 (fun H locs hro V => ?_) (fun v9 H locs hro V => ?_)
  · have hcN : cells + 1 + 0 ≤ 601024 := hc
    have hsN : slots + 6 + 0 ≤ 7293034 := hs
    obtain ⟨t1, hI9⟩ := h0 hro
    refine lv_istore (lv' := [(5, .int 1), (4, .int i), (3, .ref ao), (2, .ref (am 0)), (1, .ref (ad 0)), (0, .ref b)]) hx hb dL_law_3080 hl (by decide) rfl (fun ls hl => ?_)
    refine lv_aload_n hx hb dL_law_3082 rfl (lv_at hl 3 rfl) ?_
    refine lv_aload_n hx hb dL_law_3083 rfl (lv_at hl 5 rfl) ?_
    refine lv_iload hx hb dL_law_3084 (lv_at hl 1 rfl) ?_
    refine lv_iconst (v := 1) hx hb dL_law_3086 (by decide) ?_
    refine lv_iadd hx hb dL_law_3087 ?_
    refine va_sld hx hb hX hbl hbA V.2.2.2.1 (hin 1 (by decide)) dL_law_3088 ?_
    have V := ql_V.swap V
    refine ql_cV (rest := []) (st1 := [.int rb]) (wc := (Wm cy am J B w)) (wr := ((Wo cy ad I A G T) ++ [qd_L cy ao o])) S0 V hl 0 gM_0 rfl (c_X8_spreadOf l hM8) kg_L_317 rfl ⟨rfl, rfl⟩ kd_X8_spreadOf ⟨(Nat.le_of_ble_eq_true rfl), (Nat.le_of_ble_eq_true rfl)⟩ rfl rfl (Nat.le_of_ble_eq_true rfl) ⟨hcN, hsN⟩ rfl dL_law_3089 (fun H locs V => ?_)
    have V := ql_V.swap V
    refine lv_istore (lv' := [(6, .int rb), (5, .int 1), (4, .int i), (3, .ref ao), (2, .ref (am 0)), (1, .ref (ad 0)), (0, .ref b)]) hx hb dL_law_3092 hl (by decide) rfl (fun ls hl => ?_)
    refine lv_aload_n hx hb dL_law_3094 rfl (lv_at hl 4 rfl) ?_
    refine ql_cVR (rest := []) (st1 := [.int (J9 1)]) (wc := (Wm cy am J9 B w)) (wr := ((Wo cy ad I A G T) ++ [qd_L cy ao o])) S0 (ql_V.swap V) hl 0 gM_0 rfl (c_X8_thrown l rfl) kg_L_200 rfl ⟨rfl, rfl⟩ kd_X8_thrown ⟨(Nat.le_of_ble_eq_true rfl), (Nat.le_of_ble_eq_true rfl)⟩ rfl rfl (Nat.le_of_ble_eq_true rfl) ⟨hcN, hsN⟩ rfl dL_law_3095 ?_
    refine lv_iload hx hb dL_law_3098 (lv_at hl 1 rfl) ?_
    refine lv_icmp_eq (tgt := 3105) hx hb dL_law_3100 (by decide) (fun _ => ?_) (fun c9 => absurd t1 c9)
    refine lv_iload hx hb dL_law_3105 (lv_at hl 1 rfl) ?_
    refine lv_if_ne (tgt := 3122) hx hb dL_law_3107 (by decide) (fun _ => ?_) (fun c9 => absurd c9 (by decide))
    refine lv_goto (tgt := 3735) hx hb dL_law_3122 (by decide) ?_
    exact K _ _ _ _ _ _ _ _ _ _ _ _ rfl hI9 V (lv_sub hl [2, 3, 4, 5, 6] rfl)
  · have hcN : cells + 1 + 0 ≤ 601024 := hc
    have hsN : slots + 6 + 0 ≤ 7293034 := hs
    obtain ⟨t1, hOut, hI9⟩ := h1 v9 hro
    have V : qw_V D cy Z s (((Wo cy ad I A G T) ++ [qd_L cy ao (vp_updL o 0 (v9).toInt64)]) ++ (Wm cy am J B w)) H locs := V
    refine lv_istore (lv' := [(5, .int 0), (4, .int i), (3, .ref ao), (2, .ref (am 0)), (1, .ref (ad 0)), (0, .ref b)]) hx hb dL_law_3080 hl (by decide) rfl (fun ls hl => ?_)
    refine lv_aload_n hx hb dL_law_3082 rfl (lv_at hl 3 rfl) ?_
    refine lv_aload_n hx hb dL_law_3083 rfl (lv_at hl 5 rfl) ?_
    refine lv_iload hx hb dL_law_3084 (lv_at hl 1 rfl) ?_
    refine lv_iconst (v := 1) hx hb dL_law_3086 (by decide) ?_
    refine lv_iadd hx hb dL_law_3087 ?_
    refine va_sld hx hb hX hbl hbA V.2.2.2.1 (hin 1 (by decide)) dL_law_3088 ?_
    have V := ql_V.swap V
    refine ql_cV (rest := []) (st1 := [.int rb]) (wc := (Wm cy am J B w)) (wr := ((Wo cy ad I A G T) ++ [qd_L cy ao (vp_updL o 0 (v9).toInt64)])) S0 V hl 0 gM_0 rfl (c_X8_spreadOf l hM8) kg_L_317 rfl ⟨rfl, rfl⟩ kd_X8_spreadOf ⟨(Nat.le_of_ble_eq_true rfl), (Nat.le_of_ble_eq_true rfl)⟩ rfl rfl (Nat.le_of_ble_eq_true rfl) ⟨hcN, hsN⟩ rfl dL_law_3089 (fun H locs V => ?_)
    have V := ql_V.swap V
    refine lv_istore (lv' := [(6, .int rb), (5, .int 0), (4, .int i), (3, .ref ao), (2, .ref (am 0)), (1, .ref (ad 0)), (0, .ref b)]) hx hb dL_law_3092 hl (by decide) rfl (fun ls hl => ?_)
    refine lv_aload_n hx hb dL_law_3094 rfl (lv_at hl 4 rfl) ?_
    refine ql_cVR (rest := []) (st1 := [.int (J9 1)]) (wc := (Wm cy am J9 B w)) (wr := ((Wo cy ad I A G T) ++ [qd_L cy ao (vp_updL o 0 (v9).toInt64)])) S0 (ql_V.swap V) hl 0 gM_0 rfl (c_X8_thrown l rfl) kg_L_200 rfl ⟨rfl, rfl⟩ kd_X8_thrown ⟨(Nat.le_of_ble_eq_true rfl), (Nat.le_of_ble_eq_true rfl)⟩ rfl rfl (Nat.le_of_ble_eq_true rfl) ⟨hcN, hsN⟩ rfl dL_law_3095 ?_
    refine lv_iload hx hb dL_law_3098 (lv_at hl 1 rfl) ?_
    refine lv_icmp_eq (tgt := 3105) hx hb dL_law_3100 (by decide) (fun _ => ?_) (fun c9 => absurd t1 c9)
    refine lv_iload hx hb dL_law_3105 (lv_at hl 1 rfl) ?_
    refine lv_if_ne (tgt := 3122) hx hb dL_law_3107 (by decide) (fun c9 => absurd rfl c9) (fun _ => ?_)
    refine lv_aload_n hx hb dL_law_3110 rfl (lv_at hl 3 rfl) ?_
    refine lv_iconst (v := 0) hx hb dL_law_3111 (by decide) ?_
    refine ql_lald S0 V rfl dL_law_3112 ?_
    refine lv_iload hx hb dL_law_3113 (lv_at hl 0 rfl) ?_
    refine lv_i2l hx hb dL_law_3115 rfl ?_
    refine W.lcmp hx hb dL_law_3116 ?_
    refine lv_if_eq (tgt := 3122) hx hb dL_law_3117 (by decide) (fun _ => ?_) (fun c9 => absurd (by show lg_cmp (v9).toInt64 (rb.toInt64) = 0; rw [hOut]; exact ql_cmp _) c9)
    refine lv_goto (tgt := 3735) hx hb dL_law_3122 (by decide) ?_
    exact K _ _ _ _ _ _ _ _ _ _ _ _ rfl hI9 V (lv_sub hl [2, 3, 4, 5, 6] rfl)
set_option maxHeartbeats 4000000 in
set_option maxRecDepth 100000 in
theorem ql_51 {p : Program} {l : Launch} {e : Env} {s : State} {m : MethodId} {below : List Frame} {meth : Method} {c : Code} {Q : State → Prop} {D : va_G} {cy : Nat → ClassId} {Z : Nat → Prop} {b L : Nat} {xs : Nat → Int32} (hst : l.stackTraces = false) (S0 : CallFix p m c code 7 s #[Value.ref b] qw_big RL) (hX : va_X b L xs s s.heap) (hbl : b < s.heap.size) (hbA : ¬ Z b) {Inv : ql_Inv} (hE : QE_levelMoves Inv) {ad am : Nat → Nat} {I : Nat → Int32} {A : Nat → Nat → Int32} {G : Nat → Int32 × (Nat → Nat → Int32)} {T : Nat} {J : Nat → Int32} {B : Nat → Nat → Int32} {w : Int64} {ao : Nat} {o : Nat → Int64} {H : Heap} {locs : List Loc} {cells slots : Nat} {ls : Array Slot} (hI : Inv I A G T J B w) (V : qw_V D cy Z s (((Wo cy ad I A G T) ++ [qd_L cy ao o]) ++ (Wm cy am J B w)) H locs) {i : Int32} (hin : ∀ j : Nat, j ≤ 5 → vp_in (i + Int32.ofNat j) L) (hl : lv_has ls 7 (ql_base i ao (am 0) (ad 0) b)) (hc : cells + 1 ≤ 601024) (hs : slots + 6 ≤ 7293034) (K : ∀ (ad2 : Nat → Nat) (I : Nat → Int32) (A : Nat → Nat → Int32) (G : Nat → Int32 × (Nat → Nat → Int32)) (T : Nat) (J : Nat → Int32) (B : Nat → Nat → Int32) (w : Int64) (o : Nat → Int64) (H : Heap) (locs : List Loc) (ls : Array Slot), ad2 0 = ad 0 → Inv I A G T J B w → qw_V D cy Z s ((Wo cy ad2 I A G T ++ [qd_L cy ao o]) ++ Wm cy am J B w) H locs → lv_has ls 7 (ql_base i ao (am 0) (ad 0) b) → W p l e room_1 s m #[Value.ref b] below meth c H locs (cells + 1) (slots + 6) Q (F0 m 3735 ls [])) : W p l e room_1 s m #[Value.ref b] below meth c H locs cells slots Q (F0 m 3125 ls []) := by
  have hx := S0.1; have hb := S0.2.1
  have hc0 : cells ≤ 601024 := Nat.le_trans (Nat.le_add_right _ _) hc; have hs0 : slots ≤ 7293034 := Nat.le_trans (Nat.le_add_right _ _) hs
  obtain ⟨ro, hX7, rb, J9, hM8, h0, h1⟩ := (hE ad I A G T J B w (xs (i + 1).toNatClampNeg) (xs (i + 2).toNatClampNeg) hI)
  have hl : lv_has ls 7 [(4, .int i), (3, .ref ao), (2, .ref (am 0)), (1, .ref (ad 0)), (0, .ref b)] := hl
  refine lv_aload_n hx hb dL_law_3125 rfl (lv_at hl 3 rfl) ?_
  refine lv_aload_n hx hb dL_law_3126 rfl (lv_at hl 4 rfl) ?_
  refine lv_iload hx hb dL_law_3127 (lv_at hl 0 rfl) ?_
  refine lv_iconst (v := 1) hx hb dL_law_3129 (by decide) ?_
  refine lv_iadd hx hb dL_law_3130 ?_
  refine va_sld hx hb hX hbl hbA V.2.2.2.1 (hin 1 (by decide)) dL_law_3131 ?_
  refine lv_aload_n hx hb dL_law_3132 rfl (lv_at hl 4 rfl) ?_
  refine lv_iload hx hb dL_law_3133 (lv_at hl 0 rfl) ?_
  refine lv_iconst (v := 2) hx hb dL_law_3135 (by decide) ?_
  refine lv_iadd hx hb dL_law_3136 ?_
  refine va_sld hx hb hX hbl hbA V.2.2.2.1 (hin 2 (by decide)) dL_law_3137 ?_
  refine lv_aload_n hx hb dL_law_3138 rfl (lv_at hl 1 rfl) ?_
  refine ql_cW (rest := []) (wc := (Wo cy ad I A G T) ++ [qd_L cy ao o]) (wr := (Wm cy am J B w)) S0 V hl (c_L_levelMoves l hst hX7) kg_L_318 rfl ⟨rfl, rfl⟩ kd_L_levelMoves ⟨(Nat.le_of_ble_eq_true rfl), (Nat.le_of_ble_eq_true rfl)⟩ rfl rfl (Nat.le_of_ble_eq_true rfl) ⟨hc, hs⟩ dL_law_3139 (fun H locs hro V => ?_) (fun v9 H locs hro V => ?_)
  · have hcN : cells + 1 + 0 ≤ 601024 := hc
    have hsN : slots + 6 + 0 ≤ 7293034 := hs
    obtain ⟨t1, hI9⟩ := h0 hro
    refine lv_istore (lv' := [(5, .int 1), (4, .int i), (3, .ref ao), (2, .ref (am 0)), (1, .ref (ad 0)), (0, .ref b)]) hx hb dL_law_3142 hl (by decide) rfl (fun ls hl => ?_)
    refine lv_aload_n hx hb dL_law_3144 rfl (lv_at hl 3 rfl) ?_
    refine lv_aload_n hx hb dL_law_3145 rfl (lv_at hl 5 rfl) ?_
    refine lv_iload hx hb dL_law_3146 (lv_at hl 1 rfl) ?_
    refine lv_iconst (v := 1) hx hb dL_law_3148 (by decide) ?_
    refine lv_iadd hx hb dL_law_3149 ?_
    refine va_sld hx hb hX hbl hbA V.2.2.2.1 (hin 1 (by decide)) dL_law_3150 ?_
    refine lv_aload_n hx hb dL_law_3151 rfl (lv_at hl 5 rfl) ?_
    refine lv_iload hx hb dL_law_3152 (lv_at hl 1 rfl) ?_
    refine lv_iconst (v := 2) hx hb dL_law_3154 (by decide) ?_
    refine lv_iadd hx hb dL_law_3155 ?_
    refine va_sld hx hb hX hbl hbA V.2.2.2.1 (hin 2 (by decide)) dL_law_3156 ?_
    have V := ql_V.swap V
    refine ql_cV (rest := []) (st1 := [.int rb]) (wc := (Wm cy am J B w)) (wr := ((Wo cy ad I A G T) ++ [qd_L cy ao o])) S0 V hl 0 gM_0 rfl (c_X8_levelMoves l hM8) kg_L_320 rfl ⟨rfl, rfl⟩ kd_X8_levelMoves ⟨(Nat.le_of_ble_eq_true rfl), (Nat.le_of_ble_eq_true rfl)⟩ rfl rfl (Nat.le_of_ble_eq_true rfl) ⟨hcN, hsN⟩ rfl dL_law_3157 (fun H locs V => ?_)
    have V := ql_V.swap V
    refine lv_istore (lv' := [(6, .int rb), (5, .int 1), (4, .int i), (3, .ref ao), (2, .ref (am 0)), (1, .ref (ad 0)), (0, .ref b)]) hx hb dL_law_3160 hl (by decide) rfl (fun ls hl => ?_)
    refine lv_aload_n hx hb dL_law_3162 rfl (lv_at hl 4 rfl) ?_
    refine ql_cVR (rest := []) (st1 := [.int (J9 1)]) (wc := (Wm cy am J9 B w)) (wr := ((Wo cy ad I A G T) ++ [qd_L cy ao o])) S0 (ql_V.swap V) hl 0 gM_0 rfl (c_X8_thrown l rfl) kg_L_200 rfl ⟨rfl, rfl⟩ kd_X8_thrown ⟨(Nat.le_of_ble_eq_true rfl), (Nat.le_of_ble_eq_true rfl)⟩ rfl rfl (Nat.le_of_ble_eq_true rfl) ⟨hcN, hsN⟩ rfl dL_law_3163 ?_
    refine lv_iload hx hb dL_law_3166 (lv_at hl 1 rfl) ?_
    refine lv_icmp_eq (tgt := 3173) hx hb dL_law_3168 (by decide) (fun _ => ?_) (fun c9 => absurd t1 c9)
    refine lv_iload hx hb dL_law_3173 (lv_at hl 1 rfl) ?_
    refine lv_if_ne (tgt := 3190) hx hb dL_law_3175 (by decide) (fun _ => ?_) (fun c9 => absurd c9 (by decide))
    refine lv_goto (tgt := 3735) hx hb dL_law_3190 (by decide) ?_
    exact K _ _ _ _ _ _ _ _ _ _ _ _ rfl hI9 V (lv_sub hl [2, 3, 4, 5, 6] rfl)
  · have hcN : cells + 1 + 0 ≤ 601024 := hc
    have hsN : slots + 6 + 0 ≤ 7293034 := hs
    obtain ⟨t1, hOut, hI9⟩ := h1 v9 hro
    have V : qw_V D cy Z s (((Wo cy ad I A G T) ++ [qd_L cy ao (vp_updL o 0 (v9).toInt64)]) ++ (Wm cy am J B w)) H locs := V
    refine lv_istore (lv' := [(5, .int 0), (4, .int i), (3, .ref ao), (2, .ref (am 0)), (1, .ref (ad 0)), (0, .ref b)]) hx hb dL_law_3142 hl (by decide) rfl (fun ls hl => ?_)
    refine lv_aload_n hx hb dL_law_3144 rfl (lv_at hl 3 rfl) ?_
    refine lv_aload_n hx hb dL_law_3145 rfl (lv_at hl 5 rfl) ?_
    refine lv_iload hx hb dL_law_3146 (lv_at hl 1 rfl) ?_
    refine lv_iconst (v := 1) hx hb dL_law_3148 (by decide) ?_
    refine lv_iadd hx hb dL_law_3149 ?_
    refine va_sld hx hb hX hbl hbA V.2.2.2.1 (hin 1 (by decide)) dL_law_3150 ?_
    refine lv_aload_n hx hb dL_law_3151 rfl (lv_at hl 5 rfl) ?_
    refine lv_iload hx hb dL_law_3152 (lv_at hl 1 rfl) ?_
    refine lv_iconst (v := 2) hx hb dL_law_3154 (by decide) ?_
    refine lv_iadd hx hb dL_law_3155 ?_
    refine va_sld hx hb hX hbl hbA V.2.2.2.1 (hin 2 (by decide)) dL_law_3156 ?_
    have V := ql_V.swap V
    refine ql_cV (rest := []) (st1 := [.int rb]) (wc := (Wm cy am J B w)) (wr := ((Wo cy ad I A G T) ++ [qd_L cy ao (vp_updL o 0 (v9).toInt64)])) S0 V hl 0 gM_0 rfl (c_X8_levelMoves l hM8) kg_L_320 rfl ⟨rfl, rfl⟩ kd_X8_levelMoves ⟨(Nat.le_of_ble_eq_true rfl), (Nat.le_of_ble_eq_true rfl)⟩ rfl rfl (Nat.le_of_ble_eq_true rfl) ⟨hcN, hsN⟩ rfl dL_law_3157 (fun H locs V => ?_)
    have V := ql_V.swap V
    refine lv_istore (lv' := [(6, .int rb), (5, .int 0), (4, .int i), (3, .ref ao), (2, .ref (am 0)), (1, .ref (ad 0)), (0, .ref b)]) hx hb dL_law_3160 hl (by decide) rfl (fun ls hl => ?_)
    refine lv_aload_n hx hb dL_law_3162 rfl (lv_at hl 4 rfl) ?_
    refine ql_cVR (rest := []) (st1 := [.int (J9 1)]) (wc := (Wm cy am J9 B w)) (wr := ((Wo cy ad I A G T) ++ [qd_L cy ao (vp_updL o 0 (v9).toInt64)])) S0 (ql_V.swap V) hl 0 gM_0 rfl (c_X8_thrown l rfl) kg_L_200 rfl ⟨rfl, rfl⟩ kd_X8_thrown ⟨(Nat.le_of_ble_eq_true rfl), (Nat.le_of_ble_eq_true rfl)⟩ rfl rfl (Nat.le_of_ble_eq_true rfl) ⟨hcN, hsN⟩ rfl dL_law_3163 ?_
    refine lv_iload hx hb dL_law_3166 (lv_at hl 1 rfl) ?_
    refine lv_icmp_eq (tgt := 3173) hx hb dL_law_3168 (by decide) (fun _ => ?_) (fun c9 => absurd t1 c9)
    refine lv_iload hx hb dL_law_3173 (lv_at hl 1 rfl) ?_
    refine lv_if_ne (tgt := 3190) hx hb dL_law_3175 (by decide) (fun c9 => absurd rfl c9) (fun _ => ?_)
    refine lv_aload_n hx hb dL_law_3178 rfl (lv_at hl 3 rfl) ?_
    refine lv_iconst (v := 0) hx hb dL_law_3179 (by decide) ?_
    refine ql_lald S0 V rfl dL_law_3180 ?_
    refine lv_iload hx hb dL_law_3181 (lv_at hl 0 rfl) ?_
    refine lv_i2l hx hb dL_law_3183 rfl ?_
    refine W.lcmp hx hb dL_law_3184 ?_
    refine lv_if_eq (tgt := 3190) hx hb dL_law_3185 (by decide) (fun _ => ?_) (fun c9 => absurd (by show lg_cmp (v9).toInt64 (rb.toInt64) = 0; rw [hOut]; exact ql_cmp _) c9)
    refine lv_goto (tgt := 3735) hx hb dL_law_3190 (by decide) ?_
    exact K _ _ _ _ _ _ _ _ _ _ _ _ rfl hI9 V (lv_sub hl [2, 3, 4, 5, 6] rfl)
set_option maxHeartbeats 4000000 in
set_option maxRecDepth 100000 in
theorem ql_52 {p : Program} {l : Launch} {e : Env} {s : State} {m : MethodId} {below : List Frame} {meth : Method} {c : Code} {Q : State → Prop} {D : va_G} {cy : Nat → ClassId} {Z : Nat → Prop} {b L : Nat} {xs : Nat → Int32} (hst : l.stackTraces = false) (S0 : CallFix p m c code 7 s #[Value.ref b] qw_big RL) (hX : va_X b L xs s s.heap) (hbl : b < s.heap.size) (hbA : ¬ Z b) {Inv : ql_Inv} (hE : QE_lapseAfter Inv) {ad am : Nat → Nat} {I : Nat → Int32} {A : Nat → Nat → Int32} {G : Nat → Int32 × (Nat → Nat → Int32)} {T : Nat} {J : Nat → Int32} {B : Nat → Nat → Int32} {w : Int64} {ao : Nat} {o : Nat → Int64} {H : Heap} {locs : List Loc} {cells slots : Nat} {ls : Array Slot} (hI : Inv I A G T J B w) (V : qw_V D cy Z s (((Wo cy ad I A G T) ++ [qd_L cy ao o]) ++ (Wm cy am J B w)) H locs) {i : Int32} (hin : ∀ j : Nat, j ≤ 5 → vp_in (i + Int32.ofNat j) L) (hl : lv_has ls 7 (ql_base i ao (am 0) (ad 0) b)) (hc : cells + 1 ≤ 601024) (hs : slots + 6 ≤ 7293034) (K : ∀ (ad2 : Nat → Nat) (I : Nat → Int32) (A : Nat → Nat → Int32) (G : Nat → Int32 × (Nat → Nat → Int32)) (T : Nat) (J : Nat → Int32) (B : Nat → Nat → Int32) (w : Int64) (o : Nat → Int64) (H : Heap) (locs : List Loc) (ls : Array Slot), ad2 0 = ad 0 → Inv I A G T J B w → qw_V D cy Z s ((Wo cy ad2 I A G T ++ [qd_L cy ao o]) ++ Wm cy am J B w) H locs → lv_has ls 7 (ql_base i ao (am 0) (ad 0) b) → W p l e room_1 s m #[Value.ref b] below meth c H locs (cells + 1) (slots + 6) Q (F0 m 3735 ls [])) : W p l e room_1 s m #[Value.ref b] below meth c H locs cells slots Q (F0 m 3193 ls []) := by
  have hx := S0.1; have hb := S0.2.1
  have hc0 : cells ≤ 601024 := Nat.le_trans (Nat.le_add_right _ _) hc; have hs0 : slots ≤ 7293034 := Nat.le_trans (Nat.le_add_right _ _) hs
  obtain ⟨ro, hX7, rb, J9, B9, hM8, h0, h1⟩ := (hE ad I A G T J B w (xs (i + 1).toNatClampNeg) (xs (i + 2).toNatClampNeg) (xs (i + 3).toNatClampNeg) hI)
  have hl : lv_has ls 7 [(4, .int i), (3, .ref ao), (2, .ref (am 0)), (1, .ref (ad 0)), (0, .ref b)] := hl
  refine lv_aload_n hx hb dL_law_3193 rfl (lv_at hl 3 rfl) ?_
  refine lv_aload_n hx hb dL_law_3194 rfl (lv_at hl 4 rfl) ?_
  refine lv_iload hx hb dL_law_3195 (lv_at hl 0 rfl) ?_
  refine lv_iconst (v := 1) hx hb dL_law_3197 (by decide) ?_
  refine lv_iadd hx hb dL_law_3198 ?_
  refine va_sld hx hb hX hbl hbA V.2.2.2.1 (hin 1 (by decide)) dL_law_3199 ?_
  refine lv_aload_n hx hb dL_law_3200 rfl (lv_at hl 4 rfl) ?_
  refine lv_iload hx hb dL_law_3201 (lv_at hl 0 rfl) ?_
  refine lv_iconst (v := 2) hx hb dL_law_3203 (by decide) ?_
  refine lv_iadd hx hb dL_law_3204 ?_
  refine va_sld hx hb hX hbl hbA V.2.2.2.1 (hin 2 (by decide)) dL_law_3205 ?_
  refine lv_aload_n hx hb dL_law_3206 rfl (lv_at hl 4 rfl) ?_
  refine lv_iload hx hb dL_law_3207 (lv_at hl 0 rfl) ?_
  refine lv_iconst (v := 3) hx hb dL_law_3209 (by decide) ?_
  refine lv_iadd hx hb dL_law_3210 ?_
  refine va_sld hx hb hX hbl hbA V.2.2.2.1 (hin 3 (by decide)) dL_law_3211 ?_
  refine lv_aload_n hx hb dL_law_3212 rfl (lv_at hl 1 rfl) ?_
  refine ql_cW (rest := []) (wc := (Wo cy ad I A G T) ++ [qd_L cy ao o]) (wr := (Wm cy am J B w)) S0 V hl (c_L_lapseAfter l hst hX7) kg_L_321 rfl ⟨rfl, rfl⟩ kd_L_lapseAfter ⟨(Nat.le_of_ble_eq_true rfl), (Nat.le_of_ble_eq_true rfl)⟩ rfl rfl (Nat.le_of_ble_eq_true rfl) ⟨hc, hs⟩ dL_law_3213 (fun H locs hro V => ?_) (fun v9 H locs hro V => ?_)
  · have hcN : cells + 1 + 0 ≤ 601024 := hc
    have hsN : slots + 6 + 0 ≤ 7293034 := hs
    obtain ⟨t1, hI9⟩ := h0 hro
    refine lv_istore (lv' := [(5, .int 1), (4, .int i), (3, .ref ao), (2, .ref (am 0)), (1, .ref (ad 0)), (0, .ref b)]) hx hb dL_law_3216 hl (by decide) rfl (fun ls hl => ?_)
    refine lv_aload_n hx hb dL_law_3218 rfl (lv_at hl 3 rfl) ?_
    refine lv_aload_n hx hb dL_law_3219 rfl (lv_at hl 5 rfl) ?_
    refine lv_iload hx hb dL_law_3220 (lv_at hl 1 rfl) ?_
    refine lv_iconst (v := 1) hx hb dL_law_3222 (by decide) ?_
    refine lv_iadd hx hb dL_law_3223 ?_
    refine va_sld hx hb hX hbl hbA V.2.2.2.1 (hin 1 (by decide)) dL_law_3224 ?_
    refine lv_aload_n hx hb dL_law_3225 rfl (lv_at hl 5 rfl) ?_
    refine lv_iload hx hb dL_law_3226 (lv_at hl 1 rfl) ?_
    refine lv_iconst (v := 2) hx hb dL_law_3228 (by decide) ?_
    refine lv_iadd hx hb dL_law_3229 ?_
    refine va_sld hx hb hX hbl hbA V.2.2.2.1 (hin 2 (by decide)) dL_law_3230 ?_
    refine lv_aload_n hx hb dL_law_3231 rfl (lv_at hl 5 rfl) ?_
    refine lv_iload hx hb dL_law_3232 (lv_at hl 1 rfl) ?_
    refine lv_iconst (v := 3) hx hb dL_law_3234 (by decide) ?_
    refine lv_iadd hx hb dL_law_3235 ?_
    refine va_sld hx hb hX hbl hbA V.2.2.2.1 (hin 3 (by decide)) dL_law_3236 ?_
    have V := ql_V.swap V
    refine ql_cV (rest := []) (st1 := [.int rb]) (wc := (Wm cy am J B w)) (wr := ((Wo cy ad I A G T) ++ [qd_L cy ao o])) S0 V hl 0 gM_0 rfl (c_X8_lapseAfter l hM8) kg_L_323 rfl ⟨rfl, rfl⟩ kd_X8_lapseAfter ⟨(Nat.le_of_ble_eq_true rfl), (Nat.le_of_ble_eq_true rfl)⟩ rfl rfl (Nat.le_of_ble_eq_true rfl) ⟨hcN, hsN⟩ rfl dL_law_3237 (fun H locs V => ?_)
    have V := ql_V.swap V
    refine lv_istore (lv' := [(6, .int rb), (5, .int 1), (4, .int i), (3, .ref ao), (2, .ref (am 0)), (1, .ref (ad 0)), (0, .ref b)]) hx hb dL_law_3240 hl (by decide) rfl (fun ls hl => ?_)
    refine lv_aload_n hx hb dL_law_3242 rfl (lv_at hl 4 rfl) ?_
    refine ql_cVR (rest := []) (st1 := [.int (J9 1)]) (wc := (Wm cy am J9 B9 w)) (wr := ((Wo cy ad I A G T) ++ [qd_L cy ao o])) S0 (ql_V.swap V) hl 0 gM_0 rfl (c_X8_thrown l rfl) kg_L_200 rfl ⟨rfl, rfl⟩ kd_X8_thrown ⟨(Nat.le_of_ble_eq_true rfl), (Nat.le_of_ble_eq_true rfl)⟩ rfl rfl (Nat.le_of_ble_eq_true rfl) ⟨hcN, hsN⟩ rfl dL_law_3243 ?_
    refine lv_iload hx hb dL_law_3246 (lv_at hl 1 rfl) ?_
    refine lv_icmp_eq (tgt := 3253) hx hb dL_law_3248 (by decide) (fun _ => ?_) (fun c9 => absurd t1 c9)
    refine lv_iload hx hb dL_law_3253 (lv_at hl 1 rfl) ?_
    refine lv_if_ne (tgt := 3270) hx hb dL_law_3255 (by decide) (fun _ => ?_) (fun c9 => absurd c9 (by decide))
    refine lv_goto (tgt := 3735) hx hb dL_law_3270 (by decide) ?_
    exact K _ _ _ _ _ _ _ _ _ _ _ _ rfl hI9 V (lv_sub hl [2, 3, 4, 5, 6] rfl)
  · have hcN : cells + 1 + 0 ≤ 601024 := hc
    have hsN : slots + 6 + 0 ≤ 7293034 := hs
    obtain ⟨t1, hOut, hI9⟩ := h1 v9 hro
    have V : qw_V D cy Z s (((Wo cy ad I (v9.2) G T) ++ [qd_L cy ao (vp_updL o 0 (v9.1).toInt64)]) ++ (Wm cy am J B w)) H locs := V
    refine lv_istore (lv' := [(5, .int 0), (4, .int i), (3, .ref ao), (2, .ref (am 0)), (1, .ref (ad 0)), (0, .ref b)]) hx hb dL_law_3216 hl (by decide) rfl (fun ls hl => ?_)
    refine lv_aload_n hx hb dL_law_3218 rfl (lv_at hl 3 rfl) ?_
    refine lv_aload_n hx hb dL_law_3219 rfl (lv_at hl 5 rfl) ?_
    refine lv_iload hx hb dL_law_3220 (lv_at hl 1 rfl) ?_
    refine lv_iconst (v := 1) hx hb dL_law_3222 (by decide) ?_
    refine lv_iadd hx hb dL_law_3223 ?_
    refine va_sld hx hb hX hbl hbA V.2.2.2.1 (hin 1 (by decide)) dL_law_3224 ?_
    refine lv_aload_n hx hb dL_law_3225 rfl (lv_at hl 5 rfl) ?_
    refine lv_iload hx hb dL_law_3226 (lv_at hl 1 rfl) ?_
    refine lv_iconst (v := 2) hx hb dL_law_3228 (by decide) ?_
    refine lv_iadd hx hb dL_law_3229 ?_
    refine va_sld hx hb hX hbl hbA V.2.2.2.1 (hin 2 (by decide)) dL_law_3230 ?_
    refine lv_aload_n hx hb dL_law_3231 rfl (lv_at hl 5 rfl) ?_
    refine lv_iload hx hb dL_law_3232 (lv_at hl 1 rfl) ?_
    refine lv_iconst (v := 3) hx hb dL_law_3234 (by decide) ?_
    refine lv_iadd hx hb dL_law_3235 ?_
    refine va_sld hx hb hX hbl hbA V.2.2.2.1 (hin 3 (by decide)) dL_law_3236 ?_
    have V := ql_V.swap V
    refine ql_cV (rest := []) (st1 := [.int rb]) (wc := (Wm cy am J B w)) (wr := ((Wo cy ad I (v9.2) G T) ++ [qd_L cy ao (vp_updL o 0 (v9.1).toInt64)])) S0 V hl 0 gM_0 rfl (c_X8_lapseAfter l hM8) kg_L_323 rfl ⟨rfl, rfl⟩ kd_X8_lapseAfter ⟨(Nat.le_of_ble_eq_true rfl), (Nat.le_of_ble_eq_true rfl)⟩ rfl rfl (Nat.le_of_ble_eq_true rfl) ⟨hcN, hsN⟩ rfl dL_law_3237 (fun H locs V => ?_)
    have V := ql_V.swap V
    refine lv_istore (lv' := [(6, .int rb), (5, .int 0), (4, .int i), (3, .ref ao), (2, .ref (am 0)), (1, .ref (ad 0)), (0, .ref b)]) hx hb dL_law_3240 hl (by decide) rfl (fun ls hl => ?_)
    refine lv_aload_n hx hb dL_law_3242 rfl (lv_at hl 4 rfl) ?_
    refine ql_cVR (rest := []) (st1 := [.int (J9 1)]) (wc := (Wm cy am J9 B9 w)) (wr := ((Wo cy ad I (v9.2) G T) ++ [qd_L cy ao (vp_updL o 0 (v9.1).toInt64)])) S0 (ql_V.swap V) hl 0 gM_0 rfl (c_X8_thrown l rfl) kg_L_200 rfl ⟨rfl, rfl⟩ kd_X8_thrown ⟨(Nat.le_of_ble_eq_true rfl), (Nat.le_of_ble_eq_true rfl)⟩ rfl rfl (Nat.le_of_ble_eq_true rfl) ⟨hcN, hsN⟩ rfl dL_law_3243 ?_
    refine lv_iload hx hb dL_law_3246 (lv_at hl 1 rfl) ?_
    refine lv_icmp_eq (tgt := 3253) hx hb dL_law_3248 (by decide) (fun _ => ?_) (fun c9 => absurd t1 c9)
    refine lv_iload hx hb dL_law_3253 (lv_at hl 1 rfl) ?_
    refine lv_if_ne (tgt := 3270) hx hb dL_law_3255 (by decide) (fun c9 => absurd rfl c9) (fun _ => ?_)
    refine lv_aload_n hx hb dL_law_3258 rfl (lv_at hl 3 rfl) ?_
    refine lv_iconst (v := 0) hx hb dL_law_3259 (by decide) ?_
    refine ql_lald S0 V rfl dL_law_3260 ?_
    refine lv_iload hx hb dL_law_3261 (lv_at hl 0 rfl) ?_
    refine lv_i2l hx hb dL_law_3263 rfl ?_
    refine W.lcmp hx hb dL_law_3264 ?_
    refine lv_if_eq (tgt := 3270) hx hb dL_law_3265 (by decide) (fun _ => ?_) (fun c9 => absurd (by show lg_cmp (v9.1).toInt64 (rb.toInt64) = 0; rw [hOut]; exact ql_cmp _) c9)
    refine lv_goto (tgt := 3735) hx hb dL_law_3270 (by decide) ?_
    exact K _ _ _ _ _ _ _ _ _ _ _ _ rfl hI9 V (lv_sub hl [2, 3, 4, 5, 6] rfl)
set_option maxHeartbeats 4000000 in
set_option maxRecDepth 100000 in
theorem ql_53 {p : Program} {l : Launch} {e : Env} {s : State} {m : MethodId} {below : List Frame} {meth : Method} {c : Code} {Q : State → Prop} {D : va_G} {cy : Nat → ClassId} {Z : Nat → Prop} {b L : Nat} {xs : Nat → Int32} (hst : l.stackTraces = false) (S0 : CallFix p m c code 7 s #[Value.ref b] qw_big RL) (hX : va_X b L xs s s.heap) (hbl : b < s.heap.size) (hbA : ¬ Z b) {Inv : ql_Inv} (hE : QE_supplyPeriods Inv) {ad am : Nat → Nat} {I : Nat → Int32} {A : Nat → Nat → Int32} {G : Nat → Int32 × (Nat → Nat → Int32)} {T : Nat} {J : Nat → Int32} {B : Nat → Nat → Int32} {w : Int64} {ao : Nat} {o : Nat → Int64} {H : Heap} {locs : List Loc} {cells slots : Nat} {ls : Array Slot} (hI : Inv I A G T J B w) (V : qw_V D cy Z s (((Wo cy ad I A G T) ++ [qd_L cy ao o]) ++ (Wm cy am J B w)) H locs) {i : Int32} (hin : ∀ j : Nat, j ≤ 5 → vp_in (i + Int32.ofNat j) L) (hl : lv_has ls 7 (ql_base i ao (am 0) (ad 0) b)) (hc : cells + 1 ≤ 601024) (hs : slots + 6 ≤ 7293034) (K : ∀ (ad2 : Nat → Nat) (I : Nat → Int32) (A : Nat → Nat → Int32) (G : Nat → Int32 × (Nat → Nat → Int32)) (T : Nat) (J : Nat → Int32) (B : Nat → Nat → Int32) (w : Int64) (o : Nat → Int64) (H : Heap) (locs : List Loc) (ls : Array Slot), ad2 0 = ad 0 → Inv I A G T J B w → qw_V D cy Z s ((Wo cy ad2 I A G T ++ [qd_L cy ao o]) ++ Wm cy am J B w) H locs → lv_has ls 7 (ql_base i ao (am 0) (ad 0) b) → W p l e room_1 s m #[Value.ref b] below meth c H locs (cells + 1) (slots + 6) Q (F0 m 3735 ls [])) : W p l e room_1 s m #[Value.ref b] below meth c H locs cells slots Q (F0 m 3273 ls []) := by
  have hx := S0.1; have hb := S0.2.1
  have hc0 : cells ≤ 601024 := Nat.le_trans (Nat.le_add_right _ _) hc; have hs0 : slots ≤ 7293034 := Nat.le_trans (Nat.le_add_right _ _) hs
  obtain ⟨ro, hX7, rb, J9, B9, hM8, h0, h1⟩ := (hE ad I A G T J B w (xs (i + 1).toNatClampNeg) (xs (i + 2).toNatClampNeg) (xs (i + 3).toNatClampNeg) hI)
  have hl : lv_has ls 7 [(4, .int i), (3, .ref ao), (2, .ref (am 0)), (1, .ref (ad 0)), (0, .ref b)] := hl
  refine lv_aload_n hx hb dL_law_3273 rfl (lv_at hl 3 rfl) ?_
  refine lv_aload_n hx hb dL_law_3274 rfl (lv_at hl 4 rfl) ?_
  refine lv_iload hx hb dL_law_3275 (lv_at hl 0 rfl) ?_
  refine lv_iconst (v := 1) hx hb dL_law_3277 (by decide) ?_
  refine lv_iadd hx hb dL_law_3278 ?_
  refine va_sld hx hb hX hbl hbA V.2.2.2.1 (hin 1 (by decide)) dL_law_3279 ?_
  refine lv_aload_n hx hb dL_law_3280 rfl (lv_at hl 4 rfl) ?_
  refine lv_iload hx hb dL_law_3281 (lv_at hl 0 rfl) ?_
  refine lv_iconst (v := 2) hx hb dL_law_3283 (by decide) ?_
  refine lv_iadd hx hb dL_law_3284 ?_
  refine va_sld hx hb hX hbl hbA V.2.2.2.1 (hin 2 (by decide)) dL_law_3285 ?_
  refine lv_aload_n hx hb dL_law_3286 rfl (lv_at hl 4 rfl) ?_
  refine lv_iload hx hb dL_law_3287 (lv_at hl 0 rfl) ?_
  refine lv_iconst (v := 3) hx hb dL_law_3289 (by decide) ?_
  refine lv_iadd hx hb dL_law_3290 ?_
  refine va_sld hx hb hX hbl hbA V.2.2.2.1 (hin 3 (by decide)) dL_law_3291 ?_
  refine lv_aload_n hx hb dL_law_3292 rfl (lv_at hl 1 rfl) ?_
  refine ql_cW (rest := []) (wc := (Wo cy ad I A G T) ++ [qd_L cy ao o]) (wr := (Wm cy am J B w)) S0 V hl (c_L_supplyPeriods l hst hX7) kg_L_324 rfl ⟨rfl, rfl⟩ kd_L_supplyPeriods ⟨(Nat.le_of_ble_eq_true rfl), (Nat.le_of_ble_eq_true rfl)⟩ rfl rfl (Nat.le_of_ble_eq_true rfl) ⟨hc, hs⟩ dL_law_3293 (fun H locs hro V => ?_) (fun v9 H locs hro V => ?_)
  · have hcN : cells + 1 + 0 ≤ 601024 := hc
    have hsN : slots + 6 + 0 ≤ 7293034 := hs
    obtain ⟨t1, hI9⟩ := h0 hro
    refine lv_istore (lv' := [(5, .int 1), (4, .int i), (3, .ref ao), (2, .ref (am 0)), (1, .ref (ad 0)), (0, .ref b)]) hx hb dL_law_3296 hl (by decide) rfl (fun ls hl => ?_)
    refine lv_aload_n hx hb dL_law_3298 rfl (lv_at hl 3 rfl) ?_
    refine lv_aload_n hx hb dL_law_3299 rfl (lv_at hl 5 rfl) ?_
    refine lv_iload hx hb dL_law_3300 (lv_at hl 1 rfl) ?_
    refine lv_iconst (v := 1) hx hb dL_law_3302 (by decide) ?_
    refine lv_iadd hx hb dL_law_3303 ?_
    refine va_sld hx hb hX hbl hbA V.2.2.2.1 (hin 1 (by decide)) dL_law_3304 ?_
    refine lv_aload_n hx hb dL_law_3305 rfl (lv_at hl 5 rfl) ?_
    refine lv_iload hx hb dL_law_3306 (lv_at hl 1 rfl) ?_
    refine lv_iconst (v := 2) hx hb dL_law_3308 (by decide) ?_
    refine lv_iadd hx hb dL_law_3309 ?_
    refine va_sld hx hb hX hbl hbA V.2.2.2.1 (hin 2 (by decide)) dL_law_3310 ?_
    refine lv_aload_n hx hb dL_law_3311 rfl (lv_at hl 5 rfl) ?_
    refine lv_iload hx hb dL_law_3312 (lv_at hl 1 rfl) ?_
    refine lv_iconst (v := 3) hx hb dL_law_3314 (by decide) ?_
    refine lv_iadd hx hb dL_law_3315 ?_
    refine va_sld hx hb hX hbl hbA V.2.2.2.1 (hin 3 (by decide)) dL_law_3316 ?_
    have V := ql_V.swap V
    refine ql_cV (rest := []) (st1 := [.int rb]) (wc := (Wm cy am J B w)) (wr := ((Wo cy ad I A G T) ++ [qd_L cy ao o])) S0 V hl 0 gM_0 rfl (c_X8_supplyPeriods l hM8) kg_L_326 rfl ⟨rfl, rfl⟩ kd_X8_supplyPeriods ⟨(Nat.le_of_ble_eq_true rfl), (Nat.le_of_ble_eq_true rfl)⟩ rfl rfl (Nat.le_of_ble_eq_true rfl) ⟨hcN, hsN⟩ rfl dL_law_3317 (fun H locs V => ?_)
    have V := ql_V.swap V
    refine lv_istore (lv' := [(6, .int rb), (5, .int 1), (4, .int i), (3, .ref ao), (2, .ref (am 0)), (1, .ref (ad 0)), (0, .ref b)]) hx hb dL_law_3320 hl (by decide) rfl (fun ls hl => ?_)
    refine lv_aload_n hx hb dL_law_3322 rfl (lv_at hl 4 rfl) ?_
    refine ql_cVR (rest := []) (st1 := [.int (J9 1)]) (wc := (Wm cy am J9 B9 w)) (wr := ((Wo cy ad I A G T) ++ [qd_L cy ao o])) S0 (ql_V.swap V) hl 0 gM_0 rfl (c_X8_thrown l rfl) kg_L_200 rfl ⟨rfl, rfl⟩ kd_X8_thrown ⟨(Nat.le_of_ble_eq_true rfl), (Nat.le_of_ble_eq_true rfl)⟩ rfl rfl (Nat.le_of_ble_eq_true rfl) ⟨hcN, hsN⟩ rfl dL_law_3323 ?_
    refine lv_iload hx hb dL_law_3326 (lv_at hl 1 rfl) ?_
    refine lv_icmp_eq (tgt := 3333) hx hb dL_law_3328 (by decide) (fun _ => ?_) (fun c9 => absurd t1 c9)
    refine lv_iload hx hb dL_law_3333 (lv_at hl 1 rfl) ?_
    refine lv_if_ne (tgt := 3350) hx hb dL_law_3335 (by decide) (fun _ => ?_) (fun c9 => absurd c9 (by decide))
    refine lv_goto (tgt := 3735) hx hb dL_law_3350 (by decide) ?_
    exact K _ _ _ _ _ _ _ _ _ _ _ _ rfl hI9 V (lv_sub hl [2, 3, 4, 5, 6] rfl)
  · have hcN : cells + 1 + 0 ≤ 601024 := hc
    have hsN : slots + 6 + 0 ≤ 7293034 := hs
    obtain ⟨t1, hOut, hI9⟩ := h1 v9 hro
    have V : qw_V D cy Z s (((Wo cy ad I (v9.2) G T) ++ [qd_L cy ao (vp_updL o 0 (v9.1).toInt64)]) ++ (Wm cy am J B w)) H locs := V
    refine lv_istore (lv' := [(5, .int 0), (4, .int i), (3, .ref ao), (2, .ref (am 0)), (1, .ref (ad 0)), (0, .ref b)]) hx hb dL_law_3296 hl (by decide) rfl (fun ls hl => ?_)
    refine lv_aload_n hx hb dL_law_3298 rfl (lv_at hl 3 rfl) ?_
    refine lv_aload_n hx hb dL_law_3299 rfl (lv_at hl 5 rfl) ?_
    refine lv_iload hx hb dL_law_3300 (lv_at hl 1 rfl) ?_
    refine lv_iconst (v := 1) hx hb dL_law_3302 (by decide) ?_
    refine lv_iadd hx hb dL_law_3303 ?_
    refine va_sld hx hb hX hbl hbA V.2.2.2.1 (hin 1 (by decide)) dL_law_3304 ?_
    refine lv_aload_n hx hb dL_law_3305 rfl (lv_at hl 5 rfl) ?_
    refine lv_iload hx hb dL_law_3306 (lv_at hl 1 rfl) ?_
    refine lv_iconst (v := 2) hx hb dL_law_3308 (by decide) ?_
    refine lv_iadd hx hb dL_law_3309 ?_
    refine va_sld hx hb hX hbl hbA V.2.2.2.1 (hin 2 (by decide)) dL_law_3310 ?_
    refine lv_aload_n hx hb dL_law_3311 rfl (lv_at hl 5 rfl) ?_
    refine lv_iload hx hb dL_law_3312 (lv_at hl 1 rfl) ?_
    refine lv_iconst (v := 3) hx hb dL_law_3314 (by decide) ?_
    refine lv_iadd hx hb dL_law_3315 ?_
    refine va_sld hx hb hX hbl hbA V.2.2.2.1 (hin 3 (by decide)) dL_law_3316 ?_
    have V := ql_V.swap V
    refine ql_cV (rest := []) (st1 := [.int rb]) (wc := (Wm cy am J B w)) (wr := ((Wo cy ad I (v9.2) G T) ++ [qd_L cy ao (vp_updL o 0 (v9.1).toInt64)])) S0 V hl 0 gM_0 rfl (c_X8_supplyPeriods l hM8) kg_L_326 rfl ⟨rfl, rfl⟩ kd_X8_supplyPeriods ⟨(Nat.le_of_ble_eq_true rfl), (Nat.le_of_ble_eq_true rfl)⟩ rfl rfl (Nat.le_of_ble_eq_true rfl) ⟨hcN, hsN⟩ rfl dL_law_3317 (fun H locs V => ?_)
    have V := ql_V.swap V
    refine lv_istore (lv' := [(6, .int rb), (5, .int 0), (4, .int i), (3, .ref ao), (2, .ref (am 0)), (1, .ref (ad 0)), (0, .ref b)]) hx hb dL_law_3320 hl (by decide) rfl (fun ls hl => ?_)
    refine lv_aload_n hx hb dL_law_3322 rfl (lv_at hl 4 rfl) ?_
    refine ql_cVR (rest := []) (st1 := [.int (J9 1)]) (wc := (Wm cy am J9 B9 w)) (wr := ((Wo cy ad I (v9.2) G T) ++ [qd_L cy ao (vp_updL o 0 (v9.1).toInt64)])) S0 (ql_V.swap V) hl 0 gM_0 rfl (c_X8_thrown l rfl) kg_L_200 rfl ⟨rfl, rfl⟩ kd_X8_thrown ⟨(Nat.le_of_ble_eq_true rfl), (Nat.le_of_ble_eq_true rfl)⟩ rfl rfl (Nat.le_of_ble_eq_true rfl) ⟨hcN, hsN⟩ rfl dL_law_3323 ?_
    refine lv_iload hx hb dL_law_3326 (lv_at hl 1 rfl) ?_
    refine lv_icmp_eq (tgt := 3333) hx hb dL_law_3328 (by decide) (fun _ => ?_) (fun c9 => absurd t1 c9)
    refine lv_iload hx hb dL_law_3333 (lv_at hl 1 rfl) ?_
    refine lv_if_ne (tgt := 3350) hx hb dL_law_3335 (by decide) (fun c9 => absurd rfl c9) (fun _ => ?_)
    refine lv_aload_n hx hb dL_law_3338 rfl (lv_at hl 3 rfl) ?_
    refine lv_iconst (v := 0) hx hb dL_law_3339 (by decide) ?_
    refine ql_lald S0 V rfl dL_law_3340 ?_
    refine lv_iload hx hb dL_law_3341 (lv_at hl 0 rfl) ?_
    refine lv_i2l hx hb dL_law_3343 rfl ?_
    refine W.lcmp hx hb dL_law_3344 ?_
    refine lv_if_eq (tgt := 3350) hx hb dL_law_3345 (by decide) (fun _ => ?_) (fun c9 => absurd (by show lg_cmp (v9.1).toInt64 (rb.toInt64) = 0; rw [hOut]; exact ql_cmp _) c9)
    refine lv_goto (tgt := 3735) hx hb dL_law_3350 (by decide) ?_
    exact K _ _ _ _ _ _ _ _ _ _ _ _ rfl hI9 V (lv_sub hl [2, 3, 4, 5, 6] rfl)
set_option maxHeartbeats 4000000 in
set_option maxRecDepth 100000 in
theorem ql_54 {p : Program} {l : Launch} {e : Env} {s : State} {m : MethodId} {below : List Frame} {meth : Method} {c : Code} {Q : State → Prop} {D : va_G} {cy : Nat → ClassId} {Z : Nat → Prop} {b L : Nat} {xs : Nat → Int32} (hst : l.stackTraces = false) (S0 : CallFix p m c code 7 s #[Value.ref b] qw_big RL) (hX : va_X b L xs s s.heap) (hbl : b < s.heap.size) (hbA : ¬ Z b) {Inv : ql_Inv} (hE : QE_buy Inv) {ad am : Nat → Nat} {I : Nat → Int32} {A : Nat → Nat → Int32} {G : Nat → Int32 × (Nat → Nat → Int32)} {T : Nat} {J : Nat → Int32} {B : Nat → Nat → Int32} {w : Int64} {ao : Nat} {o : Nat → Int64} {H : Heap} {locs : List Loc} {cells slots : Nat} {ls : Array Slot} (hI : Inv I A G T J B w) (V : qw_V D cy Z s (((Wo cy ad I A G T) ++ [qd_L cy ao o]) ++ (Wm cy am J B w)) H locs) {i : Int32} (hin : ∀ j : Nat, j ≤ 5 → vp_in (i + Int32.ofNat j) L) (hl : lv_has ls 7 (ql_base i ao (am 0) (ad 0) b)) (hc : cells + 1 ≤ 601024) (hs : slots + 6 ≤ 7293034) (K : ∀ (ad2 : Nat → Nat) (I : Nat → Int32) (A : Nat → Nat → Int32) (G : Nat → Int32 × (Nat → Nat → Int32)) (T : Nat) (J : Nat → Int32) (B : Nat → Nat → Int32) (w : Int64) (o : Nat → Int64) (H : Heap) (locs : List Loc) (ls : Array Slot), ad2 0 = ad 0 → Inv I A G T J B w → qw_V D cy Z s ((Wo cy ad2 I A G T ++ [qd_L cy ao o]) ++ Wm cy am J B w) H locs → lv_has ls 7 (ql_base i ao (am 0) (ad 0) b) → W p l e room_1 s m #[Value.ref b] below meth c H locs (cells + 1) (slots + 6) Q (F0 m 3735 ls [])) : W p l e room_1 s m #[Value.ref b] below meth c H locs cells slots Q (F0 m 3353 ls []) := by
  have hx := S0.1; have hb := S0.2.1
  have hc0 : cells ≤ 601024 := Nat.le_trans (Nat.le_add_right _ _) hc; have hs0 : slots ≤ 7293034 := Nat.le_trans (Nat.le_add_right _ _) hs
  obtain ⟨r9, I9, A9, G9, hX7, rb, J9, B9, hM8, hEq, hI9⟩ := (hE ad I A G T J B w (xs (i + 1).toNatClampNeg) (xs (i + 2).toNatClampNeg) (xs (i + 3).toNatClampNeg) (xs (i + 4).toNatClampNeg) hI)
  have hl : lv_has ls 7 [(4, .int i), (3, .ref ao), (2, .ref (am 0)), (1, .ref (ad 0)), (0, .ref b)] := hl
  refine lv_aload_n hx hb dL_law_3353 rfl (lv_at hl 3 rfl) ?_
  refine lv_aload_n hx hb dL_law_3354 rfl (lv_at hl 4 rfl) ?_
  refine lv_iload hx hb dL_law_3355 (lv_at hl 0 rfl) ?_
  refine lv_iconst (v := 1) hx hb dL_law_3357 (by decide) ?_
  refine lv_iadd hx hb dL_law_3358 ?_
  refine va_sld hx hb hX hbl hbA V.2.2.2.1 (hin 1 (by decide)) dL_law_3359 ?_
  refine lv_aload_n hx hb dL_law_3360 rfl (lv_at hl 4 rfl) ?_
  refine lv_iload hx hb dL_law_3361 (lv_at hl 0 rfl) ?_
  refine lv_iconst (v := 2) hx hb dL_law_3363 (by decide) ?_
  refine lv_iadd hx hb dL_law_3364 ?_
  refine va_sld hx hb hX hbl hbA V.2.2.2.1 (hin 2 (by decide)) dL_law_3365 ?_
  refine lv_aload_n hx hb dL_law_3366 rfl (lv_at hl 4 rfl) ?_
  refine lv_iload hx hb dL_law_3367 (lv_at hl 0 rfl) ?_
  refine lv_iconst (v := 3) hx hb dL_law_3369 (by decide) ?_
  refine lv_iadd hx hb dL_law_3370 ?_
  refine va_sld hx hb hX hbl hbA V.2.2.2.1 (hin 3 (by decide)) dL_law_3371 ?_
  refine lv_aload_n hx hb dL_law_3372 rfl (lv_at hl 4 rfl) ?_
  refine lv_iload hx hb dL_law_3373 (lv_at hl 0 rfl) ?_
  refine lv_iconst (v := 4) hx hb dL_law_3375 (by decide) ?_
  refine lv_iadd hx hb dL_law_3376 ?_
  refine va_sld hx hb hX hbl hbA V.2.2.2.1 (hin 4 (by decide)) dL_law_3377 ?_
  have hcN : cells + 0 ≤ 601024 := hc0
  have hsN : slots + 0 ≤ 7293034 := hs0
  have V := ql_V.assoc V
  refine ql_cV (rest := []) (st1 := [.int r9]) (wc := (Wo cy ad I A G T)) (wr := [qd_L cy ao o] ++ (Wm cy am J B w)) S0 V hl 0 gO_0 rfl (c_X7_buy l hX7) kg_L_327 rfl ⟨rfl, rfl⟩ kd_X7_buy ⟨(Nat.le_of_ble_eq_true rfl), (Nat.le_of_ble_eq_true rfl)⟩ rfl rfl (Nat.le_of_ble_eq_true rfl) ⟨hcN, hsN⟩ rfl dL_law_3378 (fun H locs V => ?_)
  have V := ql_V.cossa V
  refine lv_aload_n hx hb dL_law_3381 rfl (lv_at hl 2 rfl) ?_
  refine lv_aload_n hx hb dL_law_3382 rfl (lv_at hl 4 rfl) ?_
  refine lv_iload hx hb dL_law_3383 (lv_at hl 0 rfl) ?_
  refine lv_iconst (v := 1) hx hb dL_law_3385 (by decide) ?_
  refine lv_iadd hx hb dL_law_3386 ?_
  refine va_sld hx hb hX hbl hbA V.2.2.2.1 (hin 1 (by decide)) dL_law_3387 ?_
  refine lv_aload_n hx hb dL_law_3388 rfl (lv_at hl 4 rfl) ?_
  refine lv_iload hx hb dL_law_3389 (lv_at hl 0 rfl) ?_
  refine lv_iconst (v := 2) hx hb dL_law_3391 (by decide) ?_
  refine lv_iadd hx hb dL_law_3392 ?_
  refine va_sld hx hb hX hbl hbA V.2.2.2.1 (hin 2 (by decide)) dL_law_3393 ?_
  refine lv_aload_n hx hb dL_law_3394 rfl (lv_at hl 4 rfl) ?_
  refine lv_iload hx hb dL_law_3395 (lv_at hl 0 rfl) ?_
  refine lv_iconst (v := 3) hx hb dL_law_3397 (by decide) ?_
  refine lv_iadd hx hb dL_law_3398 ?_
  refine va_sld hx hb hX hbl hbA V.2.2.2.1 (hin 3 (by decide)) dL_law_3399 ?_
  refine lv_aload_n hx hb dL_law_3400 rfl (lv_at hl 4 rfl) ?_
  refine lv_iload hx hb dL_law_3401 (lv_at hl 0 rfl) ?_
  refine lv_iconst (v := 4) hx hb dL_law_3403 (by decide) ?_
  refine lv_iadd hx hb dL_law_3404 ?_
  refine va_sld hx hb hX hbl hbA V.2.2.2.1 (hin 4 (by decide)) dL_law_3405 ?_
  have V := ql_V.swap V
  refine ql_cV (rest := [.int r9]) (st1 := (.int rb :: [.int r9])) (wc := (Wm cy am J B w)) (wr := ((Wo cy ad I9 A9 G9 T) ++ [qd_L cy ao o])) S0 V hl 0 gM_0 rfl (c_X8_buy l hM8) kg_L_330 rfl ⟨rfl, rfl⟩ kd_X8_buy ⟨(Nat.le_of_ble_eq_true rfl), (Nat.le_of_ble_eq_true rfl)⟩ rfl rfl (Nat.le_of_ble_eq_true rfl) ⟨hcN, hsN⟩ rfl dL_law_3406 (fun H locs V => ?_)
  have V := ql_V.swap V
  refine lv_icmp_eq (tgt := 3735) hx hb dL_law_3409 (by decide) (fun _ => ?_) (fun c9 => absurd hEq c9)
  refine W.widen (k := cells + 1) (n := slots + 6) (Nat.le_add_right _ _) (Nat.le_add_right _ _) ?_
  exact K _ _ _ _ _ _ _ _ _ _ _ _ rfl hI9 V hl
set_option maxHeartbeats 4000000 in
set_option maxRecDepth 100000 in
theorem ql_55 {p : Program} {l : Launch} {e : Env} {s : State} {m : MethodId} {below : List Frame} {meth : Method} {c : Code} {Q : State → Prop} {D : va_G} {cy : Nat → ClassId} {Z : Nat → Prop} {b L : Nat} {xs : Nat → Int32} (hst : l.stackTraces = false) (S0 : CallFix p m c code 7 s #[Value.ref b] qw_big RL) (hX : va_X b L xs s s.heap) (hbl : b < s.heap.size) (hbA : ¬ Z b) {Inv : ql_Inv} (hE : QE_deliver Inv) {ad am : Nat → Nat} {I : Nat → Int32} {A : Nat → Nat → Int32} {G : Nat → Int32 × (Nat → Nat → Int32)} {T : Nat} {J : Nat → Int32} {B : Nat → Nat → Int32} {w : Int64} {ao : Nat} {o : Nat → Int64} {H : Heap} {locs : List Loc} {cells slots : Nat} {ls : Array Slot} (hI : Inv I A G T J B w) (V : qw_V D cy Z s (((Wo cy ad I A G T) ++ [qd_L cy ao o]) ++ (Wm cy am J B w)) H locs) {i : Int32} (hin : ∀ j : Nat, j ≤ 5 → vp_in (i + Int32.ofNat j) L) (hl : lv_has ls 7 (ql_base i ao (am 0) (ad 0) b)) (hc : cells + 1 ≤ 601024) (hs : slots + 6 ≤ 7293034) (K : ∀ (ad2 : Nat → Nat) (I : Nat → Int32) (A : Nat → Nat → Int32) (G : Nat → Int32 × (Nat → Nat → Int32)) (T : Nat) (J : Nat → Int32) (B : Nat → Nat → Int32) (w : Int64) (o : Nat → Int64) (H : Heap) (locs : List Loc) (ls : Array Slot), ad2 0 = ad 0 → Inv I A G T J B w → qw_V D cy Z s ((Wo cy ad2 I A G T ++ [qd_L cy ao o]) ++ Wm cy am J B w) H locs → lv_has ls 7 (ql_base i ao (am 0) (ad 0) b) → W p l e room_1 s m #[Value.ref b] below meth c H locs (cells + 1) (slots + 6) Q (F0 m 3735 ls [])) : W p l e room_1 s m #[Value.ref b] below meth c H locs cells slots Q (F0 m 3414 ls []) := by
  have hx := S0.1; have hb := S0.2.1
  have hc0 : cells ≤ 601024 := Nat.le_trans (Nat.le_add_right _ _) hc; have hs0 : slots ≤ 7293034 := Nat.le_trans (Nat.le_add_right _ _) hs
  obtain ⟨r9, I9, A9, G9, hX7, rb, J9, B9, hM8, hEq, hI9⟩ := (hE ad I A G T J B w (xs (i + 1).toNatClampNeg) (xs (i + 2).toNatClampNeg) (xs (i + 3).toNatClampNeg) hI)
  have hl : lv_has ls 7 [(4, .int i), (3, .ref ao), (2, .ref (am 0)), (1, .ref (ad 0)), (0, .ref b)] := hl
  refine lv_aload_n hx hb dL_law_3414 rfl (lv_at hl 3 rfl) ?_
  refine lv_aload_n hx hb dL_law_3415 rfl (lv_at hl 4 rfl) ?_
  refine lv_iload hx hb dL_law_3416 (lv_at hl 0 rfl) ?_
  refine lv_iconst (v := 1) hx hb dL_law_3418 (by decide) ?_
  refine lv_iadd hx hb dL_law_3419 ?_
  refine va_sld hx hb hX hbl hbA V.2.2.2.1 (hin 1 (by decide)) dL_law_3420 ?_
  refine lv_aload_n hx hb dL_law_3421 rfl (lv_at hl 4 rfl) ?_
  refine lv_iload hx hb dL_law_3422 (lv_at hl 0 rfl) ?_
  refine lv_iconst (v := 2) hx hb dL_law_3424 (by decide) ?_
  refine lv_iadd hx hb dL_law_3425 ?_
  refine va_sld hx hb hX hbl hbA V.2.2.2.1 (hin 2 (by decide)) dL_law_3426 ?_
  refine lv_aload_n hx hb dL_law_3427 rfl (lv_at hl 4 rfl) ?_
  refine lv_iload hx hb dL_law_3428 (lv_at hl 0 rfl) ?_
  refine lv_iconst (v := 3) hx hb dL_law_3430 (by decide) ?_
  refine lv_iadd hx hb dL_law_3431 ?_
  refine va_sld hx hb hX hbl hbA V.2.2.2.1 (hin 3 (by decide)) dL_law_3432 ?_
  have hcN : cells + 0 ≤ 601024 := hc0
  have hsN : slots + 0 ≤ 7293034 := hs0
  have V := ql_V.assoc V
  refine ql_cV (rest := []) (st1 := [.int r9]) (wc := (Wo cy ad I A G T)) (wr := [qd_L cy ao o] ++ (Wm cy am J B w)) S0 V hl 0 gO_0 rfl (c_X7_deliver l hX7) kg_L_331 rfl ⟨rfl, rfl⟩ kd_X7_deliver ⟨(Nat.le_of_ble_eq_true rfl), (Nat.le_of_ble_eq_true rfl)⟩ rfl rfl (Nat.le_of_ble_eq_true rfl) ⟨hcN, hsN⟩ rfl dL_law_3433 (fun H locs V => ?_)
  have V := ql_V.cossa V
  refine lv_aload_n hx hb dL_law_3436 rfl (lv_at hl 2 rfl) ?_
  refine lv_aload_n hx hb dL_law_3437 rfl (lv_at hl 4 rfl) ?_
  refine lv_iload hx hb dL_law_3438 (lv_at hl 0 rfl) ?_
  refine lv_iconst (v := 1) hx hb dL_law_3440 (by decide) ?_
  refine lv_iadd hx hb dL_law_3441 ?_
  refine va_sld hx hb hX hbl hbA V.2.2.2.1 (hin 1 (by decide)) dL_law_3442 ?_
  refine lv_aload_n hx hb dL_law_3443 rfl (lv_at hl 4 rfl) ?_
  refine lv_iload hx hb dL_law_3444 (lv_at hl 0 rfl) ?_
  refine lv_iconst (v := 2) hx hb dL_law_3446 (by decide) ?_
  refine lv_iadd hx hb dL_law_3447 ?_
  refine va_sld hx hb hX hbl hbA V.2.2.2.1 (hin 2 (by decide)) dL_law_3448 ?_
  refine lv_aload_n hx hb dL_law_3449 rfl (lv_at hl 4 rfl) ?_
  refine lv_iload hx hb dL_law_3450 (lv_at hl 0 rfl) ?_
  refine lv_iconst (v := 3) hx hb dL_law_3452 (by decide) ?_
  refine lv_iadd hx hb dL_law_3453 ?_
  refine va_sld hx hb hX hbl hbA V.2.2.2.1 (hin 3 (by decide)) dL_law_3454 ?_
  have V := ql_V.swap V
  refine ql_cV (rest := [.int r9]) (st1 := (.int rb :: [.int r9])) (wc := (Wm cy am J B w)) (wr := ((Wo cy ad I9 A9 G9 T) ++ [qd_L cy ao o])) S0 V hl 0 gM_0 rfl (c_X8_deliver l hM8) kg_L_334 rfl ⟨rfl, rfl⟩ kd_X8_deliver ⟨(Nat.le_of_ble_eq_true rfl), (Nat.le_of_ble_eq_true rfl)⟩ rfl rfl (Nat.le_of_ble_eq_true rfl) ⟨hcN, hsN⟩ rfl dL_law_3455 (fun H locs V => ?_)
  have V := ql_V.swap V
  refine lv_icmp_eq (tgt := 3735) hx hb dL_law_3458 (by decide) (fun _ => ?_) (fun c9 => absurd hEq c9)
  refine W.widen (k := cells + 1) (n := slots + 6) (Nat.le_add_right _ _) (Nat.le_add_right _ _) ?_
  exact K _ _ _ _ _ _ _ _ _ _ _ _ rfl hI9 V hl
set_option maxHeartbeats 4000000 in
set_option maxRecDepth 100000 in
theorem ql_56 {p : Program} {l : Launch} {e : Env} {s : State} {m : MethodId} {below : List Frame} {meth : Method} {c : Code} {Q : State → Prop} {D : va_G} {cy : Nat → ClassId} {Z : Nat → Prop} {b L : Nat} {xs : Nat → Int32} (hst : l.stackTraces = false) (S0 : CallFix p m c code 7 s #[Value.ref b] qw_big RL) (hX : va_X b L xs s s.heap) (hbl : b < s.heap.size) (hbA : ¬ Z b) {Inv : ql_Inv} (hE : QE_trade Inv) {ad am : Nat → Nat} {I : Nat → Int32} {A : Nat → Nat → Int32} {G : Nat → Int32 × (Nat → Nat → Int32)} {T : Nat} {J : Nat → Int32} {B : Nat → Nat → Int32} {w : Int64} {ao : Nat} {o : Nat → Int64} {H : Heap} {locs : List Loc} {cells slots : Nat} {ls : Array Slot} (hI : Inv I A G T J B w) (V : qw_V D cy Z s (((Wo cy ad I A G T) ++ [qd_L cy ao o]) ++ (Wm cy am J B w)) H locs) {i : Int32} (hin : ∀ j : Nat, j ≤ 5 → vp_in (i + Int32.ofNat j) L) (hl : lv_has ls 7 (ql_base i ao (am 0) (ad 0) b)) (hc : cells + 1 ≤ 601024) (hs : slots + 6 ≤ 7293034) (K : ∀ (ad2 : Nat → Nat) (I : Nat → Int32) (A : Nat → Nat → Int32) (G : Nat → Int32 × (Nat → Nat → Int32)) (T : Nat) (J : Nat → Int32) (B : Nat → Nat → Int32) (w : Int64) (o : Nat → Int64) (H : Heap) (locs : List Loc) (ls : Array Slot), ad2 0 = ad 0 → Inv I A G T J B w → qw_V D cy Z s ((Wo cy ad2 I A G T ++ [qd_L cy ao o]) ++ Wm cy am J B w) H locs → lv_has ls 7 (ql_base i ao (am 0) (ad 0) b) → W p l e room_1 s m #[Value.ref b] below meth c H locs (cells + 1) (slots + 6) Q (F0 m 3735 ls [])) : W p l e room_1 s m #[Value.ref b] below meth c H locs cells slots Q (F0 m 3463 ls []) := by
  have hx := S0.1; have hb := S0.2.1
  have hc0 : cells ≤ 601024 := Nat.le_trans (Nat.le_add_right _ _) hc; have hs0 : slots ≤ 7293034 := Nat.le_trans (Nat.le_add_right _ _) hs
  obtain ⟨r9, I9, A9, G9, hX7, rb, J9, B9, hM8, hEq, hI9⟩ := (hE ad I A G T J B w (xs (i + 1).toNatClampNeg) (xs (i + 2).toNatClampNeg) (xs (i + 3).toNatClampNeg) (xs (i + 4).toNatClampNeg) hI)
  have hl : lv_has ls 7 [(4, .int i), (3, .ref ao), (2, .ref (am 0)), (1, .ref (ad 0)), (0, .ref b)] := hl
  refine lv_aload_n hx hb dL_law_3463 rfl (lv_at hl 3 rfl) ?_
  refine lv_aload_n hx hb dL_law_3464 rfl (lv_at hl 4 rfl) ?_
  refine lv_iload hx hb dL_law_3465 (lv_at hl 0 rfl) ?_
  refine lv_iconst (v := 1) hx hb dL_law_3467 (by decide) ?_
  refine lv_iadd hx hb dL_law_3468 ?_
  refine va_sld hx hb hX hbl hbA V.2.2.2.1 (hin 1 (by decide)) dL_law_3469 ?_
  refine lv_aload_n hx hb dL_law_3470 rfl (lv_at hl 4 rfl) ?_
  refine lv_iload hx hb dL_law_3471 (lv_at hl 0 rfl) ?_
  refine lv_iconst (v := 2) hx hb dL_law_3473 (by decide) ?_
  refine lv_iadd hx hb dL_law_3474 ?_
  refine va_sld hx hb hX hbl hbA V.2.2.2.1 (hin 2 (by decide)) dL_law_3475 ?_
  refine lv_aload_n hx hb dL_law_3476 rfl (lv_at hl 4 rfl) ?_
  refine lv_iload hx hb dL_law_3477 (lv_at hl 0 rfl) ?_
  refine lv_iconst (v := 3) hx hb dL_law_3479 (by decide) ?_
  refine lv_iadd hx hb dL_law_3480 ?_
  refine va_sld hx hb hX hbl hbA V.2.2.2.1 (hin 3 (by decide)) dL_law_3481 ?_
  refine lv_aload_n hx hb dL_law_3482 rfl (lv_at hl 4 rfl) ?_
  refine lv_iload hx hb dL_law_3483 (lv_at hl 0 rfl) ?_
  refine lv_iconst (v := 4) hx hb dL_law_3485 (by decide) ?_
  refine lv_iadd hx hb dL_law_3486 ?_
  refine va_sld hx hb hX hbl hbA V.2.2.2.1 (hin 4 (by decide)) dL_law_3487 ?_
  have hcN : cells + 0 ≤ 601024 := hc0
  have hsN : slots + 0 ≤ 7293034 := hs0
  have V := ql_V.assoc V
  refine ql_cV (rest := []) (st1 := [.int r9]) (wc := (Wo cy ad I A G T)) (wr := [qd_L cy ao o] ++ (Wm cy am J B w)) S0 V hl 0 gO_0 rfl (c_X7_trade l hX7) kg_L_335 rfl ⟨rfl, rfl⟩ kd_X7_trade ⟨(Nat.le_of_ble_eq_true rfl), (Nat.le_of_ble_eq_true rfl)⟩ rfl rfl (Nat.le_of_ble_eq_true rfl) ⟨hcN, hsN⟩ rfl dL_law_3488 (fun H locs V => ?_)
  have V := ql_V.cossa V
  refine lv_aload_n hx hb dL_law_3491 rfl (lv_at hl 2 rfl) ?_
  refine lv_aload_n hx hb dL_law_3492 rfl (lv_at hl 4 rfl) ?_
  refine lv_iload hx hb dL_law_3493 (lv_at hl 0 rfl) ?_
  refine lv_iconst (v := 1) hx hb dL_law_3495 (by decide) ?_
  refine lv_iadd hx hb dL_law_3496 ?_
  refine va_sld hx hb hX hbl hbA V.2.2.2.1 (hin 1 (by decide)) dL_law_3497 ?_
  refine lv_aload_n hx hb dL_law_3498 rfl (lv_at hl 4 rfl) ?_
  refine lv_iload hx hb dL_law_3499 (lv_at hl 0 rfl) ?_
  refine lv_iconst (v := 2) hx hb dL_law_3501 (by decide) ?_
  refine lv_iadd hx hb dL_law_3502 ?_
  refine va_sld hx hb hX hbl hbA V.2.2.2.1 (hin 2 (by decide)) dL_law_3503 ?_
  refine lv_aload_n hx hb dL_law_3504 rfl (lv_at hl 4 rfl) ?_
  refine lv_iload hx hb dL_law_3505 (lv_at hl 0 rfl) ?_
  refine lv_iconst (v := 3) hx hb dL_law_3507 (by decide) ?_
  refine lv_iadd hx hb dL_law_3508 ?_
  refine va_sld hx hb hX hbl hbA V.2.2.2.1 (hin 3 (by decide)) dL_law_3509 ?_
  refine lv_aload_n hx hb dL_law_3510 rfl (lv_at hl 4 rfl) ?_
  refine lv_iload hx hb dL_law_3511 (lv_at hl 0 rfl) ?_
  refine lv_iconst (v := 4) hx hb dL_law_3513 (by decide) ?_
  refine lv_iadd hx hb dL_law_3514 ?_
  refine va_sld hx hb hX hbl hbA V.2.2.2.1 (hin 4 (by decide)) dL_law_3515 ?_
  have V := ql_V.swap V
  refine ql_cV (rest := [.int r9]) (st1 := (.int rb :: [.int r9])) (wc := (Wm cy am J B w)) (wr := ((Wo cy ad I9 A9 G9 T) ++ [qd_L cy ao o])) S0 V hl 0 gM_0 rfl (c_X8_trade l hM8) kg_L_338 rfl ⟨rfl, rfl⟩ kd_X8_trade ⟨(Nat.le_of_ble_eq_true rfl), (Nat.le_of_ble_eq_true rfl)⟩ rfl rfl (Nat.le_of_ble_eq_true rfl) ⟨hcN, hsN⟩ rfl dL_law_3516 (fun H locs V => ?_)
  have V := ql_V.swap V
  refine lv_icmp_eq (tgt := 3735) hx hb dL_law_3519 (by decide) (fun _ => ?_) (fun c9 => absurd hEq c9)
  refine W.widen (k := cells + 1) (n := slots + 6) (Nat.le_add_right _ _) (Nat.le_add_right _ _) ?_
  exact K _ _ _ _ _ _ _ _ _ _ _ _ rfl hI9 V hl
set_option maxHeartbeats 4000000 in
set_option maxRecDepth 100000 in
theorem ql_57 {p : Program} {l : Launch} {e : Env} {s : State} {m : MethodId} {below : List Frame} {meth : Method} {c : Code} {Q : State → Prop} {D : va_G} {cy : Nat → ClassId} {Z : Nat → Prop} {b L : Nat} {xs : Nat → Int32} (hst : l.stackTraces = false) (S0 : CallFix p m c code 7 s #[Value.ref b] qw_big RL) (hX : va_X b L xs s s.heap) (hbl : b < s.heap.size) (hbA : ¬ Z b) {Inv : ql_Inv} (hE : QE_audit Inv) {ad am : Nat → Nat} {I : Nat → Int32} {A : Nat → Nat → Int32} {G : Nat → Int32 × (Nat → Nat → Int32)} {T : Nat} {J : Nat → Int32} {B : Nat → Nat → Int32} {w : Int64} {ao : Nat} {o : Nat → Int64} {H : Heap} {locs : List Loc} {cells slots : Nat} {ls : Array Slot} (hI : Inv I A G T J B w) (V : qw_V D cy Z s (((Wo cy ad I A G T) ++ [qd_L cy ao o]) ++ (Wm cy am J B w)) H locs) {i : Int32} (hin : ∀ j : Nat, j ≤ 5 → vp_in (i + Int32.ofNat j) L) (hl : lv_has ls 7 (ql_base i ao (am 0) (ad 0) b)) (hc : cells + 1 ≤ 601024) (hs : slots + 6 ≤ 7293034) (K : ∀ (ad2 : Nat → Nat) (I : Nat → Int32) (A : Nat → Nat → Int32) (G : Nat → Int32 × (Nat → Nat → Int32)) (T : Nat) (J : Nat → Int32) (B : Nat → Nat → Int32) (w : Int64) (o : Nat → Int64) (H : Heap) (locs : List Loc) (ls : Array Slot), ad2 0 = ad 0 → Inv I A G T J B w → qw_V D cy Z s ((Wo cy ad2 I A G T ++ [qd_L cy ao o]) ++ Wm cy am J B w) H locs → lv_has ls 7 (ql_base i ao (am 0) (ad 0) b) → W p l e room_1 s m #[Value.ref b] below meth c H locs (cells + 1) (slots + 6) Q (F0 m 3735 ls [])) : W p l e room_1 s m #[Value.ref b] below meth c H locs cells slots Q (F0 m 3524 ls []) := by
  have hx := S0.1; have hb := S0.2.1
  have hc0 : cells ≤ 601024 := Nat.le_trans (Nat.le_add_right _ _) hc; have hs0 : slots ≤ 7293034 := Nat.le_trans (Nat.le_add_right _ _) hs
  obtain ⟨r9, I9, A9, G9, hX7, rb, J9, B9, hM8, hEq, hI9⟩ := (hE ad I A G T J B w (xs (i + 1).toNatClampNeg) (xs (i + 2).toNatClampNeg) (xs (i + 3).toNatClampNeg) hI)
  have hl : lv_has ls 7 [(4, .int i), (3, .ref ao), (2, .ref (am 0)), (1, .ref (ad 0)), (0, .ref b)] := hl
  refine lv_aload_n hx hb dL_law_3524 rfl (lv_at hl 3 rfl) ?_
  refine lv_aload_n hx hb dL_law_3525 rfl (lv_at hl 4 rfl) ?_
  refine lv_iload hx hb dL_law_3526 (lv_at hl 0 rfl) ?_
  refine lv_iconst (v := 1) hx hb dL_law_3528 (by decide) ?_
  refine lv_iadd hx hb dL_law_3529 ?_
  refine va_sld hx hb hX hbl hbA V.2.2.2.1 (hin 1 (by decide)) dL_law_3530 ?_
  refine lv_aload_n hx hb dL_law_3531 rfl (lv_at hl 4 rfl) ?_
  refine lv_iload hx hb dL_law_3532 (lv_at hl 0 rfl) ?_
  refine lv_iconst (v := 2) hx hb dL_law_3534 (by decide) ?_
  refine lv_iadd hx hb dL_law_3535 ?_
  refine va_sld hx hb hX hbl hbA V.2.2.2.1 (hin 2 (by decide)) dL_law_3536 ?_
  refine lv_aload_n hx hb dL_law_3537 rfl (lv_at hl 4 rfl) ?_
  refine lv_iload hx hb dL_law_3538 (lv_at hl 0 rfl) ?_
  refine lv_iconst (v := 3) hx hb dL_law_3540 (by decide) ?_
  refine lv_iadd hx hb dL_law_3541 ?_
  refine va_sld hx hb hX hbl hbA V.2.2.2.1 (hin 3 (by decide)) dL_law_3542 ?_
  have hcN : cells + 0 ≤ 601024 := hc0
  have hsN : slots + 0 ≤ 7293034 := hs0
  have V := ql_V.assoc V
  refine ql_cV (rest := []) (st1 := [.int r9]) (wc := (Wo cy ad I A G T)) (wr := [qd_L cy ao o] ++ (Wm cy am J B w)) S0 V hl 0 gO_0 rfl (c_X7_audit l hX7) kg_L_339 rfl ⟨rfl, rfl⟩ kd_X7_audit ⟨(Nat.le_of_ble_eq_true rfl), (Nat.le_of_ble_eq_true rfl)⟩ rfl rfl (Nat.le_of_ble_eq_true rfl) ⟨hcN, hsN⟩ rfl dL_law_3543 (fun H locs V => ?_)
  have V := ql_V.cossa V
  refine lv_aload_n hx hb dL_law_3546 rfl (lv_at hl 2 rfl) ?_
  refine lv_aload_n hx hb dL_law_3547 rfl (lv_at hl 4 rfl) ?_
  refine lv_iload hx hb dL_law_3548 (lv_at hl 0 rfl) ?_
  refine lv_iconst (v := 1) hx hb dL_law_3550 (by decide) ?_
  refine lv_iadd hx hb dL_law_3551 ?_
  refine va_sld hx hb hX hbl hbA V.2.2.2.1 (hin 1 (by decide)) dL_law_3552 ?_
  refine lv_aload_n hx hb dL_law_3553 rfl (lv_at hl 4 rfl) ?_
  refine lv_iload hx hb dL_law_3554 (lv_at hl 0 rfl) ?_
  refine lv_iconst (v := 2) hx hb dL_law_3556 (by decide) ?_
  refine lv_iadd hx hb dL_law_3557 ?_
  refine va_sld hx hb hX hbl hbA V.2.2.2.1 (hin 2 (by decide)) dL_law_3558 ?_
  refine lv_aload_n hx hb dL_law_3559 rfl (lv_at hl 4 rfl) ?_
  refine lv_iload hx hb dL_law_3560 (lv_at hl 0 rfl) ?_
  refine lv_iconst (v := 3) hx hb dL_law_3562 (by decide) ?_
  refine lv_iadd hx hb dL_law_3563 ?_
  refine va_sld hx hb hX hbl hbA V.2.2.2.1 (hin 3 (by decide)) dL_law_3564 ?_
  have V := ql_V.swap V
  refine ql_cV (rest := [.int r9]) (st1 := (.int rb :: [.int r9])) (wc := (Wm cy am J B w)) (wr := ((Wo cy ad I9 A9 G9 T) ++ [qd_L cy ao o])) S0 V hl 0 gM_0 rfl (c_X8_audit l hM8) kg_L_342 rfl ⟨rfl, rfl⟩ kd_X8_audit ⟨(Nat.le_of_ble_eq_true rfl), (Nat.le_of_ble_eq_true rfl)⟩ rfl rfl (Nat.le_of_ble_eq_true rfl) ⟨hcN, hsN⟩ rfl dL_law_3565 (fun H locs V => ?_)
  have V := ql_V.swap V
  refine lv_icmp_eq (tgt := 3735) hx hb dL_law_3568 (by decide) (fun _ => ?_) (fun c9 => absurd hEq c9)
  refine W.widen (k := cells + 1) (n := slots + 6) (Nat.le_add_right _ _) (Nat.le_add_right _ _) ?_
  exact K _ _ _ _ _ _ _ _ _ _ _ _ rfl hI9 V hl
set_option maxHeartbeats 4000000 in
set_option maxRecDepth 100000 in
theorem ql_58 {p : Program} {l : Launch} {e : Env} {s : State} {m : MethodId} {below : List Frame} {meth : Method} {c : Code} {Q : State → Prop} {D : va_G} {cy : Nat → ClassId} {Z : Nat → Prop} {b L : Nat} {xs : Nat → Int32} (hst : l.stackTraces = false) (S0 : CallFix p m c code 7 s #[Value.ref b] qw_big RL) (hX : va_X b L xs s s.heap) (hbl : b < s.heap.size) (hbA : ¬ Z b) {Inv : ql_Inv} (hE : QE_pardon Inv) {ad am : Nat → Nat} {I : Nat → Int32} {A : Nat → Nat → Int32} {G : Nat → Int32 × (Nat → Nat → Int32)} {T : Nat} {J : Nat → Int32} {B : Nat → Nat → Int32} {w : Int64} {ao : Nat} {o : Nat → Int64} {H : Heap} {locs : List Loc} {cells slots : Nat} {ls : Array Slot} (hI : Inv I A G T J B w) (V : qw_V D cy Z s (((Wo cy ad I A G T) ++ [qd_L cy ao o]) ++ (Wm cy am J B w)) H locs) {i : Int32} (hin : ∀ j : Nat, j ≤ 5 → vp_in (i + Int32.ofNat j) L) (hl : lv_has ls 7 (ql_base i ao (am 0) (ad 0) b)) (hc : cells + 1 ≤ 601024) (hs : slots + 6 ≤ 7293034) (K : ∀ (ad2 : Nat → Nat) (I : Nat → Int32) (A : Nat → Nat → Int32) (G : Nat → Int32 × (Nat → Nat → Int32)) (T : Nat) (J : Nat → Int32) (B : Nat → Nat → Int32) (w : Int64) (o : Nat → Int64) (H : Heap) (locs : List Loc) (ls : Array Slot), ad2 0 = ad 0 → Inv I A G T J B w → qw_V D cy Z s ((Wo cy ad2 I A G T ++ [qd_L cy ao o]) ++ Wm cy am J B w) H locs → lv_has ls 7 (ql_base i ao (am 0) (ad 0) b) → W p l e room_1 s m #[Value.ref b] below meth c H locs (cells + 1) (slots + 6) Q (F0 m 3735 ls [])) : W p l e room_1 s m #[Value.ref b] below meth c H locs cells slots Q (F0 m 3573 ls []) := by
  have hx := S0.1; have hb := S0.2.1
  have hc0 : cells ≤ 601024 := Nat.le_trans (Nat.le_add_right _ _) hc; have hs0 : slots ≤ 7293034 := Nat.le_trans (Nat.le_add_right _ _) hs
  obtain ⟨r9, I9, A9, G9, hX7, rb, J9, B9, hM8, hEq, hI9⟩ := (hE ad I A G T J B w (xs (i + 1).toNatClampNeg) hI)
  have hl : lv_has ls 7 [(4, .int i), (3, .ref ao), (2, .ref (am 0)), (1, .ref (ad 0)), (0, .ref b)] := hl
  refine lv_aload_n hx hb dL_law_3573 rfl (lv_at hl 3 rfl) ?_
  refine lv_aload_n hx hb dL_law_3574 rfl (lv_at hl 4 rfl) ?_
  refine lv_iload hx hb dL_law_3575 (lv_at hl 0 rfl) ?_
  refine lv_iconst (v := 1) hx hb dL_law_3577 (by decide) ?_
  refine lv_iadd hx hb dL_law_3578 ?_
  refine va_sld hx hb hX hbl hbA V.2.2.2.1 (hin 1 (by decide)) dL_law_3579 ?_
  have hcN : cells + 0 ≤ 601024 := hc0
  have hsN : slots + 0 ≤ 7293034 := hs0
  have V := ql_V.assoc V
  refine ql_cV (rest := []) (st1 := [.int r9]) (wc := (Wo cy ad I A G T)) (wr := [qd_L cy ao o] ++ (Wm cy am J B w)) S0 V hl 0 gO_0 rfl (c_X7_pardon l hX7) kg_L_343 rfl ⟨rfl, rfl⟩ kd_X7_pardon ⟨(Nat.le_of_ble_eq_true rfl), (Nat.le_of_ble_eq_true rfl)⟩ rfl rfl (Nat.le_of_ble_eq_true rfl) ⟨hcN, hsN⟩ rfl dL_law_3580 (fun H locs V => ?_)
  have V := ql_V.cossa V
  refine lv_aload_n hx hb dL_law_3583 rfl (lv_at hl 2 rfl) ?_
  refine lv_aload_n hx hb dL_law_3584 rfl (lv_at hl 4 rfl) ?_
  refine lv_iload hx hb dL_law_3585 (lv_at hl 0 rfl) ?_
  refine lv_iconst (v := 1) hx hb dL_law_3587 (by decide) ?_
  refine lv_iadd hx hb dL_law_3588 ?_
  refine va_sld hx hb hX hbl hbA V.2.2.2.1 (hin 1 (by decide)) dL_law_3589 ?_
  have V := ql_V.swap V
  refine ql_cV (rest := [.int r9]) (st1 := (.int rb :: [.int r9])) (wc := (Wm cy am J B w)) (wr := ((Wo cy ad I9 A9 G9 T) ++ [qd_L cy ao o])) S0 V hl 0 gM_0 rfl (c_X8_pardon l hM8) kg_L_346 rfl ⟨rfl, rfl⟩ kd_X8_pardon ⟨(Nat.le_of_ble_eq_true rfl), (Nat.le_of_ble_eq_true rfl)⟩ rfl rfl (Nat.le_of_ble_eq_true rfl) ⟨hcN, hsN⟩ rfl dL_law_3590 (fun H locs V => ?_)
  have V := ql_V.swap V
  refine lv_icmp_eq (tgt := 3735) hx hb dL_law_3593 (by decide) (fun _ => ?_) (fun c9 => absurd hEq c9)
  refine W.widen (k := cells + 1) (n := slots + 6) (Nat.le_add_right _ _) (Nat.le_add_right _ _) ?_
  exact K _ _ _ _ _ _ _ _ _ _ _ _ rfl hI9 V hl
set_option maxHeartbeats 4000000 in
set_option maxRecDepth 100000 in
theorem ql_59 {p : Program} {l : Launch} {e : Env} {s : State} {m : MethodId} {below : List Frame} {meth : Method} {c : Code} {Q : State → Prop} {D : va_G} {cy : Nat → ClassId} {Z : Nat → Prop} {b L : Nat} {xs : Nat → Int32} (hst : l.stackTraces = false) (S0 : CallFix p m c code 7 s #[Value.ref b] qw_big RL) (hX : va_X b L xs s s.heap) (hbl : b < s.heap.size) (hbA : ¬ Z b) {Inv : ql_Inv} (hE : QE_nextPeriod Inv) {ad am : Nat → Nat} {I : Nat → Int32} {A : Nat → Nat → Int32} {G : Nat → Int32 × (Nat → Nat → Int32)} {T : Nat} {J : Nat → Int32} {B : Nat → Nat → Int32} {w : Int64} {ao : Nat} {o : Nat → Int64} {H : Heap} {locs : List Loc} {cells slots : Nat} {ls : Array Slot} (hI : Inv I A G T J B w) (V : qw_V D cy Z s (((Wo cy ad I A G T) ++ [qd_L cy ao o]) ++ (Wm cy am J B w)) H locs) {i : Int32} (hin : ∀ j : Nat, j ≤ 5 → vp_in (i + Int32.ofNat j) L) (hl : lv_has ls 7 (ql_base i ao (am 0) (ad 0) b)) (hc : cells + 1 ≤ 601024) (hs : slots + 6 ≤ 7293034) (K : ∀ (ad2 : Nat → Nat) (I : Nat → Int32) (A : Nat → Nat → Int32) (G : Nat → Int32 × (Nat → Nat → Int32)) (T : Nat) (J : Nat → Int32) (B : Nat → Nat → Int32) (w : Int64) (o : Nat → Int64) (H : Heap) (locs : List Loc) (ls : Array Slot), ad2 0 = ad 0 → Inv I A G T J B w → qw_V D cy Z s ((Wo cy ad2 I A G T ++ [qd_L cy ao o]) ++ Wm cy am J B w) H locs → lv_has ls 7 (ql_base i ao (am 0) (ad 0) b) → W p l e room_1 s m #[Value.ref b] below meth c H locs (cells + 1) (slots + 6) Q (F0 m 3735 ls [])) : W p l e room_1 s m #[Value.ref b] below meth c H locs cells slots Q (F0 m 3598 ls []) := by
  have hx := S0.1; have hb := S0.2.1
  have hc0 : cells ≤ 601024 := Nat.le_trans (Nat.le_add_right _ _) hc; have hs0 : slots ≤ 7293034 := Nat.le_trans (Nat.le_add_right _ _) hs
  obtain ⟨r9, I9, A9, G9, hX7, rb, J9, B9, hM8, hEq, hI9⟩ := (hE ad I A G T J B w hI)
  have hl : lv_has ls 7 [(4, .int i), (3, .ref ao), (2, .ref (am 0)), (1, .ref (ad 0)), (0, .ref b)] := hl
  refine lv_aload_n hx hb dL_law_3598 rfl (lv_at hl 3 rfl) ?_
  have hcN : cells + 0 ≤ 601024 := hc0
  have hsN : slots + 0 ≤ 7293034 := hs0
  have V := ql_V.assoc V
  refine ql_cV (rest := []) (st1 := [.int r9]) (wc := (Wo cy ad I A G T)) (wr := [qd_L cy ao o] ++ (Wm cy am J B w)) S0 V hl 0 gO_0 rfl (c_X7_nextPeriod l hX7) kg_L_347 rfl ⟨rfl, rfl⟩ kd_X7_nextPeriod ⟨(Nat.le_of_ble_eq_true rfl), (Nat.le_of_ble_eq_true rfl)⟩ rfl rfl (Nat.le_of_ble_eq_true rfl) ⟨hcN, hsN⟩ rfl dL_law_3599 (fun H locs V => ?_)
  have V := ql_V.cossa V
  refine lv_aload_n hx hb dL_law_3602 rfl (lv_at hl 2 rfl) ?_
  have V := ql_V.swap V
  refine ql_cV (rest := [.int r9]) (st1 := (.int rb :: [.int r9])) (wc := (Wm cy am J B w)) (wr := ((Wo cy ad I9 A9 G9 T) ++ [qd_L cy ao o])) S0 V hl 0 gM_0 rfl (c_X8_nextPeriod l hM8) kg_L_350 rfl ⟨rfl, rfl⟩ kd_X8_nextPeriod ⟨(Nat.le_of_ble_eq_true rfl), (Nat.le_of_ble_eq_true rfl)⟩ rfl rfl (Nat.le_of_ble_eq_true rfl) ⟨hcN, hsN⟩ rfl dL_law_3603 (fun H locs V => ?_)
  have V := ql_V.swap V
  refine lv_icmp_eq (tgt := 3735) hx hb dL_law_3606 (by decide) (fun _ => ?_) (fun c9 => absurd hEq c9)
  refine W.widen (k := cells + 1) (n := slots + 6) (Nat.le_add_right _ _) (Nat.le_add_right _ _) ?_
  exact K _ _ _ _ _ _ _ _ _ _ _ _ rfl hI9 V hl
set_option maxHeartbeats 4000000 in
set_option maxRecDepth 100000 in
theorem ql_60 {p : Program} {l : Launch} {e : Env} {s : State} {m : MethodId} {below : List Frame} {meth : Method} {c : Code} {Q : State → Prop} {D : va_G} {cy : Nat → ClassId} {Z : Nat → Prop} {b L : Nat} {xs : Nat → Int32} (hst : l.stackTraces = false) (S0 : CallFix p m c code 7 s #[Value.ref b] qw_big RL) (hX : va_X b L xs s s.heap) (hbl : b < s.heap.size) (hbA : ¬ Z b) {Inv : ql_Inv} (hE : QE_setRation Inv) {ad am : Nat → Nat} {I : Nat → Int32} {A : Nat → Nat → Int32} {G : Nat → Int32 × (Nat → Nat → Int32)} {T : Nat} {J : Nat → Int32} {B : Nat → Nat → Int32} {w : Int64} {ao : Nat} {o : Nat → Int64} {H : Heap} {locs : List Loc} {cells slots : Nat} {ls : Array Slot} (hI : Inv I A G T J B w) (V : qw_V D cy Z s (((Wo cy ad I A G T) ++ [qd_L cy ao o]) ++ (Wm cy am J B w)) H locs) {i : Int32} (hin : ∀ j : Nat, j ≤ 5 → vp_in (i + Int32.ofNat j) L) (hl : lv_has ls 7 (ql_base i ao (am 0) (ad 0) b)) (hc : cells + 1 ≤ 601024) (hs : slots + 6 ≤ 7293034) (K : ∀ (ad2 : Nat → Nat) (I : Nat → Int32) (A : Nat → Nat → Int32) (G : Nat → Int32 × (Nat → Nat → Int32)) (T : Nat) (J : Nat → Int32) (B : Nat → Nat → Int32) (w : Int64) (o : Nat → Int64) (H : Heap) (locs : List Loc) (ls : Array Slot), ad2 0 = ad 0 → Inv I A G T J B w → qw_V D cy Z s ((Wo cy ad2 I A G T ++ [qd_L cy ao o]) ++ Wm cy am J B w) H locs → lv_has ls 7 (ql_base i ao (am 0) (ad 0) b) → W p l e room_1 s m #[Value.ref b] below meth c H locs (cells + 1) (slots + 6) Q (F0 m 3735 ls [])) : W p l e room_1 s m #[Value.ref b] below meth c H locs cells slots Q (F0 m 3611 ls []) := by
  have hx := S0.1; have hb := S0.2.1
  have hc0 : cells ≤ 601024 := Nat.le_trans (Nat.le_add_right _ _) hc; have hs0 : slots ≤ 7293034 := Nat.le_trans (Nat.le_add_right _ _) hs
  obtain ⟨r9, I9, A9, G9, hX7, rb, J9, B9, hM8, hEq, hI9⟩ := (hE ad I A G T J B w (xs (i + 1).toNatClampNeg) (xs (i + 2).toNatClampNeg) hI)
  have hl : lv_has ls 7 [(4, .int i), (3, .ref ao), (2, .ref (am 0)), (1, .ref (ad 0)), (0, .ref b)] := hl
  refine lv_aload_n hx hb dL_law_3611 rfl (lv_at hl 3 rfl) ?_
  refine lv_aload_n hx hb dL_law_3612 rfl (lv_at hl 4 rfl) ?_
  refine lv_iload hx hb dL_law_3613 (lv_at hl 0 rfl) ?_
  refine lv_iconst (v := 1) hx hb dL_law_3615 (by decide) ?_
  refine lv_iadd hx hb dL_law_3616 ?_
  refine va_sld hx hb hX hbl hbA V.2.2.2.1 (hin 1 (by decide)) dL_law_3617 ?_
  refine lv_aload_n hx hb dL_law_3618 rfl (lv_at hl 4 rfl) ?_
  refine lv_iload hx hb dL_law_3619 (lv_at hl 0 rfl) ?_
  refine lv_iconst (v := 2) hx hb dL_law_3621 (by decide) ?_
  refine lv_iadd hx hb dL_law_3622 ?_
  refine va_sld hx hb hX hbl hbA V.2.2.2.1 (hin 2 (by decide)) dL_law_3623 ?_
  have hcN : cells + 0 ≤ 601024 := hc0
  have hsN : slots + 0 ≤ 7293034 := hs0
  have V := ql_V.assoc V
  refine ql_cV (rest := []) (st1 := [.int r9]) (wc := (Wo cy ad I A G T)) (wr := [qd_L cy ao o] ++ (Wm cy am J B w)) S0 V hl 0 gO_0 rfl (c_X7_setRation l hX7) kg_L_351 rfl ⟨rfl, rfl⟩ kd_X7_setRation ⟨(Nat.le_of_ble_eq_true rfl), (Nat.le_of_ble_eq_true rfl)⟩ rfl rfl (Nat.le_of_ble_eq_true rfl) ⟨hcN, hsN⟩ rfl dL_law_3624 (fun H locs V => ?_)
  have V := ql_V.cossa V
  refine lv_aload_n hx hb dL_law_3627 rfl (lv_at hl 2 rfl) ?_
  refine lv_aload_n hx hb dL_law_3628 rfl (lv_at hl 4 rfl) ?_
  refine lv_iload hx hb dL_law_3629 (lv_at hl 0 rfl) ?_
  refine lv_iconst (v := 1) hx hb dL_law_3631 (by decide) ?_
  refine lv_iadd hx hb dL_law_3632 ?_
  refine va_sld hx hb hX hbl hbA V.2.2.2.1 (hin 1 (by decide)) dL_law_3633 ?_
  refine lv_aload_n hx hb dL_law_3634 rfl (lv_at hl 4 rfl) ?_
  refine lv_iload hx hb dL_law_3635 (lv_at hl 0 rfl) ?_
  refine lv_iconst (v := 2) hx hb dL_law_3637 (by decide) ?_
  refine lv_iadd hx hb dL_law_3638 ?_
  refine va_sld hx hb hX hbl hbA V.2.2.2.1 (hin 2 (by decide)) dL_law_3639 ?_
  have V := ql_V.swap V
  refine ql_cV (rest := [.int r9]) (st1 := (.int rb :: [.int r9])) (wc := (Wm cy am J B w)) (wr := ((Wo cy ad I9 A9 G9 T) ++ [qd_L cy ao o])) S0 V hl 0 gM_0 rfl (c_X8_setRation l hM8) kg_L_354 rfl ⟨rfl, rfl⟩ kd_X8_setRation ⟨(Nat.le_of_ble_eq_true rfl), (Nat.le_of_ble_eq_true rfl)⟩ rfl rfl (Nat.le_of_ble_eq_true rfl) ⟨hcN, hsN⟩ rfl dL_law_3640 (fun H locs V => ?_)
  have V := ql_V.swap V
  refine lv_icmp_eq (tgt := 3735) hx hb dL_law_3643 (by decide) (fun _ => ?_) (fun c9 => absurd hEq c9)
  refine W.widen (k := cells + 1) (n := slots + 6) (Nat.le_add_right _ _) (Nat.le_add_right _ _) ?_
  exact K _ _ _ _ _ _ _ _ _ _ _ _ rfl hI9 V hl
set_option maxHeartbeats 4000000 in
set_option maxRecDepth 100000 in
theorem ql_61 {p : Program} {l : Launch} {e : Env} {s : State} {m : MethodId} {below : List Frame} {meth : Method} {c : Code} {Q : State → Prop} {D : va_G} {cy : Nat → ClassId} {Z : Nat → Prop} {b L : Nat} {xs : Nat → Int32} (hst : l.stackTraces = false) (S0 : CallFix p m c code 7 s #[Value.ref b] qw_big RL) (hX : va_X b L xs s s.heap) (hbl : b < s.heap.size) (hbA : ¬ Z b) {Inv : ql_Inv} (hE : QE_setSize Inv) {ad am : Nat → Nat} {I : Nat → Int32} {A : Nat → Nat → Int32} {G : Nat → Int32 × (Nat → Nat → Int32)} {T : Nat} {J : Nat → Int32} {B : Nat → Nat → Int32} {w : Int64} {ao : Nat} {o : Nat → Int64} {H : Heap} {locs : List Loc} {cells slots : Nat} {ls : Array Slot} (hI : Inv I A G T J B w) (V : qw_V D cy Z s (((Wo cy ad I A G T) ++ [qd_L cy ao o]) ++ (Wm cy am J B w)) H locs) {i : Int32} (hin : ∀ j : Nat, j ≤ 5 → vp_in (i + Int32.ofNat j) L) (hl : lv_has ls 7 (ql_base i ao (am 0) (ad 0) b)) (hc : cells + 1 ≤ 601024) (hs : slots + 6 ≤ 7293034) (K : ∀ (ad2 : Nat → Nat) (I : Nat → Int32) (A : Nat → Nat → Int32) (G : Nat → Int32 × (Nat → Nat → Int32)) (T : Nat) (J : Nat → Int32) (B : Nat → Nat → Int32) (w : Int64) (o : Nat → Int64) (H : Heap) (locs : List Loc) (ls : Array Slot), ad2 0 = ad 0 → Inv I A G T J B w → qw_V D cy Z s ((Wo cy ad2 I A G T ++ [qd_L cy ao o]) ++ Wm cy am J B w) H locs → lv_has ls 7 (ql_base i ao (am 0) (ad 0) b) → W p l e room_1 s m #[Value.ref b] below meth c H locs (cells + 1) (slots + 6) Q (F0 m 3735 ls [])) : W p l e room_1 s m #[Value.ref b] below meth c H locs cells slots Q (F0 m 3648 ls []) := by
  have hx := S0.1; have hb := S0.2.1
  have hc0 : cells ≤ 601024 := Nat.le_trans (Nat.le_add_right _ _) hc; have hs0 : slots ≤ 7293034 := Nat.le_trans (Nat.le_add_right _ _) hs
  obtain ⟨r9, I9, A9, G9, hX7, rb, J9, B9, hM8, hEq, hI9⟩ := (hE ad I A G T J B w (xs (i + 1).toNatClampNeg) (xs (i + 2).toNatClampNeg) hI)
  have hl : lv_has ls 7 [(4, .int i), (3, .ref ao), (2, .ref (am 0)), (1, .ref (ad 0)), (0, .ref b)] := hl
  refine lv_aload_n hx hb dL_law_3648 rfl (lv_at hl 3 rfl) ?_
  refine lv_aload_n hx hb dL_law_3649 rfl (lv_at hl 4 rfl) ?_
  refine lv_iload hx hb dL_law_3650 (lv_at hl 0 rfl) ?_
  refine lv_iconst (v := 1) hx hb dL_law_3652 (by decide) ?_
  refine lv_iadd hx hb dL_law_3653 ?_
  refine va_sld hx hb hX hbl hbA V.2.2.2.1 (hin 1 (by decide)) dL_law_3654 ?_
  refine lv_aload_n hx hb dL_law_3655 rfl (lv_at hl 4 rfl) ?_
  refine lv_iload hx hb dL_law_3656 (lv_at hl 0 rfl) ?_
  refine lv_iconst (v := 2) hx hb dL_law_3658 (by decide) ?_
  refine lv_iadd hx hb dL_law_3659 ?_
  refine va_sld hx hb hX hbl hbA V.2.2.2.1 (hin 2 (by decide)) dL_law_3660 ?_
  have hcN : cells + 0 ≤ 601024 := hc0
  have hsN : slots + 0 ≤ 7293034 := hs0
  have V := ql_V.assoc V
  refine ql_cV (rest := []) (st1 := [.int r9]) (wc := (Wo cy ad I A G T)) (wr := [qd_L cy ao o] ++ (Wm cy am J B w)) S0 V hl 0 gO_0 rfl (c_X7_setSize l hX7) kg_L_355 rfl ⟨rfl, rfl⟩ kd_X7_setSize ⟨(Nat.le_of_ble_eq_true rfl), (Nat.le_of_ble_eq_true rfl)⟩ rfl rfl (Nat.le_of_ble_eq_true rfl) ⟨hcN, hsN⟩ rfl dL_law_3661 (fun H locs V => ?_)
  have V := ql_V.cossa V
  refine lv_aload_n hx hb dL_law_3664 rfl (lv_at hl 2 rfl) ?_
  refine lv_aload_n hx hb dL_law_3665 rfl (lv_at hl 4 rfl) ?_
  refine lv_iload hx hb dL_law_3666 (lv_at hl 0 rfl) ?_
  refine lv_iconst (v := 1) hx hb dL_law_3668 (by decide) ?_
  refine lv_iadd hx hb dL_law_3669 ?_
  refine va_sld hx hb hX hbl hbA V.2.2.2.1 (hin 1 (by decide)) dL_law_3670 ?_
  refine lv_aload_n hx hb dL_law_3671 rfl (lv_at hl 4 rfl) ?_
  refine lv_iload hx hb dL_law_3672 (lv_at hl 0 rfl) ?_
  refine lv_iconst (v := 2) hx hb dL_law_3674 (by decide) ?_
  refine lv_iadd hx hb dL_law_3675 ?_
  refine va_sld hx hb hX hbl hbA V.2.2.2.1 (hin 2 (by decide)) dL_law_3676 ?_
  have V := ql_V.swap V
  refine ql_cV (rest := [.int r9]) (st1 := (.int rb :: [.int r9])) (wc := (Wm cy am J B w)) (wr := ((Wo cy ad I9 A9 G9 T) ++ [qd_L cy ao o])) S0 V hl 0 gM_0 rfl (c_X8_setSize l hM8) kg_L_358 rfl ⟨rfl, rfl⟩ kd_X8_setSize ⟨(Nat.le_of_ble_eq_true rfl), (Nat.le_of_ble_eq_true rfl)⟩ rfl rfl (Nat.le_of_ble_eq_true rfl) ⟨hcN, hsN⟩ rfl dL_law_3677 (fun H locs V => ?_)
  have V := ql_V.swap V
  refine lv_icmp_eq (tgt := 3735) hx hb dL_law_3680 (by decide) (fun _ => ?_) (fun c9 => absurd hEq c9)
  refine W.widen (k := cells + 1) (n := slots + 6) (Nat.le_add_right _ _) (Nat.le_add_right _ _) ?_
  exact K _ _ _ _ _ _ _ _ _ _ _ _ rfl hI9 V hl
set_option maxHeartbeats 4000000 in
set_option maxRecDepth 100000 in
theorem ql_62 {p : Program} {l : Launch} {e : Env} {s : State} {m : MethodId} {below : List Frame} {meth : Method} {c : Code} {Q : State → Prop} {D : va_G} {cy : Nat → ClassId} {Z : Nat → Prop} {b L : Nat} {xs : Nat → Int32} (hst : l.stackTraces = false) (S0 : CallFix p m c code 7 s #[Value.ref b] qw_big RL) (hX : va_X b L xs s s.heap) (hbl : b < s.heap.size) (hbA : ¬ Z b) {Inv : ql_Inv} (hE : QE_setSetting Inv) {ad am : Nat → Nat} {I : Nat → Int32} {A : Nat → Nat → Int32} {G : Nat → Int32 × (Nat → Nat → Int32)} {T : Nat} {J : Nat → Int32} {B : Nat → Nat → Int32} {w : Int64} {ao : Nat} {o : Nat → Int64} {H : Heap} {locs : List Loc} {cells slots : Nat} {ls : Array Slot} (hI : Inv I A G T J B w) (V : qw_V D cy Z s (((Wo cy ad I A G T) ++ [qd_L cy ao o]) ++ (Wm cy am J B w)) H locs) {i : Int32} (hin : ∀ j : Nat, j ≤ 5 → vp_in (i + Int32.ofNat j) L) (hl : lv_has ls 7 (ql_base i ao (am 0) (ad 0) b)) (hc : cells + 1 ≤ 601024) (hs : slots + 6 ≤ 7293034) (K : ∀ (ad2 : Nat → Nat) (I : Nat → Int32) (A : Nat → Nat → Int32) (G : Nat → Int32 × (Nat → Nat → Int32)) (T : Nat) (J : Nat → Int32) (B : Nat → Nat → Int32) (w : Int64) (o : Nat → Int64) (H : Heap) (locs : List Loc) (ls : Array Slot), ad2 0 = ad 0 → Inv I A G T J B w → qw_V D cy Z s ((Wo cy ad2 I A G T ++ [qd_L cy ao o]) ++ Wm cy am J B w) H locs → lv_has ls 7 (ql_base i ao (am 0) (ad 0) b) → W p l e room_1 s m #[Value.ref b] below meth c H locs (cells + 1) (slots + 6) Q (F0 m 3735 ls [])) : W p l e room_1 s m #[Value.ref b] below meth c H locs cells slots Q (F0 m 3685 ls []) := by
  have hx := S0.1; have hb := S0.2.1
  have hc0 : cells ≤ 601024 := Nat.le_trans (Nat.le_add_right _ _) hc; have hs0 : slots ≤ 7293034 := Nat.le_trans (Nat.le_add_right _ _) hs
  obtain ⟨r9, I9, A9, G9, hX7, rb, J9, B9, hM8, hEq, hI9⟩ := (hE ad I A G T J B w (xs (i + 1).toNatClampNeg) (xs (i + 2).toNatClampNeg) hI)
  have hl : lv_has ls 7 [(4, .int i), (3, .ref ao), (2, .ref (am 0)), (1, .ref (ad 0)), (0, .ref b)] := hl
  refine lv_aload_n hx hb dL_law_3685 rfl (lv_at hl 3 rfl) ?_
  refine lv_aload_n hx hb dL_law_3686 rfl (lv_at hl 4 rfl) ?_
  refine lv_iload hx hb dL_law_3687 (lv_at hl 0 rfl) ?_
  refine lv_iconst (v := 1) hx hb dL_law_3689 (by decide) ?_
  refine lv_iadd hx hb dL_law_3690 ?_
  refine va_sld hx hb hX hbl hbA V.2.2.2.1 (hin 1 (by decide)) dL_law_3691 ?_
  refine lv_aload_n hx hb dL_law_3692 rfl (lv_at hl 4 rfl) ?_
  refine lv_iload hx hb dL_law_3693 (lv_at hl 0 rfl) ?_
  refine lv_iconst (v := 2) hx hb dL_law_3695 (by decide) ?_
  refine lv_iadd hx hb dL_law_3696 ?_
  refine va_sld hx hb hX hbl hbA V.2.2.2.1 (hin 2 (by decide)) dL_law_3697 ?_
  have hcN : cells + 0 ≤ 601024 := hc0
  have hsN : slots + 0 ≤ 7293034 := hs0
  have V := ql_V.assoc V
  refine ql_cV (rest := []) (st1 := [.int r9]) (wc := (Wo cy ad I A G T)) (wr := [qd_L cy ao o] ++ (Wm cy am J B w)) S0 V hl 0 gO_0 rfl (c_X7_setSetting l hX7) kg_L_359 rfl ⟨rfl, rfl⟩ kd_X7_setSetting ⟨(Nat.le_of_ble_eq_true rfl), (Nat.le_of_ble_eq_true rfl)⟩ rfl rfl (Nat.le_of_ble_eq_true rfl) ⟨hcN, hsN⟩ rfl dL_law_3698 (fun H locs V => ?_)
  have V := ql_V.cossa V
  refine lv_aload_n hx hb dL_law_3701 rfl (lv_at hl 2 rfl) ?_
  refine lv_aload_n hx hb dL_law_3702 rfl (lv_at hl 4 rfl) ?_
  refine lv_iload hx hb dL_law_3703 (lv_at hl 0 rfl) ?_
  refine lv_iconst (v := 1) hx hb dL_law_3705 (by decide) ?_
  refine lv_iadd hx hb dL_law_3706 ?_
  refine va_sld hx hb hX hbl hbA V.2.2.2.1 (hin 1 (by decide)) dL_law_3707 ?_
  refine lv_aload_n hx hb dL_law_3708 rfl (lv_at hl 4 rfl) ?_
  refine lv_iload hx hb dL_law_3709 (lv_at hl 0 rfl) ?_
  refine lv_iconst (v := 2) hx hb dL_law_3711 (by decide) ?_
  refine lv_iadd hx hb dL_law_3712 ?_
  refine va_sld hx hb hX hbl hbA V.2.2.2.1 (hin 2 (by decide)) dL_law_3713 ?_
  have V := ql_V.swap V
  refine ql_cV (rest := [.int r9]) (st1 := (.int rb :: [.int r9])) (wc := (Wm cy am J B w)) (wr := ((Wo cy ad I9 A9 G9 T) ++ [qd_L cy ao o])) S0 V hl 0 gM_0 rfl (c_X8_setSetting l hM8) kg_L_362 rfl ⟨rfl, rfl⟩ kd_X8_setSetting ⟨(Nat.le_of_ble_eq_true rfl), (Nat.le_of_ble_eq_true rfl)⟩ rfl rfl (Nat.le_of_ble_eq_true rfl) ⟨hcN, hsN⟩ rfl dL_law_3714 (fun H locs V => ?_)
  have V := ql_V.swap V
  refine lv_icmp_eq (tgt := 3735) hx hb dL_law_3717 (by decide) (fun _ => ?_) (fun c9 => absurd hEq c9)
  refine W.widen (k := cells + 1) (n := slots + 6) (Nat.le_add_right _ _) (Nat.le_add_right _ _) ?_
  exact K _ _ _ _ _ _ _ _ _ _ _ _ rfl hI9 V hl
set_option maxHeartbeats 4000000 in
set_option maxRecDepth 100000 in
theorem ql_63 {p : Program} {l : Launch} {e : Env} {s : State} {m : MethodId} {below : List Frame} {meth : Method} {c : Code} {Q : State → Prop} {D : va_G} {cy : Nat → ClassId} {Z : Nat → Prop} {b L : Nat} {xs : Nat → Int32} (hst : l.stackTraces = false) (S0 : CallFix p m c code 7 s #[Value.ref b] qw_big RL) (hX : va_X b L xs s s.heap) (hbl : b < s.heap.size) (hbA : ¬ Z b) {Inv : ql_Inv} (hE : QE_undo Inv) {ad am : Nat → Nat} {I : Nat → Int32} {A : Nat → Nat → Int32} {G : Nat → Int32 × (Nat → Nat → Int32)} {T : Nat} {J : Nat → Int32} {B : Nat → Nat → Int32} {w : Int64} {ao : Nat} {o : Nat → Int64} {H : Heap} {locs : List Loc} {cells slots : Nat} {ls : Array Slot} (hI : Inv I A G T J B w) (V : qw_V D cy Z s (((Wo cy ad I A G T) ++ [qd_L cy ao o]) ++ (Wm cy am J B w)) H locs) {i : Int32} (hin : ∀ j : Nat, j ≤ 5 → vp_in (i + Int32.ofNat j) L) (hl : lv_has ls 7 (ql_base i ao (am 0) (ad 0) b)) (hc : cells + 1 ≤ 601024) (hs : slots + 6 ≤ 7293034) (K : ∀ (ad2 : Nat → Nat) (I : Nat → Int32) (A : Nat → Nat → Int32) (G : Nat → Int32 × (Nat → Nat → Int32)) (T : Nat) (J : Nat → Int32) (B : Nat → Nat → Int32) (w : Int64) (o : Nat → Int64) (H : Heap) (locs : List Loc) (ls : Array Slot), ad2 0 = ad 0 → Inv I A G T J B w → qw_V D cy Z s ((Wo cy ad2 I A G T ++ [qd_L cy ao o]) ++ Wm cy am J B w) H locs → lv_has ls 7 (ql_base i ao (am 0) (ad 0) b) → W p l e room_1 s m #[Value.ref b] below meth c H locs (cells + 1) (slots + 6) Q (F0 m 3735 ls [])) : W p l e room_1 s m #[Value.ref b] below meth c H locs cells slots Q (F0 m 3722 ls []) := by
  have hx := S0.1; have hb := S0.2.1
  have hc0 : cells ≤ 601024 := Nat.le_trans (Nat.le_add_right _ _) hc; have hs0 : slots ≤ 7293034 := Nat.le_trans (Nat.le_add_right _ _) hs
  obtain ⟨r9, I9, A9, hX7, rb, J9, B9, hM8, hEq, hI9⟩ := (hE ad I A G T J B w hI)
  have hl : lv_has ls 7 [(4, .int i), (3, .ref ao), (2, .ref (am 0)), (1, .ref (ad 0)), (0, .ref b)] := hl
  refine lv_aload_n hx hb dL_law_3722 rfl (lv_at hl 3 rfl) ?_
  have hcN : cells + 0 ≤ 601024 := hc0
  have hsN : slots + 0 ≤ 7293034 := hs0
  have V := ql_V.assoc V
  refine ql_cV (rest := []) (st1 := [.int r9]) (wc := (Wo cy ad I A G T)) (wr := [qd_L cy ao o] ++ (Wm cy am J B w)) S0 V hl 0 gO_0 rfl (c_X7_undo l hX7) kg_L_363 rfl ⟨rfl, rfl⟩ kd_X7_undo ⟨(Nat.le_of_ble_eq_true rfl), (Nat.le_of_ble_eq_true rfl)⟩ rfl rfl (Nat.le_of_ble_eq_true rfl) ⟨hcN, hsN⟩ rfl dL_law_3723 (fun H locs V => ?_)
  have V := ql_V.cossa V
  refine lv_aload_n hx hb dL_law_3726 rfl (lv_at hl 2 rfl) ?_
  have V := ql_V.swap V
  refine ql_cV (rest := [.int r9]) (st1 := (.int rb :: [.int r9])) (wc := (Wm cy am J B w)) (wr := ((Wo cy ad I9 A9 G T) ++ [qd_L cy ao o])) S0 V hl 0 gM_0 rfl (c_X8_undo l hM8) kg_L_366 rfl ⟨rfl, rfl⟩ kd_X8_undo ⟨(Nat.le_of_ble_eq_true rfl), (Nat.le_of_ble_eq_true rfl)⟩ rfl rfl (Nat.le_of_ble_eq_true rfl) ⟨hcN, hsN⟩ rfl dL_law_3727 (fun H locs V => ?_)
  have V := ql_V.swap V
  refine lv_icmp_eq (tgt := 3735) hx hb dL_law_3730 (by decide) (fun _ => ?_) (fun c9 => absurd hEq c9)
  refine W.widen (k := cells + 1) (n := slots + 6) (Nat.le_add_right _ _) (Nat.le_add_right _ _) ?_
  exact K _ _ _ _ _ _ _ _ _ _ _ _ rfl hI9 V hl
