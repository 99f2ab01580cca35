abbrev ql_Inv : Type := (Nat → Int32) → (Nat → Nat → Int32) → (Nat → Int32 × (Nat → Nat → Int32)) → Nat → (Nat → Int32) → (Nat → Nat → Int32) → Int64 → Prop
theorem ql_cmp (x : Int64) : lg_cmp x x = 0 := by unfold lg_cmp; simp
abbrev ql_base (i : Int32) (ao a2 a1 b : Nat) : List (Nat × Value) := [(4, .int i), (3, .ref ao), (2, .ref a2), (1, .ref a1), (0, .ref b)]
def QE_feed (Inv : ql_Inv) : Prop := ∀ (ad : Nat → Nat) (I : Nat → Int32) (A : Nat → Nat → Int32) (G : Nat → Int32 × (Nat → Nat → Int32)) (T : Nat) (J : Nat → Int32) (B : Nat → Nat → Int32) (w : Int64) (p1 p2 p3 p4 p5 : Int32), Inv I A G T J B w → ∃ (r9 : Int32) (I9 : Nat → Int32) (A9 : Nat → Nat → Int32), f_X7_feed I A p1 p2 p3 p4 p5 = some (r9, I9, A9) ∧ ∃ (rb : Int32) (J9 : Nat → Int32) (B9 : Nat → Nat → Int32), f_X8_feed J B p1 p2 p3 p4 p5 = some (rb, J9, B9) ∧ r9 = rb ∧ Inv I9 A9 G T J9 B9 w
def QE_load (Inv : ql_Inv) : Prop := ∀ (ad : Nat → Nat) (I : Nat → Int32) (A : Nat → Nat → Int32) (G : Nat → Int32 × (Nat → Nat → Int32)) (T : Nat) (J : Nat → Int32) (B : Nat → Nat → Int32) (w : Int64) (p1 : Int32), Inv I A G T J B w → ∃ (r9 : Int32) (I9 : Nat → Int32) (A9 : Nat → Nat → Int32) (T9 : Nat) (ad9 : Nat → Nat), f_X7_load I A T ad p1 = some (r9, I9, A9, T9, ad9) ∧ ∃ (rb : Int32) (J9 : Nat → Int32) (B9 : Nat → Nat → Int32) (w9 : Int64), f_X8_load J B w p1 = some (rb, J9, B9, w9) ∧ r9 = rb ∧ Inv I9 A9 G T9 J9 B9 w9 ∧ ad9 0 = ad 0
def QE_errorPosition (Inv : ql_Inv) : Prop := ∀ (ad : Nat → Nat) (I : Nat → Int32) (A : Nat → Nat → Int32) (G : Nat → Int32 × (Nat → Nat → Int32)) (T : Nat) (J : Nat → Int32) (B : Nat → Nat → Int32) (w : Int64), Inv I A G T J B w → ∃ (r9 : Int32), f_X7_errorPosition I = some r9 ∧ ∃ (rb : Int32) (J9 : Nat → Int32), f_X8_errorPosition J = some (rb, J9) ∧ r9 = rb ∧ Inv I A G T J9 B w
def QE_groupCount (Inv : ql_Inv) : Prop := ∀ (ad : Nat → Nat) (I : Nat → Int32) (A : Nat → Nat → Int32) (G : Nat → Int32 × (Nat → Nat → Int32)) (T : Nat) (J : Nat → Int32) (B : Nat → Nat → Int32) (w : Int64), Inv I A G T J B w → ∃ (r9 : Int32), f_X7_groupCount I = some r9 ∧ ∃ (rb : Int32) (J9 : Nat → Int32), f_X8_groupCount B J = some (rb, J9) ∧ r9 = rb ∧ Inv I A G T J9 B w
def QE_goodCount (Inv : ql_Inv) : Prop := ∀ (ad : Nat → Nat) (I : Nat → Int32) (A : Nat → Nat → Int32) (G : Nat → Int32 × (Nat → Nat → Int32)) (T : Nat) (J : Nat → Int32) (B : Nat → Nat → Int32) (w : Int64), Inv I A G T J B w → ∃ (r9 : Int32), f_X7_goodCount I = some r9 ∧ ∃ (rb : Int32) (J9 : Nat → Int32), f_X8_goodCount B J = some (rb, J9) ∧ r9 = rb ∧ Inv I A G T J9 B w
def QE_houseCount (Inv : ql_Inv) : Prop := ∀ (ad : Nat → Nat) (I : Nat → Int32) (A : Nat → Nat → Int32) (G : Nat → Int32 × (Nat → Nat → Int32)) (T : Nat) (J : Nat → Int32) (B : Nat → Nat → Int32) (w : Int64), Inv I A G T J B w → ∃ (r9 : Int32), f_X7_houseCount I = some r9 ∧ ∃ (rb : Int32) (J9 : Nat → Int32), f_X8_houseCount B J = some (rb, J9) ∧ r9 = rb ∧ Inv I A G T J9 B w
def QE_shopCount (Inv : ql_Inv) : Prop := ∀ (ad : Nat → Nat) (I : Nat → Int32) (A : Nat → Nat → Int32) (G : Nat → Int32 × (Nat → Nat → Int32)) (T : Nat) (J : Nat → Int32) (B : Nat → Nat → Int32) (w : Int64), Inv I A G T J B w → ∃ (r9 : Int32), f_X7_shopCount I = some r9 ∧ ∃ (rb : Int32) (J9 : Nat → Int32), f_X8_shopCount B J = some (rb, J9) ∧ r9 = rb ∧ Inv I A G T J9 B w
def QE_undoCount (Inv : ql_Inv) : Prop := ∀ (ad : Nat → Nat) (I : Nat → Int32) (A : Nat → Nat → Int32) (G : Nat → Int32 × (Nat → Nat → Int32)) (T : Nat) (J : Nat → Int32) (B : Nat → Nat → Int32) (w : Int64), Inv I A G T J B w → ∃ (r9 : Int32), f_X7_undoCount I = some r9 ∧ ∃ (rb : Int32) (J9 : Nat → Int32), f_X8_undoCount J = some (rb, J9) ∧ r9 = rb ∧ Inv I A G T J9 B w
def QE_period (Inv : ql_Inv) : Prop := ∀ (ad : Nat → Nat) (I : Nat → Int32) (A : Nat → Nat → Int32) (G : Nat → Int32 × (Nat → Nat → Int32)) (T : Nat) (J : Nat → Int32) (B : Nat → Nat → Int32) (w : Int64), Inv I A G T J B w → ∃ (r9 : Int32), f_X7_period I = some r9 ∧ ∃ (rb : Int32) (J9 : Nat → Int32), f_X8_period B J = some (rb, J9) ∧ r9 = rb ∧ Inv I A G T J9 B w
def QE_groupNamed (Inv : ql_Inv) : Prop := ∀ (ad : Nat → Nat) (I : Nat → Int32) (A : Nat → Nat → Int32) (G : Nat → Int32 × (Nat → Nat → Int32)) (T : Nat) (J : Nat → Int32) (B : Nat → Nat → Int32) (w : Int64) (p1 : Int32), Inv I A G T J B w → ∃ (r9 : Int32), f_X7_groupNamed I A p1 = some r9 ∧ ∃ (rb : Int32) (J9 : Nat → Int32), f_X8_groupNamed B J p1 = some (rb, J9) ∧ r9 = rb ∧ Inv I A G T J9 B w
def QE_goodNamed (Inv : ql_Inv) : Prop := ∀ (ad : Nat → Nat) (I : Nat → Int32) (A : Nat → Nat → Int32) (G : Nat → Int32 × (Nat → Nat → Int32)) (T : Nat) (J : Nat → Int32) (B : Nat → Nat → Int32) (w : Int64) (p1 : Int32), Inv I A G T J B w → ∃ (r9 : Int32), f_X7_goodNamed I A p1 = some r9 ∧ ∃ (rb : Int32) (J9 : Nat → Int32), f_X8_goodNamed B J p1 = some (rb, J9) ∧ r9 = rb ∧ Inv I A G T J9 B w
def QE_houseNamed (Inv : ql_Inv) : Prop := ∀ (ad : Nat → Nat) (I : Nat → Int32) (A : Nat → Nat → Int32) (G : Nat → Int32 × (Nat → Nat → Int32)) (T : Nat) (J : Nat → Int32) (B : Nat → Nat → Int32) (w : Int64) (p1 : Int32), Inv I A G T J B w → ∃ (r9 : Int32), f_X7_houseNamed I A p1 = some r9 ∧ ∃ (rb : Int32) (J9 : Nat → Int32), f_X8_houseNamed B J p1 = some (rb, J9) ∧ r9 = rb ∧ Inv I A G T J9 B w
def QE_shopNamed (Inv : ql_Inv) : Prop := ∀ (ad : Nat → Nat) (I : Nat → Int32) (A : Nat → Nat → Int32) (G : Nat → Int32 × (Nat → Nat → Int32)) (T : Nat) (J : Nat → Int32) (B : Nat → Nat → Int32) (w : Int64) (p1 : Int32), Inv I A G T J B w → ∃ (r9 : Int32), f_X7_shopNamed I A p1 = some r9 ∧ ∃ (rb : Int32) (J9 : Nat → Int32), f_X8_shopNamed B J p1 = some (rb, J9) ∧ r9 = rb ∧ Inv I A G T J9 B w
def QE_groupProperty (Inv : ql_Inv) : Prop := ∀ (ad : Nat → Nat) (I : Nat → Int32) (A : Nat → Nat → Int32) (G : Nat → Int32 × (Nat → Nat → Int32)) (T : Nat) (J : Nat → Int32) (B : Nat → Nat → Int32) (w : Int64) (p1 p2 : Int32), Inv I A G T J B w → ∃ (ro : (Option (Int32))), f_X7_groupProperty I A p1 p2 = some ro ∧ ∃ (rb : Int32) (J9 : Nat → Int32), f_X8_groupProperty B J p1 p2 = some (rb, J9) ∧ (ro = none → J9 1 = 1 ∧ Inv I A G T J9 B w) ∧ (∀ v9, ro = some v9 → J9 1 = 0 ∧ v9 = rb ∧ Inv I A G T J9 B w)
theorem kd_L_groupProperty : yL_groupProperty.cls ≠ "java/lang/invoke/MethodHandle" ∧ yL_groupProperty.cls ≠ "java/lang/invoke/VarHandle" ∧ (parseMethodDescriptor yL_groupProperty.desc).map (fun d => d.parameters.length) = some 4 := by decide +kernel
def QE_goodProperty (Inv : ql_Inv) : Prop := ∀ (ad : Nat → Nat) (I : Nat → Int32) (A : Nat → Nat → Int32) (G : Nat → Int32 × (Nat → Nat → Int32)) (T : Nat) (J : Nat → Int32) (B : Nat → Nat → Int32) (w : Int64) (p1 p2 : Int32), Inv I A G T J B w → ∃ (ro : (Option (Int32))), f_X7_goodProperty I A p1 p2 = some ro ∧ ∃ (rb : Int32) (J9 : Nat → Int32), f_X8_goodProperty B J p1 p2 = some (rb, J9) ∧ (ro = none → J9 1 = 1 ∧ Inv I A G T J9 B w) ∧ (∀ v9, ro = some v9 → J9 1 = 0 ∧ v9 = rb ∧ Inv I A G T J9 B w)
theorem kd_L_goodProperty : yL_goodProperty.cls ≠ "java/lang/invoke/MethodHandle" ∧ yL_goodProperty.cls ≠ "java/lang/invoke/VarHandle" ∧ (parseMethodDescriptor yL_goodProperty.desc).map (fun d => d.parameters.length) = some 4 := by decide +kernel
def QE_sizeOf (Inv : ql_Inv) : Prop := ∀ (ad : Nat → Nat) (I : Nat → Int32) (A : Nat → Nat → Int32) (G : Nat → Int32 × (Nat → Nat → Int32)) (T : Nat) (J : Nat → Int32) (B : Nat → Nat → Int32) (w : Int64) (p1 : Int32), Inv I A G T J B w → ∃ (ro : (Option (Int32))), f_X7_sizeOf I A p1 = some ro ∧ ∃ (rb : Int32) (J9 : Nat → Int32), f_X8_sizeOf B J p1 = some (rb, J9) ∧ (ro = none → J9 1 = 1 ∧ Inv I A G T J9 B w) ∧ (∀ v9, ro = some v9 → J9 1 = 0 ∧ v9 = rb ∧ Inv I A G T J9 B w)
theorem kd_L_sizeOf : yL_sizeOf.cls ≠ "java/lang/invoke/MethodHandle" ∧ yL_sizeOf.cls ≠ "java/lang/invoke/VarHandle" ∧ (parseMethodDescriptor yL_sizeOf.desc).map (fun d => d.parameters.length) = some 3 := by decide +kernel
def QE_getSetting (Inv : ql_Inv) : Prop := ∀ (ad : Nat → Nat) (I : Nat → Int32) (A : Nat → Nat → Int32) (G : Nat → Int32 × (Nat → Nat → Int32)) (T : Nat) (J : Nat → Int32) (B : Nat → Nat → Int32) (w : Int64) (p1 : Int32), Inv I A G T J B w → ∃ (r9 : Int32), f_X7_getSetting A p1 = some r9 ∧ ∃ (rb : Int32) (J9 : Nat → Int32), f_X8_getSetting B J p1 = some (rb, J9) ∧ r9 = rb ∧ Inv I A G T J9 B w
def QE_coupons (Inv : ql_Inv) : Prop := ∀ (ad : Nat → Nat) (I : Nat → Int32) (A : Nat → Nat → Int32) (G : Nat → Int32 × (Nat → Nat → Int32)) (T : Nat) (J : Nat → Int32) (B : Nat → Nat → Int32) (w : Int64) (p1 p2 : Int32), Inv I A G T J B w → ∃ (ro : (Option (Int32))), f_X7_coupons I A p1 p2 = some ro ∧ ∃ (rb : Int32) (J9 : Nat → Int32), f_X8_coupons B J p1 p2 = some (rb, J9) ∧ (ro = none → J9 1 = 1 ∧ Inv I A G T J9 B w) ∧ (∀ v9, ro = some v9 → J9 1 = 0 ∧ v9 = rb ∧ Inv I A G T J9 B w)
theorem kd_L_coupons : yL_coupons.cls ≠ "java/lang/invoke/MethodHandle" ∧ yL_coupons.cls ≠ "java/lang/invoke/VarHandle" ∧ (parseMethodDescriptor yL_coupons.desc).map (fun d => d.parameters.length) = some 4 := by decide +kernel
def QE_couponsWith (Inv : ql_Inv) : Prop := ∀ (ad : Nat → Nat) (I : Nat → Int32) (A : Nat → Nat → Int32) (G : Nat → Int32 × (Nat → Nat → Int32)) (T : Nat) (J : Nat → Int32) (B : Nat → Nat → Int32) (w : Int64) (p1 p2 p3 : Int32), Inv I A G T J B w → ∃ (ro : (Option (Int32))), f_X7_couponsWith I A p1 p2 p3 = some ro ∧ ∃ (rb : Int32) (J9 : Nat → Int32), f_X8_couponsWith B J p1 p2 p3 = some (rb, J9) ∧ (ro = none → J9 1 = 1 ∧ Inv I A G T J9 B w) ∧ (∀ v9, ro = some v9 → J9 1 = 0 ∧ v9 = rb ∧ Inv I A G T J9 B w)
theorem kd_L_couponsWith : yL_couponsWith.cls ≠ "java/lang/invoke/MethodHandle" ∧ yL_couponsWith.cls ≠ "java/lang/invoke/VarHandle" ∧ (parseMethodDescriptor yL_couponsWith.desc).map (fun d => d.parameters.length) = some 5 := by decide +kernel
def QE_lapsing (Inv : ql_Inv) : Prop := ∀ (ad : Nat → Nat) (I : Nat → Int32) (A : Nat → Nat → Int32) (G : Nat → Int32 × (Nat → Nat → Int32)) (T : Nat) (J : Nat → Int32) (B : Nat → Nat → Int32) (w : Int64) (p1 p2 : Int32), Inv I A G T J B w → ∃ (ro : (Option (Int32 × (Nat → Nat → Int32)))), f_X7_lapsing I A p1 p2 = some ro ∧ ∃ (rb : Int32) (J9 : Nat → Int32), f_X8_lapsing B J p1 p2 = some (rb, J9) ∧ (ro = none → J9 1 = 1 ∧ Inv I A G T J9 B w) ∧ (∀ v9, ro = some v9 → J9 1 = 0 ∧ v9.1 = rb ∧ Inv I (v9.2) G T J9 B w)
theorem kd_L_lapsing : yL_lapsing.cls ≠ "java/lang/invoke/MethodHandle" ∧ yL_lapsing.cls ≠ "java/lang/invoke/VarHandle" ∧ (parseMethodDescriptor yL_lapsing.desc).map (fun d => d.parameters.length) = some 4 := by decide +kernel
def QE_couponsAfter (Inv : ql_Inv) : Prop := ∀ (ad : Nat → Nat) (I : Nat → Int32) (A : Nat → Nat → Int32) (G : Nat → Int32 × (Nat → Nat → Int32)) (T : Nat) (J : Nat → Int32) (B : Nat → Nat → Int32) (w : Int64) (p1 p2 p3 : Int32), Inv I A G T J B w → ∃ (ro : (Option (Int32 × (Nat → Nat → Int32)))), f_X7_couponsAfter I A p1 p2 p3 = some ro ∧ ∃ (rb : Int32) (J9 : Nat → Int32) (B9 : Nat → Nat → Int32), f_X8_couponsAfter J B p1 p2 p3 = some (rb, J9, B9) ∧ (ro = none → J9 1 = 1 ∧ Inv I A G T J9 B9 w) ∧ (∀ v9, ro = some v9 → J9 1 = 0 ∧ v9.1 = rb ∧ Inv I (v9.2) G T J9 B9 w)
theorem kd_L_couponsAfter : yL_couponsAfter.cls ≠ "java/lang/invoke/MethodHandle" ∧ yL_couponsAfter.cls ≠ "java/lang/invoke/VarHandle" ∧ (parseMethodDescriptor yL_couponsAfter.desc).map (fun d => d.parameters.length) = some 5 := by decide +kernel
def QE_neediest (Inv : ql_Inv) : Prop := ∀ (ad : Nat → Nat) (I : Nat → Int32) (A : Nat → Nat → Int32) (G : Nat → Int32 × (Nat → Nat → Int32)) (T : Nat) (J : Nat → Int32) (B : Nat → Nat → Int32) (w : Int64) (p1 : Int32), Inv I A G T J B w → ∃ (ro : (Option (Int32))), f_X7_neediest I A p1 = some ro ∧ ∃ (rb : Int32) (J9 : Nat → Int32), f_X8_neediest B J p1 = some (rb, J9) ∧ (ro = none → J9 1 = 1 ∧ Inv I A G T J9 B w) ∧ (∀ v9, ro = some v9 → J9 1 = 0 ∧ v9 = rb ∧ Inv I A G T J9 B w)
theorem kd_L_neediest : yL_neediest.cls ≠ "java/lang/invoke/MethodHandle" ∧ yL_neediest.cls ≠ "java/lang/invoke/VarHandle" ∧ (parseMethodDescriptor yL_neediest.desc).map (fun d => d.parameters.length) = some 3 := by decide +kernel
def QE_givenBy (Inv : ql_Inv) : Prop := ∀ (ad : Nat → Nat) (I : Nat → Int32) (A : Nat → Nat → Int32) (G : Nat → Int32 × (Nat → Nat → Int32)) (T : Nat) (J : Nat → Int32) (B : Nat → Nat → Int32) (w : Int64) (p1 : Int32), Inv I A G T J B w → ∃ (ro : (Option (Int32))), f_X7_givenBy I A p1 = some ro ∧ ∃ (rb : Int32) (J9 : Nat → Int32), f_X8_givenBy B J p1 = some (rb, J9) ∧ (ro = none → J9 1 = 1 ∧ Inv I A G T J9 B w) ∧ (∀ v9, ro = some v9 → J9 1 = 0 ∧ v9 = rb ∧ Inv I A G T J9 B w)
theorem kd_L_givenBy : yL_givenBy.cls ≠ "java/lang/invoke/MethodHandle" ∧ yL_givenBy.cls ≠ "java/lang/invoke/VarHandle" ∧ (parseMethodDescriptor yL_givenBy.desc).map (fun d => d.parameters.length) = some 3 := by decide +kernel
def QE_takenBy (Inv : ql_Inv) : Prop := ∀ (ad : Nat → Nat) (I : Nat → Int32) (A : Nat → Nat → Int32) (G : Nat → Int32 × (Nat → Nat → Int32)) (T : Nat) (J : Nat → Int32) (B : Nat → Nat → Int32) (w : Int64) (p1 : Int32), Inv I A G T J B w → ∃ (ro : (Option (Int32))), f_X7_takenBy I A p1 = some ro ∧ ∃ (rb : Int32) (J9 : Nat → Int32), f_X8_takenBy B J p1 = some (rb, J9) ∧ (ro = none → J9 1 = 1 ∧ Inv I A G T J9 B w) ∧ (∀ v9, ro = some v9 → J9 1 = 0 ∧ v9 = rb ∧ Inv I A G T J9 B w)
theorem kd_L_takenBy : yL_takenBy.cls ≠ "java/lang/invoke/MethodHandle" ∧ yL_takenBy.cls ≠ "java/lang/invoke/VarHandle" ∧ (parseMethodDescriptor yL_takenBy.desc).map (fun d => d.parameters.length) = some 3 := by decide +kernel
def QE_tradeRoom (Inv : ql_Inv) : Prop := ∀ (ad : Nat → Nat) (I : Nat → Int32) (A : Nat → Nat → Int32) (G : Nat → Int32 × (Nat → Nat → Int32)) (T : Nat) (J : Nat → Int32) (B : Nat → Nat → Int32) (w : Int64) (p1 p2 p3 : Int32), Inv I A G T J B w → ∃ (ro : (Option (Int32))), f_X7_tradeRoom I A p1 p2 p3 = some ro ∧ ∃ (rb : Int32) (J9 : Nat → Int32), f_X8_tradeRoom B J p1 p2 p3 = some (rb, J9) ∧ (ro = none → J9 1 = 1 ∧ Inv I A G T J9 B w) ∧ (∀ v9, ro = some v9 → J9 1 = 0 ∧ v9 = rb ∧ Inv I A G T J9 B w)
theorem kd_L_tradeRoom : yL_tradeRoom.cls ≠ "java/lang/invoke/MethodHandle" ∧ yL_tradeRoom.cls ≠ "java/lang/invoke/VarHandle" ∧ (parseMethodDescriptor yL_tradeRoom.desc).map (fun d => d.parameters.length) = some 5 := by decide +kernel
def QE_helpers (Inv : ql_Inv) : Prop := ∀ (ad : Nat → Nat) (I : Nat → Int32) (A : Nat → Nat → Int32) (G : Nat → Int32 × (Nat → Nat → Int32)) (T : Nat) (J : Nat → Int32) (B : Nat → Nat → Int32) (w : Int64) (p1 p2 p3 : Int32), Inv I A G T J B w → ∃ (ro : (Option (Int32))), f_X7_helpers I A p1 p2 p3 = some ro ∧ ∃ (rb : Int32) (J9 : Nat → Int32), f_X8_helpers B J p1 p2 p3 = some (rb, J9) ∧ (ro = none → J9 1 = 1 ∧ Inv I A G T J9 B w) ∧ (∀ v9, ro = some v9 → J9 1 = 0 ∧ v9 = rb ∧ Inv I A G T J9 B w)
theorem kd_L_helpers : yL_helpers.cls ≠ "java/lang/invoke/MethodHandle" ∧ yL_helpers.cls ≠ "java/lang/invoke/VarHandle" ∧ (parseMethodDescriptor yL_helpers.desc).map (fun d => d.parameters.length) = some 5 := by decide +kernel
def QE_stockOf (Inv : ql_Inv) : Prop := ∀ (ad : Nat → Nat) (I : Nat → Int32) (A : Nat → Nat → Int32) (G : Nat → Int32 × (Nat → Nat → Int32)) (T : Nat) (J : Nat → Int32) (B : Nat → Nat → Int32) (w : Int64) (p1 p2 : Int32), Inv I A G T J B w → ∃ (ro : (Option (Int32))), f_X7_stockOf I A p1 p2 = some ro ∧ ∃ (rb : Int32) (J9 : Nat → Int32), f_X8_stockOf B J p1 p2 = some (rb, J9) ∧ (ro = none → J9 1 = 1 ∧ Inv I A G T J9 B w) ∧ (∀ v9, ro = some v9 → J9 1 = 0 ∧ v9 = rb ∧ Inv I A G T J9 B w)
theorem kd_L_stockOf : yL_stockOf.cls ≠ "java/lang/invoke/MethodHandle" ∧ yL_stockOf.cls ≠ "java/lang/invoke/VarHandle" ∧ (parseMethodDescriptor yL_stockOf.desc).map (fun d => d.parameters.length) = some 4 := by decide +kernel
def QE_accountOf (Inv : ql_Inv) : Prop := ∀ (ad : Nat → Nat) (I : Nat → Int32) (A : Nat → Nat → Int32) (G : Nat → Int32 × (Nat → Nat → Int32)) (T : Nat) (J : Nat → Int32) (B : Nat → Nat → Int32) (w : Int64) (p1 p2 : Int32), Inv I A G T J B w → ∃ (ro : (Option (Int32))), f_X7_accountOf I A p1 p2 = some ro ∧ ∃ (rb : Int32) (J9 : Nat → Int32), f_X8_accountOf B J p1 p2 = some (rb, J9) ∧ (ro = none → J9 1 = 1 ∧ Inv I A G T J9 B w) ∧ (∀ v9, ro = some v9 → J9 1 = 0 ∧ v9 = rb ∧ Inv I A G T J9 B w)
theorem kd_L_accountOf : yL_accountOf.cls ≠ "java/lang/invoke/MethodHandle" ∧ yL_accountOf.cls ≠ "java/lang/invoke/VarHandle" ∧ (parseMethodDescriptor yL_accountOf.desc).map (fun d => d.parameters.length) = some 4 := by decide +kernel
def QE_penaltyOf (Inv : ql_Inv) : Prop := ∀ (ad : Nat → Nat) (I : Nat → Int32) (A : Nat → Nat → Int32) (G : Nat → Int32 × (Nat → Nat → Int32)) (T : Nat) (J : Nat → Int32) (B : Nat → Nat → Int32) (w : Int64) (p1 : Int32), Inv I A G T J B w → ∃ (ro : (Option (Int32))), f_X7_penaltyOf I A p1 = some ro ∧ ∃ (rb : Int32) (J9 : Nat → Int32), f_X8_penaltyOf B J p1 = some (rb, J9) ∧ (ro = none → J9 1 = 1 ∧ Inv I A G T J9 B w) ∧ (∀ v9, ro = some v9 → J9 1 = 0 ∧ v9 = rb ∧ Inv I A G T J9 B w)
theorem kd_L_penaltyOf : yL_penaltyOf.cls ≠ "java/lang/invoke/MethodHandle" ∧ yL_penaltyOf.cls ≠ "java/lang/invoke/VarHandle" ∧ (parseMethodDescriptor yL_penaltyOf.desc).map (fun d => d.parameters.length) = some 3 := by decide +kernel
def QE_isSuspended (Inv : ql_Inv) : Prop := ∀ (ad : Nat → Nat) (I : Nat → Int32) (A : Nat → Nat → Int32) (G : Nat → Int32 × (Nat → Nat → Int32)) (T : Nat) (J : Nat → Int32) (B : Nat → Nat → Int32) (w : Int64) (p1 : Int32), Inv I A G T J B w → ∃ (ro : (Option (Int32))), f_X7_isSuspended I A p1 = some ro ∧ ∃ (rb : Int32) (J9 : Nat → Int32), f_X8_isSuspended B J p1 = some (rb, J9) ∧ (ro = none → J9 1 = 1 ∧ Inv I A G T J9 B w) ∧ (∀ v9, ro = some v9 → J9 1 = 0 ∧ v9 = rb ∧ Inv I A G T J9 B w)
theorem kd_L_isSuspended : yL_isSuspended.cls ≠ "java/lang/invoke/MethodHandle" ∧ yL_isSuspended.cls ≠ "java/lang/invoke/VarHandle" ∧ (parseMethodDescriptor yL_isSuspended.desc).map (fun d => d.parameters.length) = some 3 := by decide +kernel
def QE_soldBy (Inv : ql_Inv) : Prop := ∀ (ad : Nat → Nat) (I : Nat → Int32) (A : Nat → Nat → Int32) (G : Nat → Int32 × (Nat → Nat → Int32)) (T : Nat) (J : Nat → Int32) (B : Nat → Nat → Int32) (w : Int64) (p1 p2 : Int32), Inv I A G T J B w → ∃ (ro : (Option (Int32))), f_X7_soldBy I A p1 p2 = some ro ∧ ∃ (rb : Int32) (J9 : Nat → Int32), f_X8_soldBy B J p1 p2 = some (rb, J9) ∧ (ro = none → J9 1 = 1 ∧ Inv I A G T J9 B w) ∧ (∀ v9, ro = some v9 → J9 1 = 0 ∧ v9 = rb ∧ Inv I A G T J9 B w)
theorem kd_L_soldBy : yL_soldBy.cls ≠ "java/lang/invoke/MethodHandle" ∧ yL_soldBy.cls ≠ "java/lang/invoke/VarHandle" ∧ (parseMethodDescriptor yL_soldBy.desc).map (fun d => d.parameters.length) = some 4 := by decide +kernel
def QE_deliveredTo (Inv : ql_Inv) : Prop := ∀ (ad : Nat → Nat) (I : Nat → Int32) (A : Nat → Nat → Int32) (G : Nat → Int32 × (Nat → Nat → Int32)) (T : Nat) (J : Nat → Int32) (B : Nat → Nat → Int32) (w : Int64) (p1 p2 : Int32), Inv I A G T J B w → ∃ (ro : (Option (Int32))), f_X7_deliveredTo I A p1 p2 = some ro ∧ ∃ (rb : Int32) (J9 : Nat → Int32), f_X8_deliveredTo B J p1 p2 = some (rb, J9) ∧ (ro = none → J9 1 = 1 ∧ Inv I A G T J9 B w) ∧ (∀ v9, ro = some v9 → J9 1 = 0 ∧ v9 = rb ∧ Inv I A G T J9 B w)
theorem kd_L_deliveredTo : yL_deliveredTo.cls ≠ "java/lang/invoke/MethodHandle" ∧ yL_deliveredTo.cls ≠ "java/lang/invoke/VarHandle" ∧ (parseMethodDescriptor yL_deliveredTo.desc).map (fun d => d.parameters.length) = some 4 := by decide +kernel
def QE_turnover (Inv : ql_Inv) : Prop := ∀ (ad : Nat → Nat) (I : Nat → Int32) (A : Nat → Nat → Int32) (G : Nat → Int32 × (Nat → Nat → Int32)) (T : Nat) (J : Nat → Int32) (B : Nat → Nat → Int32) (w : Int64) (p1 : Int32), Inv I A G T J B w → ∃ (ro : (Option (Int32))), f_X7_turnover I A p1 = some ro ∧ ∃ (rb : Int32) (J9 : Nat → Int32), f_X8_turnover B J p1 = some (rb, J9) ∧ (ro = none → J9 1 = 1 ∧ Inv I A G T J9 B w) ∧ (∀ v9, ro = some v9 → J9 1 = 0 ∧ v9 = rb ∧ Inv I A G T J9 B w)
theorem kd_L_turnover : yL_turnover.cls ≠ "java/lang/invoke/MethodHandle" ∧ yL_turnover.cls ≠ "java/lang/invoke/VarHandle" ∧ (parseMethodDescriptor yL_turnover.desc).map (fun d => d.parameters.length) = some 3 := by decide +kernel
def QE_issued (Inv : ql_Inv) : Prop := ∀ (ad : Nat → Nat) (I : Nat → Int32) (A : Nat → Nat → Int32) (G : Nat → Int32 × (Nat → Nat → Int32)) (T : Nat) (J : Nat → Int32) (B : Nat → Nat → Int32) (w : Int64) (p1 : Int32), Inv I A G T J B w → ∃ (ro : (Option (Int32))), f_X7_issued I A p1 = some ro ∧ ∃ (rb : Int32) (J9 : Nat → Int32), f_X8_issued B J p1 = some (rb, J9) ∧ (ro = none → J9 1 = 1 ∧ Inv I A G T J9 B w) ∧ (∀ v9, ro = some v9 → J9 1 = 0 ∧ v9 = rb ∧ Inv I A G T J9 B w)
theorem kd_L_issued : yL_issued.cls ≠ "java/lang/invoke/MethodHandle" ∧ yL_issued.cls ≠ "java/lang/invoke/VarHandle" ∧ (parseMethodDescriptor yL_issued.desc).map (fun d => d.parameters.length) = some 3 := by decide +kernel
def QE_spent (Inv : ql_Inv) : Prop := ∀ (ad : Nat → Nat) (I : Nat → Int32) (A : Nat → Nat → Int32) (G : Nat → Int32 × (Nat → Nat → Int32)) (T : Nat) (J : Nat → Int32) (B : Nat → Nat → Int32) (w : Int64) (p1 : Int32), Inv I A G T J B w → ∃ (ro : (Option (Int32))), f_X7_spent I A p1 = some ro ∧ ∃ (rb : Int32) (J9 : Nat → Int32), f_X8_spent B J p1 = some (rb, J9) ∧ (ro = none → J9 1 = 1 ∧ Inv I A G T J9 B w) ∧ (∀ v9, ro = some v9 → J9 1 = 0 ∧ v9 = rb ∧ Inv I A G T J9 B w)
theorem kd_L_spent : yL_spent.cls ≠ "java/lang/invoke/MethodHandle" ∧ yL_spent.cls ≠ "java/lang/invoke/VarHandle" ∧ (parseMethodDescriptor yL_spent.desc).map (fun d => d.parameters.length) = some 3 := by decide +kernel
def QE_lapsed (Inv : ql_Inv) : Prop := ∀ (ad : Nat → Nat) (I : Nat → Int32) (A : Nat → Nat → Int32) (G : Nat → Int32 × (Nat → Nat → Int32)) (T : Nat) (J : Nat → Int32) (B : Nat → Nat → Int32) (w : Int64) (p1 : Int32), Inv I A G T J B w → ∃ (ro : (Option (Int32))), f_X7_lapsed I A p1 = some ro ∧ ∃ (rb : Int32) (J9 : Nat → Int32), f_X8_lapsed B J p1 = some (rb, J9) ∧ (ro = none → J9 1 = 1 ∧ Inv I A G T J9 B w) ∧ (∀ v9, ro = some v9 → J9 1 = 0 ∧ v9 = rb ∧ Inv I A G T J9 B w)
theorem kd_L_lapsed : yL_lapsed.cls ≠ "java/lang/invoke/MethodHandle" ∧ yL_lapsed.cls ≠ "java/lang/invoke/VarHandle" ∧ (parseMethodDescriptor yL_lapsed.desc).map (fun d => d.parameters.length) = some 3 := by decide +kernel
def QE_held (Inv : ql_Inv) : Prop := ∀ (ad : Nat → Nat) (I : Nat → Int32) (A : Nat → Nat → Int32) (G : Nat → Int32 × (Nat → Nat → Int32)) (T : Nat) (J : Nat → Int32) (B : Nat → Nat → Int32) (w : Int64) (p1 : Int32), Inv I A G T J B w → ∃ (ro : (Option (Int32))), f_X7_held I A p1 = some ro ∧ ∃ (rb : Int32) (J9 : Nat → Int32), f_X8_held B J p1 = some (rb, J9) ∧ (ro = none → J9 1 = 1 ∧ Inv I A G T J9 B w) ∧ (∀ v9, ro = some v9 → J9 1 = 0 ∧ v9 = rb ∧ Inv I A G T J9 B w)
theorem kd_L_held : yL_held.cls ≠ "java/lang/invoke/MethodHandle" ∧ yL_held.cls ≠ "java/lang/invoke/VarHandle" ∧ (parseMethodDescriptor yL_held.desc).map (fun d => d.parameters.length) = some 3 := by decide +kernel
def QE_reasonFor (Inv : ql_Inv) : Prop := ∀ (ad : Nat → Nat) (I : Nat → Int32) (A : Nat → Nat → Int32) (G : Nat → Int32 × (Nat → Nat → Int32)) (T : Nat) (J : Nat → Int32) (B : Nat → Nat → Int32) (w : Int64) (p1 p2 p3 p4 : Int32), Inv I A G T J B w → ∃ (ro : (Option (Int32))), f_X7_reasonFor I A p1 p2 p3 p4 = some ro ∧ ∃ (rb : Int32) (J9 : Nat → Int32), f_X8_reasonFor B J p1 p2 p3 p4 = some (rb, J9) ∧ (ro = none → J9 1 = 1 ∧ Inv I A G T J9 B w) ∧ (∀ v9, ro = some v9 → J9 1 = 0 ∧ v9 = rb ∧ Inv I A G T J9 B w)
theorem kd_L_reasonFor : yL_reasonFor.cls ≠ "java/lang/invoke/MethodHandle" ∧ yL_reasonFor.cls ≠ "java/lang/invoke/VarHandle" ∧ (parseMethodDescriptor yL_reasonFor.desc).map (fun d => d.parameters.length) = some 6 := by decide +kernel
def QE_mostUnits (Inv : ql_Inv) : Prop := ∀ (ad : Nat → Nat) (I : Nat → Int32) (A : Nat → Nat → Int32) (G : Nat → Int32 × (Nat → Nat → Int32)) (T : Nat) (J : Nat → Int32) (B : Nat → Nat → Int32) (w : Int64) (p1 p2 p3 : Int32), Inv I A G T J B w → ∃ (ro : (Option (Int32))), f_X7_mostUnits I A p1 p2 p3 = some ro ∧ ∃ (rb : Int32) (J9 : Nat → Int32), f_X8_mostUnits B J p1 p2 p3 = some (rb, J9) ∧ (ro = none → J9 1 = 1 ∧ Inv I A G T J9 B w) ∧ (∀ v9, ro = some v9 → J9 1 = 0 ∧ v9 = rb ∧ Inv I A G T J9 B w)
theorem kd_L_mostUnits : yL_mostUnits.cls ≠ "java/lang/invoke/MethodHandle" ∧ yL_mostUnits.cls ≠ "java/lang/invoke/VarHandle" ∧ (parseMethodDescriptor yL_mostUnits.desc).map (fun d => d.parameters.length) = some 5 := by decide +kernel
def QE_substituted (Inv : ql_Inv) : Prop := ∀ (ad : Nat → Nat) (I : Nat → Int32) (A : Nat → Nat → Int32) (G : Nat → Int32 × (Nat → Nat → Int32)) (T : Nat) (J : Nat → Int32) (B : Nat → Nat → Int32) (w : Int64) (p1 p2 p3 : Int32), Inv I A G T J B w → ∃ (ro : (Option (Int32))), f_X7_substituted I A p1 p2 p3 = some ro ∧ ∃ (rb : Int32) (J9 : Nat → Int32), f_X8_substituted B J p1 p2 p3 = some (rb, J9) ∧ (ro = none → J9 1 = 1 ∧ Inv I A G T J9 B w) ∧ (∀ v9, ro = some v9 → J9 1 = 0 ∧ v9 = rb ∧ Inv I A G T J9 B w)
theorem kd_L_substituted : yL_substituted.cls ≠ "java/lang/invoke/MethodHandle" ∧ yL_substituted.cls ≠ "java/lang/invoke/VarHandle" ∧ (parseMethodDescriptor yL_substituted.desc).map (fun d => d.parameters.length) = some 5 := by decide +kernel
def QE_served (Inv : ql_Inv) : Prop := ∀ (ad : Nat → Nat) (I : Nat → Int32) (A : Nat → Nat → Int32) (G : Nat → Int32 × (Nat → Nat → Int32)) (T : Nat) (J : Nat → Int32) (B : Nat → Nat → Int32) (w : Int64) (p1 p2 p3 : Int32), Inv I A G T J B w → ∃ (ro : (Option (Int32))), f_X7_served I A p1 p2 p3 = some ro ∧ ∃ (rb : Int32) (J9 : Nat → Int32), f_X8_served B J p1 p2 p3 = some (rb, J9) ∧ (ro = none → J9 1 = 1 ∧ Inv I A G T J9 B w) ∧ (∀ v9, ro = some v9 → J9 1 = 0 ∧ v9 = rb ∧ Inv I A G T J9 B w)
theorem kd_L_served : yL_served.cls ≠ "java/lang/invoke/MethodHandle" ∧ yL_served.cls ≠ "java/lang/invoke/VarHandle" ∧ (parseMethodDescriptor yL_served.desc).map (fun d => d.parameters.length) = some 5 := by decide +kernel
def QE_basketValue (Inv : ql_Inv) : Prop := ∀ (ad : Nat → Nat) (I : Nat → Int32) (A : Nat → Nat → Int32) (G : Nat → Int32 × (Nat → Nat → Int32)) (T : Nat) (J : Nat → Int32) (B : Nat → Nat → Int32) (w : Int64) (p1 p2 : Int32), Inv I A G T J B w → ∃ (ro : (Option (Int32 × (Nat → Int32) × (Nat → Nat → Int32)))), f_X7_basketValue I A p1 p2 = some ro ∧ ∃ (rb : Int32) (J9 : Nat → Int32) (B9 : Nat → Nat → Int32), f_X8_basketValue J B p1 p2 = some (rb, J9, B9) ∧ (ro = none → J9 1 = 1 ∧ Inv I A G T J9 B9 w) ∧ (∀ v9, ro = some v9 → J9 1 = 0 ∧ v9.1 = rb ∧ Inv (v9.2.1) (v9.2.2) G T J9 B9 w)
theorem kd_L_basketValue : yL_basketValue.cls ≠ "java/lang/invoke/MethodHandle" ∧ yL_basketValue.cls ≠ "java/lang/invoke/VarHandle" ∧ (parseMethodDescriptor yL_basketValue.desc).map (fun d => d.parameters.length) = some 4 := by decide +kernel
def QE_basketUnits (Inv : ql_Inv) : Prop := ∀ (ad : Nat → Nat) (I : Nat → Int32) (A : Nat → Nat → Int32) (G : Nat → Int32 × (Nat → Nat → Int32)) (T : Nat) (J : Nat → Int32) (B : Nat → Nat → Int32) (w : Int64) (p1 p2 p3 : Int32), Inv I A G T J B w → ∃ (ro : (Option (Int32 × (Nat → Int32) × (Nat → Nat → Int32)))), f_X7_basketUnits I A p1 p2 p3 = some ro ∧ ∃ (rb : Int32) (J9 : Nat → Int32) (B9 : Nat → Nat → Int32), f_X8_basketUnits J B p1 p2 p3 = some (rb, J9, B9) ∧ (ro = none → J9 1 = 1 ∧ Inv I A G T J9 B9 w) ∧ (∀ v9, ro = some v9 → J9 1 = 0 ∧ v9.1 = rb ∧ Inv (v9.2.1) (v9.2.2) G T J9 B9 w)
theorem kd_L_basketUnits : yL_basketUnits.cls ≠ "java/lang/invoke/MethodHandle" ∧ yL_basketUnits.cls ≠ "java/lang/invoke/VarHandle" ∧ (parseMethodDescriptor yL_basketUnits.desc).map (fun d => d.parameters.length) = some 5 := by decide +kernel
def QE_waitFor (Inv : ql_Inv) : Prop := ∀ (ad : Nat → Nat) (I : Nat → Int32) (A : Nat → Nat → Int32) (G : Nat → Int32 × (Nat → Nat → Int32)) (T : Nat) (J : Nat → Int32) (B : Nat → Nat → Int32) (w : Int64) (p1 p2 p3 : Int32), Inv I A G T J B w → ∃ (ro : (Option (Int32 × (Nat → Nat → Int32)))), f_X7_waitFor I A p1 p2 p3 = some ro ∧ ∃ (rb : Int32) (J9 : Nat → Int32) (B9 : Nat → Nat → Int32), f_X8_waitFor J B p1 p2 p3 = some (rb, J9, B9) ∧ (ro = none → J9 1 = 1 ∧ Inv I A G T J9 B9 w) ∧ (∀ v9, ro = some v9 → J9 1 = 0 ∧ v9.1 = rb ∧ Inv I (v9.2) G T J9 B9 w)
theorem kd_L_waitFor : yL_waitFor.cls ≠ "java/lang/invoke/MethodHandle" ∧ yL_waitFor.cls ≠ "java/lang/invoke/VarHandle" ∧ (parseMethodDescriptor yL_waitFor.desc).map (fun d => d.parameters.length) = some 5 := by decide +kernel
def QE_bestShop (Inv : ql_Inv) : Prop := ∀ (ad : Nat → Nat) (I : Nat → Int32) (A : Nat → Nat → Int32) (G : Nat → Int32 × (Nat → Nat → Int32)) (T : Nat) (J : Nat → Int32) (B : Nat → Nat → Int32) (w : Int64) (p1 : Int32), Inv I A G T J B w → ∃ (ro : (Option (Int32))), f_X7_bestShop I A p1 = some ro ∧ ∃ (rb : Int32) (J9 : Nat → Int32), f_X8_bestShop B J p1 = some (rb, J9) ∧ (ro = none → J9 1 = 1 ∧ Inv I A G T J9 B w) ∧ (∀ v9, ro = some v9 → J9 1 = 0 ∧ v9 = rb ∧ Inv I A G T J9 B w)
theorem kd_L_bestShop : yL_bestShop.cls ≠ "java/lang/invoke/MethodHandle" ∧ yL_bestShop.cls ≠ "java/lang/invoke/VarHandle" ∧ (parseMethodDescriptor yL_bestShop.desc).map (fun d => d.parameters.length) = some 3 := by decide +kernel
def QE_bestHouse (Inv : ql_Inv) : Prop := ∀ (ad : Nat → Nat) (I : Nat → Int32) (A : Nat → Nat → Int32) (G : Nat → Int32 × (Nat → Nat → Int32)) (T : Nat) (J : Nat → Int32) (B : Nat → Nat → Int32) (w : Int64) (p1 p2 : Int32), Inv I A G T J B w → ∃ (ro : (Option (Int32))), f_X7_bestHouse I A p1 p2 = some ro ∧ ∃ (rb : Int32) (J9 : Nat → Int32), f_X8_bestHouse B J p1 p2 = some (rb, J9) ∧ (ro = none → J9 1 = 1 ∧ Inv I A G T J9 B w) ∧ (∀ v9, ro = some v9 → J9 1 = 0 ∧ v9 = rb ∧ Inv I A G T J9 B w)
theorem kd_L_bestHouse : yL_bestHouse.cls ≠ "java/lang/invoke/MethodHandle" ∧ yL_bestHouse.cls ≠ "java/lang/invoke/VarHandle" ∧ (parseMethodDescriptor yL_bestHouse.desc).map (fun d => d.parameters.length) = some 4 := by decide +kernel
def QE_basketCost (Inv : ql_Inv) : Prop := ∀ (ad : Nat → Nat) (I : Nat → Int32) (A : Nat → Nat → Int32) (G : Nat → Int32 × (Nat → Nat → Int32)) (T : Nat) (J : Nat → Int32) (B : Nat → Nat → Int32) (w : Int64) (p1 p2 : Int32), Inv I A G T J B w → ∃ (ro : (Option (Int32 × (Nat → Int32) × (Nat → Nat → Int32)))), f_X7_basketCost I A p1 p2 = some ro ∧ ∃ (rb : Int32) (J9 : Nat → Int32) (B9 : Nat → Nat → Int32), f_X8_basketCost J B p1 p2 = some (rb, J9, B9) ∧ (ro = none → J9 1 = 1 ∧ Inv I A G T J9 B9 w) ∧ (∀ v9, ro = some v9 → J9 1 = 0 ∧ v9.1 = rb ∧ Inv (v9.2.1) (v9.2.2) G T J9 B9 w)
theorem kd_L_basketCost : yL_basketCost.cls ≠ "java/lang/invoke/MethodHandle" ∧ yL_basketCost.cls ≠ "java/lang/invoke/VarHandle" ∧ (parseMethodDescriptor yL_basketCost.desc).map (fun d => d.parameters.length) = some 4 := by decide +kernel
def QE_basketLeft (Inv : ql_Inv) : Prop := ∀ (ad : Nat → Nat) (I : Nat → Int32) (A : Nat → Nat → Int32) (G : Nat → Int32 × (Nat → Nat → Int32)) (T : Nat) (J : Nat → Int32) (B : Nat → Nat → Int32) (w : Int64) (p1 p2 p3 : Int32), Inv I A G T J B w → ∃ (ro : (Option (Int32 × (Nat → Int32) × (Nat → Nat → Int32)))), f_X7_basketLeft I A p1 p2 p3 = some ro ∧ ∃ (rb : Int32) (J9 : Nat → Int32) (B9 : Nat → Nat → Int32), f_X8_basketLeft J B p1 p2 p3 = some (rb, J9, B9) ∧ (ro = none → J9 1 = 1 ∧ Inv I A G T J9 B9 w) ∧ (∀ v9, ro = some v9 → J9 1 = 0 ∧ v9.1 = rb ∧ Inv (v9.2.1) (v9.2.2) G T J9 B9 w)
theorem kd_L_basketLeft : yL_basketLeft.cls ≠ "java/lang/invoke/MethodHandle" ∧ yL_basketLeft.cls ≠ "java/lang/invoke/VarHandle" ∧ (parseMethodDescriptor yL_basketLeft.desc).map (fun d => d.parameters.length) = some 5 := by decide +kernel
def QE_swapChain (Inv : ql_Inv) : Prop := ∀ (ad : Nat → Nat) (I : Nat → Int32) (A : Nat → Nat → Int32) (G : Nat → Int32 × (Nat → Nat → Int32)) (T : Nat) (J : Nat → Int32) (B : Nat → Nat → Int32) (w : Int64) (p1 : Int32), Inv I A G T J B w → ∃ (ro : (Option (Int32))), f_X7_swapChain I A p1 = some ro ∧ ∃ (rb : Int32) (J9 : Nat → Int32), f_X8_swapChain B J p1 = some (rb, J9) ∧ (ro = none → J9 1 = 1 ∧ Inv I A G T J9 B w) ∧ (∀ v9, ro = some v9 → J9 1 = 0 ∧ v9 = rb ∧ Inv I A G T J9 B w)
theorem kd_L_swapChain : yL_swapChain.cls ≠ "java/lang/invoke/MethodHandle" ∧ yL_swapChain.cls ≠ "java/lang/invoke/VarHandle" ∧ (parseMethodDescriptor yL_swapChain.desc).map (fun d => d.parameters.length) = some 3 := by decide +kernel
def QE_mostDeliverable (Inv : ql_Inv) : Prop := ∀ (ad : Nat → Nat) (I : Nat → Int32) (A : Nat → Nat → Int32) (G : Nat → Int32 × (Nat → Nat → Int32)) (T : Nat) (J : Nat → Int32) (B : Nat → Nat → Int32) (w : Int64) (p1 p2 : Int32), Inv I A G T J B w → ∃ (ro : (Option (Int32))), f_X7_mostDeliverable I A p1 p2 = some ro ∧ ∃ (rb : Int32) (J9 : Nat → Int32), f_X8_mostDeliverable B J p1 p2 = some (rb, J9) ∧ (ro = none → J9 1 = 1 ∧ Inv I A G T J9 B w) ∧ (∀ v9, ro = some v9 → J9 1 = 0 ∧ v9 = rb ∧ Inv I A G T J9 B w)
theorem kd_L_mostDeliverable : yL_mostDeliverable.cls ≠ "java/lang/invoke/MethodHandle" ∧ yL_mostDeliverable.cls ≠ "java/lang/invoke/VarHandle" ∧ (parseMethodDescriptor yL_mostDeliverable.desc).map (fun d => d.parameters.length) = some 4 := by decide +kernel
def QE_spreadOf (Inv : ql_Inv) : Prop := ∀ (ad : Nat → Nat) (I : Nat → Int32) (A : Nat → Nat → Int32) (G : Nat → Int32 × (Nat → Nat → Int32)) (T : Nat) (J : Nat → Int32) (B : Nat → Nat → Int32) (w : Int64) (p1 : Int32), Inv I A G T J B w → ∃ (ro : (Option (Int32))), f_X7_spreadOf I A p1 = some ro ∧ ∃ (rb : Int32) (J9 : Nat → Int32), f_X8_spreadOf B J p1 = some (rb, J9) ∧ (ro = none → J9 1 = 1 ∧ Inv I A G T J9 B w) ∧ (∀ v9, ro = some v9 → J9 1 = 0 ∧ v9 = rb ∧ Inv I A G T J9 B w)
theorem kd_L_spreadOf : yL_spreadOf.cls ≠ "java/lang/invoke/MethodHandle" ∧ yL_spreadOf.cls ≠ "java/lang/invoke/VarHandle" ∧ (parseMethodDescriptor yL_spreadOf.desc).map (fun d => d.parameters.length) = some 3 := by decide +kernel
def QE_levelMoves (Inv : ql_Inv) : Prop := ∀ (ad : Nat → Nat) (I : Nat → Int32) (A : Nat → Nat → Int32) (G : Nat → Int32 × (Nat → Nat → Int32)) (T : Nat) (J : Nat → Int32) (B : Nat → Nat → Int32) (w : Int64) (p1 p2 : Int32), Inv I A G T J B w → ∃ (ro : (Option (Int32))), f_X7_levelMoves I A p1 p2 = some ro ∧ ∃ (rb : Int32) (J9 : Nat → Int32), f_X8_levelMoves B J p1 p2 = some (rb, J9) ∧ (ro = none → J9 1 = 1 ∧ Inv I A G T J9 B w) ∧ (∀ v9, ro = some v9 → J9 1 = 0 ∧ v9 = rb ∧ Inv I A G T J9 B w)
theorem kd_L_levelMoves : yL_levelMoves.cls ≠ "java/lang/invoke/MethodHandle" ∧ yL_levelMoves.cls ≠ "java/lang/invoke/VarHandle" ∧ (parseMethodDescriptor yL_levelMoves.desc).map (fun d => d.parameters.length) = some 4 := by decide +kernel
def QE_lapseAfter (Inv : ql_Inv) : Prop := ∀ (ad : Nat → Nat) (I : Nat → Int32) (A : Nat → Nat → Int32) (G : Nat → Int32 × (Nat → Nat → Int32)) (T : Nat) (J : Nat → Int32) (B : Nat → Nat → Int32) (w : Int64) (p1 p2 p3 : Int32), Inv I A G T J B w → ∃ (ro : (Option (Int32 × (Nat → Nat → Int32)))), f_X7_lapseAfter I A p1 p2 p3 = some ro ∧ ∃ (rb : Int32) (J9 : Nat → Int32) (B9 : Nat → Nat → Int32), f_X8_lapseAfter J B p1 p2 p3 = some (rb, J9, B9) ∧ (ro = none → J9 1 = 1 ∧ Inv I A G T J9 B9 w) ∧ (∀ v9, ro = some v9 → J9 1 = 0 ∧ v9.1 = rb ∧ Inv I (v9.2) G T J9 B9 w)
theorem kd_L_lapseAfter : yL_lapseAfter.cls ≠ "java/lang/invoke/MethodHandle" ∧ yL_lapseAfter.cls ≠ "java/lang/invoke/VarHandle" ∧ (parseMethodDescriptor yL_lapseAfter.desc).map (fun d => d.parameters.length) = some 5 := by decide +kernel
def QE_supplyPeriods (Inv : ql_Inv) : Prop := ∀ (ad : Nat → Nat) (I : Nat → Int32) (A : Nat → Nat → Int32) (G : Nat → Int32 × (Nat → Nat → Int32)) (T : Nat) (J : Nat → Int32) (B : Nat → Nat → Int32) (w : Int64) (p1 p2 p3 : Int32), Inv I A G T J B w → ∃ (ro : (Option (Int32 × (Nat → Nat → Int32)))), f_X7_supplyPeriods I A p1 p2 p3 = some ro ∧ ∃ (rb : Int32) (J9 : Nat → Int32) (B9 : Nat → Nat → Int32), f_X8_supplyPeriods J B p1 p2 p3 = some (rb, J9, B9) ∧ (ro = none → J9 1 = 1 ∧ Inv I A G T J9 B9 w) ∧ (∀ v9, ro = some v9 → J9 1 = 0 ∧ v9.1 = rb ∧ Inv I (v9.2) G T J9 B9 w)
theorem kd_L_supplyPeriods : yL_supplyPeriods.cls ≠ "java/lang/invoke/MethodHandle" ∧ yL_supplyPeriods.cls ≠ "java/lang/invoke/VarHandle" ∧ (parseMethodDescriptor yL_supplyPeriods.desc).map (fun d => d.parameters.length) = some 5 := by decide +kernel
def QE_buy (Inv : ql_Inv) : Prop := ∀ (ad : Nat → Nat) (I : Nat → Int32) (A : Nat → Nat → Int32) (G : Nat → Int32 × (Nat → Nat → Int32)) (T : Nat) (J : Nat → Int32) (B : Nat → Nat → Int32) (w : Int64) (p1 p2 p3 p4 : Int32), Inv I A G T J B w → ∃ (r9 : Int32) (I9 : Nat → Int32) (A9 : Nat → Nat → Int32) (G9 : Nat → Int32 × (Nat → Nat → Int32)), f_X7_buy I A G p1 p2 p3 p4 = some (r9, I9, A9, G9) ∧ ∃ (rb : Int32) (J9 : Nat → Int32) (B9 : Nat → Nat → Int32), f_X8_buy J B p1 p2 p3 p4 = some (rb, J9, B9) ∧ r9 = rb ∧ Inv I9 A9 G9 T J9 B9 w
def QE_deliver (Inv : ql_Inv) : Prop := ∀ (ad : Nat → Nat) (I : Nat → Int32) (A : Nat → Nat → Int32) (G : Nat → Int32 × (Nat → Nat → Int32)) (T : Nat) (J : Nat → Int32) (B : Nat → Nat → Int32) (w : Int64) (p1 p2 p3 : Int32), Inv I A G T J B w → ∃ (r9 : Int32) (I9 : Nat → Int32) (A9 : Nat → Nat → Int32) (G9 : Nat → Int32 × (Nat → Nat → Int32)), f_X7_deliver I A G p1 p2 p3 = some (r9, I9, A9, G9) ∧ ∃ (rb : Int32) (J9 : Nat → Int32) (B9 : Nat → Nat → Int32), f_X8_deliver J B p1 p2 p3 = some (rb, J9, B9) ∧ r9 = rb ∧ Inv I9 A9 G9 T J9 B9 w
def QE_trade (Inv : ql_Inv) : Prop := ∀ (ad : Nat → Nat) (I : Nat → Int32) (A : Nat → Nat → Int32) (G : Nat → Int32 × (Nat → Nat → Int32)) (T : Nat) (J : Nat → Int32) (B : Nat → Nat → Int32) (w : Int64) (p1 p2 p3 p4 : Int32), Inv I A G T J B w → ∃ (r9 : Int32) (I9 : Nat → Int32) (A9 : Nat → Nat → Int32) (G9 : Nat → Int32 × (Nat → Nat → Int32)), f_X7_trade I A G p1 p2 p3 p4 = some (r9, I9, A9, G9) ∧ ∃ (rb : Int32) (J9 : Nat → Int32) (B9 : Nat → Nat → Int32), f_X8_trade J B p1 p2 p3 p4 = some (rb, J9, B9) ∧ r9 = rb ∧ Inv I9 A9 G9 T J9 B9 w
def QE_audit (Inv : ql_Inv) : Prop := ∀ (ad : Nat → Nat) (I : Nat → Int32) (A : Nat → Nat → Int32) (G : Nat → Int32 × (Nat → Nat → Int32)) (T : Nat) (J : Nat → Int32) (B : Nat → Nat → Int32) (w : Int64) (p1 p2 p3 : Int32), Inv I A G T J B w → ∃ (r9 : Int32) (I9 : Nat → Int32) (A9 : Nat → Nat → Int32) (G9 : Nat → Int32 × (Nat → Nat → Int32)), f_X7_audit I A G p1 p2 p3 = some (r9, I9, A9, G9) ∧ ∃ (rb : Int32) (J9 : Nat → Int32) (B9 : Nat → Nat → Int32), f_X8_audit J B p1 p2 p3 = some (rb, J9, B9) ∧ r9 = rb ∧ Inv I9 A9 G9 T J9 B9 w
def QE_pardon (Inv : ql_Inv) : Prop := ∀ (ad : Nat → Nat) (I : Nat → Int32) (A : Nat → Nat → Int32) (G : Nat → Int32 × (Nat → Nat → Int32)) (T : Nat) (J : Nat → Int32) (B : Nat → Nat → Int32) (w : Int64) (p1 : Int32), Inv I A G T J B w → ∃ (r9 : Int32) (I9 : Nat → Int32) (A9 : Nat → Nat → Int32) (G9 : Nat → Int32 × (Nat → Nat → Int32)), f_X7_pardon I A G p1 = some (r9, I9, A9, G9) ∧ ∃ (rb : Int32) (J9 : Nat → Int32) (B9 : Nat → Nat → Int32), f_X8_pardon J B p1 = some (rb, J9, B9) ∧ r9 = rb ∧ Inv I9 A9 G9 T J9 B9 w
def QE_nextPeriod (Inv : ql_Inv) : Prop := ∀ (ad : Nat → Nat) (I : Nat → Int32) (A : Nat → Nat → Int32) (G : Nat → Int32 × (Nat → Nat → Int32)) (T : Nat) (J : Nat → Int32) (B : Nat → Nat → Int32) (w : Int64), Inv I A G T J B w → ∃ (r9 : Int32) (I9 : Nat → Int32) (A9 : Nat → Nat → Int32) (G9 : Nat → Int32 × (Nat → Nat → Int32)), f_X7_nextPeriod I A G = some (r9, I9, A9, G9) ∧ ∃ (rb : Int32) (J9 : Nat → Int32) (B9 : Nat → Nat → Int32), f_X8_nextPeriod J B = some (rb, J9, B9) ∧ r9 = rb ∧ Inv I9 A9 G9 T J9 B9 w
def QE_setRation (Inv : ql_Inv) : Prop := ∀ (ad : Nat → Nat) (I : Nat → Int32) (A : Nat → Nat → Int32) (G : Nat → Int32 × (Nat → Nat → Int32)) (T : Nat) (J : Nat → Int32) (B : Nat → Nat → Int32) (w : Int64) (p1 p2 : Int32), Inv I A G T J B w → ∃ (r9 : Int32) (I9 : Nat → Int32) (A9 : Nat → Nat → Int32) (G9 : Nat → Int32 × (Nat → Nat → Int32)), f_X7_setRation I A G p1 p2 = some (r9, I9, A9, G9) ∧ ∃ (rb : Int32) (J9 : Nat → Int32) (B9 : Nat → Nat → Int32), f_X8_setRation J B p1 p2 = some (rb, J9, B9) ∧ r9 = rb ∧ Inv I9 A9 G9 T J9 B9 w
def QE_setSize (Inv : ql_Inv) : Prop := ∀ (ad : Nat → Nat) (I : Nat → Int32) (A : Nat → Nat → Int32) (G : Nat → Int32 × (Nat → Nat → Int32)) (T : Nat) (J : Nat → Int32) (B : Nat → Nat → Int32) (w : Int64) (p1 p2 : Int32), Inv I A G T J B w → ∃ (r9 : Int32) (I9 : Nat → Int32) (A9 : Nat → Nat → Int32) (G9 : Nat → Int32 × (Nat → Nat → Int32)), f_X7_setSize I A G p1 p2 = some (r9, I9, A9, G9) ∧ ∃ (rb : Int32) (J9 : Nat → Int32) (B9 : Nat → Nat → Int32), f_X8_setSize J B p1 p2 = some (rb, J9, B9) ∧ r9 = rb ∧ Inv I9 A9 G9 T J9 B9 w
def QE_setSetting (Inv : ql_Inv) : Prop := ∀ (ad : Nat → Nat) (I : Nat → Int32) (A : Nat → Nat → Int32) (G : Nat → Int32 × (Nat → Nat → Int32)) (T : Nat) (J : Nat → Int32) (B : Nat → Nat → Int32) (w : Int64) (p1 p2 : Int32), Inv I A G T J B w → ∃ (r9 : Int32) (I9 : Nat → Int32) (A9 : Nat → Nat → Int32) (G9 : Nat → Int32 × (Nat → Nat → Int32)), f_X7_setSetting I A G p1 p2 = some (r9, I9, A9, G9) ∧ ∃ (rb : Int32) (J9 : Nat → Int32) (B9 : Nat → Nat → Int32), f_X8_setSetting J B p1 p2 = some (rb, J9, B9) ∧ r9 = rb ∧ Inv I9 A9 G9 T J9 B9 w
def QE_undo (Inv : ql_Inv) : Prop := ∀ (ad : Nat → Nat) (I : Nat → Int32) (A : Nat → Nat → Int32) (G : Nat → Int32 × (Nat → Nat → Int32)) (T : Nat) (J : Nat → Int32) (B : Nat → Nat → Int32) (w : Int64), Inv I A G T J B w → ∃ (r9 : Int32) (I9 : Nat → Int32) (A9 : Nat → Nat → Int32), f_X7_undo G I A = some (r9, I9, A9) ∧ ∃ (rb : Int32) (J9 : Nat → Int32) (B9 : Nat → Nat → Int32), f_X8_undo J B = some (rb, J9, B9) ∧ r9 = rb ∧ Inv I9 A9 G T J9 B9 w
set_option maxHeartbeats 4000000 in
set_option maxRecDepth 100000 in
theorem ql_0 {p : Program} {l : Launch} {e : Env} {s : State} {m : MethodId} {below : List Frame} {meth : Method} {c : Code} {Q : State → Prop} {D : va_G} {cy : Nat → ClassId} {Z : Nat → Prop} {b L : Nat} {xs : Nat → Int32} (hst : l.stackTraces = false) (S0 : CallFix p m c code 7 s #[Value.ref b] qw_big RL) (hX : va_X b L xs s s.heap) (hbl : b < s.heap.size) (hbA : ¬ Z b) {Inv : ql_Inv} (hE : QE_feed Inv) {ad am : Nat → Nat} {I : Nat → Int32} {A : Nat → Nat → Int32} {G : Nat → Int32 × (Nat → Nat → Int32)} {T : Nat} {J : Nat → Int32} {B : Nat → Nat → Int32} {w : Int64} {ao : Nat} {o : Nat → Int64} {H : Heap} {locs : List Loc} {cells slots : Nat} {ls : Array Slot} (hI : Inv I A G T J B w) (V : qw_V D cy Z s (((Wo cy ad I A G T) ++ [qd_L cy ao o]) ++ (Wm cy am J B w)) H locs) {i : Int32} (hin : ∀ j : Nat, j ≤ 5 → vp_in (i + Int32.ofNat j) L) (hl : lv_has ls 7 (ql_base i ao (am 0) (ad 0) b)) (hc : cells + 1 ≤ 601024) (hs : slots + 6 ≤ 7293034) (K : ∀ (ad2 : Nat → Nat) (I : Nat → Int32) (A : Nat → Nat → Int32) (G : Nat → Int32 × (Nat → Nat → Int32)) (T : Nat) (J : Nat → Int32) (B : Nat → Nat → Int32) (w : Int64) (o : Nat → Int64) (H : Heap) (locs : List Loc) (ls : Array Slot), ad2 0 = ad 0 → Inv I A G T J B w → qw_V D cy Z s ((Wo cy ad2 I A G T ++ [qd_L cy ao o]) ++ Wm cy am J B w) H locs → lv_has ls 7 (ql_base i ao (am 0) (ad 0) b) → W p l e room_1 s m #[Value.ref b] below meth c H locs (cells + 1) (slots + 6) Q (F0 m 3735 ls [])) : W p l e room_1 s m #[Value.ref b] below meth c H locs cells slots Q (F0 m 312 ls []) := by
  have hx := S0.1; have hb := S0.2.1
  have hc0 : cells ≤ 601024 := Nat.le_trans (Nat.le_add_right _ _) hc; have hs0 : slots ≤ 7293034 := Nat.le_trans (Nat.le_add_right _ _) hs
  obtain ⟨r9, I9, A9, hX7, rb, J9, B9, hM8, hEq, hI9⟩ := (hE ad I A G T J B w (xs (i + 1).toNatClampNeg) (xs (i + 2).toNatClampNeg) (xs (i + 3).toNatClampNeg) (xs (i + 4).toNatClampNeg) (xs (i + 5).toNatClampNeg) hI)
  have hl : lv_has ls 7 [(4, .int i), (3, .ref ao), (2, .ref (am 0)), (1, .ref (ad 0)), (0, .ref b)] := hl
  refine lv_aload_n hx hb dL_law_312 rfl (lv_at hl 3 rfl) ?_
  refine lv_aload_n hx hb dL_law_313 rfl (lv_at hl 4 rfl) ?_
  refine lv_iload hx hb dL_law_314 (lv_at hl 0 rfl) ?_
  refine lv_iconst (v := 1) hx hb dL_law_316 (by decide) ?_
  refine lv_iadd hx hb dL_law_317 ?_
  refine va_sld hx hb hX hbl hbA V.2.2.2.1 (hin 1 (by decide)) dL_law_318 ?_
  refine lv_aload_n hx hb dL_law_319 rfl (lv_at hl 4 rfl) ?_
  refine lv_iload hx hb dL_law_320 (lv_at hl 0 rfl) ?_
  refine lv_iconst (v := 2) hx hb dL_law_322 (by decide) ?_
  refine lv_iadd hx hb dL_law_323 ?_
  refine va_sld hx hb hX hbl hbA V.2.2.2.1 (hin 2 (by decide)) dL_law_324 ?_
  refine lv_aload_n hx hb dL_law_325 rfl (lv_at hl 4 rfl) ?_
  refine lv_iload hx hb dL_law_326 (lv_at hl 0 rfl) ?_
  refine lv_iconst (v := 3) hx hb dL_law_328 (by decide) ?_
  refine lv_iadd hx hb dL_law_329 ?_
  refine va_sld hx hb hX hbl hbA V.2.2.2.1 (hin 3 (by decide)) dL_law_330 ?_
  refine lv_aload_n hx hb dL_law_331 rfl (lv_at hl 4 rfl) ?_
  refine lv_iload hx hb dL_law_332 (lv_at hl 0 rfl) ?_
  refine lv_iconst (v := 4) hx hb dL_law_334 (by decide) ?_
  refine lv_iadd hx hb dL_law_335 ?_
  refine va_sld hx hb hX hbl hbA V.2.2.2.1 (hin 4 (by decide)) dL_law_336 ?_
  refine lv_aload_n hx hb dL_law_337 rfl (lv_at hl 4 rfl) ?_
  refine lv_iload hx hb dL_law_338 (lv_at hl 0 rfl) ?_
  refine lv_iconst (v := 5) hx hb dL_law_340 (by decide) ?_
  refine lv_iadd hx hb dL_law_341 ?_
  refine va_sld hx hb hX hbl hbA V.2.2.2.1 (hin 5 (by decide)) dL_law_342 ?_
  have hcN : cells + 0 ≤ 601024 := hc0
  have hsN : slots + 0 ≤ 7293034 := hs0
  have V := ql_V.assoc V
  refine ql_cV (rest := []) (st1 := [.int r9]) (wc := (Wo cy ad I A G T)) (wr := [qd_L cy ao o] ++ (Wm cy am J B w)) S0 V hl 0 gO_0 rfl (c_X7_feed l hX7) kg_L_140 rfl ⟨rfl, rfl⟩ kd_X7_feed ⟨(Nat.le_of_ble_eq_true rfl), (Nat.le_of_ble_eq_true rfl)⟩ rfl rfl (Nat.le_of_ble_eq_true rfl) ⟨hcN, hsN⟩ rfl dL_law_343 (fun H locs V => ?_)
  have V := ql_V.cossa V
  refine lv_aload_n hx hb dL_law_346 rfl (lv_at hl 2 rfl) ?_
  refine lv_aload_n hx hb dL_law_347 rfl (lv_at hl 4 rfl) ?_
  refine lv_iload hx hb dL_law_348 (lv_at hl 0 rfl) ?_
  refine lv_iconst (v := 1) hx hb dL_law_350 (by decide) ?_
  refine lv_iadd hx hb dL_law_351 ?_
  refine va_sld hx hb hX hbl hbA V.2.2.2.1 (hin 1 (by decide)) dL_law_352 ?_
  refine lv_aload_n hx hb dL_law_353 rfl (lv_at hl 4 rfl) ?_
  refine lv_iload hx hb dL_law_354 (lv_at hl 0 rfl) ?_
  refine lv_iconst (v := 2) hx hb dL_law_356 (by decide) ?_
  refine lv_iadd hx hb dL_law_357 ?_
  refine va_sld hx hb hX hbl hbA V.2.2.2.1 (hin 2 (by decide)) dL_law_358 ?_
  refine lv_aload_n hx hb dL_law_359 rfl (lv_at hl 4 rfl) ?_
  refine lv_iload hx hb dL_law_360 (lv_at hl 0 rfl) ?_
  refine lv_iconst (v := 3) hx hb dL_law_362 (by decide) ?_
  refine lv_iadd hx hb dL_law_363 ?_
  refine va_sld hx hb hX hbl hbA V.2.2.2.1 (hin 3 (by decide)) dL_law_364 ?_
  refine lv_aload_n hx hb dL_law_365 rfl (lv_at hl 4 rfl) ?_
  refine lv_iload hx hb dL_law_366 (lv_at hl 0 rfl) ?_
  refine lv_iconst (v := 4) hx hb dL_law_368 (by decide) ?_
  refine lv_iadd hx hb dL_law_369 ?_
  refine va_sld hx hb hX hbl hbA V.2.2.2.1 (hin 4 (by decide)) dL_law_370 ?_
  refine lv_aload_n hx hb dL_law_371 rfl (lv_at hl 4 rfl) ?_
  refine lv_iload hx hb dL_law_372 (lv_at hl 0 rfl) ?_
  refine lv_iconst (v := 5) hx hb dL_law_374 (by decide) ?_
  refine lv_iadd hx hb dL_law_375 ?_
  refine va_sld hx hb hX hbl hbA V.2.2.2.1 (hin 5 (by decide)) dL_law_376 ?_
  have V := ql_V.swap V
  refine ql_cV (rest := [.int r9]) (st1 := (.int rb :: [.int r9])) (wc := (Wm cy am J B w)) (wr := ((Wo cy ad I9 A9 G T) ++ [qd_L cy ao o])) S0 V hl 0 gM_0 rfl (c_X8_feed l hM8) kg_L_144 rfl ⟨rfl, rfl⟩ kd_X8_feed ⟨(Nat.le_of_ble_eq_true rfl), (Nat.le_of_ble_eq_true rfl)⟩ rfl rfl (Nat.le_of_ble_eq_true rfl) ⟨hcN, hsN⟩ rfl dL_law_377 (fun H locs V => ?_)
  have V := ql_V.swap V
  refine lv_icmp_eq (tgt := 3735) hx hb dL_law_380 (by decide) (fun _ => ?_) (fun c9 => absurd hEq c9)
  refine W.widen (k := cells + 1) (n := slots + 6) (Nat.le_add_right _ _) (Nat.le_add_right _ _) ?_
  exact K _ _ _ _ _ _ _ _ _ _ _ _ rfl hI9 V hl
set_option maxHeartbeats 4000000 in
set_option maxRecDepth 100000 in
theorem ql_1 {p : Program} {l : Launch} {e : Env} {s : State} {m : MethodId} {below : List Frame} {meth : Method} {c : Code} {Q : State → Prop} {D : va_G} {cy : Nat → ClassId} {Z : Nat → Prop} {b L : Nat} {xs : Nat → Int32} (hst : l.stackTraces = false) (S0 : CallFix p m c code 7 s #[Value.ref b] qw_big RL) (hX : va_X b L xs s s.heap) (hbl : b < s.heap.size) (hbA : ¬ Z b) {Inv : ql_Inv} (hE : QE_load Inv) {ad am : Nat → Nat} {I : Nat → Int32} {A : Nat → Nat → Int32} {G : Nat → Int32 × (Nat → Nat → Int32)} {T : Nat} {J : Nat → Int32} {B : Nat → Nat → Int32} {w : Int64} {ao : Nat} {o : Nat → Int64} {H : Heap} {locs : List Loc} {cells slots : Nat} {ls : Array Slot} (hI : Inv I A G T J B w) (V : qw_V D cy Z s (((Wo cy ad I A G T) ++ [qd_L cy ao o]) ++ (Wm cy am J B w)) H locs) {i : Int32} (hin : ∀ j : Nat, j ≤ 5 → vp_in (i + Int32.ofNat j) L) (hl : lv_has ls 7 (ql_base i ao (am 0) (ad 0) b)) (hc : cells + 1 ≤ 601024) (hs : slots + 6 ≤ 7293034) (K : ∀ (ad2 : Nat → Nat) (I : Nat → Int32) (A : Nat → Nat → Int32) (G : Nat → Int32 × (Nat → Nat → Int32)) (T : Nat) (J : Nat → Int32) (B : Nat → Nat → Int32) (w : Int64) (o : Nat → Int64) (H : Heap) (locs : List Loc) (ls : Array Slot), ad2 0 = ad 0 → Inv I A G T J B w → qw_V D cy Z s ((Wo cy ad2 I A G T ++ [qd_L cy ao o]) ++ Wm cy am J B w) H locs → lv_has ls 7 (ql_base i ao (am 0) (ad 0) b) → W p l e room_1 s m #[Value.ref b] below meth c H locs (cells + 1) (slots + 6) Q (F0 m 3735 ls [])) : W p l e room_1 s m #[Value.ref b] below meth c H locs cells slots Q (F0 m 385 ls []) := by
  have hx := S0.1; have hb := S0.2.1
  have hc0 : cells ≤ 601024 := Nat.le_trans (Nat.le_add_right _ _) hc; have hs0 : slots ≤ 7293034 := Nat.le_trans (Nat.le_add_right _ _) hs
  obtain ⟨r9, I9, A9, T9, ad9, hX7, rb, J9, B9, w9, hM8, hEq, hI9, had⟩ := (hE ad I A G T J B w (xs (i + 1).toNatClampNeg) hI)
  have hl : lv_has ls 7 [(4, .int i), (3, .ref ao), (2, .ref (am 0)), (1, .ref (ad 0)), (0, .ref b)] := hl
  refine lv_aload_n hx hb dL_law_385 rfl (lv_at hl 3 rfl) ?_
  refine lv_aload_n hx hb dL_law_386 rfl (lv_at hl 4 rfl) ?_
  refine lv_iload hx hb dL_law_387 (lv_at hl 0 rfl) ?_
  refine lv_iconst (v := 1) hx hb dL_law_389 (by decide) ?_
  refine lv_iadd hx hb dL_law_390 ?_
  refine va_sld hx hb hX hbl hbA V.2.2.2.1 (hin 1 (by decide)) dL_law_391 ?_
  have hcN : cells + 0 ≤ 601024 := hc0
  have hsN : slots + 0 ≤ 7293034 := hs0
  have V := ql_V.assoc V
  refine ql_cV (rest := []) (st1 := [.int r9]) (wc := (Wo cy ad I A G T)) (wr := [qd_L cy ao o] ++ (Wm cy am J B w)) S0 V hl 0 gO_0 rfl (c_X7_load l hX7) kg_L_145 rfl ⟨rfl, rfl⟩ kd_X7_load ⟨(Nat.le_of_ble_eq_true rfl), (Nat.le_of_ble_eq_true rfl)⟩ rfl rfl (Nat.le_of_ble_eq_true rfl) ⟨hcN, hsN⟩ rfl dL_law_392 (fun H locs V => ?_)
  have V := ql_V.cossa V
  refine lv_aload_n hx hb dL_law_395 rfl (lv_at hl 2 rfl) ?_
  refine lv_aload_n hx hb dL_law_396 rfl (lv_at hl 4 rfl) ?_
  refine lv_iload hx hb dL_law_397 (lv_at hl 0 rfl) ?_
  refine lv_iconst (v := 1) hx hb dL_law_399 (by decide) ?_
  refine lv_iadd hx hb dL_law_400 ?_
  refine va_sld hx hb hX hbl hbA V.2.2.2.1 (hin 1 (by decide)) dL_law_401 ?_
  have V := ql_V.swap V
  refine ql_cV (rest := [.int r9]) (st1 := (.int rb :: [.int r9])) (wc := (Wm cy am J B w)) (wr := ((Wo cy ad9 I9 A9 G T9) ++ [qd_L cy ao o])) S0 V hl 0 gM_0 rfl (c_X8_load l hM8) kg_L_148 rfl ⟨rfl, rfl⟩ kd_X8_load ⟨(Nat.le_of_ble_eq_true rfl), (Nat.le_of_ble_eq_true rfl)⟩ rfl rfl (Nat.le_of_ble_eq_true rfl) ⟨hcN, hsN⟩ rfl dL_law_402 (fun H locs V => ?_)
  have V := ql_V.swap V
  refine lv_icmp_eq (tgt := 3735) hx hb dL_law_405 (by decide) (fun _ => ?_) (fun c9 => absurd hEq c9)
  refine W.widen (k := cells + 1) (n := slots + 6) (Nat.le_add_right _ _) (Nat.le_add_right _ _) ?_
  exact K _ _ _ _ _ _ _ _ _ _ _ _ had hI9 V hl
set_option maxHeartbeats 4000000 in
set_option maxRecDepth 100000 in
theorem ql_13 {p : Program} {l : Launch} {e : Env} {s : State} {m : MethodId} {below : List Frame} {meth : Method} {c : Code} {Q : State → Prop} {D : va_G} {cy : Nat → ClassId} {Z : Nat → Prop} {b L : Nat} {xs : Nat → Int32} (hst : l.stackTraces = false) (S0 : CallFix p m c code 7 s #[Value.ref b] qw_big RL) (hX : va_X b L xs s s.heap) (hbl : b < s.heap.size) (hbA : ¬ Z b) {Inv : ql_Inv} (hE : QE_groupProperty Inv) {ad am : Nat → Nat} {I : Nat → Int32} {A : Nat → Nat → Int32} {G : Nat → Int32 × (Nat → Nat → Int32)} {T : Nat} {J : Nat → Int32} {B : Nat → Nat → Int32} {w : Int64} {ao : Nat} {o : Nat → Int64} {H : Heap} {locs : List Loc} {cells slots : Nat} {ls : Array Slot} (hI : Inv I A G T J B w) (V : qw_V D cy Z s (((Wo cy ad I A G T) ++ [qd_L cy ao o]) ++ (Wm cy am J B w)) H locs) {i : Int32} (hin : ∀ j : Nat, j ≤ 5 → vp_in (i + Int32.ofNat j) L) (hl : lv_has ls 7 (ql_base i ao (am 0) (ad 0) b)) (hc : cells + 1 ≤ 601024) (hs : slots + 6 ≤ 7293034) (K : ∀ (ad2 : Nat → Nat) (I : Nat → Int32) (A : Nat → Nat → Int32) (G : Nat → Int32 × (Nat → Nat → Int32)) (T : Nat) (J : Nat → Int32) (B : Nat → Nat → Int32) (w : Int64) (o : Nat → Int64) (H : Heap) (locs : List Loc) (ls : Array Slot), ad2 0 = ad 0 → Inv I A G T J B w → qw_V D cy Z s ((Wo cy ad2 I A G T ++ [qd_L cy ao o]) ++ Wm cy am J B w) H locs → lv_has ls 7 (ql_base i ao (am 0) (ad 0) b) → W p l e room_1 s m #[Value.ref b] below meth c H locs (cells + 1) (slots + 6) Q (F0 m 3735 ls [])) : W p l e room_1 s m #[Value.ref b] below meth c H locs cells slots Q (F0 m 601 ls []) := by
  have hx := S0.1; have hb := S0.2.1
  have hc0 : cells ≤ 601024 := Nat.le_trans (Nat.le_add_right _ _) hc; have hs0 : slots ≤ 7293034 := Nat.le_trans (Nat.le_add_right _ _) hs
  obtain ⟨ro, hX7, rb, J9, hM8, h0, h1⟩ := (hE ad I A G T J B w (xs (i + 1).toNatClampNeg) (xs (i + 2).toNatClampNeg) hI)
  have hl : lv_has ls 7 [(4, .int i), (3, .ref ao), (2, .ref (am 0)), (1, .ref (ad 0)), (0, .ref b)] := hl
  refine lv_aload_n hx hb dL_law_601 rfl (lv_at hl 3 rfl) ?_
  refine lv_aload_n hx hb dL_law_602 rfl (lv_at hl 4 rfl) ?_
  refine lv_iload hx hb dL_law_603 (lv_at hl 0 rfl) ?_
  refine lv_iconst (v := 1) hx hb dL_law_605 (by decide) ?_
  refine lv_iadd hx hb dL_law_606 ?_
  refine va_sld hx hb hX hbl hbA V.2.2.2.1 (hin 1 (by decide)) dL_law_607 ?_
  refine lv_aload_n hx hb dL_law_608 rfl (lv_at hl 4 rfl) ?_
  refine lv_iload hx hb dL_law_609 (lv_at hl 0 rfl) ?_
  refine lv_iconst (v := 2) hx hb dL_law_611 (by decide) ?_
  refine lv_iadd hx hb dL_law_612 ?_
  refine va_sld hx hb hX hbl hbA V.2.2.2.1 (hin 2 (by decide)) dL_law_613 ?_
  refine lv_aload_n hx hb dL_law_614 rfl (lv_at hl 1 rfl) ?_
  refine ql_cW (rest := []) (wc := (Wo cy ad I A G T) ++ [qd_L cy ao o]) (wr := (Wm cy am J B w)) S0 V hl (c_L_groupProperty l hst hX7) kg_L_194 rfl ⟨rfl, rfl⟩ kd_L_groupProperty ⟨(Nat.le_of_ble_eq_true rfl), (Nat.le_of_ble_eq_true rfl)⟩ rfl rfl (Nat.le_of_ble_eq_true rfl) ⟨hc, hs⟩ dL_law_615 (fun H locs hro V => ?_) (fun v9 H locs hro V => ?_)
  · have hcN : cells + 1 + 0 ≤ 601024 := hc
    have hsN : slots + 6 + 0 ≤ 7293034 := hs
    obtain ⟨t1, hI9⟩ := h0 hro
    refine lv_istore (lv' := [(5, .int 1), (4, .int i), (3, .ref ao), (2, .ref (am 0)), (1, .ref (ad 0)), (0, .ref b)]) hx hb dL_law_618 hl (by decide) rfl (fun ls hl => ?_)
    refine lv_aload_n hx hb dL_law_620 rfl (lv_at hl 3 rfl) ?_
    refine lv_aload_n hx hb dL_law_621 rfl (lv_at hl 5 rfl) ?_
    refine lv_iload hx hb dL_law_622 (lv_at hl 1 rfl) ?_
    refine lv_iconst (v := 1) hx hb dL_law_624 (by decide) ?_
    refine lv_iadd hx hb dL_law_625 ?_
    refine va_sld hx hb hX hbl hbA V.2.2.2.1 (hin 1 (by decide)) dL_law_626 ?_
    refine lv_aload_n hx hb dL_law_627 rfl (lv_at hl 5 rfl) ?_
    refine lv_iload hx hb dL_law_628 (lv_at hl 1 rfl) ?_
    refine lv_iconst (v := 2) hx hb dL_law_630 (by decide) ?_
    refine lv_iadd hx hb dL_law_631 ?_
    refine va_sld hx hb hX hbl hbA V.2.2.2.1 (hin 2 (by decide)) dL_law_632 ?_
    have V := ql_V.swap V
    refine ql_cV (rest := []) (st1 := [.int rb]) (wc := (Wm cy am J B w)) (wr := ((Wo cy ad I A G T) ++ [qd_L cy ao o])) S0 V hl 0 gM_0 rfl (c_X8_groupProperty l hM8) kg_L_199 rfl ⟨rfl, rfl⟩ kd_X8_groupProperty ⟨(Nat.le_of_ble_eq_true rfl), (Nat.le_of_ble_eq_true rfl)⟩ rfl rfl (Nat.le_of_ble_eq_true rfl) ⟨hcN, hsN⟩ rfl dL_law_633 (fun H locs V => ?_)
    have V := ql_V.swap V
    refine lv_istore (lv' := [(6, .int rb), (5, .int 1), (4, .int i), (3, .ref ao), (2, .ref (am 0)), (1, .ref (ad 0)), (0, .ref b)]) hx hb dL_law_636 hl (by decide) rfl (fun ls hl => ?_)
    refine lv_aload_n hx hb dL_law_638 rfl (lv_at hl 4 rfl) ?_
    refine ql_cVR (rest := []) (st1 := [.int (J9 1)]) (wc := (Wm cy am J9 B w)) (wr := ((Wo cy ad I A G T) ++ [qd_L cy ao o])) S0 (ql_V.swap V) hl 0 gM_0 rfl (c_X8_thrown l rfl) kg_L_200 rfl ⟨rfl, rfl⟩ kd_X8_thrown ⟨(Nat.le_of_ble_eq_true rfl), (Nat.le_of_ble_eq_true rfl)⟩ rfl rfl (Nat.le_of_ble_eq_true rfl) ⟨hcN, hsN⟩ rfl dL_law_639 ?_
    refine lv_iload hx hb dL_law_642 (lv_at hl 1 rfl) ?_
    refine lv_icmp_eq (tgt := 649) hx hb dL_law_644 (by decide) (fun _ => ?_) (fun c9 => absurd t1 c9)
    refine lv_iload hx hb dL_law_649 (lv_at hl 1 rfl) ?_
    refine lv_if_ne (tgt := 666) hx hb dL_law_651 (by decide) (fun _ => ?_) (fun c9 => absurd c9 (by decide))
    refine lv_goto (tgt := 3735) hx hb dL_law_666 (by decide) ?_
    exact K _ _ _ _ _ _ _ _ _ _ _ _ rfl hI9 V (lv_sub hl [2, 3, 4, 5, 6] rfl)
  · have hcN : cells + 1 + 0 ≤ 601024 := hc
    have hsN : slots + 6 + 0 ≤ 7293034 := hs
    obtain ⟨t1, hOut, hI9⟩ := h1 v9 hro
    have V : qw_V D cy Z s (((Wo cy ad I A G T) ++ [qd_L cy ao (vp_updL o 0 (v9).toInt64)]) ++ (Wm cy am J B w)) H locs := V
    refine lv_istore (lv' := [(5, .int 0), (4, .int i), (3, .ref ao), (2, .ref (am 0)), (1, .ref (ad 0)), (0, .ref b)]) hx hb dL_law_618 hl (by decide) rfl (fun ls hl => ?_)
    refine lv_aload_n hx hb dL_law_620 rfl (lv_at hl 3 rfl) ?_
    refine lv_aload_n hx hb dL_law_621 rfl (lv_at hl 5 rfl) ?_
    refine lv_iload hx hb dL_law_622 (lv_at hl 1 rfl) ?_
    refine lv_iconst (v := 1) hx hb dL_law_624 (by decide) ?_
    refine lv_iadd hx hb dL_law_625 ?_
    refine va_sld hx hb hX hbl hbA V.2.2.2.1 (hin 1 (by decide)) dL_law_626 ?_
    refine lv_aload_n hx hb dL_law_627 rfl (lv_at hl 5 rfl) ?_
    refine lv_iload hx hb dL_law_628 (lv_at hl 1 rfl) ?_
    refine lv_iconst (v := 2) hx hb dL_law_630 (by decide) ?_
    refine lv_iadd hx hb dL_law_631 ?_
    refine va_sld hx hb hX hbl hbA V.2.2.2.1 (hin 2 (by decide)) dL_law_632 ?_
    have V := ql_V.swap V
    refine ql_cV (rest := []) (st1 := [.int rb]) (wc := (Wm cy am J B w)) (wr := ((Wo cy ad I A G T) ++ [qd_L cy ao (vp_updL o 0 (v9).toInt64)])) S0 V hl 0 gM_0 rfl (c_X8_groupProperty l hM8) kg_L_199 rfl ⟨rfl, rfl⟩ kd_X8_groupProperty ⟨(Nat.le_of_ble_eq_true rfl), (Nat.le_of_ble_eq_true rfl)⟩ rfl rfl (Nat.le_of_ble_eq_true rfl) ⟨hcN, hsN⟩ rfl dL_law_633 (fun H locs V => ?_)
    have V := ql_V.swap V
    refine lv_istore (lv' := [(6, .int rb), (5, .int 0), (4, .int i), (3, .ref ao), (2, .ref (am 0)), (1, .ref (ad 0)), (0, .ref b)]) hx hb dL_law_636 hl (by decide) rfl (fun ls hl => ?_)
    refine lv_aload_n hx hb dL_law_638 rfl (lv_at hl 4 rfl) ?_
    refine ql_cVR (rest := []) (st1 := [.int (J9 1)]) (wc := (Wm cy am J9 B w)) (wr := ((Wo cy ad I A G T) ++ [qd_L cy ao (vp_updL o 0 (v9).toInt64)])) S0 (ql_V.swap V) hl 0 gM_0 rfl (c_X8_thrown l rfl) kg_L_200 rfl ⟨rfl, rfl⟩ kd_X8_thrown ⟨(Nat.le_of_ble_eq_true rfl), (Nat.le_of_ble_eq_true rfl)⟩ rfl rfl (Nat.le_of_ble_eq_true rfl) ⟨hcN, hsN⟩ rfl dL_law_639 ?_
    refine lv_iload hx hb dL_law_642 (lv_at hl 1 rfl) ?_
    refine lv_icmp_eq (tgt := 649) hx hb dL_law_644 (by decide) (fun _ => ?_) (fun c9 => absurd t1 c9)
    refine lv_iload hx hb dL_law_649 (lv_at hl 1 rfl) ?_
    refine lv_if_ne (tgt := 666) hx hb dL_law_651 (by decide) (fun c9 => absurd rfl c9) (fun _ => ?_)
    refine lv_aload_n hx hb dL_law_654 rfl (lv_at hl 3 rfl) ?_
    refine lv_iconst (v := 0) hx hb dL_law_655 (by decide) ?_
    refine ql_lald S0 V rfl dL_law_656 ?_
    refine lv_iload hx hb dL_law_657 (lv_at hl 0 rfl) ?_
    refine lv_i2l hx hb dL_law_659 rfl ?_
    refine W.lcmp hx hb dL_law_660 ?_
    refine lv_if_eq (tgt := 666) hx hb dL_law_661 (by decide) (fun _ => ?_) (fun c9 => absurd (by show lg_cmp (v9).toInt64 (rb.toInt64) = 0; rw [hOut]; exact ql_cmp _) c9)
    refine lv_goto (tgt := 3735) hx hb dL_law_666 (by decide) ?_
    exact K _ _ _ _ _ _ _ _ _ _ _ _ rfl hI9 V (lv_sub hl [2, 3, 4, 5, 6] rfl)
set_option maxHeartbeats 4000000 in
set_option maxRecDepth 100000 in
theorem ql_29 {p : Program} {l : Launch} {e : Env} {s : State} {m : MethodId} {below : List Frame} {meth : Method} {c : Code} {Q : State → Prop} {D : va_G} {cy : Nat → ClassId} {Z : Nat → Prop} {b L : Nat} {xs : Nat → Int32} (hst : l.stackTraces = false) (S0 : CallFix p m c code 7 s #[Value.ref b] qw_big RL) (hX : va_X b L xs s s.heap) (hbl : b < s.heap.size) (hbA : ¬ Z b) {Inv : ql_Inv} (hE : QE_isSuspended Inv) {ad am : Nat → Nat} {I : Nat → Int32} {A : Nat → Nat → Int32} {G : Nat → Int32 × (Nat → Nat → Int32)} {T : Nat} {J : Nat → Int32} {B : Nat → Nat → Int32} {w : Int64} {ao : Nat} {o : Nat → Int64} {H : Heap} {locs : List Loc} {cells slots : Nat} {ls : Array Slot} (hI : Inv I A G T J B w) (V : qw_V D cy Z s (((Wo cy ad I A G T) ++ [qd_L cy ao o]) ++ (Wm cy am J B w)) H locs) {i : Int32} (hin : ∀ j : Nat, j ≤ 5 → vp_in (i + Int32.ofNat j) L) (hl : lv_has ls 7 (ql_base i ao (am 0) (ad 0) b)) (hc : cells + 1 ≤ 601024) (hs : slots + 6 ≤ 7293034) (K : ∀ (ad2 : Nat → Nat) (I : Nat → Int32) (A : Nat → Nat → Int32) (G : Nat → Int32 × (Nat → Nat → Int32)) (T : Nat) (J : Nat → Int32) (B : Nat → Nat → Int32) (w : Int64) (o : Nat → Int64) (H : Heap) (locs : List Loc) (ls : Array Slot), ad2 0 = ad 0 → Inv I A G T J B w → qw_V D cy Z s ((Wo cy ad2 I A G T ++ [qd_L cy ao o]) ++ Wm cy am J B w) H locs → lv_has ls 7 (ql_base i ao (am 0) (ad 0) b) → W p l e room_1 s m #[Value.ref b] below meth c H locs (cells + 1) (slots + 6) Q (F0 m 3735 ls [])) : W p l e room_1 s m #[Value.ref b] below meth c H locs cells slots Q (F0 m 1634 ls []) := by
  have hx := S0.1; have hb := S0.2.1
  have hc0 : cells ≤ 601024 := Nat.le_trans (Nat.le_add_right _ _) hc; have hs0 : slots ≤ 7293034 := Nat.le_trans (Nat.le_add_right _ _) hs
  obtain ⟨ro, hX7, rb, J9, hM8, h0, h1⟩ := (hE ad I A G T J B w (xs (i + 1).toNatClampNeg) hI)
  have hl : lv_has ls 7 [(4, .int i), (3, .ref ao), (2, .ref (am 0)), (1, .ref (ad 0)), (0, .ref b)] := hl
  refine lv_aload_n hx hb dL_law_1634 rfl (lv_at hl 3 rfl) ?_
  refine lv_aload_n hx hb dL_law_1635 rfl (lv_at hl 4 rfl) ?_
  refine lv_iload hx hb dL_law_1636 (lv_at hl 0 rfl) ?_
  refine lv_iconst (v := 1) hx hb dL_law_1638 (by decide) ?_
  refine lv_iadd hx hb dL_law_1639 ?_
  refine va_sld hx hb hX hbl hbA V.2.2.2.1 (hin 1 (by decide)) dL_law_1640 ?_
  refine lv_aload_n hx hb dL_law_1641 rfl (lv_at hl 1 rfl) ?_
  refine ql_cW (rest := []) (wc := (Wo cy ad I A G T) ++ [qd_L cy ao o]) (wr := (Wm cy am J B w)) S0 V hl (c_L_isSuspended l hst hX7) kg_L_251 rfl ⟨rfl, rfl⟩ kd_L_isSuspended ⟨(Nat.le_of_ble_eq_true rfl), (Nat.le_of_ble_eq_true rfl)⟩ rfl rfl (Nat.le_of_ble_eq_true rfl) ⟨hc, hs⟩ dL_law_1642 (fun H locs hro V => ?_) (fun v9 H locs hro V => ?_)
  · have hcN : cells + 1 + 0 ≤ 601024 := hc
    have hsN : slots + 6 + 0 ≤ 7293034 := hs
    obtain ⟨t1, hI9⟩ := h0 hro
    refine lv_istore (lv' := [(5, .int 1), (4, .int i), (3, .ref ao), (2, .ref (am 0)), (1, .ref (ad 0)), (0, .ref b)]) hx hb dL_law_1645 hl (by decide) rfl (fun ls hl => ?_)
    refine lv_aload_n hx hb dL_law_1647 rfl (lv_at hl 3 rfl) ?_
    refine lv_aload_n hx hb dL_law_1648 rfl (lv_at hl 5 rfl) ?_
    refine lv_iload hx hb dL_law_1649 (lv_at hl 1 rfl) ?_
    refine lv_iconst (v := 1) hx hb dL_law_1651 (by decide) ?_
    refine lv_iadd hx hb dL_law_1652 ?_
    refine va_sld hx hb hX hbl hbA V.2.2.2.1 (hin 1 (by decide)) dL_law_1653 ?_
    have V := ql_V.swap V
    refine ql_cV (rest := []) (st1 := [.int rb]) (wc := (Wm cy am J B w)) (wr := ((Wo cy ad I A G T) ++ [qd_L cy ao o])) S0 V hl 0 gM_0 rfl (c_X8_isSuspended l hM8) kg_L_253 rfl ⟨rfl, rfl⟩ kd_X8_isSuspended ⟨(Nat.le_of_ble_eq_true rfl), (Nat.le_of_ble_eq_true rfl)⟩ rfl rfl (Nat.le_of_ble_eq_true rfl) ⟨hcN, hsN⟩ rfl dL_law_1654 (fun H locs V => ?_)
    have V := ql_V.swap V
    refine lv_istore (lv' := [(6, .int rb), (5, .int 1), (4, .int i), (3, .ref ao), (2, .ref (am 0)), (1, .ref (ad 0)), (0, .ref b)]) hx hb dL_law_1657 hl (by decide) rfl (fun ls hl => ?_)
    refine lv_aload_n hx hb dL_law_1659 rfl (lv_at hl 4 rfl) ?_
    refine ql_cVR (rest := []) (st1 := [.int (J9 1)]) (wc := (Wm cy am J9 B w)) (wr := ((Wo cy ad I A G T) ++ [qd_L cy ao o])) S0 (ql_V.swap V) hl 0 gM_0 rfl (c_X8_thrown l rfl) kg_L_200 rfl ⟨rfl, rfl⟩ kd_X8_thrown ⟨(Nat.le_of_ble_eq_true rfl), (Nat.le_of_ble_eq_true rfl)⟩ rfl rfl (Nat.le_of_ble_eq_true rfl) ⟨hcN, hsN⟩ rfl dL_law_1660 ?_
    refine lv_iload hx hb dL_law_1663 (lv_at hl 1 rfl) ?_
    refine lv_icmp_eq (tgt := 1670) hx hb dL_law_1665 (by decide) (fun _ => ?_) (fun c9 => absurd t1 c9)
    refine lv_iload hx hb dL_law_1670 (lv_at hl 1 rfl) ?_
    refine lv_if_ne (tgt := 1694) hx hb dL_law_1672 (by decide) (fun _ => ?_) (fun c9 => absurd c9 (by decide))
    refine lv_goto (tgt := 3735) hx hb dL_law_1694 (by decide) ?_
    exact K _ _ _ _ _ _ _ _ _ _ _ _ rfl hI9 V (lv_sub hl [2, 3, 4, 5, 6] rfl)
  · have hcN : cells + 1 + 0 ≤ 601024 := hc
    have hsN : slots + 6 + 0 ≤ 7293034 := hs
    obtain ⟨t1, hOut, hI9⟩ := h1 v9 hro
    have V : qw_V D cy Z s (((Wo cy ad I A G T) ++ [qd_L cy ao (vp_updL o 0 (if v9 = 0 then (0 : Int64) else 1))]) ++ (Wm cy am J B w)) H locs := V
    refine lv_istore (lv' := [(5, .int 0), (4, .int i), (3, .ref ao), (2, .ref (am 0)), (1, .ref (ad 0)), (0, .ref b)]) hx hb dL_law_1645 hl (by decide) rfl (fun ls hl => ?_)
    refine lv_aload_n hx hb dL_law_1647 rfl (lv_at hl 3 rfl) ?_
    refine lv_aload_n hx hb dL_law_1648 rfl (lv_at hl 5 rfl) ?_
    refine lv_iload hx hb dL_law_1649 (lv_at hl 1 rfl) ?_
    refine lv_iconst (v := 1) hx hb dL_law_1651 (by decide) ?_
    refine lv_iadd hx hb dL_law_1652 ?_
    refine va_sld hx hb hX hbl hbA V.2.2.2.1 (hin 1 (by decide)) dL_law_1653 ?_
    have V := ql_V.swap V
    refine ql_cV (rest := []) (st1 := [.int rb]) (wc := (Wm cy am J B w)) (wr := ((Wo cy ad I A G T) ++ [qd_L cy ao (vp_updL o 0 (if v9 = 0 then (0 : Int64) else 1))])) S0 V hl 0 gM_0 rfl (c_X8_isSuspended l hM8) kg_L_253 rfl ⟨rfl, rfl⟩ kd_X8_isSuspended ⟨(Nat.le_of_ble_eq_true rfl), (Nat.le_of_ble_eq_true rfl)⟩ rfl rfl (Nat.le_of_ble_eq_true rfl) ⟨hcN, hsN⟩ rfl dL_law_1654 (fun H locs V => ?_)
    have V := ql_V.swap V
    refine lv_istore (lv' := [(6, .int rb), (5, .int 0), (4, .int i), (3, .ref ao), (2, .ref (am 0)), (1, .ref (ad 0)), (0, .ref b)]) hx hb dL_law_1657 hl (by decide) rfl (fun ls hl => ?_)
    refine lv_aload_n hx hb dL_law_1659 rfl (lv_at hl 4 rfl) ?_
    refine ql_cVR (rest := []) (st1 := [.int (J9 1)]) (wc := (Wm cy am J9 B w)) (wr := ((Wo cy ad I A G T) ++ [qd_L cy ao (vp_updL o 0 (if v9 = 0 then (0 : Int64) else 1))])) S0 (ql_V.swap V) hl 0 gM_0 rfl (c_X8_thrown l rfl) kg_L_200 rfl ⟨rfl, rfl⟩ kd_X8_thrown ⟨(Nat.le_of_ble_eq_true rfl), (Nat.le_of_ble_eq_true rfl)⟩ rfl rfl (Nat.le_of_ble_eq_true rfl) ⟨hcN, hsN⟩ rfl dL_law_1660 ?_
    refine lv_iload hx hb dL_law_1663 (lv_at hl 1 rfl) ?_
    refine lv_icmp_eq (tgt := 1670) hx hb dL_law_1665 (by decide) (fun _ => ?_) (fun c9 => absurd t1 c9)
    refine lv_iload hx hb dL_law_1670 (lv_at hl 1 rfl) ?_
    refine lv_if_ne (tgt := 1694) hx hb dL_law_1672 (by decide) (fun c9 => absurd rfl c9) (fun _ => ?_)
    refine lv_aload_n hx hb dL_law_1675 rfl (lv_at hl 3 rfl) ?_
    refine lv_iconst (v := 0) hx hb dL_law_1676 (by decide) ?_
    refine ql_lald S0 V rfl dL_law_1677 ?_
    refine lv_iload hx hb dL_law_1678 (lv_at hl 0 rfl) ?_
    refine lv_if_eq (tgt := 1687) hx hb dL_law_1680 (by decide) (fun c1 => ?_) (fun c1 => ?_)
    · refine lv_lconst (v := 0) hx hb dL_law_1687 rfl ?_
      refine W.lcmp hx hb dL_law_1688 ?_
      refine lv_if_eq (tgt := 1694) hx hb dL_law_1689 (by decide) (fun _ => ?_) (fun c9 => absurd (by show lg_cmp (if v9 = 0 then (0 : Int64) else 1) 0 = 0; rw [hOut, if_pos c1]; exact ql_cmp _) c9)
      refine lv_goto (tgt := 3735) hx hb dL_law_1694 (by decide) ?_
      exact K _ _ _ _ _ _ _ _ _ _ _ _ rfl hI9 V (lv_sub hl [2, 3, 4, 5, 6] rfl)
    · refine lv_lconst (v := 1) hx hb dL_law_1683 rfl ?_
      refine lv_goto (tgt := 1688) hx hb dL_law_1684 (by decide) ?_
      refine W.lcmp hx hb dL_law_1688 ?_
      refine lv_if_eq (tgt := 1694) hx hb dL_law_1689 (by decide) (fun _ => ?_) (fun c9 => absurd (by show lg_cmp (if v9 = 0 then (0 : Int64) else 1) 1 = 0; rw [hOut, if_neg c1]; exact ql_cmp _) c9)
      refine lv_goto (tgt := 3735) hx hb dL_law_1694 (by decide) ?_
      exact K _ _ _ _ _ _ _ _ _ _ _ _ rfl hI9 V (lv_sub hl [2, 3, 4, 5, 6] rfl)
