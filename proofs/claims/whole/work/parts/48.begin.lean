section QN
variable {p : Program} {l : Launch} {e : Env} {R : Room} {s : State} {m : MethodId} {args : Array Value} {below : List Frame} {meth : Method} {c : Code} {H : Heap} {locs : List Loc} {cells slots : Nat} {Q : State → Prop}
variable {cc : ByteArray} {pc nL : Nat} {ls : Array Slot} {rest : List Value} {D : va_G} {cy : Nat → ClassId} {A : Nat → Prop} {a : Nat} {ws ws' : va_W} {own : String}
theorem qc_newl (S0 : CallFix p m c cc nL s args qw_big own) (V : qw_V D cy A s ws H locs) {n : Int32} {N : Nat} (hn : ¬ n < 0) (hN : n.toNatClampNeg = N) (hbytes : N * 8 ≤ 536870912) (hcells : cells + 1 ≤ R.cells) (hslots : slots + N ≤ R.slots) (hdg : decode cc pc = .ok (.newarray .long, 2))
    (kk : ∀ (q : Nat) (H1 : Heap), qw_V D cy A s (ws ++ [(q, .inl (cy 4, N, .inr (.inl (fun _ => 0))))]) H1 locs → W p l e R s m args below meth c H1 locs (cells + 1) (slots + N) Q (F0 m (pc + 2) ls (.ref q :: rest))) : W p l e R s m args below meth c H locs cells slots Q (F0 m pc ls (.int n :: rest)) := by
  refine va_newa (atype := .long) (ty := .long) (a0 := (N, .inr (.inl (fun _ => 0)))) S0.1 S0.2.1 (S0.2.2.2.2 _ km_al) rfl V.2.1 V.1 V.2.2.1 V.2.2.2.1 V.2.2.2.2.1 (fun _ => rfl) hn hN hbytes hcells hslots hdg (fun q cA H1 hK hP hD hS => ?_)
  have e := qc_same hK 4 rfl
  subst e
  exact kk q H1 ⟨hP, V.2.1, hD, hS, V.2.2.2.2⟩
end QN
theorem ql_mid {s : State} {D : va_G} {cy : Nat → ClassId} {A : Nat → Prop} {H : Heap} {locs : List Loc} {wa wb wd : va_W} (V : qw_V D cy A s ((wa ++ wb) ++ wd) H locs) : qw_V D cy A s ((wa ++ wd) ++ wb) H locs := ⟨va_P.swap V.1, V.2.1, va_D.swap V.2.2.1, V.2.2.2⟩
set_option maxHeartbeats 4000000 in
set_option maxRecDepth 100000 in
theorem ql_start {Inv : ql_Inv} (hE0 : QE_feed Inv) (hE1 : QE_load Inv) (hE2 : QE_errorPosition Inv) (hE3 : QE_groupCount Inv) (hE4 : QE_goodCount Inv) (hE5 : QE_houseCount Inv) (hE6 : QE_shopCount Inv) (hE7 : QE_undoCount Inv) (hE8 : QE_period Inv) (hE9 : QE_groupNamed Inv) (hE10 : QE_goodNamed Inv) (hE11 : QE_houseNamed Inv) (hE12 : QE_shopNamed Inv) (hE13 : QE_groupProperty Inv) (hE14 : QE_goodProperty Inv) (hE15 : QE_sizeOf Inv) (hE16 : QE_getSetting Inv) (hE17 : QE_coupons Inv) (hE18 : QE_couponsWith Inv) (hE19 : QE_lapsing Inv) (hE20 : QE_couponsAfter Inv) (hE21 : QE_neediest Inv) (hE22 : QE_givenBy Inv) (hE23 : QE_takenBy Inv) (hE24 : QE_tradeRoom Inv) (hE25 : QE_helpers Inv) (hE26 : QE_stockOf Inv) (hE27 : QE_accountOf Inv) (hE28 : QE_penaltyOf Inv) (hE29 : QE_isSuspended Inv) (hE30 : QE_soldBy Inv) (hE31 : QE_deliveredTo Inv) (hE32 : QE_turnover Inv) (hE33 : QE_issued Inv) (hE34 : QE_spent Inv) (hE35 : QE_lapsed Inv) (hE36 : QE_held Inv) (hE37 : QE_reasonFor Inv) (hE38 : QE_mostUnits Inv) (hE39 : QE_substituted Inv) (hE40 : QE_served Inv) (hE41 : QE_basketValue Inv) (hE42 : QE_basketUnits Inv) (hE43 : QE_waitFor Inv) (hE44 : QE_bestShop Inv) (hE45 : QE_bestHouse Inv) (hE46 : QE_basketCost Inv) (hE47 : QE_basketLeft Inv) (hE48 : QE_swapChain Inv) (hE49 : QE_mostDeliverable Inv) (hE50 : QE_spreadOf Inv) (hE51 : QE_levelMoves Inv) (hE52 : QE_lapseAfter Inv) (hE53 : QE_supplyPeriods Inv) (hE54 : QE_buy Inv) (hE55 : QE_deliver Inv) (hE56 : QE_trade Inv) (hE57 : QE_audit Inv) (hE58 : QE_pardon Inv) (hE59 : QE_nextPeriod Inv) (hE60 : QE_setRation Inv) (hE61 : QE_setSize Inv) (hE62 : QE_setSetting Inv) (hE63 : QE_undo Inv) (hI0 : Inv qc_I qc_A qc_G 5 qc_mI qc_mA 0) {p : Program} {e : Env} {s : State} {m : MethodId} {below : List Frame} {meth : Method} {c : Code} (l : Launch) (hflags : l.flags = flags0) {b L : Nat} {xs : Nat → Int32} (hL : L ≤ 3072) (C0 : lw_At p s m meth c b L xs) : W p l e room_1 s m #[Value.ref b] below meth c s.heap [] 0 0 (lw_Z below #[Value.ref b] s) (entryFrame m ([Value.ref b] : List Value).toArray 7) := by
  obtain ⟨hx, hb, hr, hml, hown, htl, hX, hbl, hlocks, hgv⟩ := C0
  have hst : l.stackTraces = false := by unfold Launch.stackTraces; rw [hflags]; rfl
  have hts : ∀ w ∈ qw_big, w.before #[Value.ref b] s = true := fun w h => htl w (lt_big w h)
  have S0 : CallFix p m c code 7 s #[Value.ref b] qw_big RL := ⟨hx, hb, hml, hown, hts⟩
  have hAO : va_AO "RationOffice$State" s := va_AO.of (htl _ (mt_2 _ (List.mem_of_getElem? (i := 21) rfl)))
  have hAA : va_AOA .int s := va_AOA.of (htl _ (mt_2 _ (List.mem_of_getElem? (i := 41) rfl)))
  obtain ⟨D, cy, hK⟩ := ql_K hts hAO hAA
  have hE := ql_E htl hgv hK hAO hAA
  obtain ⟨Z, hZe⟩ : ∃ Z : Nat → Prop, Z = fun q => s.heap.size ≤ q := ⟨_, rfl⟩
  have V : qw_V D cy Z s ([] : va_W) s.heap [] := by
    subst hZe
    exact ⟨fun k q h => (by cases h), hK, ⟨fun i j p q h => (by cases h), fun k q h => (by cases h)⟩, va_S.rf, fun q h => h, hE⟩
  have hZ : ∀ q, Z q → s.heap.size ≤ q := fun q h => by rw [hZe] at h; exact h
  rw [lg_entry_eq]
  have hl := lv_entry ([.ref b]) (n := 7) (Nat.le_of_ble_eq_true rfl)
  generalize (lg_sl ([.ref b]) ++ List.replicate (7 - (lg_sl ([.ref b])).length) Slot.unset).toArray = ls at hl ⊢
  have hl : lv_has ls 7 [(0, .ref b)] := hl
  refine qc_new (C := RX7) (T := TX7) (N := 9) (ci := 6) (fs := [.null, .null, .null, .null, .null, .null, .null, .int 0, .int 0]) S0 V kc_X7 tyX7 tyX7_ok kcl_L_8 kinst_X7 kini_X7 rfl (by decide) (Nat.le_of_ble_eq_true rfl) (Nat.le_of_ble_eq_true rfl) dL_law_0 (fun qx H V => ?_)
  refine lv_dup hx hb dL_law_3 rfl ?_
  refine qc_cI (wr := []) (Wf := fun r => Wo cy (qc_a qx r) qc_I qc_A qc_G 5) S0 V hl (c_X7_init l) kw_X7_init rfl ⟨rfl, rfl⟩ kini_X7 kml_L_136 kin_X7_init rfl kdi_X7 ⟨(Nat.le_of_ble_eq_true rfl), (Nat.le_of_ble_eq_true rfl)⟩ (Nat.le_of_ble_eq_true rfl) ⟨(Nat.le_of_ble_eq_true rfl), (Nat.le_of_ble_eq_true rfl)⟩ dL_law_4 (fun H locs rx V => ?_)
  have V : qw_V D cy Z s (Wo cy (qc_a qx rx) qc_I qc_A qc_G 5) H locs := V
  refine lv_astore_n (lv' := [(1, .ref qx), (0, .ref b)]) hx hb dL_law_7 rfl hl (by decide) rfl (fun ls hl => ?_)
  refine qc_new (C := RX8) (T := TX8) (N := 22) (ci := 7) (fs := [.null, .null, .null, .int 0, .int 0, .null, .null, .null, .int 0, .int 0, .int 0, .int 0, .int 0, .long 0, .int 0, .int 0, .int 0, .int 0, .int 0, .null, .null, .null]) S0 V kc_X8 tyX8 tyX8_ok kcl_L_137 kinst_X8 kini_X8 rfl (by decide) (Nat.le_of_ble_eq_true rfl) (Nat.le_of_ble_eq_true rfl) dL_law_8 (fun qm H V => ?_)
  refine lv_dup hx hb dL_law_11 rfl ?_
  refine qc_cI (wr := Wo cy (qc_a qx rx) qc_I qc_A qc_G 5) (Wf := fun r => Wm cy (qc_a qm r) qc_mI qc_mA 0) S0 V hl (c_X8_init l) kw_X8_init rfl ⟨rfl, rfl⟩ kini_X8 kml_L_139 kin_X8_init rfl kdi_X8 ⟨(Nat.le_of_ble_eq_true rfl), (Nat.le_of_ble_eq_true rfl)⟩ (Nat.le_of_ble_eq_true rfl) ⟨(Nat.le_of_ble_eq_true rfl), (Nat.le_of_ble_eq_true rfl)⟩ dL_law_12 (fun H locs rm V => ?_)
  refine lv_astore_n (lv' := [(2, .ref qm), (1, .ref qx), (0, .ref b)]) hx hb dL_law_15 rfl hl (by decide) rfl (fun ls hl => ?_)
  refine lv_iconst (v := 1) hx hb dL_law_16 (by decide) ?_
  refine qc_newl (N := 1) S0 V (by decide) rfl (Nat.le_of_ble_eq_true rfl) (Nat.le_of_ble_eq_true rfl) (Nat.le_of_ble_eq_true rfl) dL_law_17 (fun ao H V => ?_)
  refine lv_astore_n (lv' := [(3, .ref ao), (2, .ref qm), (1, .ref qx), (0, .ref b)]) hx hb dL_law_19 rfl hl (by decide) rfl (fun ls hl => ?_)
  refine lv_iconst (v := 0) hx hb dL_law_20 (by decide) ?_
  refine lv_istore (lv' := [(4, .int 0), (3, .ref ao), (2, .ref qm), (1, .ref qx), (0, .ref b)]) hx hb dL_law_21 hl (by decide) rfl (fun ls hl => ?_)
  have V : qw_V D cy Z s ((Wo cy (qc_a qx rx) qc_I qc_A qc_G 5 ++ [qd_L cy ao (fun _ => 0)]) ++ Wm cy (qc_a qm rm) qc_mI qc_mA 0) H locs := ql_mid V
  refine ql_loop hL hst S0 hr hlocks hX hbl hZ hE0 hE1 hE2 hE3 hE4 hE5 hE6 hE7 hE8 hE9 hE10 hE11 hE12 hE13 hE14 hE15 hE16 hE17 hE18 hE19 hE20 hE21 hE22 hE23 hE24 hE25 hE26 hE27 hE28 hE29 hE30 hE31 hE32 hE33 hE34 hE35 hE36 hE37 hE38 hE39 hE40 hE41 hE42 hE43 hE44 hE45 hE46 hE47 hE48 hE49 hE50 hE51 hE52 hE53 hE54 hE55 hE56 hE57 hE58 hE59 hE60 hE61 hE62 hE63 (am := qc_a qm rm) (ao := ao) (a1 := qx) 513 (qc_a qx rx) qc_I qc_A qc_G 5 qc_mI qc_mA 0 (fun _ => 0) H locs _ _ ls 0 hI0 V hl rfl rfl (Nat.le_of_ble_eq_true rfl) (Nat.le_of_ble_eq_true rfl)
