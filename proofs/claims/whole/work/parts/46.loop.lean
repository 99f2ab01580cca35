theorem ql_sub6 {L : Nat} (hL : L ≤ 3072) : (nI L - 6).toInt = (L : Int) - 6 := by
  rw [Int32.toInt_sub, nI_toInt (by omega), show (6 : Int32).toInt = 6 from rfl]
  unfold Int.bmod
  dsimp only
  split <;> omega
theorem ql_cond {L j : Nat} (hL : L ≤ 3072) (hj : j ≤ 513) : (nI L - 6 < nI (6 * j)) ↔ L < 6 * j + 6 := by
  rw [Int32.lt_iff_toInt_lt, ql_sub6 hL, nI_toInt (by omega)]
  omega
theorem ql_vin {L j k : Nat} (hL : L ≤ 3072) (h : 6 * j + 6 ≤ L) (hk : k ≤ 5) : vp_in (nI (6 * j) + Int32.ofNat k) L := by
  show vp_in (nI (6 * j) + nI k) L
  rw [nI_add]
  exact nI_in (by omega) (by omega)
set_option maxHeartbeats 8000000 in
set_option maxRecDepth 100000 in
theorem ql_loop {p : Program} {l : Launch} {e : Env} {s : State} {m : MethodId} {below : List Frame} {meth : Method} {c : Code} {D : va_G} {cy : Nat → ClassId} {Z : Nat → Prop} {b L : Nat} {xs : Nat → Int32} (hL : L ≤ 3072) (hst : l.stackTraces = false) (S0 : CallFix p m c code 7 s #[Value.ref b] qw_big RL) (hr : meth.sig.returnType = ret) (hlocks : meth.locks = false) (hX : va_X b L xs s s.heap) (hbl : b < s.heap.size) (hZ : ∀ q, Z q → s.heap.size ≤ q) {Inv : ql_Inv} (hE0 : QE_feed Inv) (hE1 : QE_load Inv) (hE2 : QE_errorPosition Inv) (hE3 : QE_groupCount Inv) (hE4 : QE_goodCount Inv) (hE5 : QE_houseCount Inv) (hE6 : QE_shopCount Inv) (hE7 : QE_undoCount Inv) (hE8 : QE_period Inv) (hE9 : QE_groupNamed Inv) (hE10 : QE_goodNamed Inv) (hE11 : QE_houseNamed Inv) (hE12 : QE_shopNamed Inv) (hE13 : QE_groupProperty Inv) (hE14 : QE_goodProperty Inv) (hE15 : QE_sizeOf Inv) (hE16 : QE_getSetting Inv) (hE17 : QE_coupons Inv) (hE18 : QE_couponsWith Inv) (hE19 : QE_lapsing Inv) (hE20 : QE_couponsAfter Inv) (hE21 : QE_neediest Inv) (hE22 : QE_givenBy Inv) (hE23 : QE_takenBy Inv) (hE24 : QE_tradeRoom Inv) (hE25 : QE_helpers Inv) (hE26 : QE_stockOf Inv) (hE27 : QE_accountOf Inv) (hE28 : QE_penaltyOf Inv) (hE29 : QE_isSuspended Inv) (hE30 : QE_soldBy Inv) (hE31 : QE_deliveredTo Inv) (hE32 : QE_turnover Inv) (hE33 : QE_issued Inv) (hE34 : QE_spent Inv) (hE35 : QE_lapsed Inv) (hE36 : QE_held Inv) (hE37 : QE_reasonFor Inv) (hE38 : QE_mostUnits Inv) (hE39 : QE_substituted Inv) (hE40 : QE_served Inv) (hE41 : QE_basketValue Inv) (hE42 : QE_basketUnits Inv) (hE43 : QE_waitFor Inv) (hE44 : QE_bestShop Inv) (hE45 : QE_bestHouse Inv) (hE46 : QE_basketCost Inv) (hE47 : QE_basketLeft Inv) (hE48 : QE_swapChain Inv) (hE49 : QE_mostDeliverable Inv) (hE50 : QE_spreadOf Inv) (hE51 : QE_levelMoves Inv) (hE52 : QE_lapseAfter Inv) (hE53 : QE_supplyPeriods Inv) (hE54 : QE_buy Inv) (hE55 : QE_deliver Inv) (hE56 : QE_trade Inv) (hE57 : QE_audit Inv) (hE58 : QE_pardon Inv) (hE59 : QE_nextPeriod Inv) (hE60 : QE_setRation Inv) (hE61 : QE_setSize Inv) (hE62 : QE_setSetting Inv) (hE63 : QE_undo Inv) {am : Nat → Nat} {ao a1 : Nat} : ∀ (n : Nat) (ad : Nat → Nat) (I : Nat → Int32) (A : Nat → Nat → Int32) (G : Nat → Int32 × (Nat → Nat → Int32)) (T : Nat) (J : Nat → Int32) (B : Nat → Nat → Int32) (w : Int64) (o : Nat → Int64) (H : Heap) (locs : List Loc) (cells slots : Nat) (ls : Array Slot) (j : Nat), Inv I A G T J B w → qw_V D cy Z s ((Wo cy ad I A G T ++ [qd_L cy ao o]) ++ Wm cy am J B w) H locs → lv_has ls 7 (ql_base (nI (6 * j)) ao (am 0) a1 b) → j + n = 513 → ad 0 = a1 → cells + n ≤ 601024 → slots + 6 * n ≤ 7293034 → W p l e room_1 s m #[Value.ref b] below meth c H locs cells slots (lw_Z below #[Value.ref b] s) (F0 m 23 ls []) := by
  have hx := S0.1; have hb := S0.2.1
  have hbA : ¬ Z b := fun h => Nat.lt_irrefl _ (Nat.lt_of_lt_of_le hbl (hZ b h))
  intro n
  induction n with
  | zero =>
    intro ad I A G T J B w o H locs cells slots ls j hI V hl hj had hc hs
    refine lv_iload hx hb dL_law_23 (lv_at hl 0 rfl) ?_
    refine lv_aload_n hx hb dL_law_25 rfl (lv_at hl 4 rfl) ?_
    refine va_slen hx hb hX hbl hbA V.2.2.2.1 dL_law_26 ?_
    refine lv_bipush (v := 6) hx hb dL_law_27 (by decide) ?_
    refine lv_isub hx hb dL_law_29 ?_
    refine lv_icmp_gt (tgt := 3741) hx hb dL_law_30 (by decide) (fun cE => ?_) (fun cE => ?_)
    · refine lv_iconst (v := 1) hx hb dL_law_3741 (by decide) ?_
      refine va_forget (fun q hq => hZ _ (V.2.2.2.1.2.2 q hq)) ?_
      refine W.widen (k := 601024) (n := 7293034) (by omega) (by omega) ?_
      exact lw_ret hx hb hr hlocks dL_law_3742
    · exact absurd ((ql_cond hL (by omega)).mpr (by omega)) cE
  | succ n ih =>
    intro ad I A G T J B w o H locs cells slots ls j hI V hl hj had hc hs
    refine lv_iload hx hb dL_law_23 (lv_at hl 0 rfl) ?_
    refine lv_aload_n hx hb dL_law_25 rfl (lv_at hl 4 rfl) ?_
    refine va_slen hx hb hX hbl hbA V.2.2.2.1 dL_law_26 ?_
    refine lv_bipush (v := 6) hx hb dL_law_27 (by decide) ?_
    refine lv_isub hx hb dL_law_29 ?_
    refine lv_icmp_gt (tgt := 3741) hx hb dL_law_30 (by decide) (fun cE => ?_) (fun cE => ?_)
    · refine lv_iconst (v := 1) hx hb dL_law_3741 (by decide) ?_
      refine va_forget (fun q hq => hZ _ (V.2.2.2.1.2.2 q hq)) ?_
      refine W.widen (k := 601024) (n := 7293034) (by omega) (by omega) ?_
      exact lw_ret hx hb hr hlocks dL_law_3742
    have h6 : 6 * j + 6 ≤ L := Nat.not_lt.mp (fun h => cE ((ql_cond hL (by omega)).mpr h))
    have hin : ∀ k : Nat, k ≤ 5 → vp_in (nI (6 * j) + Int32.ofNat k) L := fun k hk => ql_vin hL h6 hk
    subst had
    have K : ∀ (ad2 : Nat → Nat) (I : Nat → Int32) (A : Nat → Nat → Int32) (G : Nat → Int32 × (Nat → Nat → Int32)) (T : Nat) (J : Nat → Int32) (B : Nat → Nat → Int32) (w : Int64) (o : Nat → Int64) (H : Heap) (locs : List Loc) (ls : Array Slot), ad2 0 = ad 0 → Inv I A G T J B w → qw_V D cy Z s ((Wo cy ad2 I A G T ++ [qd_L cy ao o]) ++ Wm cy am J B w) H locs → lv_has ls 7 (ql_base (nI (6 * j)) ao (am 0) (ad 0) b) → W p l e room_1 s m #[Value.ref b] below meth c H locs (cells + 1) (slots + 6) (lw_Z below #[Value.ref b] s) (F0 m 3735 ls []) := by
      intro ad2 I A G T J B w o H locs ls h2 hI V hl
      have e9 : nI (6 * j) + 6 = nI (6 * (j + 1)) := nI_add (6 * j) 6
      refine lv_iinc (v := nI (6 * (j + 1))) (lv' := ql_base (nI (6 * (j + 1))) ao (am 0) (ad 0) b) hx hb dL_law_3735 hl (k := 0) rfl (by rw [← e9]; rfl) (by decide) rfl (fun ls hl => ?_)
      refine lv_goto (tgt := 23) hx hb dL_law_3738 (by decide) ?_
      exact ih ad2 I A G T J B w o H locs (cells + 1) (slots + 6) ls (j + 1) hI V hl (by omega) h2 (by omega) (by omega)
    refine lv_aload_n hx hb dL_law_33 rfl (lv_at hl 4 rfl) ?_
    refine lv_iload hx hb dL_law_34 (lv_at hl 0 rfl) ?_
    refine va_sld hx hb hX hbl hbA V.2.2.2.1 (nI_in (by omega) (by omega)) dL_law_36 ?_
    refine lv_bipush (v := 63) hx hb dL_law_37 (by decide) ?_
    refine lv_iand hx hb dL_law_39 ?_
    refine lv_topi (fun x e_x => ?_)
    clear e_x
    by_cases c0 : x = 0
    · refine lv_tableIn (tgt := 312) hx hb dL_law_40 (by rw [c0]; decide) (by rw [c0]; decide) (by rw [c0]; rfl) (by decide) ?_
      exact ql_0 hst S0 hX hbl hbA hE0 hI V hin hl (by omega) (by omega) K
    by_cases c1 : x = 1
    · refine lv_tableIn (tgt := 385) hx hb dL_law_40 (by rw [c1]; decide) (by rw [c1]; decide) (by rw [c1]; rfl) (by decide) ?_
      exact ql_1 hst S0 hX hbl hbA hE1 hI V hin hl (by omega) (by omega) K
    by_cases c2 : x = 2
    · refine lv_tableIn (tgt := 410) hx hb dL_law_40 (by rw [c2]; decide) (by rw [c2]; decide) (by rw [c2]; rfl) (by decide) ?_
      exact ql_2 hst S0 hX hbl hbA hE2 hI V hin hl (by omega) (by omega) K
    by_cases c3 : x = 3
    · refine lv_tableIn (tgt := 423) hx hb dL_law_40 (by rw [c3]; decide) (by rw [c3]; decide) (by rw [c3]; rfl) (by decide) ?_
      exact ql_3 hst S0 hX hbl hbA hE3 hI V hin hl (by omega) (by omega) K
    by_cases c4 : x = 4
    · refine lv_tableIn (tgt := 436) hx hb dL_law_40 (by rw [c4]; decide) (by rw [c4]; decide) (by rw [c4]; rfl) (by decide) ?_
      exact ql_4 hst S0 hX hbl hbA hE4 hI V hin hl (by omega) (by omega) K
    by_cases c5 : x = 5
    · refine lv_tableIn (tgt := 449) hx hb dL_law_40 (by rw [c5]; decide) (by rw [c5]; decide) (by rw [c5]; rfl) (by decide) ?_
      exact ql_5 hst S0 hX hbl hbA hE5 hI V hin hl (by omega) (by omega) K
    by_cases c6 : x = 6
    · refine lv_tableIn (tgt := 462) hx hb dL_law_40 (by rw [c6]; decide) (by rw [c6]; decide) (by rw [c6]; rfl) (by decide) ?_
      exact ql_6 hst S0 hX hbl hbA hE6 hI V hin hl (by omega) (by omega) K
    by_cases c7 : x = 7
    · refine lv_tableIn (tgt := 475) hx hb dL_law_40 (by rw [c7]; decide) (by rw [c7]; decide) (by rw [c7]; rfl) (by decide) ?_
      exact ql_7 hst S0 hX hbl hbA hE7 hI V hin hl (by omega) (by omega) K
    by_cases c8 : x = 8
    · refine lv_tableIn (tgt := 488) hx hb dL_law_40 (by rw [c8]; decide) (by rw [c8]; decide) (by rw [c8]; rfl) (by decide) ?_
      exact ql_8 hst S0 hX hbl hbA hE8 hI V hin hl (by omega) (by omega) K
    by_cases c9 : x = 9
    · refine lv_tableIn (tgt := 501) hx hb dL_law_40 (by rw [c9]; decide) (by rw [c9]; decide) (by rw [c9]; rfl) (by decide) ?_
      exact ql_9 hst S0 hX hbl hbA hE9 hI V hin hl (by omega) (by omega) K
    by_cases c10 : x = 10
    · refine lv_tableIn (tgt := 526) hx hb dL_law_40 (by rw [c10]; decide) (by rw [c10]; decide) (by rw [c10]; rfl) (by decide) ?_
      exact ql_10 hst S0 hX hbl hbA hE10 hI V hin hl (by omega) (by omega) K
    by_cases c11 : x = 11
    · refine lv_tableIn (tgt := 551) hx hb dL_law_40 (by rw [c11]; decide) (by rw [c11]; decide) (by rw [c11]; rfl) (by decide) ?_
      exact ql_11 hst S0 hX hbl hbA hE11 hI V hin hl (by omega) (by omega) K
    by_cases c12 : x = 12
    · refine lv_tableIn (tgt := 576) hx hb dL_law_40 (by rw [c12]; decide) (by rw [c12]; decide) (by rw [c12]; rfl) (by decide) ?_
      exact ql_12 hst S0 hX hbl hbA hE12 hI V hin hl (by omega) (by omega) K
    by_cases c13 : x = 13
    · refine lv_tableIn (tgt := 601) hx hb dL_law_40 (by rw [c13]; decide) (by rw [c13]; decide) (by rw [c13]; rfl) (by decide) ?_
      exact ql_13 hst S0 hX hbl hbA hE13 hI V hin hl (by omega) (by omega) K
    by_cases c14 : x = 14
    · refine lv_tableIn (tgt := 669) hx hb dL_law_40 (by rw [c14]; decide) (by rw [c14]; decide) (by rw [c14]; rfl) (by decide) ?_
      exact ql_14 hst S0 hX hbl hbA hE14 hI V hin hl (by omega) (by omega) K
    by_cases c15 : x = 15
    · refine lv_tableIn (tgt := 737) hx hb dL_law_40 (by rw [c15]; decide) (by rw [c15]; decide) (by rw [c15]; rfl) (by decide) ?_
      exact ql_15 hst S0 hX hbl hbA hE15 hI V hin hl (by omega) (by omega) K
    by_cases c16 : x = 16
    · refine lv_tableIn (tgt := 793) hx hb dL_law_40 (by rw [c16]; decide) (by rw [c16]; decide) (by rw [c16]; rfl) (by decide) ?_
      exact ql_16 hst S0 hX hbl hbA hE16 hI V hin hl (by omega) (by omega) K
    by_cases c17 : x = 17
    · refine lv_tableIn (tgt := 818) hx hb dL_law_40 (by rw [c17]; decide) (by rw [c17]; decide) (by rw [c17]; rfl) (by decide) ?_
      exact ql_17 hst S0 hX hbl hbA hE17 hI V hin hl (by omega) (by omega) K
    by_cases c18 : x = 18
    · refine lv_tableIn (tgt := 886) hx hb dL_law_40 (by rw [c18]; decide) (by rw [c18]; decide) (by rw [c18]; rfl) (by decide) ?_
      exact ql_18 hst S0 hX hbl hbA hE18 hI V hin hl (by omega) (by omega) K
    by_cases c19 : x = 19
    · refine lv_tableIn (tgt := 966) hx hb dL_law_40 (by rw [c19]; decide) (by rw [c19]; decide) (by rw [c19]; rfl) (by decide) ?_
      exact ql_19 hst S0 hX hbl hbA hE19 hI V hin hl (by omega) (by omega) K
    by_cases c20 : x = 20
    · refine lv_tableIn (tgt := 1034) hx hb dL_law_40 (by rw [c20]; decide) (by rw [c20]; decide) (by rw [c20]; rfl) (by decide) ?_
      exact ql_20 hst S0 hX hbl hbA hE20 hI V hin hl (by omega) (by omega) K
    by_cases c21 : x = 21
    · refine lv_tableIn (tgt := 1114) hx hb dL_law_40 (by rw [c21]; decide) (by rw [c21]; decide) (by rw [c21]; rfl) (by decide) ?_
      exact ql_21 hst S0 hX hbl hbA hE21 hI V hin hl (by omega) (by omega) K
    by_cases c22 : x = 22
    · refine lv_tableIn (tgt := 1170) hx hb dL_law_40 (by rw [c22]; decide) (by rw [c22]; decide) (by rw [c22]; rfl) (by decide) ?_
      exact ql_22 hst S0 hX hbl hbA hE22 hI V hin hl (by omega) (by omega) K
    by_cases c23 : x = 23
    · refine lv_tableIn (tgt := 1226) hx hb dL_law_40 (by rw [c23]; decide) (by rw [c23]; decide) (by rw [c23]; rfl) (by decide) ?_
      exact ql_23 hst S0 hX hbl hbA hE23 hI V hin hl (by omega) (by omega) K
    by_cases c24 : x = 24
    · refine lv_tableIn (tgt := 1282) hx hb dL_law_40 (by rw [c24]; decide) (by rw [c24]; decide) (by rw [c24]; rfl) (by decide) ?_
      exact ql_24 hst S0 hX hbl hbA hE24 hI V hin hl (by omega) (by omega) K
    by_cases c25 : x = 25
    · refine lv_tableIn (tgt := 1362) hx hb dL_law_40 (by rw [c25]; decide) (by rw [c25]; decide) (by rw [c25]; rfl) (by decide) ?_
      exact ql_25 hst S0 hX hbl hbA hE25 hI V hin hl (by omega) (by omega) K
    by_cases c26 : x = 26
    · refine lv_tableIn (tgt := 1442) hx hb dL_law_40 (by rw [c26]; decide) (by rw [c26]; decide) (by rw [c26]; rfl) (by decide) ?_
      exact ql_26 hst S0 hX hbl hbA hE26 hI V hin hl (by omega) (by omega) K
    by_cases c27 : x = 27
    · refine lv_tableIn (tgt := 1510) hx hb dL_law_40 (by rw [c27]; decide) (by rw [c27]; decide) (by rw [c27]; rfl) (by decide) ?_
      exact ql_27 hst S0 hX hbl hbA hE27 hI V hin hl (by omega) (by omega) K
    by_cases c28 : x = 28
    · refine lv_tableIn (tgt := 1578) hx hb dL_law_40 (by rw [c28]; decide) (by rw [c28]; decide) (by rw [c28]; rfl) (by decide) ?_
      exact ql_28 hst S0 hX hbl hbA hE28 hI V hin hl (by omega) (by omega) K
    by_cases c29 : x = 29
    · refine lv_tableIn (tgt := 1634) hx hb dL_law_40 (by rw [c29]; decide) (by rw [c29]; decide) (by rw [c29]; rfl) (by decide) ?_
      exact ql_29 hst S0 hX hbl hbA hE29 hI V hin hl (by omega) (by omega) K
    by_cases c30 : x = 30
    · refine lv_tableIn (tgt := 1697) hx hb dL_law_40 (by rw [c30]; decide) (by rw [c30]; decide) (by rw [c30]; rfl) (by decide) ?_
      exact ql_30 hst S0 hX hbl hbA hE30 hI V hin hl (by omega) (by omega) K
    by_cases c31 : x = 31
    · refine lv_tableIn (tgt := 1765) hx hb dL_law_40 (by rw [c31]; decide) (by rw [c31]; decide) (by rw [c31]; rfl) (by decide) ?_
      exact ql_31 hst S0 hX hbl hbA hE31 hI V hin hl (by omega) (by omega) K
    by_cases c32 : x = 32
    · refine lv_tableIn (tgt := 1833) hx hb dL_law_40 (by rw [c32]; decide) (by rw [c32]; decide) (by rw [c32]; rfl) (by decide) ?_
      exact ql_32 hst S0 hX hbl hbA hE32 hI V hin hl (by omega) (by omega) K
    by_cases c33 : x = 33
    · refine lv_tableIn (tgt := 1889) hx hb dL_law_40 (by rw [c33]; decide) (by rw [c33]; decide) (by rw [c33]; rfl) (by decide) ?_
      exact ql_33 hst S0 hX hbl hbA hE33 hI V hin hl (by omega) (by omega) K
    by_cases c34 : x = 34
    · refine lv_tableIn (tgt := 1945) hx hb dL_law_40 (by rw [c34]; decide) (by rw [c34]; decide) (by rw [c34]; rfl) (by decide) ?_
      exact ql_34 hst S0 hX hbl hbA hE34 hI V hin hl (by omega) (by omega) K
    by_cases c35 : x = 35
    · refine lv_tableIn (tgt := 2001) hx hb dL_law_40 (by rw [c35]; decide) (by rw [c35]; decide) (by rw [c35]; rfl) (by decide) ?_
      exact ql_35 hst S0 hX hbl hbA hE35 hI V hin hl (by omega) (by omega) K
    by_cases c36 : x = 36
    · refine lv_tableIn (tgt := 2057) hx hb dL_law_40 (by rw [c36]; decide) (by rw [c36]; decide) (by rw [c36]; rfl) (by decide) ?_
      exact ql_36 hst S0 hX hbl hbA hE36 hI V hin hl (by omega) (by omega) K
    by_cases c37 : x = 37
    · refine lv_tableIn (tgt := 2113) hx hb dL_law_40 (by rw [c37]; decide) (by rw [c37]; decide) (by rw [c37]; rfl) (by decide) ?_
      exact ql_37 hst S0 hX hbl hbA hE37 hI V hin hl (by omega) (by omega) K
    by_cases c38 : x = 38
    · refine lv_tableIn (tgt := 2205) hx hb dL_law_40 (by rw [c38]; decide) (by rw [c38]; decide) (by rw [c38]; rfl) (by decide) ?_
      exact ql_38 hst S0 hX hbl hbA hE38 hI V hin hl (by omega) (by omega) K
    by_cases c39 : x = 39
    · refine lv_tableIn (tgt := 2285) hx hb dL_law_40 (by rw [c39]; decide) (by rw [c39]; decide) (by rw [c39]; rfl) (by decide) ?_
      exact ql_39 hst S0 hX hbl hbA hE39 hI V hin hl (by omega) (by omega) K
    by_cases c40 : x = 40
    · refine lv_tableIn (tgt := 2365) hx hb dL_law_40 (by rw [c40]; decide) (by rw [c40]; decide) (by rw [c40]; rfl) (by decide) ?_
      exact ql_40 hst S0 hX hbl hbA hE40 hI V hin hl (by omega) (by omega) K
    by_cases c41 : x = 41
    · refine lv_tableIn (tgt := 2445) hx hb dL_law_40 (by rw [c41]; decide) (by rw [c41]; decide) (by rw [c41]; rfl) (by decide) ?_
      exact ql_41 hst S0 hX hbl hbA hE41 hI V hin hl (by omega) (by omega) K
    by_cases c42 : x = 42
    · refine lv_tableIn (tgt := 2513) hx hb dL_law_40 (by rw [c42]; decide) (by rw [c42]; decide) (by rw [c42]; rfl) (by decide) ?_
      exact ql_42 hst S0 hX hbl hbA hE42 hI V hin hl (by omega) (by omega) K
    by_cases c43 : x = 43
    · refine lv_tableIn (tgt := 2593) hx hb dL_law_40 (by rw [c43]; decide) (by rw [c43]; decide) (by rw [c43]; rfl) (by decide) ?_
      exact ql_43 hst S0 hX hbl hbA hE43 hI V hin hl (by omega) (by omega) K
    by_cases c44 : x = 44
    · refine lv_tableIn (tgt := 2673) hx hb dL_law_40 (by rw [c44]; decide) (by rw [c44]; decide) (by rw [c44]; rfl) (by decide) ?_
      exact ql_44 hst S0 hX hbl hbA hE44 hI V hin hl (by omega) (by omega) K
    by_cases c45 : x = 45
    · refine lv_tableIn (tgt := 2729) hx hb dL_law_40 (by rw [c45]; decide) (by rw [c45]; decide) (by rw [c45]; rfl) (by decide) ?_
      exact ql_45 hst S0 hX hbl hbA hE45 hI V hin hl (by omega) (by omega) K
    by_cases c46 : x = 46
    · refine lv_tableIn (tgt := 2797) hx hb dL_law_40 (by rw [c46]; decide) (by rw [c46]; decide) (by rw [c46]; rfl) (by decide) ?_
      exact ql_46 hst S0 hX hbl hbA hE46 hI V hin hl (by omega) (by omega) K
    by_cases c47 : x = 47
    · refine lv_tableIn (tgt := 2865) hx hb dL_law_40 (by rw [c47]; decide) (by rw [c47]; decide) (by rw [c47]; rfl) (by decide) ?_
      exact ql_47 hst S0 hX hbl hbA hE47 hI V hin hl (by omega) (by omega) K
    by_cases c48 : x = 48
    · refine lv_tableIn (tgt := 2945) hx hb dL_law_40 (by rw [c48]; decide) (by rw [c48]; decide) (by rw [c48]; rfl) (by decide) ?_
      exact ql_48 hst S0 hX hbl hbA hE48 hI V hin hl (by omega) (by omega) K
    by_cases c49 : x = 49
    · refine lv_tableIn (tgt := 3001) hx hb dL_law_40 (by rw [c49]; decide) (by rw [c49]; decide) (by rw [c49]; rfl) (by decide) ?_
      exact ql_49 hst S0 hX hbl hbA hE49 hI V hin hl (by omega) (by omega) K
    by_cases c50 : x = 50
    · refine lv_tableIn (tgt := 3069) hx hb dL_law_40 (by rw [c50]; decide) (by rw [c50]; decide) (by rw [c50]; rfl) (by decide) ?_
      exact ql_50 hst S0 hX hbl hbA hE50 hI V hin hl (by omega) (by omega) K
    by_cases c51 : x = 51
    · refine lv_tableIn (tgt := 3125) hx hb dL_law_40 (by rw [c51]; decide) (by rw [c51]; decide) (by rw [c51]; rfl) (by decide) ?_
      exact ql_51 hst S0 hX hbl hbA hE51 hI V hin hl (by omega) (by omega) K
    by_cases c52 : x = 52
    · refine lv_tableIn (tgt := 3193) hx hb dL_law_40 (by rw [c52]; decide) (by rw [c52]; decide) (by rw [c52]; rfl) (by decide) ?_
      exact ql_52 hst S0 hX hbl hbA hE52 hI V hin hl (by omega) (by omega) K
    by_cases c53 : x = 53
    · refine lv_tableIn (tgt := 3273) hx hb dL_law_40 (by rw [c53]; decide) (by rw [c53]; decide) (by rw [c53]; rfl) (by decide) ?_
      exact ql_53 hst S0 hX hbl hbA hE53 hI V hin hl (by omega) (by omega) K
    by_cases c54 : x = 54
    · refine lv_tableIn (tgt := 3353) hx hb dL_law_40 (by rw [c54]; decide) (by rw [c54]; decide) (by rw [c54]; rfl) (by decide) ?_
      exact ql_54 hst S0 hX hbl hbA hE54 hI V hin hl (by omega) (by omega) K
    by_cases c55 : x = 55
    · refine lv_tableIn (tgt := 3414) hx hb dL_law_40 (by rw [c55]; decide) (by rw [c55]; decide) (by rw [c55]; rfl) (by decide) ?_
      exact ql_55 hst S0 hX hbl hbA hE55 hI V hin hl (by omega) (by omega) K
    by_cases c56 : x = 56
    · refine lv_tableIn (tgt := 3463) hx hb dL_law_40 (by rw [c56]; decide) (by rw [c56]; decide) (by rw [c56]; rfl) (by decide) ?_
      exact ql_56 hst S0 hX hbl hbA hE56 hI V hin hl (by omega) (by omega) K
    by_cases c57 : x = 57
    · refine lv_tableIn (tgt := 3524) hx hb dL_law_40 (by rw [c57]; decide) (by rw [c57]; decide) (by rw [c57]; rfl) (by decide) ?_
      exact ql_57 hst S0 hX hbl hbA hE57 hI V hin hl (by omega) (by omega) K
    by_cases c58 : x = 58
    · refine lv_tableIn (tgt := 3573) hx hb dL_law_40 (by rw [c58]; decide) (by rw [c58]; decide) (by rw [c58]; rfl) (by decide) ?_
      exact ql_58 hst S0 hX hbl hbA hE58 hI V hin hl (by omega) (by omega) K
    by_cases c59 : x = 59
    · refine lv_tableIn (tgt := 3598) hx hb dL_law_40 (by rw [c59]; decide) (by rw [c59]; decide) (by rw [c59]; rfl) (by decide) ?_
      exact ql_59 hst S0 hX hbl hbA hE59 hI V hin hl (by omega) (by omega) K
    by_cases c60 : x = 60
    · refine lv_tableIn (tgt := 3611) hx hb dL_law_40 (by rw [c60]; decide) (by rw [c60]; decide) (by rw [c60]; rfl) (by decide) ?_
      exact ql_60 hst S0 hX hbl hbA hE60 hI V hin hl (by omega) (by omega) K
    by_cases c61 : x = 61
    · refine lv_tableIn (tgt := 3648) hx hb dL_law_40 (by rw [c61]; decide) (by rw [c61]; decide) (by rw [c61]; rfl) (by decide) ?_
      exact ql_61 hst S0 hX hbl hbA hE61 hI V hin hl (by omega) (by omega) K
    by_cases c62 : x = 62
    · refine lv_tableIn (tgt := 3685) hx hb dL_law_40 (by rw [c62]; decide) (by rw [c62]; decide) (by rw [c62]; rfl) (by decide) ?_
      exact ql_62 hst S0 hX hbl hbA hE62 hI V hin hl (by omega) (by omega) K
    by_cases c63 : x = 63
    · refine lv_tableIn (tgt := 3722) hx hb dL_law_40 (by rw [c63]; decide) (by rw [c63]; decide) (by rw [c63]; rfl) (by decide) ?_
      exact ql_63 hst S0 hX hbl hbA hE63 hI V hin hl (by omega) (by omega) K
    refine lv_tableOut (tgt := 3735) hx hb dL_law_40 (qw_tab 63 (by intro k hk; rcases (show k = 0 ∨ k = 1 ∨ k = 2 ∨ k = 3 ∨ k = 4 ∨ k = 5 ∨ k = 6 ∨ k = 7 ∨ k = 8 ∨ k = 9 ∨ k = 10 ∨ k = 11 ∨ k = 12 ∨ k = 13 ∨ k = 14 ∨ k = 15 ∨ k = 16 ∨ k = 17 ∨ k = 18 ∨ k = 19 ∨ k = 20 ∨ k = 21 ∨ k = 22 ∨ k = 23 ∨ k = 24 ∨ k = 25 ∨ k = 26 ∨ k = 27 ∨ k = 28 ∨ k = 29 ∨ k = 30 ∨ k = 31 ∨ k = 32 ∨ k = 33 ∨ k = 34 ∨ k = 35 ∨ k = 36 ∨ k = 37 ∨ k = 38 ∨ k = 39 ∨ k = 40 ∨ k = 41 ∨ k = 42 ∨ k = 43 ∨ k = 44 ∨ k = 45 ∨ k = 46 ∨ k = 47 ∨ k = 48 ∨ k = 49 ∨ k = 50 ∨ k = 51 ∨ k = 52 ∨ k = 53 ∨ k = 54 ∨ k = 55 ∨ k = 56 ∨ k = 57 ∨ k = 58 ∨ k = 59 ∨ k = 60 ∨ k = 61 ∨ k = 62 ∨ k = 63 by omega) with rfl | rfl | rfl | rfl | rfl | rfl | rfl | rfl | rfl | rfl | rfl | rfl | rfl | rfl | rfl | rfl | rfl | rfl | rfl | rfl | rfl | rfl | rfl | rfl | rfl | rfl | rfl | rfl | rfl | rfl | rfl | rfl | rfl | rfl | rfl | rfl | rfl | rfl | rfl | rfl | rfl | rfl | rfl | rfl | rfl | rfl | rfl | rfl | rfl | rfl | rfl | rfl | rfl | rfl | rfl | rfl | rfl | rfl | rfl | rfl | rfl | rfl | rfl | rfl <;> assumption)) (by decide) ?_
    refine W.widen (k := cells + 1) (n := slots + 6) (Nat.le_add_right _ _) (Nat.le_add_right _ _) ?_
    exact K ad I A G T J B w o H locs ls rfl hI V hl
