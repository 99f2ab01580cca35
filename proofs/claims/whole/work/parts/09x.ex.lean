/-! exchangeWithLoader: the plans and the states change places -/
def Wbx (cy : Nat → ClassId) (ad : Nat → Nat) (I : Nat → Int32) (A : Nat → Nat → Int32) (T : Nat) (p1 p2 p3 p4 : Nat) : va_W := [
  (ad 0, .inr (6, [.ref (ad 1), .ref (ad 3), .ref (ad 6), .ref (ad 8), .ref (ad 2), .ref p1, .ref p2, .int (I 0), .int (I 1)])),
  (ad 1, .inl (cy 0, 800, .inl (A 0))),
  (ad 2, .inl (cy 0, 5, .inl (A 1))),
  (ad 3, .inr (2, [.ref (ad 4), .int (I 2), .ref p3, .ref p4, .int (I 3), .int (I 4)])),
  (ad 4, .inr (5, [.ref (ad T), .int (I 5), .int (I 6), .int (I 7), .int (I 8)])),
  (ad 5, .inl (cy 0, 0, .inl (fun _ => 0))),
  (ad 6, .inr (1, [.ref (ad 7), .int (I 9), .int (I 10)])),
  (ad 7, .inl (cy 1, 10, .inr (.inr (.inr (.inr (fun j => ([some (ad 73), some (ad 88), some (ad 103), some (ad 118), some (ad 133), some (ad 148), some (ad 163), some (ad 178), some (ad 193), some (ad 208)] : List (Option Nat)).getD j none)))))),
  (ad 8, .inr (0, [.ref (ad 9), .ref (ad 17), .ref (ad 18), .int (I 11)])),
  (ad 9, .inl (cy 2, 7, .inr (.inr (.inr (.inr (fun j => ([some (ad 10), some (ad 11), some (ad 12), some (ad 13), some (ad 14), some (ad 15), some (ad 16)] : List (Option Nat)).getD j none)))))),
  (ad 10, .inl (cy 0, 401, .inl (A 2))),
  (ad 11, .inl (cy 0, 401, .inl (A 3))),
  (ad 12, .inl (cy 0, 401, .inl (A 4))),
  (ad 13, .inl (cy 0, 401, .inl (A 5))),
  (ad 14, .inl (cy 0, 401, .inl (A 6))),
  (ad 15, .inl (cy 0, 401, .inl (A 7))),
  (ad 16, .inl (cy 0, 401, .inl (A 8))),
  (ad 17, .inl (cy 0, 6, .inl (A 9))),
  (ad 18, .inl (cy 0, 4, .inl (A 10))),
  (ad 19, .inr (3, [.int (I 12), .int (I 13), .int (I 14), .int (I 15), .ref (ad 20), .ref (ad 21), .ref (ad 22), .ref (ad 23), .ref (ad 24), .ref (ad 25), .ref (ad 26), .ref (ad 27), .ref (ad 28), .ref (ad 29), .ref (ad 30)])),
  (ad 20, .inl (cy 0, 4, .inl (A 11))),
  (ad 21, .inl (cy 0, 6, .inl (A 12))),
  (ad 22, .inl (cy 0, 6, .inl (A 13))),
  (ad 23, .inl (cy 0, 4, .inl (A 14))),
  (ad 24, .inl (cy 0, 4, .inl (A 15))),
  (ad 25, .inl (cy 0, 4, .inl (A 16))),
  (ad 26, .inl (cy 0, 4, .inl (A 17))),
  (ad 27, .inl (cy 0, 4, .inl (A 18))),
  (ad 28, .inl (cy 0, 6, .inl (A 19))),
  (ad 29, .inl (cy 0, 6, .inl (A 20))),
  (ad 30, .inl (cy 0, 6, .inl (A 21))),
  (ad 31, .inr (3, [.int (I 16), .int (I 17), .int (I 18), .int (I 19), .ref (ad 32), .ref (ad 33), .ref (ad 34), .ref (ad 35), .ref (ad 36), .ref (ad 37), .ref (ad 38), .ref (ad 39), .ref (ad 40), .ref (ad 41), .ref (ad 42)])),
  (ad 32, .inl (cy 0, 4, .inl (A 22))),
  (ad 33, .inl (cy 0, 6, .inl (A 23))),
  (ad 34, .inl (cy 0, 6, .inl (A 24))),
  (ad 35, .inl (cy 0, 4, .inl (A 25))),
  (ad 36, .inl (cy 0, 4, .inl (A 26))),
  (ad 37, .inl (cy 0, 4, .inl (A 27))),
  (ad 38, .inl (cy 0, 4, .inl (A 28))),
  (ad 39, .inl (cy 0, 4, .inl (A 29))),
  (ad 40, .inl (cy 0, 6, .inl (A 30))),
  (ad 41, .inl (cy 0, 6, .inl (A 31))),
  (ad 42, .inl (cy 0, 6, .inl (A 32))),
  (ad 43, .inr (4, [.int (I 20), .ref (ad 44), .ref (ad 45), .ref (ad 46), .ref (ad 47), .ref (ad 48), .ref (ad 49), .ref (ad 50), .ref (ad 51), .ref (ad 52), .ref (ad 53), .ref (ad 54), .ref (ad 55), .ref (ad 56), .ref (ad 57)])),
  (ad 44, .inl (cy 0, 4, .inl (A 33))),
  (ad 45, .inl (cy 0, 6, .inl (A 34))),
  (ad 46, .inl (cy 0, 3, .inl (A 35))),
  (ad 47, .inl (cy 0, 120, .inl (A 36))),
  (ad 48, .inl (cy 0, 6, .inl (A 37))),
  (ad 49, .inl (cy 0, 6, .inl (A 38))),
  (ad 50, .inl (cy 0, 24, .inl (A 39))),
  (ad 51, .inl (cy 0, 16, .inl (A 40))),
  (ad 52, .inl (cy 0, 4, .inl (A 41))),
  (ad 53, .inl (cy 0, 24, .inl (A 42))),
  (ad 54, .inl (cy 0, 24, .inl (A 43))),
  (ad 55, .inl (cy 0, 4, .inl (A 44))),
  (ad 56, .inl (cy 0, 4, .inl (A 45))),
  (ad 57, .inl (cy 0, 4, .inl (A 46))),
  (ad 58, .inr (4, [.int (I 21), .ref (ad 59), .ref (ad 60), .ref (ad 61), .ref (ad 62), .ref (ad 63), .ref (ad 64), .ref (ad 65), .ref (ad 66), .ref (ad 67), .ref (ad 68), .ref (ad 69), .ref (ad 70), .ref (ad 71), .ref (ad 72)])),
  (ad 59, .inl (cy 0, 4, .inl (A 47))),
  (ad 60, .inl (cy 0, 6, .inl (A 48))),
  (ad 61, .inl (cy 0, 3, .inl (A 49))),
  (ad 62, .inl (cy 0, 120, .inl (A 50))),
  (ad 63, .inl (cy 0, 6, .inl (A 51))),
  (ad 64, .inl (cy 0, 6, .inl (A 52))),
  (ad 65, .inl (cy 0, 24, .inl (A 53))),
  (ad 66, .inl (cy 0, 16, .inl (A 54))),
  (ad 67, .inl (cy 0, 4, .inl (A 55))),
  (ad 68, .inl (cy 0, 24, .inl (A 56))),
  (ad 69, .inl (cy 0, 24, .inl (A 57))),
  (ad 70, .inl (cy 0, 4, .inl (A 58))),
  (ad 71, .inl (cy 0, 4, .inl (A 59))),
  (ad 72, .inl (cy 0, 4, .inl (A 60)))]
def qx_pi (k : Nat) : Nat := if 19 ≤ k ∧ k < 31 then k + 12 else if 31 ≤ k ∧ k < 43 then k - 12 else if 43 ≤ k ∧ k < 58 then k + 15 else if 58 ≤ k ∧ k < 73 then k - 15 else k
def qx_si (k : Nat) : Nat := if 12 ≤ k ∧ k < 16 then k + 4 else if 16 ≤ k ∧ k < 20 then k - 4 else if k = 20 then 21 else if k = 21 then 20 else k
def qx_sa (k : Nat) : Nat := if 11 ≤ k ∧ k < 22 then k + 11 else if 22 ≤ k ∧ k < 33 then k - 11 else if 33 ≤ k ∧ k < 47 then k + 14 else if 47 ≤ k ∧ k < 61 then k - 14 else k
def qx_ad (ad : Nat → Nat) : Nat → Nat := fun k => ad (qx_pi k)
def qx_I (I : Nat → Int32) : Nat → Int32 := fun k => I (qx_si k)
def qx_A (A : Nat → Nat → Int32) : Nat → Nat → Int32 := fun k => A (qx_sa k)
theorem qx_swapW {D : va_G} {cl : List vw_C} {A : Nat → Prop} {B4 B' R : va_W} {H : Heap} (is : List Nat) (hn : va_nd is = true) (hs : is.map (fun i => B4[i]?) = B'.map some) (hP : va_P D cl (B4 ++ R) H) (hD : va_D A (B4 ++ R)) : va_P D cl (B' ++ R) H ∧ va_D A (B' ++ R) := by
  have key : ∀ (k : Nat) (q : Nat × va_E), B'[k]? = some q → ∃ i : Nat, B4[i]? = some q := by
    intro k q hk
    have h1 : (is.map (fun i => B4[i]?))[k]? = some (some q) := by rw [hs, List.getElem?_map, hk]; rfl
    rw [List.getElem?_map] at h1
    cases hi : is[k]? with
    | none => rw [hi] at h1; cases h1
    | some i => rw [hi] at h1; exact ⟨i, Option.some.inj h1⟩
  have l4 : ∀ (i : Nat) (q : Nat × va_E), B4[i]? = some q → (B4 ++ R)[i]? = some q := fun i q h => qw_lk h
  have lr : ∀ (j : Nat) (q : Nat × va_E), R[j]? = some q → (B4 ++ R)[B4.length + j]? = some q := fun j q h => by rw [List.getElem?_append_right (Nat.le_add_right _ _), Nat.add_sub_cancel_left]; exact h
  have hD4 : va_D A B4 := ⟨fun i j p q hi hj e => hD.1 i j p q (l4 i p hi) (l4 j q hj) e, fun k q hk => hD.2 k q (l4 k q hk)⟩
  have hDR : va_D A R := ⟨fun i j p q hi hj e => by have := hD.1 _ _ p q (lr i p hi) (lr j q hj) e; omega, fun k q hk => hD.2 _ q (lr k q hk)⟩
  refine ⟨va_P.app (fun k q hk => ?_) (fun k q hk => hP _ q (lr k q hk)), va_D.app (hD4.sub is hn hs) hDR (fun i j p q hi hj e => ?_)⟩
  · obtain ⟨i, hi⟩ := key k q hk
    exact hP i q (l4 i q hi)
  · obtain ⟨i9, h9⟩ := key i p hi
    have := hD.1 _ _ p q (l4 i9 p h9) (lr j q hj) e
    have hl := (List.getElem?_eq_some_iff.mp h9).1
    omega
theorem gx_0 {cy : Nat → ClassId} {ad : Nat → Nat} {I : Nat → Int32} {A : Nat → Nat → Int32} {G : Nat → Int32 × (Nat → Nat → Int32)} {T p1 p2 p3 p4 : Nat} : (Wbx cy ad I A T p1 p2 p3 p4 ++ Wr cy ad G)[0]? = some (ad 0, .inr (6, [.ref (ad 1), .ref (ad 3), .ref (ad 6), .ref (ad 8), .ref (ad 2), .ref p1, .ref p2, .int (I 0), .int (I 1)])) := qw_lk (a := Wbx cy ad I A T p1 p2 p3 p4) rfl
theorem gx_3 {cy : Nat → ClassId} {ad : Nat → Nat} {I : Nat → Int32} {A : Nat → Nat → Int32} {G : Nat → Int32 × (Nat → Nat → Int32)} {T p1 p2 p3 p4 : Nat} : (Wbx cy ad I A T p1 p2 p3 p4 ++ Wr cy ad G)[3]? = some (ad 3, .inr (2, [.ref (ad 4), .int (I 2), .ref p3, .ref p4, .int (I 3), .int (I 4)])) := qw_lk (a := Wbx cy ad I A T p1 p2 p3 p4) rfl
theorem sx_1 {cy : Nat → ClassId} {ad : Nat → Nat} {I : Nat → Int32} {A : Nat → Nat → Int32} {G : Nat → Int32 × (Nat → Nat → Int32)} {T p1 p2 p3 p4 x : Nat} : (Wbx cy ad I A T p1 p2 p3 p4 ++ Wr cy ad G).set 0 (ad 0, .inr (6, [.ref (ad 1), .ref (ad 3), .ref (ad 6), .ref (ad 8), .ref (ad 2), .ref x, .ref p2, .int (I 0), .int (I 1)])) = (Wbx cy ad I A T x p2 p3 p4 ++ Wr cy ad G) := qw_st (a := Wbx cy ad I A T p1 p2 p3 p4) rfl rfl
theorem sx_2 {cy : Nat → ClassId} {ad : Nat → Nat} {I : Nat → Int32} {A : Nat → Nat → Int32} {G : Nat → Int32 × (Nat → Nat → Int32)} {T p1 p2 p3 p4 x : Nat} : (Wbx cy ad I A T p1 p2 p3 p4 ++ Wr cy ad G).set 0 (ad 0, .inr (6, [.ref (ad 1), .ref (ad 3), .ref (ad 6), .ref (ad 8), .ref (ad 2), .ref p1, .ref x, .int (I 0), .int (I 1)])) = (Wbx cy ad I A T p1 x p3 p4 ++ Wr cy ad G) := qw_st (a := Wbx cy ad I A T p1 p2 p3 p4) rfl rfl
theorem sx_3 {cy : Nat → ClassId} {ad : Nat → Nat} {I : Nat → Int32} {A : Nat → Nat → Int32} {G : Nat → Int32 × (Nat → Nat → Int32)} {T p1 p2 p3 p4 x : Nat} : (Wbx cy ad I A T p1 p2 p3 p4 ++ Wr cy ad G).set 3 (ad 3, .inr (2, [.ref (ad 4), .int (I 2), .ref x, .ref p4, .int (I 3), .int (I 4)])) = (Wbx cy ad I A T p1 p2 x p4 ++ Wr cy ad G) := qw_st (a := Wbx cy ad I A T p1 p2 p3 p4) rfl rfl
theorem sx_4 {cy : Nat → ClassId} {ad : Nat → Nat} {I : Nat → Int32} {A : Nat → Nat → Int32} {G : Nat → Int32 × (Nat → Nat → Int32)} {T p1 p2 p3 p4 x : Nat} : (Wbx cy ad I A T p1 p2 p3 p4 ++ Wr cy ad G).set 3 (ad 3, .inr (2, [.ref (ad 4), .int (I 2), .ref p3, .ref x, .int (I 3), .int (I 4)])) = (Wbx cy ad I A T p1 p2 p3 x ++ Wr cy ad G) := qw_st (a := Wbx cy ad I A T p1 p2 p3 p4) rfl rfl
abbrev wz_X7_exchangeWithLoader : List Cond := Cond.code yX7_exchangeWithLoader cX7_exchangeWithLoader 3 none :: qw_big
def rm_X7_exchangeWithLoader : Room := { frames := 0, cells := 0, slots := 0, locals := 0 }
theorem kd_X7_exchangeWithLoader : yX7_exchangeWithLoader.cls = RX7 ∧ yX7_exchangeWithLoader.cls ≠ "java/lang/invoke/MethodHandle" ∧ yX7_exchangeWithLoader.cls ≠ "java/lang/invoke/VarHandle" ∧ (parseMethodDescriptor yX7_exchangeWithLoader.desc).map (fun d => d.parameters.length) = some 0 := by decide +kernel
set_option maxRecDepth 100000 in
theorem qx_perm {cy : Nat → ClassId} {ad : Nat → Nat} {I : Nat → Int32} {A : Nat → Nat → Int32} {T : Nat} (hT : qx_pi T = T) : [0, 1, 2, 3, 4, 5, 6, 7, 8, 9, 10, 11, 12, 13, 14, 15, 16, 17, 18, 31, 32, 33, 34, 35, 36, 37, 38, 39, 40, 41, 42, 19, 20, 21, 22, 23, 24, 25, 26, 27, 28, 29, 30, 58, 59, 60, 61, 62, 63, 64, 65, 66, 67, 68, 69, 70, 71, 72, 43, 44, 45, 46, 47, 48, 49, 50, 51, 52, 53, 54, 55, 56, 57].map (fun i => (Wbx cy ad I A T (ad 31) (ad 58) (ad 19) (ad 43))[i]?) = (Wb cy (qx_ad ad) (qx_I I) (qx_A A) T).map some := by
  have e : qx_ad ad T = ad T := congrArg ad hT
  unfold Wb
  rw [e]
  rfl
set_option maxRecDepth 100000 in
theorem qx_ring {cy : Nat → ClassId} {ad : Nat → Nat} {G : Nat → Int32 × (Nat → Nat → Int32)} : Wr cy (qx_ad ad) G = Wr cy ad G := rfl
set_option maxHeartbeats 4000000 in
set_option maxRecDepth 100000 in
theorem c_X7_exchangeWithLoader (l : Launch) {D : va_G} {cy : Nat → ClassId} {ad : Nat → Nat} {I : Nat → Int32} {A : Nat → Nat → Int32} {G : Nat → Int32 × (Nat → Nat → Int32)} {T : Nat} (hT : qx_pi T = T) {sz : Nat} : Met l yX7_exchangeWithLoader wz_X7_exchangeWithLoader rm_X7_exchangeWithLoader (va_Pc [.ref (ad 0)] (qw_Pre D cy (Wo cy ad I A G T) sz)) (qw_Q none D (Wo cy (qx_ad ad) (qx_I I) (qx_A A) G T) (va_A (Wo cy ad I A G T) sz)) 0 0 (va_A (Wo cy ad I A G T) sz) := by
  refine qw_of (cc := cX7_exchangeWithLoader) (maxL := 3) (ret := none) (by decide) (Nat.le_of_ble_eq_true rfl) ?_
  intro p e s m args below meth c ls S0 hr hlocks hsz V hl
  have S0 : CallFix p m c cX7_exchangeWithLoader 3 s args qw_big RX7 := S0
  have hx := S0.1; have hb := S0.2.1
  have hl : lv_has ls 3 [(0, .ref (ad 0))] := hl
  generalize va_A (Wo cy ad I A G T) sz = Z9 at V ⊢
  have V : qw_V D cy Z9 s (Wbx cy ad I A T (ad 19) (ad 43) (ad 31) (ad 58) ++ Wr cy ad G) s.heap [] := V
  refine lv_aload_n hx hb dX7_exchangeWithLoader_0 rfl (lv_at hl 0 rfl) ?_
  refine qw_get (C := RX7) (T := TX7) (N := 9) (ci := 6) S0 V kc_X7 0 gx_0 rfl 5 (by decide) kl_X7_40 (fun _ h => h) rfl dX7_exchangeWithLoader_1 ?_
  refine lv_astore_n (lv' := [(1, .ref (ad 19)), (0, .ref (ad 0))]) hx hb dX7_exchangeWithLoader_4 rfl hl (by decide) rfl (fun ls hl => ?_)
  refine lv_aload_n hx hb dX7_exchangeWithLoader_5 rfl (lv_at hl 1 rfl) ?_
  refine qw_get (C := RX7) (T := TX7) (N := 9) (ci := 6) S0 V kc_X7 0 gx_0 rfl 6 (by decide) kl_X7_47 (fun _ h => h) rfl dX7_exchangeWithLoader_6 ?_
  refine lv_astore_n (lv' := [(2, .ref (ad 43)), (1, .ref (ad 19)), (0, .ref (ad 0))]) hx hb dX7_exchangeWithLoader_9 rfl hl (by decide) rfl (fun ls hl => ?_)
  refine lv_aload_n hx hb dX7_exchangeWithLoader_10 rfl (lv_at hl 2 rfl) ?_
  refine lv_aload_n hx hb dX7_exchangeWithLoader_11 rfl (lv_at hl 2 rfl) ?_
  refine qw_get (C := RX7) (T := TX7) (N := 9) (ci := 6) S0 V kc_X7 0 gx_0 rfl 1 (by decide) kl_X7_16 (fun _ h => h) rfl dX7_exchangeWithLoader_12 ?_
  refine qw_get (C := RX2) (T := TX2) (N := 6) (ci := 2) S0 V kc_X2 3 gx_3 rfl 2 (by decide) kl_X7_79 (fun _ h => h) rfl dX7_exchangeWithLoader_15 ?_
  refine qw_put (C := RX7) (T := TX7) (N := 9) (ci := 6) S0 V kc_X7 tyX7 tyX7_ok nmX7 0 gx_0 rfl 5 (by decide) kl_X7_40 (fun _ h => h) rfl (ty := .object "RationOffice$Plan") rfl rfl rfl (by show _ < 9; decide) sx_1 dX7_exchangeWithLoader_18 (fun H locs V => ?_)
  refine lv_aload_n hx hb dX7_exchangeWithLoader_21 rfl (lv_at hl 2 rfl) ?_
  refine lv_aload_n hx hb dX7_exchangeWithLoader_22 rfl (lv_at hl 2 rfl) ?_
  refine qw_get (C := RX7) (T := TX7) (N := 9) (ci := 6) S0 V kc_X7 0 gx_0 rfl 1 (by decide) kl_X7_16 (fun _ h => h) rfl dX7_exchangeWithLoader_23 ?_
  refine qw_get (C := RX2) (T := TX2) (N := 6) (ci := 2) S0 V kc_X2 3 gx_3 rfl 3 (by decide) kl_X7_80 (fun _ h => h) rfl dX7_exchangeWithLoader_26 ?_
  refine qw_put (C := RX7) (T := TX7) (N := 9) (ci := 6) S0 V kc_X7 tyX7 tyX7_ok nmX7 0 gx_0 rfl 6 (by decide) kl_X7_47 (fun _ h => h) rfl (ty := .object "RationOffice$State") rfl rfl rfl (by show _ < 9; decide) sx_2 dX7_exchangeWithLoader_29 (fun H locs V => ?_)
  refine lv_aload_n hx hb dX7_exchangeWithLoader_32 rfl (lv_at hl 2 rfl) ?_
  refine qw_get (C := RX7) (T := TX7) (N := 9) (ci := 6) S0 V kc_X7 0 gx_0 rfl 1 (by decide) kl_X7_16 (fun _ h => h) rfl dX7_exchangeWithLoader_33 ?_
  refine lv_aload_n hx hb dX7_exchangeWithLoader_36 rfl (lv_at hl 1 rfl) ?_
  refine qw_put (C := RX2) (T := TX2) (N := 6) (ci := 2) S0 V kc_X2 tyX2 tyX2_ok nmX2 3 gx_3 rfl 2 (by decide) kl_X7_79 (fun _ h => h) rfl (ty := .object "RationOffice$Plan") rfl rfl rfl (by show _ < 6; decide) sx_3 dX7_exchangeWithLoader_37 (fun H locs V => ?_)
  refine lv_aload_n hx hb dX7_exchangeWithLoader_40 rfl (lv_at hl 2 rfl) ?_
  refine qw_get (C := RX7) (T := TX7) (N := 9) (ci := 6) S0 V kc_X7 0 gx_0 rfl 1 (by decide) kl_X7_16 (fun _ h => h) rfl dX7_exchangeWithLoader_41 ?_
  refine lv_aload_n hx hb dX7_exchangeWithLoader_44 rfl (lv_at hl 0 rfl) ?_
  refine qw_put (C := RX2) (T := TX2) (N := 6) (ci := 2) S0 V kc_X2 tyX2 tyX2_ok nmX2 3 gx_3 rfl 3 (by decide) kl_X7_80 (fun _ h => h) rfl (ty := .object "RationOffice$State") rfl rfl rfl (by show _ < 6; decide) sx_4 dX7_exchangeWithLoader_45 (fun H locs V => ?_)
  obtain ⟨hP, hD⟩ := qx_swapW [0, 1, 2, 3, 4, 5, 6, 7, 8, 9, 10, 11, 12, 13, 14, 15, 16, 17, 18, 31, 32, 33, 34, 35, 36, 37, 38, 39, 40, 41, 42, 19, 20, 21, 22, 23, 24, 25, 26, 27, 28, 29, 30, 58, 59, 60, 61, 62, 63, 64, 65, 66, 67, 68, 69, 70, 71, 72, 43, 44, 45, 46, 47, 48, 49, 50, 51, 52, 53, 54, 55, 56, 57] (by decide +kernel) (qx_perm hT) V.1 V.2.2.1
  have V2 : qw_V D cy Z9 s (Wo cy (qx_ad ad) (qx_I I) (qx_A A) G T) H locs := ⟨by unfold Wo; rw [qx_ring]; exact hP, V.2.1, by unfold Wo; rw [qx_ring]; exact hD, V.2.2.2⟩
  exact qw_vreti S0 hr hlocks rfl rfl V2 dX7_exchangeWithLoader_48
