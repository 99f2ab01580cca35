/-! set -/
theorem zm_3 : ∀ M, M < 8 → ∀ j, j < 3 → ((nI M &&& ((1 : Int32) <<< (nI j &&& 31)) = 0) ↔ ((nI M >>> (nI j &&& 31)) &&& (1 : Int32) = 0)) ∧ (nI M ||| ((1 : Int32) <<< (nI j &&& 31))) = nI (M ||| 2 ^ j) ∧ M ||| 2 ^ j < 8 := by decide +kernel
theorem zm_most : ∀ j, j < 3 → f_X8_mostOf (nI j) = some (nI (zBt [999, 999, 9999] j)) ∧ ([999, 999, 9999] : List Int32).getD j 0 = nI (zBt [999, 999, 9999] j) ∧ zBt [999, 999, 9999] j ≤ 9999 ∧ (j < 2 → zBt [999, 999, 9999] j ≤ 999) := by decide +kernel
theorem zD_set {I I' : Nat → Int32} {A A' B B' : Nat → Nat → Int32} {n : Nat → Nat} {j r : Nat} (hD : zD I A B n) (hj : j < 3) (hr : r ≤ zBt [999, 999, 9999] j) (hI : ∀ i, 16 ≤ i → I' i = I i) (a49 : A' 49 = upd (A 49) j (nI r)) (ao : ∀ a, a ≠ 49 → A' a = A a) (b4 : B' 4 = B 4) (b1 : B' 1 = upd (B 1) j (nI r)) : zD I' A' B' n := by
  obtain ⟨⟨p, q, ⟨r1, r2, r3, r4⟩, g1, g2, g3, g4⟩, hV, hR, h21, hE, hS⟩ := hD
  have hm := (zm_most j hj).2.2
  rw [zD, b4]
  refine ⟨⟨p, q, ⟨(hI 16 (by omega)).trans r1, (hI 17 (by omega)).trans r2, (hI 18 (by omega)).trans r3, (hI 19 (by omega)).trans r4⟩, ?_, ?_, ?_, ?_⟩, hV, ?_, ?_, ?_, hS⟩
  · intro g hg
    show A' 22 g = B 4 (38 + g) ∧ A' 26 g = B 4 (4 + g) ∧ A' 27 g = B 4 (8 + g) ∧ A' 28 g = B 4 (12 + g) ∧ A' 29 g = B 4 (16 + g)
    rw [ao 22 (by omega), ao 26 (by omega), ao 27 (by omega), ao 28 (by omega), ao 29 (by omega)]
    exact g1 g hg
  · intro k hk
    show A' 23 k = B 4 (44 + k) ∧ A' 30 k = B 4 (20 + k) ∧ A' 31 k = B 4 (26 + k) ∧ A' 32 k = B 4 (32 + k)
    rw [ao 23 (by omega), ao 30 (by omega), ao 31 (by omega), ao 32 (by omega)]
    exact g2 k hk
  · intro h hh
    show A' 24 h = B 4 (50 + h)
    rw [ao 24 (by omega)]
    exact g3 h hh
  · intro s hs
    show A' 25 s = B 4 (56 + s)
    rw [ao 25 (by omega)]
    exact g4 s hs
  · refine zR_set (a := 2) (i := j) (x := nI r) hR (by omega) hj a49 (fun b hb c => ?_) (by rw [b1, show zoff 2 + j = j from Nat.zero_add j])
    exact ao (47 + b) (by omega)
  · rw [hI 21 (by omega), h21, b1, zu_ne (by omega)]
  · obtain ⟨⟨x1, x2, x3⟩, x4, x5, x6, x7⟩ := hE
    rw [b1]
    refine ⟨⟨?_, ?_, ?_⟩, fun g hg => by rw [zu_ne (by omega)]; exact x4 g hg, fun h hh => by rw [zu_ne (by omega)]; exact x5 h hh, fun i hi => by rw [zu_ne (by omega)]; exact x6 i hi, fun i hi => by rw [zu_ne (by omega)]; exact x7 i hi⟩
    · by_cases z : j = 0
      · rw [z, zu_same]
        exact ⟨r, by have := hm.2 (by omega); omega, rfl⟩
      · rw [zu_ne (by omega)]
        exact x1
    · by_cases z : j = 1
      · rw [z, zu_same]
        exact ⟨r, by have := hm.2 (by omega); omega, rfl⟩
      · rw [zu_ne (by omega)]
        exact x2
    · by_cases z : j = 2
      · rw [z, zu_same]
        exact ⟨r, by omega, rfl⟩
      · rw [zu_ne (by omega)]
        exact x3
section ZSET
variable {τ : Nat → Nat} {len s e k : Nat} {I : Nat → Int32} {A : Nat → Nat → Int32} {J : Nat → Int32} {B : Nat → Nat → Int32} {w : Int64} {n : Nat → Nat}
theorem zy_pass1 (h : zTR τ len s e k I A J B w) (x x' : Int32) (hx : I 3 = 0 → (x = 0 ↔ x' ≠ 0)) : ∃ I1 J1, f_X2_passUnless A 1 I x = f_X2_passUnless_j10 A 1 I1 ∧ f_X8_check J x' (-14 : Int32) = some J1 ∧ zTR τ len s e k I1 A J1 B w ∧ zFI I I1 ∧ zFJ J J1 ∧ (I1 3 = 0 → I 3 = 0 ∧ x = 0) := by
  unfold f_X2_passUnless
  by_cases z : I 3 = 0
  · by_cases z1 : x = 0
    · refine ⟨I, J, by rw [if_pos z1], ?_, h, zFI.rf I, zFJ.rf J, fun _ => ⟨z, z1⟩⟩
      unfold f_X8_check
      rw [if_neg ((hx z).mp z1)]
    · obtain ⟨I1, J1, f1, f2, f3, f4, f5, f6⟩ := zy_fail h (-14 : Int32) (by decide)
      have ex : x' = 0 := by
        by_cases q : x' = 0
        · exact q
        · exact absurd ((hx z).mpr q) z1
      refine ⟨I1, J1, by rw [if_neg z1, f1, zb_bd], ?_, f3, f4, f5, fun q => absurd q f6⟩
      rw [ex]
      exact f2
  · refine ⟨I, J, ?_, zm_chk (h.2.2.2.2.1.1 ▸ z) x' _, h, zFI.rf I, zFJ.rf J, fun q => absurd q z⟩
    have : f_X2_fail I (-14 : Int32) = some I := by
      unfold f_X2_fail
      rw [if_neg z]
    rw [this, zb_bd, ite_self]
theorem zy_setw (h : zTR τ len s e k I A J B w) (z : I 3 = 0) : ∃ r, f_X6_settingWord I A 1 = some r ∧ f_X8_settingHere J w = some r ∧ (r = -nI 1 ∨ ∃ j, j < 3 ∧ r = nI j) := by
  unfold f_X6_settingWord f_X8_settingHere
  rw [zn_give, zn_take, zn_toler]
  by_cases c1 : zWrd τ s e k zl_give
  · rw [zc_yes (zy_isW h zw_give) c1, zc_yes (zy_isW8 h z zw_give) c1]
    exact ⟨0, rfl, rfl, Or.inr ⟨0, by omega, rfl⟩⟩
  rw [zc_no (zy_isW h zw_give) c1, zc_no (zy_isW8 h z zw_give) c1]
  by_cases c2 : zWrd τ s e k zl_take
  · rw [zc_yes (zy_isW h zw_take) c2, zc_yes (zy_isW8 h z zw_take) c2]
    exact ⟨1, rfl, rfl, Or.inr ⟨1, by omega, rfl⟩⟩
  rw [zc_no (zy_isW h zw_take) c2, zc_no (zy_isW8 h z zw_take) c2]
  by_cases c3 : zWrd τ s e k zl_toler
  · rw [zc_yes (zy_isW h zw_toler) c3, zc_yes (zy_isW8 h z zw_toler) c3]
    exact ⟨2, rfl, rfl, Or.inr ⟨2, by omega, rfl⟩⟩
  rw [zc_no (zy_isW h zw_toler) c3, zc_no (zy_isW8 h z zw_toler) c3]
  exact ⟨_, rfl, rfl, Or.inl rfl⟩
theorem zs_set (h : zTR τ len s e k I A J B w) (z : I 3 = 0) (hD : zD I A B n) (hG : zGs I J) (hk : k ≠ 0) : zEnds τ len s I A J B (f_X2_readSetting 1 I A) (f_X8_parseSetting J B w) := by
  have hse := h.2.2.2.2.2.1.2.2.2 hk
  unfold f_X2_readSetting f_X8_parseSetting f_X8_parseSetting_j19
  obtain ⟨s1, e1, k1, I1, J1, w1, a1, a2, a3, a4, a5, a6, a7⟩ := zy_adv h
  have z1 : I1 3 = 0 := a6 ▸ z
  obtain ⟨M, hM, m1, m2⟩ := hG.fr a4 a5
  rw [a1, zb_bd, a2, zb_bd2]
  obtain ⟨r, b1, b2, b3⟩ := zy_setw a3 z1
  rw [b1, zb_bd, b2, zb_bd]
  rcases b3 with rfl | ⟨j, hj, rfl⟩
  · obtain ⟨I2, J2, f1, f2, f3, f4, f5, f6⟩ := zy_fail a3 (-11 : Int32) (by decide)
    have f2 : f_X8_check J1 (0 : Int32) (-11 : Int32) = some J2 := by rw [zl_0]; exact f2
    have j8 : ¬ J2 8 = 0 := f3.2.2.2.2.1.1 ▸ f6
    rw [if_neg (show ¬ 0 ≤ -nI 1 by decide), f1, zb_bd, if_pos (show -nI 1 < 0 by decide), f2, zb_bd, if_neg j8]
    exact ⟨s1, e1, k1, I2, A, J2, B, w1, rfl, rfl, f3, (a4.tr f4).sI, (a5.tr f5).sJ, fun _ _ => rfl, fun _ _ _ => rfl, fun y => absurd y f6⟩
  · have k1' : f_X8_check J1 (1 : Int32) (-11 : Int32) = some J1 := by rw [zl_1, zy_chk1]
    rw [if_pos (show (0 : Int32) ≤ nI j from nI_pos' (by omega)), if_neg (show ¬ nI j < 0 from nI_pos (by omega)), k1', zb_bd, if_pos (show J1 8 = 0 from a3.2.2.2.2.1.1 ▸ z1), m1, m2]
    obtain ⟨t1, t2, t3⟩ := zm_3 M hM j hj
    obtain ⟨u1, u2, u3, u4⟩ := zm_most j hj
    obtain ⟨x, hx⟩ : ∃ x : Int32, x = if nI M &&& ((1 : Int32) <<< (nI j &&& 31)) = 0 then (0 : Int32) else (1 : Int32) := ⟨_, rfl⟩
    obtain ⟨x', hx'⟩ : ∃ x' : Int32, x' = if (nI M >>> (nI j &&& 31)) &&& (1 : Int32) = 0 then (1 : Int32) else (0 : Int32) := ⟨_, rfl⟩
    have cl : (if nI M &&& ((1 : Int32) <<< (nI j &&& 31)) = 0 then f_X2_readSetting_j43 A 1 I1 (nI j) (0 : Int32) else f_X2_readSetting_j43 A 1 I1 (nI j) (1 : Int32)) = f_X2_readSetting_j43 A 1 I1 (nI j) x := by
      rw [hx]
      split <;> rfl
    have mo : (if (nI M >>> (nI j &&& 31)) &&& (1 : Int32) = 0 then f_X8_parseSetting_j49 B J1 w1 (nI j) (1 : Int32) else f_X8_parseSetting_j49 B J1 w1 (nI j) (0 : Int32)) = f_X8_parseSetting_j49 B J1 w1 (nI j) x' := by
      rw [hx']
      split <;> rfl
    rw [cl, mo]
    unfold f_X2_readSetting_j43 f_X8_parseSetting_j49
    obtain ⟨I2, J2, c1, c2, c3, c4, c5, c6⟩ := zy_pass1 a3 x x' (fun _ => by
      rw [hx, hx']
      by_cases q : nI M &&& ((1 : Int32) <<< (nI j &&& 31)) = 0
      · rw [if_pos q, if_pos (t1.mp q)]; decide
      · rw [if_neg q, if_neg (fun y => q (t1.mpr y))]; decide)
    rw [c1, c2, zb_bd, zb_let, c5 10 (by omega), m2, t2]
    have c7 : zTR τ len s1 e1 k1 I2 A (upd J2 10 (nI (M ||| 2 ^ j))) B w1 := c3.cI (fun _ _ _ => rfl) (fun _ _ _ => zu_ne (by omega))
    obtain ⟨s3, e3, k3, I3, J3, w3, d1, d2, d3, d4, d5, d6, d7⟩ := zy_aig c7
    have cl2 : f_X2_passUnless_j10 A 1 I2 = some I3 := by
      unfold f_X2_passUnless_j10
      by_cases q : I2 3 = 0
      · rw [if_pos q] at d1 ⊢
        rw [d1, zb_bd]
      · rw [if_neg q] at d1 ⊢
        exact d1
    rw [cl2, zb_bd, zb_let, d4 2 (by omega), c4 2 (by omega), m1, t2, zb_ld hj (by omega), u2, d2, zb_bd2]
    have d8 : zTR τ len s3 e3 k3 (upd I3 2 (nI (M ||| 2 ^ j))) A J3 B w3 := d3.cI (fun _ _ _ => zu_ne (by omega)) (fun _ _ _ => rfl)
    obtain ⟨s5, e5, k5, I5, J5, w5, v, v', f1, f2, f3, f4, f5, f6⟩ := zy_int d8 0 (zBt [999, 999, 9999] j) u3 (by omega)
    have f1 : f_X2_readInteger A 1 (upd I3 2 (nI (M ||| 2 ^ j))) (0 : Int32) (nI (zBt [999, 999, 9999] j)) = some (v, I5) := by rw [zl_0]; exact f1
    have f2 : f_X8_readInteger B J3 w3 (0 : Int32) (nI (zBt [999, 999, 9999] j)) = some (v', J5, w5) := by rw [zl_0]; exact f2
    rw [f1, zb_bd2, zb_st hj (by omega), zb_let]
    obtain ⟨A1, hA1⟩ : ∃ A1, A1 = qf_up A 49 (upd (A 49) j v) := ⟨_, rfl⟩
    rw [← hA1]
    have ao : ∀ a, a ≠ 49 → A1 a = A a := fun a c1 => by rw [hA1, zu_upn c1]
    have sA : zSA A A1 := fun a ha => ao a (by omega)
    have fI0 : zFI I I3 := (a4.tr c4).tr d4
    have fI : ∀ i, (i ≤ 1 ∨ i = 5 ∨ 9 ≤ i) → I5 i = I i := fun i hi => by rw [f4 i (by omega), zu_ne (by omega), fI0 i (by omega)]
    have fJ0 : zSJ J J3 := fun i hi => by rw [d5 i (by omega), zu_ne (by omega), c5 i (by omega), a5 i (by omega)]
    have sI : zSI I I5 := fun i hi => fI i (by omega)
    have j38 : J3 8 = I3 3 := d3.2.2.2.2.1.1.symm
    by_cases q3 : I3 3 = 0
    · rw [if_pos (show J3 8 = 0 by rw [j38, q3]), u1, zb_bd, f2, zb_bd3, zb_st (by omega) (by omega), zb_let]
      obtain ⟨B1, hB1⟩ : ∃ B1, B1 = qf_up B 1 (upd (B 1) j v') := ⟨_, rfl⟩
      rw [← hB1]
      have bo : ∀ b, b ≠ 1 → B1 b = B b := fun b c1 => by rw [hB1, zu_upn c1]
      refine ⟨s5, e5, k5, I5, A1, J5, B1, w5, rfl, rfl, f3.rows (ao 0 (by omega)) (bo 5 (by omega)), sI, fun i hi => by rw [f5 i (by omega), fJ0 i hi], sA, fun b c1 c2 => bo b c1, fun q => ?_⟩
      obtain ⟨g1, g2, r, r1, r2, r3, r4⟩ := f6 q
      refine ⟨?_, ⟨n, ?_⟩, ⟨M ||| 2 ^ j, t3, ?_, ?_⟩⟩
      · have := f3.2.2.2.2.2.1
        have := d3.2.2.2.2.2.1
        have := a3.2.2.2.2.2.1
        have := d7 (by rw [← d6]; exact q3)
        omega
      · exact zD_set hD hj r2 (fun i hi => fI i (by omega)) (by rw [hA1, zu_up, r3]) ao (bo 4 (by omega)) (by rw [hB1, zu_up, r4])
      · rw [f4 2 (by omega), zu_same]
      · rw [f5 10 (by omega), d5 10 (by omega), zu_same]
    · rw [if_neg (show ¬ J3 8 = 0 by rw [j38]; exact q3)]
      have j5 : J5 = J3 ∧ w5 = w3 := by
        obtain ⟨y, hy⟩ := zm_int (B := B) (w := w3) (show J3 8 ≠ 0 by rw [j38]; exact q3) (0 : Int32) (nI (zBt [999, 999, 9999] j))
        rw [hy] at f2
        have f2 := Option.some.inj f2
        exact ⟨(congrArg (fun p => p.2.1) f2).symm, (congrArg (fun p => p.2.2) f2).symm⟩
      rw [j5.1, j5.2] at f3
      refine ⟨s5, e5, k5, I5, A1, J3, B, w3, rfl, rfl, f3.rows (ao 0 (by omega)) rfl, sI, fJ0, sA, fun _ _ _ => rfl, fun q => ?_⟩
      obtain ⟨g1, -⟩ := f6 q
      rw [zu_ne (by omega)] at g1
      exact absurd g1 q3
end ZSET
