/-! shop -/
theorem zm_6 : ∀ M, M < 64 → ∀ j, j < 6 → ((nI M &&& ((1 : Int32) <<< (nI j &&& 31)) = 0) ↔ M.testBit j = false) ∧ (((nI M >>> (nI j &&& 31)) &&& (1 : Int32) = 0) ↔ M.testBit j = false) ∧ (nI M ||| ((1 : Int32) <<< (nI j &&& 31))) = nI (M ||| 2 ^ j) := by decide +kernel
theorem zD_fr {I I' : Nat → Int32} {A A' B : Nat → Nat → Int32} {n : Nat → Nat} (hD : zD I A B n) (hI : ∀ i, 16 ≤ i → I' i = I i) (ao : ∀ a, a ≠ 25 → A' a = A a) (a25 : ∀ s, s < n 3 → A' 25 s = A 25 s) : zD I' A' B n := by
  obtain ⟨⟨p, q, ⟨r1, r2, r3, r4⟩, g1, g2, g3, g4⟩, hV, hR, h21, hE, hS⟩ := hD
  refine ⟨⟨p, q, ⟨(hI 16 (by omega)).trans r1, (hI 17 (by omega)).trans r2, (hI 18 (by omega)).trans r3, (hI 19 (by omega)).trans r4⟩, ?_, ?_, ?_, ?_⟩, hV, ?_, ?_, hE, hS⟩
  · intro g hg
    show A' 22 g = B 4 (38 + g) ∧ A' 26 g = B 4 (4 + g) ∧ A' 27 g = B 4 (8 + g) ∧ A' 28 g = B 4 (12 + g) ∧ A' 29 g = B 4 (16 + g)
    rw [ao 22 (by omega), ao 26 (by omega), ao 27 (by omega), ao 28 (by omega), ao 29 (by omega)]
    exact g1 g hg
  · intro k hk
    show A' 23 k = B 4 (44 + k) ∧ A' 30 k = B 4 (20 + k) ∧ A' 31 k = B 4 (26 + k) ∧ A' 32 k = B 4 (32 + k)
    rw [ao 23 (by omega), ao 30 (by omega), ao 31 (by omega), ao 32 (by omega)]
    exact g2 k hk
  · intro h hh
    show A' 24 h = B 4 (50 + h)
    rw [ao 24 (by omega)]
    exact g3 h hh
  · intro s hs
    show A' 25 s = B 4 (56 + s)
    rw [a25 s hs]
    exact g4 s hs
  · intro a i ha hi
    show A' (47 + a) i = _
    rw [ao (47 + a) (by omega)]
    exact hR a i ha hi
  · rw [hI 21 (by omega), h21]
theorem zD_price {I I' : Nat → Int32} {A A' B B' : Nat → Nat → Int32} {n : Nat → Nat} {x j r : Nat} (hD : zD I A B n) (hx : x < 4) (hj : j < 6) (hr : r ≤ 9999) (hI : ∀ i, 16 ≤ i → I' i = I i) (a53 : A' 53 = upd (A 53) (x * 6 + j) (nI r)) (ao : ∀ a, a ≠ 53 → A' a = A a) (b4 : B' 4 = B 4) (b1 : B' 1 = upd (B 1) (145 + 6 * x + j) (nI r)) : zD I' A' B' n := by
  obtain ⟨⟨p, q, ⟨r1, r2, r3, r4⟩, g1, g2, g3, g4⟩, hV, hR, h21, hE, hS⟩ := hD
  rw [zD, b4]
  refine ⟨⟨p, q, ⟨(hI 16 (by omega)).trans r1, (hI 17 (by omega)).trans r2, (hI 18 (by omega)).trans r3, (hI 19 (by omega)).trans r4⟩, ?_, ?_, ?_, ?_⟩, hV, ?_, ?_, ?_, hS⟩
  · intro g hg
    show A' 22 g = B 4 (38 + g) ∧ A' 26 g = B 4 (4 + g) ∧ A' 27 g = B 4 (8 + g) ∧ A' 28 g = B 4 (12 + g) ∧ A' 29 g = B 4 (16 + g)
    rw [ao 22 (by omega), ao 26 (by omega), ao 27 (by omega), ao 28 (by omega), ao 29 (by omega)]
    exact g1 g hg
  · intro k hk
    show A' 23 k = B 4 (44 + k) ∧ A' 30 k = B 4 (20 + k) ∧ A' 31 k = B 4 (26 + k) ∧ A' 32 k = B 4 (32 + k)
    rw [ao 23 (by omega), ao 30 (by omega), ao 31 (by omega), ao 32 (by omega)]
    exact g2 k hk
  · intro h hh
    show A' 24 h = B 4 (50 + h)
    rw [ao 24 (by omega)]
    exact g3 h hh
  · intro s hs
    show A' 25 s = B 4 (56 + s)
    rw [ao 25 (by omega)]
    exact g4 s hs
  · refine zR_set (a := 6) (i := x * 6 + j) (x := nI r) hR (by omega) (show x * 6 + j < 24 by omega) a53 (fun b hb c => ?_) (by rw [b1, show zoff 6 + (x * 6 + j) = 145 + 6 * x + j by show 145 + (x * 6 + j) = _; omega])
    exact ao (47 + b) (by omega)
  · rw [hI 21 (by omega), h21, b1, zu_ne (by omega)]
  · obtain ⟨⟨x1, x2, x3⟩, x4, x5, x6, x7⟩ := hE
    rw [b1]
    refine ⟨⟨by rw [zu_ne (by omega)]; exact x1, by rw [zu_ne (by omega)]; exact x2, by rw [zu_ne (by omega)]; exact x3⟩, fun g hg => by rw [zu_ne (by omega)]; exact x4 g hg, fun h hh => by rw [zu_ne (by omega)]; exact x5 h hh, fun i hi => by rw [zu_ne (by omega)]; exact x6 i hi, fun i hi => ?_⟩
    by_cases z : i = 6 * x + j
    · rw [z, show 145 + (6 * x + j) = 145 + 6 * x + j by omega, zu_same]
      exact ⟨r, by omega, rfl⟩
    · rw [zu_ne (by omega)]
      exact x7 i hi
theorem zD_shop {I : Nat → Int32} {A B B' : Nat → Nat → Int32} {n : Nat → Nat} {v : Int32} {x : Nat} (hD : zD (upd I 19 (nI x)) A B n) (hx : n 3 = x) (hx4 : x < 4) (h19 : I 19 = nI (x + 1)) (a25 : A 25 x = v) (b4 : B' 4 = upd (upd (B 4) (56 + x) v) 3 (nI (x + 1))) (b1 : B' 1 = B 1) : zD I A B' (fun q => if q = 3 then x + 1 else n q) := by
  obtain ⟨⟨⟨p1, p2, p3, p4⟩, ⟨q1, q2, q3, q4⟩, ⟨r1, r2, r3, r4⟩, g1, g2, g3, g4⟩, ⟨v1, v2⟩, hR, h21, hE, hS⟩ := hD
  rw [hx] at g4
  have bo : ∀ j, j ≠ 3 → j ≠ 56 + x → B' 4 j = B 4 j := fun j c1 c2 => by rw [b4, zu_ne c1, zu_ne c2]
  have i16 : ∀ i, i ≠ 19 → upd I 19 (nI x) i = I i := fun i hi => zu_ne hi
  have r1 : upd I 19 (nI x) 16 = nI (n 0) := r1
  have r2 : upd I 19 (nI x) 17 = nI (n 1) := r2
  have r3 : upd I 19 (nI x) 18 = nI (n 2) := r3
  rw [i16 16 (by omega)] at r1
  rw [i16 17 (by omega)] at r2
  rw [i16 18 (by omega)] at r3
  rw [i16 21 (by omega)] at h21
  refine ⟨⟨⟨p1, p2, p3, by show x + 1 ≤ 4; omega⟩, ⟨by rw [bo 0 (by omega) (by omega)]; exact q1, by rw [bo 1 (by omega) (by omega)]; exact q2, by rw [bo 2 (by omega) (by omega)]; exact q3, by rw [b4, zu_same]; rfl⟩, ⟨r1, r2, r3, h19⟩, ?_, ?_, ?_, ?_⟩, ⟨?_, ?_⟩, ?_, ?_, ?_, ?_⟩
  · intro g hg
    have hg : g < n 0 := hg
    rw [bo (38 + g) (by omega) (by omega), bo (4 + g) (by omega) (by omega), bo (8 + g) (by omega) (by omega), bo (12 + g) (by omega) (by omega), bo (16 + g) (by omega) (by omega)]
    exact g1 g hg
  · intro k hk
    have hk : k < n 1 := hk
    rw [bo (44 + k) (by omega) (by omega), bo (20 + k) (by omega) (by omega), bo (26 + k) (by omega) (by omega), bo (32 + k) (by omega) (by omega)]
    exact g2 k hk
  · intro h hh
    have hh : h < n 2 := hh
    have : n 2 ≤ 6 := p3
    rw [bo (50 + h) (by omega) (by omega)]
    exact g3 h hh
  · intro s hs
    have hs : s < x + 1 := hs
    by_cases z : s = x
    · rw [z, b4, zu_ne (by omega), zu_same]
      exact a25
    · rw [bo (56 + s) (by omega) (by omega)]
      exact g4 s (by omega)
  · intro g hg
    have hg : g < n 0 := hg
    rw [bo (4 + g) (by omega) (by omega), bo (8 + g) (by omega) (by omega), bo (12 + g) (by omega) (by omega), bo (16 + g) (by omega) (by omega)]
    exact v1 g hg
  · intro k hk
    have hk : k < n 1 := hk
    rw [bo (20 + k) (by omega) (by omega), bo (26 + k) (by omega) (by omega), bo (32 + k) (by omega) (by omega)]
    exact v2 k hk
  · rw [b1]
    exact hR
  · rw [h21, b1]
  · rw [b1]
    exact hE
  · intro g hg hg4
    have hg : n 0 ≤ g := hg
    rw [bo (12 + g) (by omega) (by omega), bo (16 + g) (by omega) (by omega)]
    exact hS g hg hg4
theorem zs_shopl {τ : Nat → Nat} {len x : Nat} {n : Nat → Nat} {v : Int32} (hx : n 3 = x) (hx4 : x < 4) : ∀ (d m M fu1 fu2 s e k : Nat) (I : Nat → Int32) (A : Nat → Nat → Int32) (J : Nat → Int32) (B : Nat → Nat → Int32) (w : Int64), m + d = 6 → d + 1 < fu1 → d < fu2 → M < 2 ^ n 1 → zpc M = m → zTR τ len s e k I A J B w → I 3 = 0 → zD (upd I 19 (nI x)) A B n → I 19 = nI (x + 1) → A 25 x = v → ∃ (s' e' k' : Nat) (I' : Nat → Int32) (A' : Nat → Nat → Int32) (J' : Nat → Int32) (B' : Nat → Nat → Int32) (w' : Int64), f_X2_readShop_l57 1 (nI x) fu1 I A (nI M) (nI m) = some (I', A') ∧ f_X8_parseShop_l16 (nI x) v fu2 J B w (nI M) = some (J', B', w') ∧ zTR τ len s' e' k' I' A' J' B' w' ∧ zFI I I' ∧ zFJ J J' ∧ (∀ a, a ≠ 53 → A' a = A a) ∧ zSB B B' ∧ (I' 3 = 0 → s ≤ s' ∧ ∃ n', zD I' A' B' n') := by
  intro d
  induction d using Nat.strongRecOn with
  | _ d ih =>
    intro m M fu1 fu2 s e k I A J B w hm hf1 hf2 hM hp h z hD h19 h25
    obtain ⟨a1, rfl⟩ : ∃ a, fu1 = a + 1 + 1 := ⟨fu1 - 2, by omega⟩
    obtain ⟨a2, rfl⟩ : ∃ a, fu2 = a + 1 := ⟨fu2 - 1, by omega⟩
    have i8 := h.2.2.1.2.2.2
    have j6 := h.2.2.2.1.2.2.2
    have j8 : J 8 = 0 := h.2.2.2.2.1.1 ▸ z
    have hk4 : k ≤ 4 := h.2.2.2.2.2.1.2.2.1
    have hn0 := hD.ns
    have b43 : B 4 3 = nI x := by rw [(hn0 3 (by omega)).2.1, hx]
    have n16 : n 1 ≤ 6 := (hn0 1 (by omega)).2.2.1
    have hM6 : M < 64 := Nat.lt_of_lt_of_le hM (zm_64 (n 1) n16)
    rw [f_X2_readShop_l57, f_X8_parseShop_l16, if_neg (show ¬ (6 : Int32) < nI m from nI_nlt (a := 6) (by omega) (by omega)), if_pos z, if_pos j8, i8, j6]
    by_cases k1 : k = 1
    · rw [if_pos (show nI k = (1 : Int32) by rw [k1]; rfl), if_pos (show nI k = (1 : Int32) by rw [k1]; rfl)]
      have hn1 : zOne I A B n 1 := ⟨by
        have := (hn0 1 (by omega)).1
        rw [zu_ne (by omega)] at this
        exact this, (hn0 1 (by omega)).2⟩
      obtain ⟨I2, J2, v1, v2, b1, b2, b3, b4, b5, ⟨⟨j, rfl, hj⟩, b6⟩, b7⟩ := zy_old1 h hn1
      have b1 : f_X2_seeName_r33 A 1 I (I 17) = some (nI j, I2) := b1
      rw [b1, zb_bd2, b2, zb_bd2]
      obtain ⟨y1, y2, y3⟩ := zm_6 M hM6 j hj
      obtain ⟨c, hc⟩ : ∃ c : Int32, c = if nI M &&& ((1 : Int32) <<< (nI j &&& 31)) = 0 then (0 : Int32) else (1 : Int32) := ⟨_, rfl⟩
      have cl : ∀ K, (if nI M &&& ((1 : Int32) <<< (nI j &&& 31)) = 0 then f_X2_readShop_j116 1 K I2 A (nI x) (nI M) (nI m) (nI j) (0 : Int32) else f_X2_readShop_j116 1 K I2 A (nI x) (nI M) (nI m) (nI j) (1 : Int32)) = f_X2_readShop_j116 1 K I2 A (nI x) (nI M) (nI m) (nI j) c := fun K => by
        rw [hc]
        split <;> rfl
      have mo : ∃ c' : Int32, (∀ K, (if v2 < 0 then f_X8_parseShop_j53 K J2 B w (nI x) v (nI M) v2 else if ((nI M >>> (v2 &&& 31)) &&& (1 : Int32)) = 0 then f_X8_parseShop_j53 K J2 B w (nI x) v (nI M) v2 else f_X8_parseShop_j58 K J2 B w (nI x) v (nI M) v2 (0 : Int32)) = f_X8_parseShop_j58 K J2 B w (nI x) v (nI M) v2 c') ∧ (I2 3 = 0 → (c = 0 ↔ c' ≠ 0)) := by
        unfold f_X8_parseShop_j53
        by_cases q : I2 3 = 0
        · obtain ⟨-, q2, -⟩ := b7 q
          rw [q2]
          by_cases q3 : M.testBit j = false
          · refine ⟨1, fun K => by rw [if_neg (show ¬ nI j < 0 from nI_pos (by omega)), if_pos (y2.mpr q3)], fun _ => ?_⟩
            rw [hc, if_pos (y1.mpr q3)]
            decide
          · refine ⟨0, fun K => by rw [if_neg (show ¬ nI j < 0 from nI_pos (by omega)), if_neg (fun y => q3 (y2.mp y))], fun _ => ?_⟩
            rw [hc, if_neg (fun y => q3 (y1.mp y))]
            decide
        · by_cases q2 : v2 < 0
          · exact ⟨1, fun K => by rw [if_pos q2], fun p => absurd p q⟩
          · by_cases q3 : ((nI M >>> (v2 &&& 31)) &&& (1 : Int32)) = 0
            · exact ⟨1, fun K => by rw [if_neg q2, if_pos q3], fun p => absurd p q⟩
            · exact ⟨0, fun K => by rw [if_neg q2, if_neg q3], fun p => absurd p q⟩
      obtain ⟨c', m1, m2⟩ := mo
      rw [cl, m1]
      unfold f_X2_readShop_j116 f_X8_parseShop_j58 f_X5_shelf
      obtain ⟨s3, e3, k3, I3, J3, w3, J3', d1, d2, d3, d4, d5, d6, d7, d8, d9⟩ := zy_pass b3 c c' m2
      rw [d1, zb_bd, d2, zb_bd, d3, zb_bd2, zb_let, zb_bd]
      obtain ⟨s5, e5, k5, I5, J5, w5, u, u', f1, f2, f3, f4, f5, f6⟩ := zy_int d4 0 9999 (by omega) (by omega)
      have f1 : f_X2_readInteger A 1 I3 (0 : Int32) (9999 : Int32) = some (u, I5) := by rw [zl_0, zl_9999]; exact f1
      have f2 : f_X8_readInteger B J3 w3 (0 : Int32) (9999 : Int32) = some (u', J5, w5) := by rw [zl_0, zl_9999]; exact f2
      have ex : nI x * (6 : Int32) + nI j = nI (x * 6 + j) := by rw [zl_6, pk_mul, nI_add]
      rw [f1, zb_bd2, ex, zb_st (by omega) (by omega), zb_let, zb_let, y3, show nI m + (1 : Int32) = nI (m + 1) by rw [nI_1], f2, zb_bd3]
      obtain ⟨A1, hA1⟩ : ∃ A1, A1 = qf_up A 53 (upd (A 53) (x * 6 + j) u) := ⟨_, rfl⟩
      rw [← hA1]
      have ao : ∀ a, a ≠ 53 → A1 a = A a := fun a c1 => by rw [hA1, zu_upn c1]
      have fI : zFI I I5 := (b4.tr d5).tr f4
      have fJ : zFJ J J5 := (b5.tr d6).tr f5
      by_cases q : I5 3 = 0
      · obtain ⟨g1, g2, r, r1, r2, r3, r4⟩ := f6 q
        obtain ⟨p1, p2, p3⟩ := d9 g1
        obtain ⟨o1, o2, o3, j2, o4, o5⟩ := b7 p1
        have ej : j = j2 := (nI_eq (by omega) (by omega)).mp o5
        subst ej
        have htb : M.testBit j = false := by
          by_cases t : M.testBit j = false
          · exact t
          · rw [hc, if_neg (fun y => t (y1.mp y))] at p2
            exact absurd p2 (by decide)
        have hp2 : zpc (M ||| 2 ^ j) = m + 1 := by rw [zm_pc M hM6 j hj htb, hp]
        have hM2 : M ||| 2 ^ j < 2 ^ n 1 := zm_lt (n 1) n16 M hM j o4
        have hm6 : m + 1 ≤ 6 := by
          have := zm_le (n 1) n16 _ hM2
          omega
        rw [if_pos (show J5 8 = 0 from f3.2.2.2.2.1.1 ▸ q), o2, y3, zb_let, zl_145, zl_6, pk_mul, nI_add, nI_add, zb_st (by omega) (by omega), zb_let]
        obtain ⟨B1, hB1⟩ : ∃ B1, B1 = qf_up B 1 (upd (B 1) (145 + 6 * x + j) u') := ⟨_, rfl⟩
        rw [← hB1]
        have bo : ∀ b, b ≠ 1 → B1 b = B b := fun b c1 => by rw [hB1, zu_upn c1]
        obtain ⟨s', e', k', I', A', J', B', w', t1, t2, t3, t4, t5, t6, t7, t8⟩ := ih (d - 1) (by omega) (m + 1) (M ||| 2 ^ j) (a1 + 1) a2 s5 e5 k5 I5 A1 J5 B1 w5 (by omega) (by omega) (by omega) hM2 hp2 (f3.rows (ao 0 (by omega)) (bo 5 (by omega))) q (zD_price hD hx4 hj r2 (fun i hi => by
          by_cases y : i = 19
          · rw [y, zu_same, zu_same]
          · rw [zu_ne y, zu_ne y, fI i (by omega)]) (by rw [hA1, zu_up, r3]) ao (bo 4 (by omega)) (by rw [hB1, zu_up, r4])) (by rw [fI 19 (by omega), h19]) (by rw [ao 25 (by omega), h25])
        refine ⟨s', e', k', I', A', J', B', w', t1, t2, t3, fI.tr t4, fJ.tr t5, fun a c1 => by rw [t6 a c1, ao a c1], fun b c1 c2 => by rw [t7 b c1 c2, bo b c1], fun y => ⟨?_, (t8 y).2⟩⟩
        have := (t8 y).1
        have := f3.2.2.2.2.2.1
        have := d4.2.2.2.2.2.1
        have := h.2.2.2.2.2.1
        omega
      · rw [if_neg (show ¬ J5 8 = 0 from f3.2.2.2.2.1.1 ▸ q)]
        have cE : f_X2_readShop_l57 1 (nI x) (a1 + 1) I5 A1 (nI (M ||| 2 ^ j)) (nI (m + 1)) = some (I5, A1) := by
          rw [f_X2_readShop_l57, if_neg q, ite_self]
        exact ⟨s5, e5, k5, I5, A1, J5, B, w5, cE, rfl, f3.rows (ao 0 (by omega)) rfl, fI, fJ, ao, fun _ _ _ => rfl, fun y => absurd y q⟩
    · rw [if_neg (show ¬ nI k = (1 : Int32) from fun q => k1 ((nI_eq (b := 1) (by omega) (by omega)).mp q)), if_neg (show ¬ nI k = (1 : Int32) from fun q => k1 ((nI_eq (b := 1) (by omega) (by omega)).mp q))]
      unfold f_X8_parseShop_j113
      rw [zl_3, zy_dcl j8 (q := 3) (m := x) (by omega) (by omega) b43, zb_bd]
      exact ⟨s, e, k, I, A, J, _, w, rfl, rfl, h.rows rfl (zu_upn (by omega)), zFI.rf I, zFJ.rf J, fun _ _ => rfl, fun b c1 c2 => zu_upn c2, fun _ => ⟨Nat.le_refl _, _, zD_shop hD hx hx4 h19 h25 (zu_up _ _ _) (zu_upn (by omega))⟩⟩
section ZSHOP
variable {τ : Nat → Nat} {len s e k : Nat} {I : Nat → Int32} {A : Nat → Nat → Int32} {J : Nat → Int32} {B : Nat → Nat → Int32} {w : Int64} {n : Nat → Nat}
theorem zs_shop (h : zTR τ len s e k I A J B w) (z : I 3 = 0) (hD : zD I A B n) (hG : zGs I J) (hk : k ≠ 0) : zEnds τ len s I A J B (f_X2_readShop 1 I A) (f_X8_parseShop J B w) := by
  have hn := hD.ns
  have hse := h.2.2.2.2.2.1.2.2.2 hk
  have e19 : I 19 = nI (n 3) := (hn 3 (by omega)).1
  have b43 : B 4 3 = nI (n 3) := (hn 3 (by omega)).2.1
  have hb : n 3 ≤ 4 := (hn 3 (by omega)).2.2.1
  have ld : ∀ {β : Type} (K : Int32 → Option β), qf_ld 62 (B 4) (3 : Int32) K = K (nI (n 3)) := fun K => by rw [zl_3, zb_ld (by omega) (by omega), b43]
  have mE : ∀ {J1 : Nat → Int32} {w1 : Int64} (x v M : Int32) (fu : Nat), J1 8 ≠ 0 → f_X8_parseShop_l16 x v (fu + 1) J1 B w1 M = some (J1, B, w1) := fun x v M fu q => by
    rw [f_X8_parseShop_l16, if_neg q]
    unfold f_X8_parseShop_j113
    rw [zy_dclE q, zb_bd]
  unfold f_X2_readShop f_X8_parseShop
  rw [zb_let, e19, ld]
  generalize hx : n 3 = x at *
  by_cases c : x < 4
  · obtain ⟨s1, e1, k1, I1, I2, J2, w2, v, v', a1, a2, a3, a4, a5, a6, a7⟩ := zy_begin h z hn (q := 3) (by omega) (by rw [hx]; exact c)
    have a3 : f_X8_begin B J w (3 : Int32) (4 : Int32) = some (v', J2, w2) := by rw [zl_3, zl_4]; exact a3
    have e20 : I2 19 + (1 : Int32) = nI (x + 1) := by rw [a5 19 (by omega), e19, nI_1]
    rw [if_pos (show nI x < (4 : Int32) from nI_lt (b := 4) c (by omega)), a1, zb_bd, a2, zb_bd2, zb_st (by omega) (by omega), zb_let, zb_let, e20, a3, zb_bd3]
    obtain ⟨A1, hA1⟩ : ∃ A1, A1 = qf_up A 25 (upd (A 25) x v) := ⟨_, rfl⟩
    rw [← hA1]
    have ao : ∀ a, a ≠ 25 → A1 a = A a := fun a c1 => by rw [hA1, zu_upn c1]
    have a25 : A1 25 = upd (A 25) x v := by rw [hA1, zu_up]
    have hT : zTR τ len s1 e1 k1 (upd I2 19 (nI (x + 1))) A1 J2 B w2 := (a4.rows (A' := A1) (B' := B) (ao 0 (by omega)) rfl).cI (fun i i1 i2 => zu_ne (by omega)) (fun _ _ _ => rfl)
    by_cases q : I2 3 = 0
    · obtain ⟨q1, q2⟩ := a7 q
      rw [q1]
      have hD1 : zD (upd (upd I2 19 (nI (x + 1))) 19 (nI x)) A1 B n := zD_fr hD (fun i hi => by
        by_cases y : i = 19
        · rw [y, zu_same, e19]
        · rw [zu_ne y, zu_ne y, a5 i (by omega)]) ao (fun s hs => by rw [a25, zu_ne (by omega)])
      obtain ⟨s', e', k', I', A', J', B', w', t1, t2, t3, t4, t5, t6, t7, t8⟩ := zs_shopl hx c 6 0 0 100000 100000 s1 e1 k1 (upd I2 19 (nI (x + 1))) A1 J2 B w2 (by omega) (by omega) (by omega) (Nat.two_pow_pos _) rfl hT (by rw [zu_ne (by omega)]; exact q) hD1 (zu_same _ _ _) (by rw [a25, zu_same])
      refine ⟨s', e', k', I', A', J', B', w', t1, t2, t3, fun i hi => ?_, fun j hj => ?_, fun a ha => ?_, t7, fun y => ⟨?_, (t8 y).2, ?_⟩⟩
      · rw [t4 i (by omega), zu_ne (by omega), a5 i (by omega)]
      · rw [t5 j (by omega), a6 j (by omega)]
      · rw [t6 a (by omega), ao a (by omega)]
      · have := (t8 y).1
        have := a4.2.2.2.2.2.1
        omega
      · obtain ⟨M, m1, m2, m3⟩ := hG
        exact ⟨M, m1, by rw [t4 2 (by omega), zu_ne (by omega), a5 2 (by omega), m2], by rw [t5 10 (by omega), a6 10 (by omega), m3]⟩
    · have cE : f_X2_readShop_l57 1 (nI x) 100000 (upd I2 19 (nI (x + 1))) A1 (0 : Int32) (0 : Int32) = some (upd I2 19 (nI (x + 1)), A1) := by
        rw [f_X2_readShop_l57, if_neg (show ¬ (6 : Int32) < 0 by decide), if_neg (show ¬ upd I2 19 (nI (x + 1)) 3 = 0 by rw [zu_ne (by omega)]; exact q)]
      rw [cE, mE _ _ _ 99999 (show J2 8 ≠ 0 from a4.2.2.2.2.1.1 ▸ q)]
      exact ⟨s1, e1, k1, _, A1, J2, B, w2, rfl, rfl, hT, fun i hi => by rw [zu_ne (by omega), a5 i (by omega)], a6.sJ, fun a ha => ao a (by omega), fun _ _ _ => rfl, fun y => absurd y (by rw [zu_ne (by omega)]; exact q)⟩
  · obtain ⟨I1, J1, a1, a2, a3, a4, a5, a6, a7⟩ := zy_full h hn (q := 3) (by omega) (by rw [hx]; exact c)
    have a2 : f_X8_begin B J w (3 : Int32) (4 : Int32) = some (0, J1, w) := by rw [zl_3, zl_4]; exact a2
    rw [if_neg (show ¬ nI x < (4 : Int32) from nI_nlt (a := x) (b := 4) (by omega) (by omega)), a1, zb_bd, a2, zb_bd3, mE _ _ _ 99999 a7]
    exact ⟨s, e, k, I1, A, J1, B, w, rfl, rfl, a3, a4.sI, a5.sJ, fun _ _ => rfl, fun _ _ _ => rfl, fun y => absurd y a6⟩
end ZSHOP
