/-! swap -/
theorem zD_swap {I I' : Nat → Int32} {A A' B B' : Nat → Nat → Int32} {n : Nat → Nat} {g t f : Nat} (hD : zD I A B n) (hg : g < n 0) (ht : t < n 0) (hf : 1 ≤ f ∧ f ≤ 9) (hI : ∀ i, 16 ≤ i → I' i = I i) (a28 : A' 28 = upd (A 28) g (nI t)) (a29 : A' 29 = upd (A 29) g (nI f)) (ao : ∀ a, a ≠ 28 → a ≠ 29 → A' a = A a) (b4 : B' 4 = upd (upd (B 4) (12 + g) (nI t)) (16 + g) (nI f)) (b1 : B' 1 = B 1) : zD I' A' B' n := by
  obtain ⟨⟨⟨p1, p2, p3, p4⟩, ⟨q1, q2, q3, q4⟩, ⟨r1, r2, r3, r4⟩, g1, g2, g3, g4⟩, ⟨v1, v2⟩, hR, h21, hE, hS⟩ := hD
  have bo : ∀ j, j ≠ 12 + g → j ≠ 16 + g → B' 4 j = B 4 j := fun j c1 c2 => by rw [b4, zu_ne c2, zu_ne c1]
  have e12 : B' 4 (12 + g) = nI t := by rw [b4, zu_ne (by omega), zu_same]
  have e16 : B' 4 (16 + g) = nI f := by rw [b4, zu_same]
  refine ⟨⟨⟨p1, p2, p3, p4⟩, ⟨by rw [bo 0 (by omega) (by omega)]; exact q1, by rw [bo 1 (by omega) (by omega)]; exact q2, by rw [bo 2 (by omega) (by omega)]; exact q3, by rw [bo 3 (by omega) (by omega)]; exact q4⟩, ⟨(hI 16 (by omega)).trans r1, (hI 17 (by omega)).trans r2, (hI 18 (by omega)).trans r3, (hI 19 (by omega)).trans r4⟩, ?_, ?_, ?_, ?_⟩, ⟨?_, ?_⟩, ?_, ?_, ?_, ?_⟩
  · intro j hj
    show A' 22 j = B' 4 (38 + j) ∧ A' 26 j = B' 4 (4 + j) ∧ A' 27 j = B' 4 (8 + j) ∧ A' 28 j = B' 4 (12 + j) ∧ A' 29 j = B' 4 (16 + j)
    have := g1 j hj
    rw [ao 22 (by omega) (by omega), ao 26 (by omega) (by omega), ao 27 (by omega) (by omega), a28, a29, bo (38 + j) (by omega) (by omega), bo (4 + j) (by omega) (by omega), bo (8 + j) (by omega) (by omega)]
    by_cases z : j = g
    · rw [z, zu_same, zu_same, e12, e16, ← z]
      exact ⟨this.1, this.2.1, this.2.2.1, rfl, rfl⟩
    · rw [zu_ne z, zu_ne z, bo (12 + j) (by omega) (by omega), bo (16 + j) (by omega) (by omega)]
      exact this
  · intro k hk
    show A' 23 k = B' 4 (44 + k) ∧ A' 30 k = B' 4 (20 + k) ∧ A' 31 k = B' 4 (26 + k) ∧ A' 32 k = B' 4 (32 + k)
    rw [ao 23 (by omega) (by omega), ao 30 (by omega) (by omega), ao 31 (by omega) (by omega), ao 32 (by omega) (by omega), bo (44 + k) (by omega) (by omega), bo (20 + k) (by omega) (by omega), bo (26 + k) (by omega) (by omega), bo (32 + k) (by omega) (by omega)]
    exact g2 k hk
  · intro h hh
    show A' 24 h = B' 4 (50 + h)
    rw [ao 24 (by omega) (by omega), bo (50 + h) (by omega) (by omega)]
    exact g3 h hh
  · intro s hs
    show A' 25 s = B' 4 (56 + s)
    rw [ao 25 (by omega) (by omega), bo (56 + s) (by omega) (by omega)]
    exact g4 s hs
  · intro j hj
    obtain ⟨w1, w2, w3⟩ := v1 j hj
    rw [bo (4 + j) (by omega) (by omega), bo (8 + j) (by omega) (by omega)]
    refine ⟨w1, w2, ?_⟩
    by_cases z : j = g
    · rw [z]
      exact Or.inr ⟨t, ht, e12, f, hf.1, hf.2, e16⟩
    · rw [bo (12 + j) (by omega) (by omega), bo (16 + j) (by omega) (by omega)]
      exact w3
  · intro k hk
    rw [bo (20 + k) (by omega) (by omega), bo (26 + k) (by omega) (by omega), bo (32 + k) (by omega) (by omega)]
    exact v2 k hk
  · rw [b1]
    intro a i ha hi
    show A' (47 + a) i = _
    rw [ao (47 + a) (by omega) (by omega)]
    exact hR a i ha hi
  · rw [hI 21 (by omega), h21, b1]
  · rw [b1]
    exact hE
  · intro j hj hj4
    rw [bo (12 + j) (by omega) (by omega), bo (16 + j) (by omega) (by omega)]
    exact hS j hj hj4
section ZSWAP
variable {τ : Nat → Nat} {len s e k : Nat} {I : Nat → Int32} {A : Nat → Nat → Int32} {J : Nat → Int32} {B : Nat → Nat → Int32} {w : Int64} {n : Nat → Nat}
theorem zs_swap (h : zTR τ len s e k I A J B w) (z : I 3 = 0) (hD : zD I A B n) (hG : zGs I J) (hk : k ≠ 0) : zEnds τ len s I A J B (f_X2_readSwap 1 I A) (f_X8_parseSwap J B w) := by
  have hn := hD.ns
  have hse := h.2.2.2.2.2.1.2.2.2 hk
  have hb : n 0 ≤ 4 := (hn 0 (by omega)).2.2.1
  have g1 := hD.1.2.2.2.1
  have hV := hD.2.1.1
  unfold f_X2_readSwap f_X8_parseSwap f_X8_parseSwap_j27
  obtain ⟨s1, e1, k1, I1, J1, w1, a1, a2, a3, a4, a5, a6, a7⟩ := zy_adv h
  rw [a1, zb_bd, a2, zb_bd2]
  obtain ⟨I2, J2, v, v', b1, b2, b3, b4, b5, ⟨⟨j, rfl, hj⟩, b6⟩, b7⟩ := zy_old0 a3 ((hn.fI a4) 0 (by omega))
  rw [b1, zb_bd2, b2, zb_bd2, zb_ld hj (by omega)]
  -- the tests of the giving group
  obtain ⟨x, hx⟩ : ∃ x : Int32, x = if A 28 j < 0 then (0 : Int32) else (1 : Int32) := ⟨_, rfl⟩
  have cl : (if A 28 j < 0 then f_X2_readSwap_j44 A 1 I2 (nI j) (0 : Int32) else f_X2_readSwap_j44 A 1 I2 (nI j) (1 : Int32)) = f_X2_readSwap_j44 A 1 I2 (nI j) x := by
    rw [hx]
    split <;> rfl
  rw [cl]
  have mo : ∃ x' : Int32, (if v' < 0 then f_X8_parseSwap_j32 B J2 w1 v' (1 : Int32) else qf_ld 62 (B 4) ((12 : Int32) + v') fun x5 => if 0 ≤ x5 then f_X8_parseSwap_j32 B J2 w1 v' (0 : Int32) else f_X8_parseSwap_j32 B J2 w1 v' (1 : Int32)) = f_X8_parseSwap_j32 B J2 w1 v' x' ∧ (I2 3 = 0 → (x = 0 ↔ x' ≠ 0)) := by
    by_cases q : I2 3 = 0
    · obtain ⟨c1, c2, c3, j2, c4, c5⟩ := b7 q
      have ej : j = j2 := (nI_eq (by omega) (by omega)).mp c5
      subst ej
      rw [c2, if_neg (show ¬ nI j < 0 from nI_pos (by omega)), zl_12, nI_add, zb_ld (by omega) (by omega)]
      have e28 : A 28 j = B 4 (12 + j) := (g1 j c4).2.2.2.1
      rw [hx, e28]
      rcases (hV j c4).2.2 with y | ⟨t, t1, t2, -⟩
      · rw [y, if_neg (show ¬ 0 ≤ -nI 1 by decide), if_pos (show -nI 1 < 0 by decide)]
        exact ⟨1, rfl, fun _ => by decide⟩
      · rw [t2, if_pos (show 0 ≤ nI t from nI_pos' (by omega)), if_neg (show ¬ nI t < 0 from nI_pos (by omega))]
        exact ⟨0, rfl, fun _ => by decide⟩
    · have j8 : J2 8 ≠ 0 := b3.2.2.2.2.1.1 ▸ q
      by_cases y : v' < 0
      · rw [if_pos y]
        exact ⟨1, rfl, fun p => absurd p q⟩
      · rcases b6 with y2 | ⟨j2, y2, y3⟩
        · exact absurd y2 y
        · rw [if_neg y, y2, zl_12, nI_add, zb_ld (by omega) (by omega)]
          by_cases y4 : 0 ≤ B 4 (12 + j2)
          · rw [if_pos y4]
            exact ⟨0, rfl, fun p => absurd p q⟩
          · rw [if_neg y4]
            exact ⟨1, rfl, fun p => absurd p q⟩
  obtain ⟨x', m1, m2⟩ := mo
  rw [m1]
  unfold f_X2_readSwap_j44 f_X8_parseSwap_j32
  obtain ⟨s3, e3, k3, I3, J3, w3, J3', c1, c2, c3, c4, c5, c6, c7, c8, c9⟩ := zy_pass b3 x x' m2
  rw [c1, zb_bd, c2, zb_bd, c3, zb_bd2]
  obtain ⟨I4, J4, v2, v2', d1, d2, d3, d4, d5, ⟨⟨t, rfl, ht⟩, d6⟩, d7⟩ := zy_old0 c4 ((((hn.fI a4).fI b4).fI c5) 0 (by omega))
  rw [d1, zb_bd2, d2, zb_bd2]
  obtain ⟨y, hy⟩ : ∃ y : Int32, y = if nI t = nI j then (1 : Int32) else (0 : Int32) := ⟨_, rfl⟩
  obtain ⟨y', hy'⟩ : ∃ y' : Int32, y' = if v2' = v' then (0 : Int32) else (1 : Int32) := ⟨_, rfl⟩
  have cl2 : (if nI t = nI j then f_X2_readSwap_j77 A 1 I4 (nI j) (nI t) (1 : Int32) else f_X2_readSwap_j77 A 1 I4 (nI j) (nI t) (0 : Int32)) = f_X2_readSwap_j77 A 1 I4 (nI j) (nI t) y := by
    rw [hy]
    split <;> rfl
  have mo2 : (if v2' = v' then f_X8_parseSwap_j58 B J4 w3 v' v2' (0 : Int32) else f_X8_parseSwap_j58 B J4 w3 v' v2' (1 : Int32)) = f_X8_parseSwap_j58 B J4 w3 v' v2' y' := by
    rw [hy']
    split <;> rfl
  rw [cl2, mo2]
  unfold f_X2_readSwap_j77 f_X8_parseSwap_j58
  obtain ⟨s5, e5, k5, I5, J5, w5, J5', f1, f2, f3, f4, f5, f6, f7, f8, f9⟩ := zy_pass d3 y y' (fun q => by
    obtain ⟨q1, q2, -⟩ := d7 q
    obtain ⟨q3, -⟩ := c9 q1
    obtain ⟨-, q4, -⟩ := b7 q3
    rw [hy, hy', q2, q4]
    by_cases p : nI t = nI j
    · rw [if_pos p, if_pos p]; decide
    · rw [if_neg p, if_neg p]; decide)
  rw [f1, zb_bd, f2, zb_bd, f3, zb_bd2]
  obtain ⟨s7, e7, k7, I7, J7, w7, u, u', g1', g2', g3, g4, g5, g6⟩ := zy_int f4 1 9 (by omega) (by omega)
  have g1' : f_X2_readInteger A 1 I5 (1 : Int32) (9 : Int32) = some (u, I7) := by rw [zl_1, zl_9]; exact g1'
  have g2' : f_X8_readInteger B J5 w5 (1 : Int32) (9 : Int32) = some (u', J7, w7) := by rw [zl_1, zl_9]; exact g2'
  rw [g1', zb_bd2, zb_st hj (by omega), zb_let, zb_st hj (by omega), zb_let, g2', zb_bd3]
  obtain ⟨A1, hA1⟩ : ∃ A1, A1 = qf_up A 29 (upd (A 29) j u) := ⟨_, rfl⟩
  rw [← hA1]
  obtain ⟨A2, hA2⟩ : ∃ A2, A2 = qf_up A1 28 (upd (A1 28) j (nI t)) := ⟨_, rfl⟩
  rw [← hA2]
  have ao : ∀ a, a ≠ 28 → a ≠ 29 → A2 a = A a := fun a c1 c2 => by rw [hA2, zu_upn c1, hA1, zu_upn c2]
  have a28 : A2 28 = upd (A 28) j (nI t) := by rw [hA2, zu_up, hA1, zu_upn (by omega)]
  have a29 : A2 29 = upd (A 29) j u := by rw [hA2, zu_upn (by omega), hA1, zu_up]
  have fI : zFI I I7 := ((((a4.tr b4).tr c5).tr d4).tr f5).tr g4
  have fJ : zFJ J J7 := ((((a5.tr b5).tr c6).tr d5).tr f6).tr g5
  have hT : ∀ {B' : Nat → Nat → Int32}, B' 5 = B 5 → zTR τ len s7 e7 k7 I7 A2 J7 B' w7 := fun {B'} hB5 => g3.rows (A' := A2) (B' := B') (ao 0 (by omega) (by omega)) hB5
  have sA : zSA A A2 := fun a ha => ao a (by omega) (by omega)
  by_cases q : I7 3 = 0
  · obtain ⟨q1, q2, r, r1, r2, r3, r4⟩ := g6 q
    obtain ⟨p1, p2, p3⟩ := f9 q1
    obtain ⟨p4, p5, p6, t2, p7, p8⟩ := d7 p1
    obtain ⟨o1, o2, o3⟩ := c9 p4
    obtain ⟨o4, o5, o6, j2, o7, o8⟩ := b7 o1
    have et : t = t2 := (nI_eq (by omega) (by omega)).mp p8
    have ej : j = j2 := (nI_eq (by omega) (by omega)).mp o8
    subst et
    subst ej
    have j8 : J7 8 = 0 := g3.2.2.2.2.1.1 ▸ q
    rw [if_pos j8, o5, p5, zl_12, zl_16, nI_add, nI_add, zb_st (by omega) (by omega), zb_let, zb_st (by omega) (by omega), zb_let, zu_upup, zu_up]
    refine ⟨s7, e7, k7, I7, A2, J7, _, w7, rfl, rfl, hT (zu_upn (by omega)), fI.sI, fJ.sJ, sA, fun b c1 c2 => zu_upn c2, fun _ => ⟨?_, ⟨n, ?_⟩, hG.fr fI fJ⟩⟩
    · have := g3.2.2.2.2.2.1
      have := f4.2.2.2.2.2.1
      have := d3.2.2.2.2.2.1
      have := c4.2.2.2.2.2.1
      have := b3.2.2.2.2.2.1
      have := a3.2.2.2.2.2.1
      omega
    · exact zD_swap hD o7 p7 ⟨r1, r2⟩ (fun i hi => fI i (by omega)) a28 (r3 ▸ a29) ao (by rw [zu_up, r4]) (zu_upn (by omega))
  · have j8 : ¬ J7 8 = 0 := g3.2.2.2.2.1.1 ▸ q
    rw [if_neg j8]
    exact ⟨s7, e7, k7, I7, A2, J7, B, w7, rfl, rfl, hT rfl, fI.sI, fJ.sJ, sA, fun b _ _ => rfl, fun y => absurd y q⟩
end ZSWAP
