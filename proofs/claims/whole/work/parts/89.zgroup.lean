/-! group -/
theorem zR_set {S S' : Nat → Nat → Int32} {D D' : Nat → Int32} {x : Int32} (h : zR S D) {a i : Nat} (ha : a < 14) (hi : i < zlen a) (h1 : S' a = upd (S a) i x) (h2 : ∀ b, b < 14 → b ≠ a → S' b = S b) (hD : D' = upd D (zoff a + i) x) : zR S' D' := by
  intro b j hb hj
  rw [hD]
  by_cases z : b = a
  · subst z
    rw [h1]
    by_cases y : j = i
    · rw [y, zu_same, zu_same]
    · rw [zu_ne y, zu_ne (by omega)]
      exact h b j hb hj
  · have := zoff_apart b hb a ha z
    rw [h2 b hb z, zu_ne (by omega)]
    exact h b j hb hj
theorem zTR.cI {τ : Nat → Nat} {len s e k : Nat} {I I' : Nat → Int32} {A : Nat → Nat → Int32} {J J' : Nat → Int32} {B : Nat → Nat → Int32} {w : Int64} (h : zTR τ len s e k I A J B w) (hI : ∀ i, 3 ≤ i → i ≤ 8 → I' i = I i) (hJ : ∀ j, 3 ≤ j → j ≤ 9 → J' j = J j) : zTR τ len s e k I' A J' B w := by
  obtain ⟨hx, hy, ⟨i5, i7, i6, i8⟩, ⟨j3, j5, j4, j6⟩, he, hs, hw, hn⟩ := h
  exact ⟨hx, hy, ⟨by rw [hI 5 (by omega) (by omega), i5], by rw [hI 7 (by omega) (by omega), i7], by rw [hI 6 (by omega) (by omega), i6], by rw [hI 8 (by omega) (by omega), i8]⟩, ⟨by rw [hJ 3 (by omega) (by omega), j3], by rw [hJ 5 (by omega) (by omega), j5], by rw [hJ 4 (by omega) (by omega), j4], by rw [hJ 6 (by omega) (by omega), j6]⟩, ⟨by rw [hI 3 (by omega) (by omega), hJ 8 (by omega) (by omega), he.1], by rw [hI 4 (by omega) (by omega), hJ 9 (by omega) (by omega), he.2]⟩, hs, hw, fun z => by rw [hJ 7 (by omega) (by omega)]; exact hn z⟩
theorem zD_group {I I' : Nat → Int32} {A A' B B' : Nat → Nat → Int32} {n : Nat → Nat} {v : Int32} {r l c x : Nat} (hD : zD I A B n) (hx : n 0 = x) (hx4 : x < 4) (hr : r ≤ 99) (hl : 1 ≤ l ∧ l ≤ 4) (hc : c ≤ 100) (hI : ∀ i, 17 ≤ i → I' i = I i) (hI16 : I' 16 = nI (x + 1)) (a22 : A' 22 = upd (A 22) x v) (a26 : A' 26 = upd (A 26) x (nI l)) (a27 : A' 27 = upd (A 27) x (nI c)) (a28 : A' 28 = upd (A 28) x (-nI 1)) (a29 : A' 29 = upd (A 29) x (nI 0)) (a47 : A' 47 = upd (A 47) x (nI r)) (ao : ∀ a, a ≠ 22 → a ≠ 26 → a ≠ 27 → a ≠ 28 → a ≠ 29 → a ≠ 47 → A' a = A a) (b4 : B' 4 = upd (upd (upd (upd (B 4) (4 + x) (nI l)) (8 + x) (nI c)) (38 + x) v) 0 (nI (x + 1))) (b1 : B' 1 = upd (B 1) (3 + x) (nI r)) : zD I' A' B' (fun q => if q = 0 then x + 1 else n q) := by
  obtain ⟨⟨⟨p1, p2, p3, p4⟩, ⟨q1, q2, q3, q4⟩, ⟨r1, r2, r3, r4⟩, g1, g2, g3, g4⟩, ⟨v1, v2⟩, hR, h21, hE, hS⟩ := hD
  rw [hx] at p1 q1 r1 g1 v1 v2 hS
  have bo : ∀ j, j ≠ 0 → j ≠ 4 + x → j ≠ 8 + x → j ≠ 38 + x → B' 4 j = B 4 j := fun j c1 c2 c3 c4 => by rw [b4, zu_ne c1, zu_ne c4, zu_ne c3, zu_ne c2]
  have e4 : B' 4 (4 + x) = nI l := by rw [b4, zu_ne (by omega), zu_ne (by omega), zu_ne (by omega), zu_same]
  have e8 : B' 4 (8 + x) = nI c := by rw [b4, zu_ne (by omega), zu_ne (by omega), zu_same]
  have e38 : B' 4 (38 + x) = v := by rw [b4, zu_ne (by omega), zu_same]
  have e0 : B' 4 0 = nI (x + 1) := by rw [b4, zu_same]
  have hSx := hS x (by omega) hx4
  refine ⟨⟨⟨by show x + 1 ≤ 4; omega, p2, p3, p4⟩, ⟨e0, by rw [bo 1 (by omega) (by omega) (by omega) (by omega)]; exact q2, by rw [bo 2 (by omega) (by omega) (by omega) (by omega)]; exact q3, by rw [bo 3 (by omega) (by omega) (by omega) (by omega)]; exact q4⟩, ⟨hI16, (hI 17 (by omega)).trans r2, (hI 18 (by omega)).trans r3, (hI 19 (by omega)).trans r4⟩, ?_, ?_, ?_, ?_⟩, ⟨?_, ?_⟩, ?_, ?_, ?_, ?_⟩
  · intro g hg
    have hg : g < x + 1 := hg
    show A' 22 g = B' 4 (38 + g) ∧ A' 26 g = B' 4 (4 + g) ∧ A' 27 g = B' 4 (8 + g) ∧ A' 28 g = B' 4 (12 + g) ∧ A' 29 g = B' 4 (16 + g)
    rw [a22, a26, a27, a28, a29]
    by_cases z : g = x
    · rw [z, zu_same, zu_same, zu_same, zu_same, zu_same, e4, e8, e38, bo (12 + x) (by omega) (by omega) (by omega) (by omega), bo (16 + x) (by omega) (by omega) (by omega) (by omega), hSx.1, hSx.2]
      exact ⟨rfl, rfl, rfl, rfl, rfl⟩
    · rw [zu_ne z, zu_ne z, zu_ne z, zu_ne z, zu_ne z, bo (38 + g) (by omega) (by omega) (by omega) (by omega), bo (4 + g) (by omega) (by omega) (by omega) (by omega), bo (8 + g) (by omega) (by omega) (by omega) (by omega), bo (12 + g) (by omega) (by omega) (by omega) (by omega), bo (16 + g) (by omega) (by omega) (by omega) (by omega)]
      exact g1 g (by omega)
  · intro k hk
    have hk : k < n 1 := hk
    show A' 23 k = B' 4 (44 + k) ∧ A' 30 k = B' 4 (20 + k) ∧ A' 31 k = B' 4 (26 + k) ∧ A' 32 k = B' 4 (32 + k)
    rw [ao 23 (by omega) (by omega) (by omega) (by omega) (by omega) (by omega), ao 30 (by omega) (by omega) (by omega) (by omega) (by omega) (by omega), ao 31 (by omega) (by omega) (by omega) (by omega) (by omega) (by omega), ao 32 (by omega) (by omega) (by omega) (by omega) (by omega) (by omega), bo (44 + k) (by omega) (by omega) (by omega) (by omega), bo (20 + k) (by omega) (by omega) (by omega) (by omega), bo (26 + k) (by omega) (by omega) (by omega) (by omega), bo (32 + k) (by omega) (by omega) (by omega) (by omega)]
    exact g2 k hk
  · intro h hh
    have hh : h < n 2 := hh
    show A' 24 h = B' 4 (50 + h)
    rw [ao 24 (by omega) (by omega) (by omega) (by omega) (by omega) (by omega), bo (50 + h) (by omega) (by omega) (by omega) (by omega)]
    exact g3 h hh
  · intro s hs
    have hs : s < n 3 := hs
    show A' 25 s = B' 4 (56 + s)
    rw [ao 25 (by omega) (by omega) (by omega) (by omega) (by omega) (by omega), bo (56 + s) (by omega) (by omega) (by omega) (by omega)]
    exact g4 s hs
  · intro g hg
    have hg : g < x + 1 := hg
    by_cases z : g = x
    · rw [z]
      exact ⟨⟨l, hl.1, hl.2, e4⟩, ⟨c, hc, e8⟩, Or.inl (by rw [bo (12 + x) (by omega) (by omega) (by omega) (by omega), hSx.1])⟩
    · obtain ⟨w1, w2, w3⟩ := v1 g (by omega)
      rw [bo (4 + g) (by omega) (by omega) (by omega) (by omega), bo (8 + g) (by omega) (by omega) (by omega) (by omega), bo (12 + g) (by omega) (by omega) (by omega) (by omega), bo (16 + g) (by omega) (by omega) (by omega) (by omega)]
      refine ⟨w1, w2, w3.imp id ?_⟩
      rintro ⟨s, hs, w4⟩
      exact ⟨s, by show s < x + 1; omega, w4⟩
  · intro k hk
    have hk : k < n 1 := hk
    obtain ⟨⟨g, hg, w1⟩, w2, w3⟩ := v2 k hk
    rw [bo (20 + k) (by omega) (by omega) (by omega) (by omega), bo (26 + k) (by omega) (by omega) (by omega) (by omega), bo (32 + k) (by omega) (by omega) (by omega) (by omega)]
    exact ⟨⟨g, by show g < x + 1; omega, w1⟩, w2, w3⟩
  · refine zR_set (a := 0) (i := x) (x := nI r) hR (by omega) hx4 a47 (fun b hb c => ?_) b1
    exact ao (47 + b) (by omega) (by omega) (by omega) (by omega) (by omega) (by omega)
  · rw [hI 21 (by omega), h21, b1, zu_ne (by omega)]
  · obtain ⟨⟨x1, x2, x3⟩, x4, x5, x6, x7⟩ := hE
    rw [b1]
    refine ⟨⟨by rw [zu_ne (by omega)]; exact x1, by rw [zu_ne (by omega)]; exact x2, by rw [zu_ne (by omega)]; exact x3⟩, fun g hg => ?_, fun h hh => by rw [zu_ne (by omega)]; exact x5 h hh, fun i hi => by rw [zu_ne (by omega)]; exact x6 i hi, fun i hi => by rw [zu_ne (by omega)]; exact x7 i hi⟩
    by_cases z : g = x
    · rw [z, zu_same]
      exact ⟨r, hr, rfl⟩
    · rw [zu_ne (by omega)]
      exact x4 g hg
  · intro g hg hg4
    have hg : x + 1 ≤ g := hg
    rw [bo (12 + g) (by omega) (by omega) (by omega) (by omega), bo (16 + g) (by omega) (by omega) (by omega) (by omega)]
    exact hS g (by omega) hg4
section ZGROUP
variable {τ : Nat → Nat} {len s e k : Nat} {I : Nat → Int32} {A : Nat → Nat → Int32} {J : Nat → Int32} {B : Nat → Nat → Int32} {w : Int64} {n : Nat → Nat}
theorem zFI.sI {I' : Nat → Int32} (h : zFI I I') : zSI I I' := fun i hi => h i (by omega)
theorem zFJ.sJ {J' : Nat → Int32} (h : zFJ J J') : zSJ J J' := fun j hj => h j (by omega)
theorem zGs.fr {I' J' : Nat → Int32} (h : zGs I J) (hI : zFI I I') (hJ : zFJ J J') : zGs I' J' := by
  obtain ⟨M, h1, h2, h3⟩ := h
  exact ⟨M, h1, by rw [hI 2 (by omega), h2], by rw [hJ 10 (by omega), h3]⟩
theorem zs_group (h : zTR τ len s e k I A J B w) (z : I 3 = 0) (hD : zD I A B n) (hG : zGs I J) (hk : k ≠ 0) : zEnds τ len s I A J B (f_X2_readGroup 1 I A) (f_X8_parseGroup J B w) := by
  have hn := hD.ns
  have hse := h.2.2.2.2.2.1.2.2.2 hk
  have e16 : I 16 = nI (n 0) := (hn 0 (by omega)).1
  have b40 : B 4 0 = nI (n 0) := (hn 0 (by omega)).2.1
  have hb : n 0 ≤ 4 := (hn 0 (by omega)).2.2.1
  have ld : ∀ {β : Type} (K : Int32 → Option β), qf_ld 62 (B 4) (0 : Int32) K = K (nI (n 0)) := fun K => by rw [zl_0, zb_ld (by omega) (by omega), b40]
  unfold f_X2_readGroup f_X8_parseGroup
  rw [zb_let, e16, ld]
  generalize hx : n 0 = x at *
  by_cases c : x < 4
  · obtain ⟨s1, e1, k1, I1, I2, J2, w2, v, v', a1, a2, a3, a4, a5, a6, a7⟩ := zy_begin h z hn (q := 0) (by omega) (by rw [hx]; exact c)
    have a3 : f_X8_begin B J w (0 : Int32) (4 : Int32) = some (v', J2, w2) := by rw [zl_0, zl_4]; exact a3
    rw [if_pos (show nI x < (4 : Int32) from nI_lt (b := 4) c (by omega)), a1, zb_bd, a2, zb_bd2, zb_st (by omega) (by omega), zb_let, a3, zb_bd3]
    obtain ⟨A1, hA1⟩ : ∃ A1, A1 = qf_up A 22 (upd (A 22) x v) := ⟨_, rfl⟩
    rw [← hA1]
    obtain ⟨s3, e3, k3, I3, J3, w3, y, y', d1, d2, d3, d4, d5, d6⟩ := zy_int (a4.rows (A' := A1) (B' := B) (by rw [hA1, zu_upn (by omega)]) rfl) 0 99 (by omega) (by omega)
    have d1 : f_X2_readInteger A1 1 I2 (0 : Int32) (99 : Int32) = some (y, I3) := by rw [zl_0, zl_99]; exact d1
    have d2 : f_X8_readInteger B J2 w2 (0 : Int32) (99 : Int32) = some (y', J3, w3) := by rw [zl_0, zl_99]; exact d2
    rw [d1, zb_bd2, zb_st (by omega) (by omega), zb_let, d2, zb_bd3]
    obtain ⟨A2, hA2⟩ : ∃ A2, A2 = qf_up A1 47 (upd (A1 47) x y) := ⟨_, rfl⟩
    rw [← hA2]
    obtain ⟨s5, e5, k5, I5, J5, w5, u, u', f1, f2, f3, f4, f5, f6⟩ := zy_int (d3.rows (A' := A2) (B' := B) (by rw [hA2, zu_upn (by omega)]) rfl) 1 4 (by omega) (by omega)
    have f1 : f_X2_readInteger A2 1 I3 (1 : Int32) (4 : Int32) = some (u, I5) := by rw [zl_1, zl_4]; exact f1
    have f2 : f_X8_readInteger B J3 w3 (1 : Int32) (4 : Int32) = some (u', J5, w5) := by rw [zl_1, zl_4]; exact f2
    rw [f1, zb_bd2, zb_st (by omega) (by omega), zb_let, f2, zb_bd3]
    obtain ⟨A3, hA3⟩ : ∃ A3, A3 = qf_up A2 26 (upd (A2 26) x u) := ⟨_, rfl⟩
    rw [← hA3]
    obtain ⟨s7, e7, k7, I7, J7, w7, t, t', g1, g2, g3, g4, g5, g6⟩ := zy_int (f3.rows (A' := A3) (B' := B) (by rw [hA3, zu_upn (by omega)]) rfl) 0 100 (by omega) (by omega)
    have g1 : f_X2_readInteger A3 1 I5 (0 : Int32) (100 : Int32) = some (t, I7) := by rw [zl_0, zl_100]; exact g1
    have g2 : f_X8_readInteger B J5 w5 (0 : Int32) (100 : Int32) = some (t', J7, w7) := by rw [zl_0, zl_100]; exact g2
    rw [g1, zb_bd2, zb_st (by omega) (by omega), zb_let, zb_st (by omega) (by omega), zb_let, zb_st (by omega) (by omega), zb_let, zb_let, g2, zb_bd3]
    obtain ⟨A4, hA4⟩ : ∃ A4, A4 = qf_up A3 27 (upd (A3 27) x t) := ⟨_, rfl⟩
    rw [← hA4]
    obtain ⟨A5, hA5⟩ : ∃ A5, A5 = qf_up A4 28 (upd (A4 28) x (-1 : Int32)) := ⟨_, rfl⟩
    rw [← hA5]
    obtain ⟨A6, hA6⟩ : ∃ A6, A6 = qf_up A5 29 (upd (A5 29) x (0 : Int32)) := ⟨_, rfl⟩
    rw [← hA6]
    have ao : ∀ a, a ≠ 22 → a ≠ 26 → a ≠ 27 → a ≠ 28 → a ≠ 29 → a ≠ 47 → A6 a = A a := fun a c1 c2 c3 c4 c5 c6 => by rw [hA6, zu_upn c5, hA5, zu_upn c4, hA4, zu_upn c3, hA3, zu_upn c2, hA2, zu_upn c6, hA1, zu_upn c1]
    have a22 : A6 22 = upd (A 22) x v := by rw [hA6, zu_upn (by omega), hA5, zu_upn (by omega), hA4, zu_upn (by omega), hA3, zu_upn (by omega), hA2, zu_upn (by omega), hA1, zu_up]
    have a47 : A6 47 = upd (A 47) x y := by rw [hA6, zu_upn (by omega), hA5, zu_upn (by omega), hA4, zu_upn (by omega), hA3, zu_upn (by omega), hA2, zu_up, hA1, zu_upn (by omega)]
    have a26 : A6 26 = upd (A 26) x u := by rw [hA6, zu_upn (by omega), hA5, zu_upn (by omega), hA4, zu_upn (by omega), hA3, zu_up, hA2, zu_upn (by omega), hA1, zu_upn (by omega)]
    have a27 : A6 27 = upd (A 27) x t := by rw [hA6, zu_upn (by omega), hA5, zu_upn (by omega), hA4, zu_up, hA3, zu_upn (by omega), hA2, zu_upn (by omega), hA1, zu_upn (by omega)]
    have a28 : A6 28 = upd (A 28) x (-nI 1) := by rw [hA6, zu_upn (by omega), hA5, zu_up, hA4, zu_upn (by omega), hA3, zu_upn (by omega), hA2, zu_upn (by omega), hA1, zu_upn (by omega)]; rfl
    have a29 : A6 29 = upd (A 29) x (nI 0) := by rw [hA6, zu_up, hA5, zu_upn (by omega), hA4, zu_upn (by omega), hA3, zu_upn (by omega), hA2, zu_upn (by omega), hA1, zu_upn (by omega)]; rfl
    have fI : zFI I I7 := ((a5.tr d4).tr f4).tr g4
    have fJ : zFJ J J7 := ((a6.tr d5).tr f5).tr g5
    have e17 : I7 16 = nI x := by rw [fI 16 (by omega), e16]
    have hT : ∀ {B' : Nat → Nat → Int32}, B' 5 = B 5 → zTR τ len s7 e7 k7 (upd I7 16 (nI (x + 1))) A6 J7 B' w7 := fun {B'} hB5 => (g3.rows (A' := A6) (B' := B') (by rw [ao 0 (by omega) (by omega) (by omega) (by omega) (by omega) (by omega), hA3, zu_upn (by omega), hA2, zu_upn (by omega), hA1, zu_upn (by omega)]) hB5).cI (fun i i1 i2 => zu_ne (by omega)) (fun _ _ _ => rfl)
    have sI : zSI I (upd I7 16 (nI (x + 1))) := fun i hi => by rw [zu_ne (by omega)]; exact fI i (by omega)
    have sA : zSA A A6 := fun a ha => ao a (by omega) (by omega) (by omega) (by omega) (by omega) (by omega)
    have n16 : I7 16 + (1 : Int32) = nI (x + 1) := by rw [e17, nI_1]
    rw [n16]
    by_cases q : I7 3 = 0
    · obtain ⟨g7, g8, r3, t1, t2, t3, t4⟩ := g6 q
      obtain ⟨f7, f8, r2, u1, u2, u3, u4⟩ := f6 g7
      obtain ⟨d7, d8, r1, y1, y2, y3, y4⟩ := d6 f7
      obtain ⟨a8, a9⟩ := a7 d7
      have j8 : J7 8 = 0 := g3.2.2.2.2.1.1 ▸ q
      rw [if_pos j8, zl_3, zl_4, zl_8, nI_add, nI_add, nI_add, zb_st (by omega) (by omega), zb_let, zb_st (by omega) (by omega), zb_let, zb_st (by omega) (by omega), zb_let, zu_upup, zu_up, zl_0]
      obtain ⟨B1, hB1⟩ : ∃ B1, B1 = qf_up (qf_up B 1 (upd (B 1) (3 + x) y')) 4 (upd (upd (qf_up B 1 (upd (B 1) (3 + x) y') 4) (4 + x) u') (8 + x) t') := ⟨_, rfl⟩
      rw [← hB1]
      have b4 : B1 4 = upd (upd (B 4) (4 + x) u') (8 + x) t' := by rw [hB1, zu_up, zu_upn (by omega)]
      have b1 : B1 1 = upd (B 1) (3 + x) y' := by rw [hB1, zu_upn (by omega), zu_up]
      have bo : ∀ b, b ≠ 1 → b ≠ 4 → B1 b = B b := fun b c1 c2 => by rw [hB1, zu_upn c2, zu_upn c1]
      rw [zy_dcl j8 (q := 0) (m := x) (by omega) (by omega) (by rw [b4, zu_ne (by omega), zu_ne (by omega), b40]), zb_bd]
      refine ⟨s7, e7, k7, _, A6, J7, _, w7, rfl, rfl, hT (by rw [zu_upn (by omega), bo 5 (by omega) (by omega)]), sI, fJ.sJ, sA, fun b c1 c2 => by rw [zu_upn c2, bo b c1 c2], fun _ => ⟨?_, ⟨(fun q => if q = 0 then x + 1 else n q), ?_⟩, ?_⟩⟩
      · have := g3.2.2.2.2.2.1
        have := f3.2.2.2.2.2.1
        have := d3.2.2.2.2.2.1
        have := a4.2.2.2.2.2.1
        omega
      · refine zD_group (r := r1) (l := r2) (c := r3) (v := v) hD hx c y2 ⟨u1, u2⟩ t2 (fun i hi => by rw [zu_ne (by omega)]; exact fI i (by omega)) (zu_same _ _ _) a22 (u3 ▸ a26) (t3 ▸ a27) a28 a29 (y3 ▸ a47) ao ?_ ?_
        · rw [zu_up, b4, u4, t4, a8]
        · rw [zu_upn (by omega), b1, y4]
      · obtain ⟨M, m1, m2, m3⟩ := hG
        exact ⟨M, m1, by rw [zu_ne (by omega), fI 2 (by omega), m2], by rw [fJ 10 (by omega), m3]⟩
    · rw [if_neg (show ¬ J7 8 = 0 from g3.2.2.2.2.1.1 ▸ q)]
      exact ⟨s7, e7, k7, _, A6, J7, B, w7, rfl, rfl, hT rfl, sI, fJ.sJ, sA, fun b _ _ => rfl, fun y => absurd y (by rw [zu_ne (by omega)]; exact q)⟩
  · obtain ⟨I1, J1, a1, a2, a3, a4, a5, a6, a7⟩ := zy_full h hn (q := 0) (by omega) (by rw [hx]; exact c)
    have a2 : f_X8_begin B J w (0 : Int32) (4 : Int32) = some (0, J1, w) := by rw [zl_0, zl_4]; exact a2
    obtain ⟨y1, h1⟩ := zm_int (B := B) (w := w) a7 (0 : Int32) (99 : Int32)
    obtain ⟨y2, h2⟩ := zm_int (B := B) (w := w) a7 (1 : Int32) (4 : Int32)
    obtain ⟨y3, h3⟩ := zm_int (B := B) (w := w) a7 (0 : Int32) (100 : Int32)
    rw [if_neg (show ¬ nI x < (4 : Int32) from nI_nlt (a := x) (b := 4) (by omega) (by omega)), a1, zb_bd, a2, zb_bd3, h1, zb_bd3, h2, zb_bd3, h3, zb_bd3, if_neg a7]
    exact ⟨s, e, k, I1, A, J1, B, w, rfl, rfl, a3, a4.sI, a5.sJ, fun _ _ => rfl, fun _ _ _ => rfl, fun y => absurd y a6⟩
end ZGROUP
