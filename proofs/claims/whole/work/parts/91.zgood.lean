/-! good -/
theorem zD_good {I I' : Nat → Int32} {A A' B B' : Nat → Nat → Int32} {n : Nat → Nat} {v : Int32} {g r c x : Nat} (hD : zD I A B n) (hx : n 1 = x) (hx6 : x < 6) (hg : g < n 0) (hr : 1 ≤ r ∧ r ≤ 20) (hc : c ≤ 99) (hI : ∀ i, 16 ≤ i → i ≠ 17 → I' i = I i) (hI17 : I' 17 = nI (x + 1)) (a23 : A' 23 = upd (A 23) x v) (a30 : A' 30 = upd (A 30) x (nI g)) (a31 : A' 31 = upd (A 31) x (nI r)) (a32 : A' 32 = upd (A 32) x (nI c)) (ao : ∀ a, a ≠ 23 → a ≠ 30 → a ≠ 31 → a ≠ 32 → A' a = A a) (b4 : B' 4 = upd (upd (upd (upd (upd (B 4) (20 + x) (nI g)) (26 + x) (nI r)) (32 + x) (nI c)) (44 + x) v) 1 (nI (x + 1))) (b1 : B' 1 = B 1) : zD I' A' B' (fun q => if q = 1 then x + 1 else n q) := by
  obtain ⟨⟨⟨p1, p2, p3, p4⟩, ⟨q1, q2, q3, q4⟩, ⟨r1, r2, r3, r4⟩, g1, g2, g3, g4⟩, ⟨v1, v2⟩, hR, h21, hE, hS⟩ := hD
  rw [hx] at g2 v2
  have bo : ∀ j, j ≠ 1 → j ≠ 20 + x → j ≠ 26 + x → j ≠ 32 + x → j ≠ 44 + x → B' 4 j = B 4 j := fun j c1 c2 c3 c4 c5 => by rw [b4, zu_ne c1, zu_ne c5, zu_ne c4, zu_ne c3, zu_ne c2]
  have e44 : B' 4 (44 + x) = v := by rw [b4, zu_ne (by omega), zu_same]
  have e20 : B' 4 (20 + x) = nI g := by rw [b4, zu_ne (by omega), zu_ne (by omega), zu_ne (by omega), zu_ne (by omega), zu_same]
  have e26 : B' 4 (26 + x) = nI r := by rw [b4, zu_ne (by omega), zu_ne (by omega), zu_ne (by omega), zu_same]
  have e32 : B' 4 (32 + x) = nI c := by rw [b4, zu_ne (by omega), zu_ne (by omega), zu_same]
  have e1 : B' 4 1 = nI (x + 1) := by rw [b4, zu_same]
  refine ⟨⟨⟨p1, by show x + 1 ≤ 6; omega, p3, p4⟩, ⟨by rw [bo 0 (by omega) (by omega) (by omega) (by omega) (by omega)]; exact q1, e1, by rw [bo 2 (by omega) (by omega) (by omega) (by omega) (by omega)]; exact q3, by rw [bo 3 (by omega) (by omega) (by omega) (by omega) (by omega)]; exact q4⟩, ⟨(hI 16 (by omega) (by omega)).trans r1, hI17, (hI 18 (by omega) (by omega)).trans r3, (hI 19 (by omega) (by omega)).trans r4⟩, ?_, ?_, ?_, ?_⟩, ⟨?_, ?_⟩, ?_, ?_, ?_, ?_⟩
  · intro g hg
    have hg : g < n 0 := hg
    show A' 22 g = B' 4 (38 + g) ∧ A' 26 g = B' 4 (4 + g) ∧ A' 27 g = B' 4 (8 + g) ∧ A' 28 g = B' 4 (12 + g) ∧ A' 29 g = B' 4 (16 + g)
    rw [ao 22 (by omega) (by omega) (by omega) (by omega), ao 26 (by omega) (by omega) (by omega) (by omega), ao 27 (by omega) (by omega) (by omega) (by omega), ao 28 (by omega) (by omega) (by omega) (by omega), ao 29 (by omega) (by omega) (by omega) (by omega), bo (38 + g) (by omega) (by omega) (by omega) (by omega) (by omega), bo (4 + g) (by omega) (by omega) (by omega) (by omega) (by omega), bo (8 + g) (by omega) (by omega) (by omega) (by omega) (by omega), bo (12 + g) (by omega) (by omega) (by omega) (by omega) (by omega), bo (16 + g) (by omega) (by omega) (by omega) (by omega) (by omega)]
    exact g1 g hg
  · intro k hk
    have hk : k < x + 1 := hk
    show A' 23 k = B' 4 (44 + k) ∧ A' 30 k = B' 4 (20 + k) ∧ A' 31 k = B' 4 (26 + k) ∧ A' 32 k = B' 4 (32 + k)
    rw [a23, a30, a31, a32]
    by_cases z : k = x
    · rw [z, zu_same, zu_same, zu_same, zu_same, e44, e20, e26, e32]
      exact ⟨rfl, rfl, rfl, rfl⟩
    · rw [zu_ne z, zu_ne z, zu_ne z, zu_ne z, bo (44 + k) (by omega) (by omega) (by omega) (by omega) (by omega), bo (20 + k) (by omega) (by omega) (by omega) (by omega) (by omega), bo (26 + k) (by omega) (by omega) (by omega) (by omega) (by omega), bo (32 + k) (by omega) (by omega) (by omega) (by omega) (by omega)]
      exact g2 k (by omega)
  · intro h hh
    have hh : h < n 2 := hh
    have : n 2 ≤ 6 := p3
    show A' 24 h = B' 4 (50 + h)
    rw [ao 24 (by omega) (by omega) (by omega) (by omega), bo (50 + h) (by omega) (by omega) (by omega) (by omega) (by omega)]
    exact g3 h hh
  · intro s hs
    have hs : s < n 3 := hs
    show A' 25 s = B' 4 (56 + s)
    rw [ao 25 (by omega) (by omega) (by omega) (by omega), bo (56 + s) (by omega) (by omega) (by omega) (by omega) (by omega)]
    exact g4 s hs
  · intro g hg
    have hg : g < n 0 := hg
    rw [bo (4 + g) (by omega) (by omega) (by omega) (by omega) (by omega), bo (8 + g) (by omega) (by omega) (by omega) (by omega) (by omega), bo (12 + g) (by omega) (by omega) (by omega) (by omega) (by omega), bo (16 + g) (by omega) (by omega) (by omega) (by omega) (by omega)]
    exact v1 g hg
  · intro k hk
    have hk : k < x + 1 := hk
    by_cases z : k = x
    · rw [z]
      exact ⟨⟨g, hg, e20⟩, ⟨r, hr.1, hr.2, e26⟩, ⟨c, hc, e32⟩⟩
    · rw [bo (20 + k) (by omega) (by omega) (by omega) (by omega) (by omega), bo (26 + k) (by omega) (by omega) (by omega) (by omega) (by omega), bo (32 + k) (by omega) (by omega) (by omega) (by omega) (by omega)]
      exact v2 k (by omega)
  · rw [b1]
    intro a i ha hi
    show A' (47 + a) i = _
    rw [ao (47 + a) (by omega) (by omega) (by omega) (by omega)]
    exact hR a i ha hi
  · rw [hI 21 (by omega) (by omega), h21, b1]
  · rw [b1]
    exact hE
  · intro g hg hg4
    have hg : n 0 ≤ g := hg
    rw [bo (12 + g) (by omega) (by omega) (by omega) (by omega) (by omega), bo (16 + g) (by omega) (by omega) (by omega) (by omega) (by omega)]
    exact hS g hg hg4
section ZGOOD
variable {τ : Nat → Nat} {len s e k : Nat} {I : Nat → Int32} {A : Nat → Nat → Int32} {J : Nat → Int32} {B : Nat → Nat → Int32} {w : Int64} {n : Nat → Nat}
/-- on past the name at hand -/
theorem zy_pass0 (h : zTR τ len s e k I A J B w) : ∃ s' e' k' I' J' w', f_X2_passUnless A 1 I (0 : Int32) = some I' ∧ f_X8_advanceIfGood B J w = some (J', w') ∧ zTR τ len s' e' k' I' A J' B w' ∧ zFI I I' ∧ zFJ J J' ∧ (I' 3 = 0 → I 3 = 0 ∧ e ≤ s') := by
  obtain ⟨s', e', k', I', J', w', J1, a1, a2, a3, a4, a5, a6, a7, a8, a9⟩ := zy_pass h (0 : Int32) (1 : Int32) (fun _ => by decide)
  have : J1 = J := by
    rw [zl_1, zy_chk1] at a2
    exact (Option.some.inj a2).symm
  rw [this] at a3
  exact ⟨s', e', k', I', J', w', a1, a3, a4, a5, a6, fun q => ⟨(a9 q).1, (a9 q).2.2⟩⟩
theorem zs_good (h : zTR τ len s e k I A J B w) (z : I 3 = 0) (hD : zD I A B n) (hG : zGs I J) (hk : k ≠ 0) : zEnds τ len s I A J B (f_X2_readGood 1 I A) (f_X8_parseGood J B w) := by
  have hn := hD.ns
  have hse := h.2.2.2.2.2.1.2.2.2 hk
  have e17 : I 17 = nI (n 1) := (hn 1 (by omega)).1
  have b41 : B 4 1 = nI (n 1) := (hn 1 (by omega)).2.1
  have hb : n 1 ≤ 6 := (hn 1 (by omega)).2.2.1
  have ld : ∀ {β : Type} (K : Int32 → Option β), qf_ld 62 (B 4) (1 : Int32) K = K (nI (n 1)) := fun K => by rw [zl_1, zb_ld (by omega) (by omega), b41]
  unfold f_X2_readGood f_X8_parseGood
  rw [zb_let, e17, ld]
  generalize hx : n 1 = x at *
  by_cases c : x < 6
  · obtain ⟨s1, e1, k1, I1, I2, J2, w2, v, v', a1, a2, a3, a4, a5, a6, a7⟩ := zy_begin h z hn (q := 1) (by omega) (by rw [hx]; exact c)
    have a3 : f_X8_begin B J w (1 : Int32) (6 : Int32) = some (v', J2, w2) := by rw [zl_1, zl_6]; exact a3
    rw [if_pos (show nI x < (6 : Int32) from nI_lt (b := 6) c (by omega)), a1, zb_bd, a2, zb_bd2, zb_st (by omega) (by omega), zb_let, a3, zb_bd3]
    obtain ⟨A1, hA1⟩ : ∃ A1, A1 = qf_up A 23 (upd (A 23) x v) := ⟨_, rfl⟩
    rw [← hA1]
    have hn1 : zNs I2 A1 B n := hn.frame a5 (fun q hq i hi => by
      by_cases y : q = 1
      · subst y
        rw [hA1, show 22 + 1 = 23 from rfl, zu_up, zu_ne (by omega)]
      · rw [hA1, zu_upn (by omega)]) rfl
    obtain ⟨I3, J3, y, y', d1, d2, d3, d4, d5, d6, d7⟩ := zy_old0 (a4.rows (A' := A1) (B' := B) (by rw [hA1, zu_upn (by omega)]) rfl) (hn1 0 (by omega))
    rw [d1, zb_bd2, zb_st (by omega) (by omega), zb_let, d2, zb_bd2]
    obtain ⟨A2, hA2⟩ : ∃ A2, A2 = qf_up A1 30 (upd (A1 30) x y) := ⟨_, rfl⟩
    rw [← hA2]
    obtain ⟨s4, e4, k4, I4, J4, w4, j1, j2, j3, j4, j5, j6⟩ := zy_pass0 (d3.rows (A' := A2) (B' := B) (by rw [hA2, zu_upn (by omega)]) rfl)
    rw [j1, zb_bd, j2, zb_bd2]
    obtain ⟨s5, e5, k5, I5, J5, w5, u, u', f1, f2, f3, f4, f5, f6⟩ := zy_int j3 1 20 (by omega) (by omega)
    have f1 : f_X2_readInteger A2 1 I4 (1 : Int32) (20 : Int32) = some (u, I5) := by rw [zl_1, zl_20]; exact f1
    have f2 : f_X8_readInteger B J4 w4 (1 : Int32) (20 : Int32) = some (u', J5, w5) := by rw [zl_1, zl_20]; exact f2
    rw [f1, zb_bd2, zb_st (by omega) (by omega), zb_let, f2, zb_bd3]
    obtain ⟨A3, hA3⟩ : ∃ A3, A3 = qf_up A2 31 (upd (A2 31) x u) := ⟨_, rfl⟩
    rw [← hA3]
    obtain ⟨s7, e7, k7, I7, J7, w7, t, t', g1, g2, g3, g4, g5, g6⟩ := zy_int (f3.rows (A' := A3) (B' := B) (by rw [hA3, zu_upn (by omega)]) rfl) 0 99 (by omega) (by omega)
    have g1 : f_X2_readInteger A3 1 I5 (0 : Int32) (99 : Int32) = some (t, I7) := by rw [zl_0, zl_99]; exact g1
    have g2 : f_X8_readInteger B J5 w5 (0 : Int32) (99 : Int32) = some (t', J7, w7) := by rw [zl_0, zl_99]; exact g2
    rw [g1, zb_bd2, zb_st (by omega) (by omega), zb_let, zb_let, g2, zb_bd3]
    obtain ⟨A4, hA4⟩ : ∃ A4, A4 = qf_up A3 32 (upd (A3 32) x t) := ⟨_, rfl⟩
    rw [← hA4]
    have ao : ∀ a, a ≠ 23 → a ≠ 30 → a ≠ 31 → a ≠ 32 → A4 a = A a := fun a c1 c2 c3 c4 => by rw [hA4, zu_upn c4, hA3, zu_upn c3, hA2, zu_upn c2, hA1, zu_upn c1]
    have a23 : A4 23 = upd (A 23) x v := by rw [hA4, zu_upn (by omega), hA3, zu_upn (by omega), hA2, zu_upn (by omega), hA1, zu_up]
    have a30 : A4 30 = upd (A 30) x y := by rw [hA4, zu_upn (by omega), hA3, zu_upn (by omega), hA2, zu_up, hA1, zu_upn (by omega)]
    have a31 : A4 31 = upd (A 31) x u := by rw [hA4, zu_upn (by omega), hA3, zu_up, hA2, zu_upn (by omega), hA1, zu_upn (by omega)]
    have a32 : A4 32 = upd (A 32) x t := by rw [hA4, zu_up, hA3, zu_upn (by omega), hA2, zu_upn (by omega), hA1, zu_upn (by omega)]
    have fI : zFI I I7 := (((a5.tr d4).tr j4).tr f4).tr g4
    have fJ : zFJ J J7 := (((a6.tr d5).tr j5).tr f5).tr g5
    have e19 : I7 17 + (1 : Int32) = nI (x + 1) := by rw [fI 17 (by omega), e17, nI_1]
    rw [e19]
    have hT : ∀ {B' : Nat → Nat → Int32}, B' 5 = B 5 → zTR τ len s7 e7 k7 (upd I7 17 (nI (x + 1))) A4 J7 B' w7 := fun {B'} hB5 => (g3.rows (A' := A4) (B' := B') (by rw [hA4, zu_upn (by omega)]) hB5).cI (fun i i1 i2 => zu_ne (by omega)) (fun _ _ _ => rfl)
    have sI : zSI I (upd I7 17 (nI (x + 1))) := fun i hi => by rw [zu_ne (by omega)]; exact fI i (by omega)
    have sA : zSA A A4 := fun a ha => ao a (by omega) (by omega) (by omega) (by omega)
    by_cases q : I7 3 = 0
    · obtain ⟨g7, g8, r3, t1, t2, t3, t4⟩ := g6 q
      obtain ⟨f7, f8, r2, u1, u2, u3, u4⟩ := f6 g7
      obtain ⟨j7, j8'⟩ := j6 f7
      obtain ⟨d8, d9, d10, r1, y1, y2⟩ := d7 j7
      obtain ⟨a8, a9⟩ := a7 d8
      have j8 : J7 8 = 0 := g3.2.2.2.2.1.1 ▸ q
      rw [if_pos j8, zl_20, zl_26, zl_32, nI_add, nI_add, nI_add, zb_st (by omega) (by omega), zb_let, zb_st (by omega) (by omega), zb_let, zb_st (by omega) (by omega), zb_let, zu_upup, zu_up, zu_upup, zu_up, zl_1]
      obtain ⟨B1, hB1⟩ : ∃ B1, B1 = qf_up B 4 (upd (upd (upd (B 4) (20 + x) y') (26 + x) u') (32 + x) t') := ⟨_, rfl⟩
      rw [← hB1]
      have b4 : B1 4 = upd (upd (upd (B 4) (20 + x) y') (26 + x) u') (32 + x) t' := by rw [hB1, zu_up]
      have bo : ∀ b, b ≠ 4 → B1 b = B b := fun b c1 => by rw [hB1, zu_upn c1]
      rw [zy_dcl j8 (q := 1) (m := x) (by omega) (by omega) (by rw [b4, zu_ne (by omega), zu_ne (by omega), zu_ne (by omega), b41]), zb_bd]
      refine ⟨s7, e7, k7, _, A4, J7, _, w7, rfl, rfl, hT (by rw [zu_upn (by omega), bo 5 (by omega)]), sI, fJ.sJ, sA, fun b c1 c2 => by rw [zu_upn c2, bo b c2], fun _ => ⟨?_, ⟨(fun q => if q = 1 then x + 1 else n q), ?_⟩, ?_⟩⟩
      · have := g3.2.2.2.2.2.1
        have := f3.2.2.2.2.2.1
        have := j3.2.2.2.2.2.1
        have := d3.2.2.2.2.2.1
        have := a4.2.2.2.2.2.1
        omega
      · refine zD_good (g := r1) (r := r2) (c := r3) (v := v) hD hx c y1 ⟨u1, u2⟩ t2 (fun i hi c2 => by rw [zu_ne c2]; exact fI i (by omega)) (zu_same _ _ _) a23 (y2 ▸ a30) (u3 ▸ a31) (t3 ▸ a32) ao ?_ ?_
        · rw [zu_up, b4, a8, d9, y2, u4, t4]
        · rw [zu_upn (by omega), bo 1 (by omega)]
      · obtain ⟨M, m1, m2, m3⟩ := hG
        exact ⟨M, m1, by rw [zu_ne (by omega), fI 2 (by omega), m2], by rw [fJ 10 (by omega), m3]⟩
    · have j8 : ¬ J7 8 = 0 := g3.2.2.2.2.1.1 ▸ q
      rw [if_neg j8]
      exact ⟨s7, e7, k7, _, A4, J7, B, w7, rfl, rfl, hT rfl, sI, fJ.sJ, sA, fun b _ _ => rfl, fun y => absurd y (by rw [zu_ne (by omega)]; exact q)⟩
  · obtain ⟨I1, J1, a1, a2, a3, a4, a5, a6, a7⟩ := zy_full h hn (q := 1) (by omega) (by rw [hx]; exact c)
    have a2 : f_X8_begin B J w (1 : Int32) (6 : Int32) = some (0, J1, w) := by rw [zl_1, zl_6]; exact a2
    obtain ⟨y1, h1⟩ := zm_int (B := B) (w := w) a7 (1 : Int32) (20 : Int32)
    obtain ⟨y2, h2⟩ := zm_int (B := B) (w := w) a7 (0 : Int32) (99 : Int32)
    rw [if_neg (show ¬ nI x < (6 : Int32) from nI_nlt (a := x) (b := 6) (by omega) (by omega)), a1, zb_bd, a2, zb_bd3, zm_old a7, zb_bd2, zm_aig a7, zb_bd2, h1, zb_bd3, h2, zb_bd3, if_neg a7]
    exact ⟨s, e, k, I1, A, J1, B, w, rfl, rfl, a3, a4.sI, a5.sJ, fun _ _ => rfl, fun _ _ _ => rfl, fun y => absurd y a6⟩
end ZGOOD
