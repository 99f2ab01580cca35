/-! house -/
theorem zD_house {I I' : Nat → Int32} {A A' B B' : Nat → Nat → Int32} {n : Nat → Nat} {v : Int32} {r x : Nat} (hD : zD I A B n) (hx : n 2 = x) (hx6 : x < 6) (hr : 1 ≤ r ∧ r ≤ 9) (hI : ∀ i, 16 ≤ i → i ≠ 18 → I' i = I i) (hI18 : I' 18 = nI (x + 1)) (a24 : A' 24 = upd (A 24) x v) (a48 : A' 48 = upd (A 48) x (nI r)) (ao : ∀ a, a ≠ 24 → a ≠ 48 → A' a = A a) (b4 : B' 4 = upd (upd (B 4) (50 + x) v) 2 (nI (x + 1))) (b1 : B' 1 = upd (B 1) (7 + x) (nI r)) : zD I' A' B' (fun q => if q = 2 then x + 1 else n q) := by
  obtain ⟨⟨⟨p1, p2, p3, p4⟩, ⟨q1, q2, q3, q4⟩, ⟨r1, r2, r3, r4⟩, g1, g2, g3, g4⟩, ⟨v1, v2⟩, hR, h21, hE, hS⟩ := hD
  rw [hx] at g3 hE
  have bo : ∀ j, j ≠ 2 → j ≠ 50 + x → B' 4 j = B 4 j := fun j c1 c2 => by rw [b4, zu_ne c1, zu_ne c2]
  have e50 : B' 4 (50 + x) = v := by rw [b4, zu_ne (by omega), zu_same]
  have e2 : B' 4 2 = nI (x + 1) := by rw [b4, zu_same]
  refine ⟨⟨⟨p1, p2, by show x + 1 ≤ 6; omega, p4⟩, ⟨by rw [bo 0 (by omega) (by omega)]; exact q1, by rw [bo 1 (by omega) (by omega)]; exact q2, e2, by rw [bo 3 (by omega) (by omega)]; exact q4⟩, ⟨(hI 16 (by omega) (by omega)).trans r1, (hI 17 (by omega) (by omega)).trans r2, hI18, (hI 19 (by omega) (by omega)).trans r4⟩, ?_, ?_, ?_, ?_⟩, ⟨?_, ?_⟩, ?_, ?_, ?_, ?_⟩
  · intro g hg
    have hg : g < n 0 := hg
    show A' 22 g = B' 4 (38 + g) ∧ A' 26 g = B' 4 (4 + g) ∧ A' 27 g = B' 4 (8 + g) ∧ A' 28 g = B' 4 (12 + g) ∧ A' 29 g = B' 4 (16 + g)
    rw [ao 22 (by omega) (by omega), ao 26 (by omega) (by omega), ao 27 (by omega) (by omega), ao 28 (by omega) (by omega), ao 29 (by omega) (by omega), bo (38 + g) (by omega) (by omega), bo (4 + g) (by omega) (by omega), bo (8 + g) (by omega) (by omega), bo (12 + g) (by omega) (by omega), bo (16 + g) (by omega) (by omega)]
    exact g1 g hg
  · intro k hk
    have hk : k < n 1 := hk
    show A' 23 k = B' 4 (44 + k) ∧ A' 30 k = B' 4 (20 + k) ∧ A' 31 k = B' 4 (26 + k) ∧ A' 32 k = B' 4 (32 + k)
    rw [ao 23 (by omega) (by omega), ao 30 (by omega) (by omega), ao 31 (by omega) (by omega), ao 32 (by omega) (by omega), bo (44 + k) (by omega) (by omega), bo (20 + k) (by omega) (by omega), bo (26 + k) (by omega) (by omega), bo (32 + k) (by omega) (by omega)]
    exact g2 k hk
  · intro h hh
    have hh : h < x + 1 := hh
    show A' 24 h = B' 4 (50 + h)
    rw [a24]
    by_cases z : h = x
    · rw [z, zu_same, e50]
    · rw [zu_ne z, bo (50 + h) (by omega) (by omega)]
      exact g3 h (by omega)
  · intro s hs
    have hs : s < n 3 := hs
    show A' 25 s = B' 4 (56 + s)
    rw [ao 25 (by omega) (by omega), bo (56 + s) (by omega) (by omega)]
    exact g4 s hs
  · intro g hg
    have hg : g < n 0 := hg
    rw [bo (4 + g) (by omega) (by omega), bo (8 + g) (by omega) (by omega), bo (12 + g) (by omega) (by omega), bo (16 + g) (by omega) (by omega)]
    exact v1 g hg
  · intro k hk
    have hk : k < n 1 := hk
    rw [bo (20 + k) (by omega) (by omega), bo (26 + k) (by omega) (by omega), bo (32 + k) (by omega) (by omega)]
    exact v2 k hk
  · refine zR_set (a := 1) (i := x) (x := nI r) hR (by omega) hx6 a48 (fun b hb c => ?_) b1
    exact ao (47 + b) (by omega) (by omega)
  · rw [hI 21 (by omega) (by omega), h21, b1, zu_ne (by omega)]
  · obtain ⟨⟨x1, x2, x3⟩, x4, x5, x6, x7⟩ := hE
    rw [b1]
    refine ⟨⟨by rw [zu_ne (by omega)]; exact x1, by rw [zu_ne (by omega)]; exact x2, by rw [zu_ne (by omega)]; exact x3⟩, fun g hg => by rw [zu_ne (by omega)]; exact x4 g hg, fun h hh => ?_, fun i hi => by rw [zu_ne (by omega)]; exact x6 i hi, fun i hi => by rw [zu_ne (by omega)]; exact x7 i hi⟩
    by_cases z : h = x
    · rw [z, zu_same]
      exact ⟨r, hr.2, rfl, fun _ => hr.1⟩
    · rw [zu_ne (by omega)]
      obtain ⟨m, m1, m2, m3⟩ := x5 h hh
      exact ⟨m, m1, m2, fun y => m3 (by have y : h < x + 1 := y; omega)⟩
  · intro g hg hg4
    have hg : n 0 ≤ g := hg
    rw [bo (12 + g) (by omega) (by omega), bo (16 + g) (by omega) (by omega)]
    exact hS g hg hg4
section ZHOUSE
variable {τ : Nat → Nat} {len s e k : Nat} {I : Nat → Int32} {A : Nat → Nat → Int32} {J : Nat → Int32} {B : Nat → Nat → Int32} {w : Int64} {n : Nat → Nat}
theorem zs_house (h : zTR τ len s e k I A J B w) (z : I 3 = 0) (hD : zD I A B n) (hG : zGs I J) (hk : k ≠ 0) : zEnds τ len s I A J B (f_X2_readHouse 1 I A) (f_X8_parseHouse J B w) := by
  have hn := hD.ns
  have hse := h.2.2.2.2.2.1.2.2.2 hk
  have e18 : I 18 = nI (n 2) := (hn 2 (by omega)).1
  have b42 : B 4 2 = nI (n 2) := (hn 2 (by omega)).2.1
  have hb : n 2 ≤ 6 := (hn 2 (by omega)).2.2.1
  have ld : ∀ {β : Type} (K : Int32 → Option β), qf_ld 62 (B 4) (2 : Int32) K = K (nI (n 2)) := fun K => by rw [zl_2, zb_ld (by omega) (by omega), b42]
  unfold f_X2_readHouse f_X8_parseHouse f_X8_parseHouse_j40
  rw [zb_let, e18, ld]
  generalize hx : n 2 = x at *
  by_cases c : x < 6
  · obtain ⟨s1, e1, k1, I1, I2, J2, w2, v, v', a1, a2, a3, a4, a5, a6, a7⟩ := zy_begin h z hn (q := 2) (by omega) (by rw [hx]; exact c)
    have a3 : f_X8_begin B J w (2 : Int32) (6 : Int32) = some (v', J2, w2) := by rw [zl_2, zl_6]; exact a3
    rw [if_pos (show nI x < (6 : Int32) from nI_lt (b := 6) c (by omega)), a1, zb_bd, a2, zb_bd2, zb_st (by omega) (by omega), zb_let, a3, zb_bd3]
    obtain ⟨A1, hA1⟩ : ∃ A1, A1 = qf_up A 24 (upd (A 24) x v) := ⟨_, rfl⟩
    rw [← hA1]
    obtain ⟨s3, e3, k3, I3, J3, w3, y, y', d1, d2, d3, d4, d5, d6⟩ := zy_int (a4.rows (A' := A1) (B' := B) (by rw [hA1, zu_upn (by omega)]) rfl) 1 9 (by omega) (by omega)
    have d1 : f_X2_readInteger A1 1 I2 (1 : Int32) (9 : Int32) = some (y, I3) := by rw [zl_1, zl_9]; exact d1
    have d2 : f_X8_readInteger B J2 w2 (1 : Int32) (9 : Int32) = some (y', J3, w3) := by rw [zl_1, zl_9]; exact d2
    rw [d1, zb_bd2, zb_st (by omega) (by omega), zb_let, zb_let, d2, zb_bd3]
    obtain ⟨A2, hA2⟩ : ∃ A2, A2 = qf_up A1 48 (upd (A1 48) x y) := ⟨_, rfl⟩
    rw [← hA2]
    have ao : ∀ a, a ≠ 24 → a ≠ 48 → A2 a = A a := fun a c1 c2 => by rw [hA2, zu_upn c2, hA1, zu_upn c1]
    have a24 : A2 24 = upd (A 24) x v := by rw [hA2, zu_upn (by omega), hA1, zu_up]
    have a48 : A2 48 = upd (A 48) x y := by rw [hA2, zu_up, hA1, zu_upn (by omega)]
    have fI : zFI I I3 := a5.tr d4
    have fJ : zFJ J J3 := a6.tr d5
    have e19 : I3 18 + (1 : Int32) = nI (x + 1) := by rw [fI 18 (by omega), e18, nI_1]
    rw [e19]
    have hT : ∀ {B' : Nat → Nat → Int32}, B' 5 = B 5 → zTR τ len s3 e3 k3 (upd I3 18 (nI (x + 1))) A2 J3 B' w3 := fun {B'} hB5 => (d3.rows (A' := A2) (B' := B') (by rw [hA2, zu_upn (by omega)]) hB5).cI (fun i i1 i2 => zu_ne (by omega)) (fun _ _ _ => rfl)
    have sI : zSI I (upd I3 18 (nI (x + 1))) := fun i hi => by rw [zu_ne (by omega)]; exact fI i (by omega)
    have sA : zSA A A2 := fun a ha => ao a (by omega) (by omega)
    by_cases q : I3 3 = 0
    · obtain ⟨d7, d8, r1, y1, y2, y3, y4⟩ := d6 q
      obtain ⟨a8, a9⟩ := a7 d7
      have j8 : J3 8 = 0 := d3.2.2.2.2.1.1 ▸ q
      rw [if_pos j8, zl_7, nI_add, zb_st (by omega) (by omega), zb_let, zl_2]
      obtain ⟨B1, hB1⟩ : ∃ B1, B1 = qf_up B 1 (upd (B 1) (7 + x) y') := ⟨_, rfl⟩
      rw [← hB1]
      have b4 : B1 4 = B 4 := by rw [hB1, zu_upn (by omega)]
      have b1 : B1 1 = upd (B 1) (7 + x) y' := by rw [hB1, zu_up]
      have bo : ∀ b, b ≠ 1 → B1 b = B b := fun b c1 => by rw [hB1, zu_upn c1]
      rw [zy_dcl j8 (q := 2) (m := x) (by omega) (by omega) (by rw [b4, b42]), zb_bd]
      refine ⟨s3, e3, k3, _, A2, J3, _, w3, rfl, rfl, hT (by rw [zu_upn (by omega), bo 5 (by omega)]), sI, fJ.sJ, sA, fun b c1 c2 => by rw [zu_upn c2, bo b c1], fun _ => ⟨?_, ⟨(fun q => if q = 2 then x + 1 else n q), ?_⟩, ?_⟩⟩
      · have := d3.2.2.2.2.2.1
        have := a4.2.2.2.2.2.1
        omega
      · refine zD_house (r := r1) (v := v) hD hx c ⟨y1, y2⟩ (fun i hi c2 => by rw [zu_ne c2]; exact fI i (by omega)) (zu_same _ _ _) a24 (y3 ▸ a48) ao ?_ ?_
        · rw [zu_up, b4, a8]
        · rw [zu_upn (by omega), b1, y4]
      · obtain ⟨M, m1, m2, m3⟩ := hG
        exact ⟨M, m1, by rw [zu_ne (by omega), fI 2 (by omega), m2], by rw [fJ 10 (by omega), m3]⟩
    · have j8 : J3 8 ≠ 0 := d3.2.2.2.2.1.1 ▸ q
      rw [if_neg j8, zy_dclE j8, zb_bd]
      exact ⟨s3, e3, k3, _, A2, J3, B, w3, rfl, rfl, hT rfl, sI, fJ.sJ, sA, fun b _ _ => rfl, fun y => absurd y (by rw [zu_ne (by omega)]; exact q)⟩
  · obtain ⟨I1, J1, a1, a2, a3, a4, a5, a6, a7⟩ := zy_full h hn (q := 2) (by omega) (by rw [hx]; exact c)
    have a2 : f_X8_begin B J w (2 : Int32) (6 : Int32) = some (0, J1, w) := by rw [zl_2, zl_6]; exact a2
    obtain ⟨y1, h1⟩ := zm_int (B := B) (w := w) a7 (1 : Int32) (9 : Int32)
    rw [if_neg (show ¬ nI x < (6 : Int32) from nI_nlt (a := x) (b := 6) (by omega) (by omega)), a1, zb_bd, a2, zb_bd3, h1, zb_bd3, if_neg a7, zy_dclE a7, zb_bd]
    exact ⟨s, e, k, I1, A, J1, B, w, rfl, rfl, a3, a4.sI, a5.sJ, fun _ _ => rfl, fun _ _ _ => rfl, fun y => absurd y a6⟩
end ZHOUSE
