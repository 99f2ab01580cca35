/-! load, its ends -/
theorem zJ_fr2 {I I' : Nat → Int32} {A A' : Nat → Nat → Int32} {G : Nat → Int32 × (Nat → Nat → Int32)} {J J' : Nat → Int32} {B B' : Nat → Nat → Int32} {ng nk nh ns kept next : Nat} (h : zJ I A G J B ng nk nh ns kept next) (hi : ∀ i, (9 ≤ i ∧ i ≤ 15) ∨ i = 20 → I' i = I i) (ha : ∀ a, (11 ≤ a ∧ a ≤ 21) ∨ (33 ≤ a ∧ a ≤ 46) → A' a = A a) (hj : J' 0 = J 0) (h0 : B' 0 = B 0) (h2 : B' 2 = B 2) (h3 : B' 3 = B 3) : zJ I' A' G J' B' ng nk nh ns kept next := by
  obtain ⟨⟨b, f, ⟨c0, c1, c2, c3⟩, g1, g2, g3, g4⟩, hV, hR, h20, hO, hH, h10, hj0, h9⟩ := h
  rw [zJ, h0, h2, h3, hj, hi 20 (by omega), hi 10 (by omega), hi 9 (by omega)]
  refine ⟨⟨b, f, ⟨(hi 12 (by omega)).trans c0, (hi 13 (by omega)).trans c1, (hi 14 (by omega)).trans c2, (hi 15 (by omega)).trans c3⟩, fun g hg => ?_, fun k hk => ?_, fun h hh => ?_, fun s hs => ?_⟩, hV, fun a i a1 a2 => ?_, h20, hO, hH, h10, hj0, h9⟩
  · show A' 11 g = _ ∧ A' 15 g = _ ∧ A' 16 g = _ ∧ A' 17 g = _ ∧ A' 18 g = _
    rw [ha 11 (by omega), ha 15 (by omega), ha 16 (by omega), ha 17 (by omega), ha 18 (by omega)]
    exact g1 g hg
  · show A' 12 k = _ ∧ A' 19 k = _ ∧ A' 20 k = _ ∧ A' 21 k = _
    rw [ha 12 (by omega), ha 19 (by omega), ha 20 (by omega), ha 21 (by omega)]
    exact g2 k hk
  · show A' 13 h = _
    rw [ha 13 (by omega)]
    exact g3 h hh
  · show A' 14 s = _
    rw [ha 14 (by omega)]
    exact g4 s hs
  · show A' (33 + a) i = _
    rw [ha (33 + a) (by omega)]
    exact hR a i a1 a2
theorem zP_F {c : Nat → Int32} {P : Nat → Nat → Int32} {F F' : Nat → Int32} {ng nk nh ns : Nat} (h : zP c P F ng nk nh ns) (e : ∀ j, j < 62 → F' j = F j) : zP c P F' ng nk nh ns := by
  obtain ⟨⟨b1, b2, b3, b4⟩, ⟨f0, f1, f2, f3⟩, cc, g1, g2, g3, g4⟩ := h
  refine ⟨⟨b1, b2, b3, b4⟩, ⟨by rw [e 0 (by omega), f0], by rw [e 1 (by omega), f1], by rw [e 2 (by omega), f2], by rw [e 3 (by omega), f3]⟩, cc, fun g hg => ?_, fun k hk => ?_, fun h hh => ?_, fun s hs => ?_⟩
  · rw [e (38 + g) (by omega), e (4 + g) (by omega), e (8 + g) (by omega), e (12 + g) (by omega), e (16 + g) (by omega)]
    exact g1 g hg
  · rw [e (44 + k) (by omega), e (20 + k) (by omega), e (26 + k) (by omega), e (32 + k) (by omega)]
    exact g2 k hk
  · rw [e (50 + h) (by omega)]
    exact g3 h hh
  · rw [e (56 + s) (by omega)]
    exact g4 s hs
theorem zV_F {F F' : Nat → Int32} {ng nk : Nat} (hg : ng ≤ 4) (hk : nk ≤ 6) (h : zV F ng nk) (e : ∀ j, j < 62 → F' j = F j) : zV F' ng nk := by
  obtain ⟨v1, v2⟩ := h
  refine ⟨fun g hg => ?_, fun k hk => ?_⟩
  · rw [e (4 + g) (by omega), e (8 + g) (by omega), e (12 + g) (by omega), e (16 + g) (by omega)]
    exact v1 g hg
  · rw [e (20 + k) (by omega), e (26 + k) (by omega), e (32 + k) (by omega)]
    exact v2 k hk
theorem zP_x {I : Nat → Int32} {A : Nat → Nat → Int32} {F : Nat → Int32} {ng nk nh ns : Nat} (h : zP (fun i => I (16 + i)) (fun a => A (22 + a)) F ng nk nh ns) : zP (fun i => upd (qx_I I) 10 (0 : Int32) (12 + i)) (fun a => qx_A A (11 + a)) F ng nk nh ns := h
theorem zR_x {A : Nat → Nat → Int32} {D : Nat → Int32} (h : zR (fun a => A (47 + a)) D) : zR (fun a => qx_A A (33 + a)) D := by
  intro a i ha hi
  have e : qx_sa (33 + a) = 47 + a := by
    unfold qx_sa
    rw [if_neg (by omega), if_neg (by omega), if_pos (by omega)]
    omega
  show A (qx_sa (33 + a)) i = _
  rw [e]
  exact h a i ha hi
/-- a plan that was read: it is the plan now, and the first issue is made -/
theorem zx_take {I : Nat → Int32} {A : Nat → Nat → Int32} {G : Nat → Int32 × (Nat → Nat → Int32)} {J : Nat → Int32} {B : Nat → Nat → Int32} {w : Int64} {n : Nat → Nat} {next : Nat} (hD : zD I A B n) (hn : next < 10) (h9 : I 9 = nI next) : ∃ A' B', f_X7_issueToAll (upd (qx_I I) 10 (0 : Int32)) (qx_A A) = some A' ∧ f_X8_load_l141 100000 J B w (0 : Int32) = some (J 11, upd J 0 (0 : Int32), B', w) ∧ zJ (upd (qx_I I) 10 (0 : Int32)) A' G (upd J 0 (0 : Int32)) B' (n 0) (n 1) (n 2) (n 3) 0 next := by
  obtain ⟨hP, hV, hR, h21, hE, hS⟩ := hD
  have b := hP.1
  obtain ⟨B1, k1, k2, k3, -⟩ := zx_cp250 250 0 100000 J B w (by omega) (by omega)
  obtain ⟨B2, l1, l2, l3, -⟩ := zx_cp62 62 0 100000 J B1 w (by omega) (by omega)
  have eF : ∀ j, j < 62 → B2 3 j = B 4 j := fun j hj => by rw [l3 j (by omega) hj, k2 4 (by omega)]
  have eD : ∀ j, j < 250 → B2 0 j = B 1 j := fun j hj => by rw [l2 0 (by omega), k3 j (by omega) hj]
  have hP2 := zP_F (zP_x hP) eF
  have hV2 := zV_F b.1 b.2.1 hV eF
  have hR2 := zR_congr (zR_x hR) eD
  have hO2 : zO (B2 3) (B2 0) (n 0) (n 2) := zO_congr b.1 (zLE.zO b.1 hE) eD
  obtain ⟨⟨-, -, -, -⟩, ⟨q0, q1, q2, q3⟩, ⟨r0, r1, r2, r3⟩, g1, -⟩ := id hP2
  have hL : ∀ g, g < n 0 → ∃ l, 1 ≤ l ∧ l ≤ 4 ∧ B2 3 (4 + g) = nI l := fun g hg => (hV2.1 g hg).1
  obtain ⟨A', B', i1, i2, i3, i4, i5, i6, i7⟩ := zx_iss (I := upd (qx_I I) 10 (0 : Int32)) (F := B2 3) (A := qx_A A) (B := B2) b.1 b.2.2.1 r0 r2 q0 q2 hL (fun g hg => (g1 g hg).2.1) rfl hR2
  have hO3 : zO (B2 3) (B' 0) (n 0) (n 2) := zO_iss b.1 b.2.2.1 hL hO2 (fun h g p hh hg hp _ => by
    unfold zU
    rw [eD _ (by omega), hE.2.2.2.1 _ (by omega)]
    rfl) i6 i7
  refine ⟨A', B', i1, ?_, ?_⟩
  · have z0 : f_X8_load_l141 100000 J B w (0 : Int32) = f_X8_load_l141 100000 J B w (nI 0) := by rw [zl_0]
    have z1 : f_X8_load_l168 100000 J B1 w (0 : Int32) = f_X8_load_l168 100000 J B1 w (nI 0) := by rw [zl_0]
    rw [z0, k1, z1, l1, zb_let, i2, zb_bd, zu_ne (by omega)]
  · refine ⟨?_, ?_, i3, ?_, ?_, ?_, ?_, ?_, ?_⟩
    · rw [i5 3 (by omega)]
      obtain ⟨p1, p2, p3, p4, p5, p6, p7⟩ := hP2
      refine ⟨p1, p2, p3, fun g hg => ?_, fun k hk => ?_, fun h hh => ?_, fun s hs => ?_⟩
      · show A' 11 g = _ ∧ A' 15 g = _ ∧ A' 16 g = _ ∧ A' 17 g = _ ∧ A' 18 g = _
        rw [i4 11 (by omega) (by omega), i4 15 (by omega) (by omega), i4 16 (by omega) (by omega), i4 17 (by omega) (by omega), i4 18 (by omega) (by omega)]
        exact p4 g hg
      · show A' 12 k = _ ∧ A' 19 k = _ ∧ A' 20 k = _ ∧ A' 21 k = _
        rw [i4 12 (by omega) (by omega), i4 19 (by omega) (by omega), i4 20 (by omega) (by omega), i4 21 (by omega) (by omega)]
        exact p5 k hk
      · show A' 13 h = _
        rw [i4 13 (by omega) (by omega)]
        exact p6 h hh
      · show A' 14 s = _
        rw [i4 14 (by omega) (by omega)]
        exact p7 s hs
    · rw [i5 3 (by omega)]
      exact hV2
    · rw [i6 249 (by omega) (by omega), eD 249 (by omega), zu_ne (by omega)]
      exact h21
    · rw [i5 3 (by omega)]
      exact hO3
    · exact ⟨by omega, hn, fun k hk => by omega⟩
    · rw [zu_same]; rfl
    · rw [zu_same]; rfl
    · rw [zu_ne (by omega)]
      exact h9
