theorem zx_carry {u c : Nat} (hu : u ≤ 5346) (hc : c ≤ 100) : nI u * nI c / nI 100 = nI (u * c / 100) ∧ u * c / 100 ≤ u := by
  have h1 : u * c ≤ 5346 * 100 := Nat.mul_le_mul hu hc
  have h2 : u * c ≤ u * 100 := Nat.mul_le_mul_left u hc
  refine ⟨?_, by omega⟩
  rw [pk_mul, pk_div (by omega) (by omega) (by omega)]
/-- aged coupons are within the ranges, and the place of a fresh issue is empty -/
theorem zO_age {F D D' : Nat → Int32} {ng nk nh : Nat} (hng : ng ≤ 4) (hnh : nh ≤ 6) (hV : zV F ng nk) (hO : zO F D ng nh) (h1 : ∀ j, (j < 13 ∨ (145 ≤ j ∧ j < 245)) → D' j = D j) (h2 : ∀ h, h < 6 → D' (133 + h) = nI 0 ∧ D' (139 + h) = nI 0) (h3 : ∀ h' g' p, h' < 6 → g' < 4 → p < 5 → D' (13 + (h' * 4 + g') * 5 + p) = if h' < nh ∧ g' < ng then zAg D (13 + (h' * 4 + g') * 5) (F (8 + g')) p else D (13 + (h' * 4 + g') * 5 + p)) : zO F D' ng nh ∧ (∀ h g p, h < 6 → g < ng → p < 5 → F (4 + g) = nI p → zU D' ((h * 4 + g) * 5 + p) = 0) := by
  have hu := hO.2.2.2.1
  have hv := hO.2.2.2.2.2.2.2.2
  -- the new number at a place
  have key : ∀ h g p, h < 6 → g < 4 → p < 5 → D' (13 + ((h * 4 + g) * 5 + p)) = nI (zU D' ((h * 4 + g) * 5 + p)) ∧ (g < ng → zU D' ((h * 4 + g) * 5 + p) ≤ (if p < 4 then zU D ((h * 4 + g) * 5 + (p + 1)) else 0)) ∧ (¬ g < ng → zU D' ((h * 4 + g) * 5 + p) = zU D ((h * 4 + g) * 5 + p)) := by
    intro h g p hh hg hp
    have e3 := h3 h g p hh hg hp
    rw [Nat.add_assoc] at e3
    have fin : ∀ x, x < 2147483648 → D' (13 + ((h * 4 + g) * 5 + p)) = nI x → zU D' ((h * 4 + g) * 5 + p) = x := by
      intro x hx e
      show (D' (13 + ((h * 4 + g) * 5 + p))).toNatClampNeg = x
      rw [e, nI_clamp (by omega)]
    by_cases c : g < ng
    · obtain ⟨_, ⟨cc, c1, c2⟩, _⟩ := hV.1 g c
      by_cases c3 : h < nh
      · rw [if_pos ⟨c3, c⟩] at e3
        have hle := zO_le hO hh hg (p := 1) (by omega)
        by_cases p0 : p = 0
        · subst p0
          obtain ⟨k1, k2⟩ := zx_carry hle c1
          have e4 : D' (13 + ((h * 4 + g) * 5 + 0)) = nI (zU D ((h * 4 + g) * 5 + 1) * cc / 100) := by
            rw [e3]
            unfold zAg
            rw [if_pos rfl, Nat.add_assoc, hu _ (by omega), c2, k1]
          have e5 := fin _ (by omega) e4
          refine ⟨by rw [e5]; exact e4, fun _ => ?_, fun n => absurd c n⟩
          rw [e5, if_pos (by omega)]
          exact k2
        · by_cases p4 : p < 4
          · have e4 : D' (13 + ((h * 4 + g) * 5 + p)) = nI (zU D ((h * 4 + g) * 5 + (p + 1))) := by
              rw [e3]
              unfold zAg
              rw [if_neg p0, if_pos p4, Nat.add_assoc, hu _ (by omega)]
            have e5 := fin _ (zu_lt _) e4
            refine ⟨by rw [e5]; exact e4, fun _ => ?_, fun n => absurd c n⟩
            rw [e5, if_pos p4]
            exact Nat.le_refl _
          · have e4 : D' (13 + ((h * 4 + g) * 5 + p)) = nI 0 := by
              rw [e3]
              unfold zAg
              rw [if_neg p0, if_neg p4]
            have e5 := fin _ (by omega) e4
            refine ⟨by rw [e5]; exact e4, fun _ => ?_, fun n => absurd c n⟩
            rw [e5]
            exact Nat.zero_le _
      · rw [if_neg (fun z => c3 z.1), hu _ (by omega), (hv h (by omega) hh).2.2 g p hg hp] at e3
        have e5 := fin _ (by omega) e3
        refine ⟨by rw [e5]; exact e3, fun _ => ?_, fun n => absurd c n⟩
        rw [e5]
        exact Nat.zero_le _
    · rw [if_neg (fun z => c z.2), hu _ (by omega)] at e3
      have e5 := fin _ (zu_lt _) e3
      exact ⟨by rw [e5]; exact e3, fun n => absurd n c, fun _ => e5⟩
  refine ⟨zO_mk hng hO (Or.inl fun i hi => h1 _ (by omega)) (fun g hg => Or.inl (h1 _ (by omega))) (fun h hh => Or.inl (h1 _ (by omega))) (Or.inr ⟨fun i hi => ?_, ?_, ?_, ?_⟩) (fun h hh => ?_) (fun i hi => Or.inl (h1 _ (by omega))), ?_⟩
  · have hk := (key (i / 20) (i / 5 % 4) (i % 5) (by omega) (by omega) (by omega)).1
    rw [show (i / 20 * 4 + i / 5 % 4) * 5 + i % 5 = i by omega] at hk
    exact hk
  · intro g p hg hp
    have k0 := (key 0 g p (by omega) hg hp).2
    have k1 := (key 1 g p (by omega) hg hp).2
    have k2 := (key 2 g p (by omega) hg hp).2
    have k3 := (key 3 g p (by omega) hg hp).2
    have k4 := (key 4 g p (by omega) hg hp).2
    have k5 := (key 5 g p (by omega) hg hp).2
    rw [show (0 * 4 + g) * 5 = g * 5 by omega] at k0
    rw [show (1 * 4 + g) * 5 = (4 + g) * 5 by omega] at k1
    rw [show (2 * 4 + g) * 5 = (8 + g) * 5 by omega] at k2
    rw [show (3 * 4 + g) * 5 = (12 + g) * 5 by omega] at k3
    rw [show (4 * 4 + g) * 5 = (16 + g) * 5 by omega] at k4
    rw [show (5 * 4 + g) * 5 = (20 + g) * 5 by omega] at k5
    by_cases c : g < ng
    · have a0 := k0.1 c
      have a1 := k1.1 c
      have a2 := k2.1 c
      have a3 := k3.1 c
      have a4 := k4.1 c
      have a5 := k5.1 c
      by_cases p4 : p < 4
      · have hs := hO.2.2.2.2.1 g (p + 1) hg (by omega)
        rw [if_pos p4] at a0 a1 a2 a3 a4 a5
        omega
      · rw [if_neg p4] at a0 a1 a2 a3 a4 a5
        omega
    · have hs := hO.2.2.2.2.1 g p hg hp
      rw [k0.2 c, k1.2 c, k2.2 c, k3.2 c, k4.2 c, k5.2 c]
      exact hs
  · intro g h p hg hh hp hl
    have hk := (key h g p hh (by omega) hp).2.1 hg
    by_cases p4 : p < 4
    · rw [if_pos p4] at hk
      obtain ⟨⟨l, l1, l2, l3⟩, _⟩ := hV.1 g hg
      rw [l3, nI_ltI (by omega) (by omega)] at hl
      have hz := hO.2.2.2.2.2.1 g h (p + 1) hg hh (by omega) (by rw [l3]; exact nI_lt (by omega) (by omega))
      omega
    · rw [if_neg p4] at hk
      omega
  · intro h g p hl hh hg hp
    obtain ⟨_, k1, k2⟩ := key h g p hh hg hp
    by_cases c : g < ng
    · have hk := k1 c
      by_cases p4 : p < 4
      · rw [if_pos p4, (hv h hl hh).2.2 g (p + 1) hg (by omega)] at hk
        omega
      · rw [if_neg p4] at hk
        omega
    · rw [k2 c, (hv h hl hh).2.2 g p hg hp]
  · obtain ⟨q1, q2⟩ := h2 h hh
    by_cases c : h < nh
    · exact ⟨Or.inr ⟨c, 0, by omega, q1⟩, Or.inr ⟨c, 0, by omega, q2⟩⟩
    · obtain ⟨r1, r2, _⟩ := hv h (by omega) hh
      exact ⟨Or.inl (by rw [q1, r1]), Or.inl (by rw [q2, r2])⟩
  · intro h g p hh hg hp hl
    have hk := (key h g p hh (by omega) hp).2.1 hg
    by_cases p4 : p < 4
    · rw [if_pos p4] at hk
      obtain ⟨⟨l, l1, l2, l3⟩, _⟩ := hV.1 g hg
      rw [l3, nI_eq (by omega) (by omega)] at hl
      have hz := hO.2.2.2.2.2.1 g h (p + 1) hg hh (by omega) (by rw [l3]; exact nI_lt (by omega) (by omega))
      omega
    · rw [if_neg p4] at hk
      omega
theorem ze_nextPeriod : QE_nextPeriod zI := by
  intro ad I A G T J B w hI
  obtain ⟨⟨ng, nk, nh, ns, kept, next, hJ⟩, hF⟩ := id hI
  have hb := zp_b hJ
  obtain ⟨I', G', J', M', kk, mm, b1, b2, b3, b4, b5, b6, b7, _⟩ := zx_beg hJ
  have hR := zp_R b3
  have hO := zp_O b3
  have hV := zp_V b3
  obtain ⟨A1, f1, f10, n1, n2, n3, n4⟩ := zx_np7_l (F := qf_up B 2 M' 3) (G := G') hb.1 hb.2.2.1 (zp_I12 b3) (zp_I14 b3) ng 0 100000 A (nI 0) (by omega) (by omega) (fun g hg => zp_16 b3 hg)
  obtain ⟨B2, f2, f20, m1, m2, m3, m4, m5, m6⟩ := zx_np8_l (J := J') (F := qf_up B 2 M' 3) hb.1 hb.2.2.1 (zp_F0 b3) (zp_F2 b3) nh 0 100000 (qf_up B 2 M') (nI 0) (by omega) (by omega) rfl
  obtain ⟨k1, rfl⟩ : ∃ k, f1 = k + 1 := ⟨f1 - 1, by omega⟩
  obtain ⟨k2, rfl⟩ : ∃ k, f2 = k + 1 := ⟨f2 - 1, by omega⟩
  obtain ⟨r4, c1, c2, c3⟩ := zx_fill (n := 6) (by omega) (A1 37) (nI 0)
  obtain ⟨r6, d1, d2, d3⟩ := zx_fill (n := 6) (by omega) (A1 38) (nI 0)
  -- the class's purses and the reference's, at a place
  have hpl : ∀ h g q, h < 6 → g < 4 → q < 5 → A 36 ((h * 4 + g) * 5 + q) = qf_up B 2 M' 0 (13 + (h * 4 + g) * 5 + q) := fun h g q h6 g4 q5 => by
    rw [zr_3 hR (by omega), Nat.add_assoc]
  have hlv : ∀ h g, h < 6 → g < 4 → zLv (A 36) ((h * 4 + g) * 5) (qf_up B 2 M' 3 (8 + g)) = zLv (qf_up B 2 M' 0) (13 + (h * 4 + g) * 5) (qf_up B 2 M' 3 (8 + g)) := fun h g h6 g4 => zLv_congr (fun q q5 => hpl h g q h6 g4 q5)
  have htot : zQ (fun g => zQ (fun h => zLv (A 36) ((h * 4 + g) * 5) (qf_up B 2 M' 3 (8 + g))) nh 0 (nI 0)) ng 0 (nI 0) = zQ (fun h => zQ (fun g => zLv (qf_up B 2 M' 0) (13 + (h * 4 + g) * 5) (qf_up B 2 M' 3 (8 + g))) ng 0 (nI 0)) nh 0 (nI 0) := by
    rw [zQ_swap]
    exact zQ_congr _ _ _ (fun h _ h2 => zQ_congr _ _ _ (fun g _ g2 => hlv h g (by omega) (by omega)))
  generalize hFe : qf_up B 2 M' 3 = F at *
  generalize hDe : qf_up B 2 M' 0 = D at *
  obtain ⟨D3, hD3⟩ : ∃ D3, D3 = upd (B2 0) 249 (B2 0 249 + nI 1) := ⟨_, rfl⟩
  obtain ⟨A7, hA7⟩ : ∃ A7, A7 = qf_up (qf_up A1 37 r4) 38 r6 := ⟨_, rfl⟩
  have a7o : ∀ a, a ≠ 36 → a ≠ 37 → a ≠ 38 → a ≠ 46 → A7 a = A a := fun a x1 x2 x3 x4 => by rw [hA7, zu_upn x3, zu_upn x2, n2 a x1 x4]
  have d3o : ∀ j, j < 13 ∨ (145 ≤ j ∧ j < 245) → D3 j = D j := fun j hj => by rw [hD3, zu_ne (by omega), m3 j (by omega) (by omega)]
  have d3g : ∀ h, h < 6 → D3 (133 + h) = nI 0 ∧ D3 (139 + h) = nI 0 := by
    intro h hh
    obtain ⟨q1, q2⟩ := m6 h hh
    rw [hD3, zu_ne (by omega), zu_ne (by omega)]
    by_cases c : h < nh
    · rw [if_pos ⟨by omega, c⟩] at q1 q2
      exact ⟨q1, q2⟩
    · rw [if_neg (fun z => c z.2)] at q1 q2
      obtain ⟨v1, v2, _⟩ := hO.2.2.2.2.2.2.2.2 h (by omega) hh
      exact ⟨by rw [q1, v1], by rw [q2, v2]⟩
  have d3p : ∀ h' g' p, h' < 6 → g' < 4 → p < 5 → D3 (13 + (h' * 4 + g') * 5 + p) = if h' < nh ∧ g' < ng then zAg D (13 + (h' * 4 + g') * 5) (F (8 + g')) p else D (13 + (h' * 4 + g') * 5 + p) := by
    intro h' g' p x1 x2 x3
    rw [hD3, zu_ne (by omega), m5 h' g' p x1 x2 x3]
    by_cases c : h' < nh ∧ g' < ng
    · rw [if_pos ⟨by omega, c⟩, if_pos c]
    · rw [if_neg (fun z => c z.2), if_neg c]
  have hR7 : zR (fun a => A7 (33 + a)) D3 := by
    intro a i ha hi
    show A7 (33 + a) i = D3 (zoff a + i)
    have low : ∀ a, a ≠ 3 → a ≠ 4 → a ≠ 5 → a ≠ 13 → a < 14 → ∀ i, i < zlen a → (zoff a + i < 13 ∨ (145 ≤ zoff a + i ∧ zoff a + i < 245)) → A7 (33 + a) i = D3 (zoff a + i) := fun a x1 x2 x3 x4 ha i hi hz => by
      rw [a7o _ (by omega) (by omega) (by omega) (by omega), d3o _ hz]
      exact hR a i ha hi
    rcases (show a = 3 ∨ a = 4 ∨ a = 5 ∨ a = 13 ∨ (a ≠ 3 ∧ a ≠ 4 ∧ a ≠ 5 ∧ a ≠ 13) by omega) with rfl | rfl | rfl | rfl | ⟨x1, x2, x3, x4⟩
    · have hi : i < 120 := hi
      have e7 := n3 (i / 20) (i / 5 % 4) (i % 5) (by omega) (by omega) (by omega)
      have e8 := d3p (i / 20) (i / 5 % 4) (i % 5) (by omega) (by omega) (by omega)
      have ag : zAg (A 36) ((i / 20 * 4 + i / 5 % 4) * 5) (F (8 + i / 5 % 4)) (i % 5) = zAg D (13 + (i / 20 * 4 + i / 5 % 4) * 5) (F (8 + i / 5 % 4)) (i % 5) := zAg_congr (by omega) (fun q hq => hpl _ _ q (by omega) (by omega) hq)
      have pl := hpl (i / 20) (i / 5 % 4) (i % 5) (by omega) (by omega) (by omega)
      rw [ag, pl] at e7
      have ei : (i / 20 * 4 + i / 5 % 4) * 5 + i % 5 = i := by omega
      rw [ei] at e7
      rw [Nat.add_assoc, ei] at e8
      rw [Nat.add_assoc 13, ei] at e7
      show A7 36 i = D3 (13 + i)
      rw [hA7, zu_upn (by omega), zu_upn (by omega), e7, e8]
      by_cases c : i / 20 < nh ∧ i / 5 % 4 < ng
      · rw [if_pos ⟨by omega, c.2, c.1⟩, if_pos c]
      · rw [if_neg (fun z => c ⟨z.2.2, z.2.1⟩), if_neg c]
    · show A7 37 i = D3 (133 + i)
      have hi : i < 6 := hi
      rw [hA7, zu_upn (by omega), zu_up, c2 i hi, (d3g i hi).1]
    · show A7 38 i = D3 (139 + i)
      have hi : i < 6 := hi
      rw [hA7, zu_up, d2 i hi, (d3g i hi).2]
    · show A7 46 i = D3 (245 + i)
      have hi : i < 4 := hi
      rw [hA7, zu_upn (by omega), zu_upn (by omega), n4 i, hD3, zu_ne (by omega), m4 i hi, zr_13 hR hi]
      by_cases c : i < ng
      · rw [if_pos ⟨by omega, c⟩, if_pos c, zQ_0 _ nh 0 (D (245 + i))]
        exact congrArg (fun z => D (245 + i) + z) (zQ_congr _ _ _ (fun h _ h2 => hlv h i (by omega) hi))
      · rw [if_neg (fun z => c z.2), if_neg c]
    · have hz : zoff a + i < 13 ∨ (145 ≤ zoff a + i ∧ zoff a + i < 245) := by
        have t : ∀ a, a < 14 → (a ≠ 3 ∧ a ≠ 4 ∧ a ≠ 5 ∧ a ≠ 13) → zoff a + zlen a ≤ 13 ∨ (145 ≤ zoff a ∧ zoff a + zlen a ≤ 245) := by decide +kernel
        have := t a ha ⟨x1, x2, x3, x4⟩
        omega
      exact low a x1 x2 x3 x4 ha i hi hz
  obtain ⟨o1, o2⟩ := zO_age hb.1 hb.2.2.1 hV hO d3o d3g d3p
  have hL : ∀ g, g < ng → ∃ l, 1 ≤ l ∧ l ≤ 4 ∧ F (4 + g) = nI l := fun g hg => (hV.1 g hg).1
  obtain ⟨A8, B8, s1, s2, s3, s4, s5, s6, s7⟩ := zx_iss (I := upd I' 20 (I' 20 + nI 1)) (A := A7) (B := qf_up B2 0 D3) hb.1 hb.2.2.1 (by rw [zu_ne (by omega)]; exact zp_I12 b3) (by rw [zu_ne (by omega)]; exact zp_I14 b3) (by rw [← hFe]; exact zp_F0 b3) (by rw [← hFe]; exact zp_F2 b3) hL (fun g hg => by
    rw [a7o 15 (by omega) (by omega) (by omega) (by omega), zp_15 b3 hg, hFe]) (by rw [zu_upn (by omega), m2 3 (by omega), hFe]) (by rw [zu_up]; exact hR7)
  rw [zu_up] at s6 s7
  have o3 := zO_iss hb.1 hb.2.2.1 hL o1 o2 s6 s7
  have hJ9 : zJ (upd I' 20 (I' 20 + nI 1)) A8 G' J' B8 ng nk nh ns kk mm := by
    refine zJ_set b3 s3 ?_ ?_ (fun i hi => zu_ne hi) (fun a ha => ?_) (fun b hb => ?_)
    · rw [hFe]; exact o3
    · rw [zu_same, s6 249 (by omega) (by omega), hD3, zu_same, m3 249 (by omega) (by omega)]
      have h20 : I' 20 = qf_up B 2 M' 0 249 := b3.2.2.2.1
      rw [h20, hDe]
    · rw [s4 a (by omega) (by omega), a7o a (by omega) (by omega) (by omega) (by omega)]
    · rw [s5 b hb, zu_upn hb, m2 b hb]
  refine zq_chg (zQ (fun h => zQ (fun g => zLv D (13 + (h * 4 + g) * 5) (F (8 + g))) ng 0 (nI 0)) nh 0 (nI 0)) hJ9 hF ?_ ?_ ?_ b6 b7 ?_ ?_ ?_
  · rw [zu_ne (by omega), b4]
  · rw [zu_ne (by omega), b5]
  · rw [s4 0 (by omega) (by omega), a7o 0 (by omega) (by omega) (by omega) (by omega)]
  · rw [s5 5 (by omega), zu_upn (by omega), m2 5 (by omega), zu_upn (by omega)]
  · unfold f_X7_nextPeriod
    rw [b1, zb_bd2, zl_0, n1, f_X7_nextPeriod_l15, zp_I12 b3, if_pos (nI_le (Nat.le_refl _) (by omega)), zb_let, zl_1, zl_0, c1, zb_bd, zb_let, zu_upn (by omega), d1, zb_bd, zb_let, ← hA7, s1, zb_bd, htot]
  · unfold f_X8_nextPeriod
    rw [zb_let, zl_0, b2, zb_bd2, m1, f_X8_nextPeriod_l13, m2 3 (by omega)]
    rw [hFe, zl_2, zb_ld (by omega) (by omega), show F 2 = nI nh from by rw [← hFe]; exact zp_F2 b3, if_pos (nI_le (Nat.le_refl _) (by omega)), zl_249, zb_ld (by omega) (by omega), zb_st (by omega) (by omega), zb_let, zl_1, ← hD3, s2, zb_bd]
