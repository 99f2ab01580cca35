/-! sums of numbers -/
theorem zS_congr {f g : Nat → Nat} : ∀ (d i : Nat), (∀ j, i ≤ j → j < i + d → f j = g j) → zS f i d = zS g i d := by
  intro d
  induction d with
  | zero => intro i _; rfl
  | succ d ih =>
    intro i h
    unfold zS
    rw [h i (by omega) (by omega), ih (i + 1) (fun j h1 h2 => h j (by omega) (by omega))]
theorem zS_add (f g : Nat → Nat) : ∀ (d i : Nat), zS (fun j => f j + g j) i d = zS f i d + zS g i d := by
  intro d
  induction d with
  | zero => intro i; rfl
  | succ d ih =>
    intro i
    unfold zS
    rw [ih]
    omega
theorem zS_zero : ∀ (d i : Nat), zS (fun _ => 0) i d = 0 := by
  intro d
  induction d with
  | zero => intro i; rfl
  | succ d ih =>
    intro i
    unfold zS
    rw [ih]
theorem zS_swap (f : Nat → Nat → Nat) (b e : Nat) : ∀ (d a : Nat), zS (fun i => zS (fun j => f i j) b e) a d = zS (fun j => zS (fun i => f i j) a d) b e := by
  intro d
  induction d with
  | zero => intro a; exact (zS_zero e b).symm
  | succ d ih =>
    intro a
    show zS (fun j => f a j) b e + zS (fun i => zS (fun j => f i j) b e) (a + 1) d = _
    rw [ih, ← zS_add]
    rfl
theorem zS_one {f : Nat → Nat} {i0 : Nat} : ∀ (d a : Nat), (∀ i, a ≤ i → i < a + d → i ≠ i0 → f i = 0) → a ≤ i0 → i0 < a + d → zS f a d = f i0 := by
  intro d
  induction d with
  | zero => intro a _ h1 h2; omega
  | succ d ih =>
    intro a h h1 h2
    unfold zS
    by_cases c : a = i0
    · rw [c, zS_congr d (i0 + 1) (g := fun _ => 0) (fun j j1 j2 => h j (by omega) (by omega) (by omega)), zS_zero]
      omega
    · rw [h a (Nat.le_refl _) (by omega) c, ih (a + 1) (fun i i1 i2 i3 => h i (by omega) (by omega) i3) (by omega) (by omega)]
      omega
theorem zVd_top {gd : Nat → Option (Nat × Nat × Nat)} {nk : Nat} (h : ∀ k, nk ≤ k → gd k = none) : ∀ d, d + nk ≤ 6 → ∀ c, zVd gd d c = 0 := by
  intro d
  induction d with
  | zero => intro _ c; rfl
  | succ d ih =>
    intro hd c
    rw [zVd_none (h _ (by omega))]
    exact ih (by omega) c
theorem zCd_top {gd : Nat → Option (Nat × Nat × Nat)} {nk : Nat} (h : ∀ k, nk ≤ k → gd k = none) {d : Nat} (hd : d + nk ≤ 6) (c : Nat) : zCd gd d c = 0 := by
  have := (zCd_spec gd d c).2.2 0 (by rw [zVd_top h d hd, zVd_top h d hd])
  omega
theorem zS_val {gd : Nat → Option (Nat × Nat × Nat)} (hg : zGd gd) {nk : Nat} (hk : nk ≤ 6) (h : ∀ k, nk ≤ k → gd k = none) {T : Nat} (hT : T ≤ 400) : ∀ (d k : Nat), k + d = nk → zS (fun j => zV1 gd j (zLk gd T j)) k d = zVd gd (6 - k) (zLk gd T k) ∧ zS (fun j => zC1 gd j (zLk gd T j)) k d = zCd gd (6 - k) (zLk gd T k) := by
  intro d
  induction d with
  | zero =>
    intro k hd
    exact ⟨(zVd_top h _ (by omega) _).symm, (zCd_top h (by omega) _).symm⟩
  | succ d ih =>
    intro k hd
    obtain ⟨i1, i2⟩ := ih (k + 1) (by omega)
    have hL := zLk_le gd T k
    have hs : zLk gd T (k + 1) = zLk gd T k - zC1 gd k (zLk gd T k) := rfl
    unfold zS
    rw [i1, i2, hs, show 6 - (k + 1) = 5 - k by omega]
    cases e : gd k with
    | none =>
      have h5 : gd (5 - (5 - k)) = none := by rw [show 5 - (5 - k) = k by omega]; exact e
      have c1 : zC1 gd k (zLk gd T k) = 0 := by unfold zC1; rw [e]
      have v1 : zV1 gd k (zLk gd T k) = 0 := by unfold zV1; rw [e]
      rw [c1, v1, Nat.sub_zero, show 6 - k = 5 - k + 1 by omega, zVd_none h5, zCd_none h5]
      exact ⟨by omega, by omega⟩
    | some p =>
      obtain ⟨r, v, st⟩ := p
      obtain ⟨_, g2, g3⟩ := zgr_eq (L := zLk gd T k) e
      obtain ⟨_, _, _, s4, s5⟩ := zgr_sp hg (by omega) e (by omega : zLk gd T k ≤ 400)
      rw [g2, g3]
      exact ⟨s5, s4⟩
section ZBQ
variable {I : Nat → Int32} {A : Nat → Nat → Int32} {G : Nat → Int32 × (Nat → Nat → Int32)} {T : Nat} {J : Nat → Int32} {B : Nat → Nat → Int32} {w : Int64} {ng nk nh ns kept next : Nat}
/-- coupons of the house in a group; the group of a good; its units in the basket -/
def zHt (B : Nat → Nat → Int32) (h g : Nat) : Nat := zTn (B 0) ((h * 4 + g) * 5)
def zOg (B : Nat → Nat → Int32) (j : Nat) : Nat := (B 3 (20 + j)).toNatClampNeg
def zNf (B : Nat → Nat → Int32) (nk h s j : Nat) : Nat := zN1 (zGo (B 3) (B 0) nk s (zOg B j)) j (zLk (zGo (B 3) (B 0) nk s (zOg B j)) (zHt B h (zOg B j)) j)
theorem zx_og (hJ : zJ I A G J B ng nk nh ns kept next) {s j g : Nat} (hs : s < ns) (hg : g < ng) : (zGo (B 3) (B 0) nk s g j).isSome = true ↔ (j < nk ∧ zOg B j = g) := by
  have hb := zp_b hJ
  by_cases hj : j < nk
  · obtain ⟨q, r, v, n, hq, _, _, _, _, _, _, _, _, w1, _, _, _, e⟩ := zx_go hJ hs hj g hg
    have eo : zOg B j = q := by unfold zOg; rw [w1, nI_clamp (by omega)]
    rw [e, eo]
    by_cases c : q = g
    · rw [if_pos c]; exact ⟨fun _ => ⟨hj, c⟩, fun _ => rfl⟩
    · rw [if_neg c]; exact ⟨fun z => absurd z (by decide), fun z => absurd z.2 c⟩
  · rw [zGo_none (by omega)]
    exact ⟨fun z => absurd z (by decide), fun z => absurd z.1 hj⟩
theorem zx_choose_l (h s : Nat) (hh : h < nh) (hs : s < ns) : ∀ (d g fu : Nat) (I : Nat → Int32) (A : Nat → Nat → Int32) (acc : Nat), zJ I A G J B ng nk nh ns kept next → (∀ q, q < ng → zHt B h q ≤ 400) → g + d = ng → d < fu → I 11 = nI acc → (∀ c, c ≤ 400 → A (2 + nk) c = nI 0) → ∃ I' A', f_X0_choose_r19_r43_l21 (nI h) (nI s) fu I A (nI g) = some (I', A') ∧ I' = upd I 11 (nI (acc + zS (fun q => zVd (zGo (B 3) (B 0) nk s q) 6 (zHt B h q)) g d)) ∧ (∀ a, (a < 2 ∨ 11 ≤ a) → A' a = A a) ∧ (∀ q, q < ng → A' 10 q = if g ≤ q then nI (zCd (zGo (B 3) (B 0) nk s q) 6 (zHt B h q)) else A 10 q) ∧ (∀ j, j < nk → A' 9 j = if g ≤ zOg B j then nI (zNf B nk h s j) else A 9 j) := by
  intro d
  induction d with
  | zero =>
    intro g fu I A acc hJ hT hd h1 hI hA
    obtain ⟨a, rfl⟩ : ∃ a, fu = a + 1 := ⟨fu - 1, by omega⟩
    have hb := zp_b hJ
    refine ⟨I, A, ?_, ?_, fun _ _ => rfl, fun q hq => (if_neg (by omega)).symm, fun j hj => ?_⟩
    · rw [f_X0_choose_r19_r43_l21, zp_I12 hJ, if_pos (nI_le (by omega) (by omega))]
    · show I = upd I 11 (nI (acc + 0))
      rw [Nat.add_zero, ← hI]
      funext j
      unfold upd
      by_cases c : j = 11
      · rw [if_pos c, c]
      · rw [if_neg c]
    · obtain ⟨q, hq, v1⟩ := ((zp_V hJ).2 j hj).1
      rw [if_neg]
      unfold zOg
      rw [v1, nI_clamp (by omega)]
      omega
  | succ d ih =>
    intro g fu I A acc hJ hT hd h1 hI hA
    obtain ⟨a, rfl⟩ : ∃ a, fu = a + 1 := ⟨fu - 1, by omega⟩
    have hb := zp_b hJ
    have hg : g < ng := by omega
    have hgd := zGo_ok hJ hs hg
    have hTg := hT g hg
    have h7 := zx_h7 hJ (by omega : h < 6) (by omega : g < 4)
    unfold f_X7_holding at h7
    rw [zx_purse, zb_bd] at h7
    have h7 : f_X4_total 120 (A 36) (nI ((h * 4 + g) * 5)) = some (nI (zHt B h g)) := by
      revert h7
      cases f_X4_total 120 (A 36) (nI ((h * 4 + g) * 5)) with
      | none => intro z; cases z
      | some x => intro z; exact z
    obtain ⟨A8, w1, w2, w3⟩ := zx_weigh_l hs hg hTg nk 100000 A hJ (Nat.le_refl _) (by omega) (fun j j1 j2 c hc => by
      have : j = nk := by omega
      subst this
      rw [hA c (by omega), zVd_top (fun k hk => zGo_none hk) _ (by omega)])
    have hw : f_X0_weigh_r19_r43 I A (nI s) (nI g) (nI (zHt B h g)) = some A8 := by
      unfold f_X0_weigh_r19_r43
      rw [zp_I13 hJ, zl_1, zb_let]
      refine Eq.trans ?_ w1
      by_cases c : nk = 0
      · rw [c]; rfl
      · rw [if_neg c, pk_sub (by omega)]
    have hch := zx_cheap (held := zHt B h g) hTg (fun c => zVd_le hgd 6 c) (A := A8) (fun c hc => w3 0 (by omega) c hc) (zHt B h g) 0 100000 (by omega) (by omega)
    have hch : f_X0_cheapest A8 (nI (zHt B h g)) = some (nI (zCd (zGo (B 3) (B 0) nk s g) 6 (zHt B h g))) := hch
    have hJ8 : zJ I A8 G J B ng nk nh ns kept next := zJ_go hJ (fun _ _ => rfl) (fun b hb => w2 b (by omega)) (fun _ _ => rfl) (fun _ _ => rfl)
    obtain ⟨I1, hI1⟩ : ∃ I1, I1 = upd I 11 (nI (acc + zVd (zGo (B 3) (B 0) nk s g) 6 (zHt B h g))) := ⟨_, rfl⟩
    have i1n : ∀ i, i ≠ 11 → I1 i = I i := fun i hi => by rw [hI1, zu_ne hi]
    obtain ⟨A13, hA13⟩ : ∃ A13, A13 = qf_up A8 10 (upd (A8 10) g (nI (zCd (zGo (B 3) (B 0) nk s g) 6 (zHt B h g)))) := ⟨_, rfl⟩
    have a13 : ∀ a, a ≠ 10 → A13 a = A8 a := fun a ha => by rw [hA13, zu_upn ha]
    have hJ13 : zJ I1 A13 G J B ng nk nh ns kept next := zJ_go hJ8 i1n (fun b hb => a13 b (by omega)) (fun _ _ => rfl) (fun _ _ => rfl)
    obtain ⟨A15, f1, f2, f3⟩ := zx_fill7 hs hg hTg nk 0 100000 A13 hJ13 (by omega) (by omega) (fun j hj c hc => by rw [a13 _ (by omega)]; exact w3 j hj c hc)
    have hf : f_X0_fill_r19_r43 I1 A13 (nI s) (nI g) = some A15 := by
      unfold f_X0_fill_r19_r43
      rw [zb_ld (by omega) (by omega), hA13, zu_up, zu_same, ← hA13, zl_0]
      exact f1
    have hJ15 : zJ I1 A15 G J B ng nk nh ns kept next := zJ_go hJ13 (fun _ _ => rfl) (fun b hb => f2 b (by omega)) (fun _ _ => rfl) (fun _ _ => rfl)
    obtain ⟨I', A', k1, k2, k3, k4, k5⟩ := ih (g + 1) a I1 A15 (acc + zVd (zGo (B 3) (B 0) nk s g) 6 (zHt B h g)) hJ15 hT (by omega) (by omega) (by rw [hI1, zu_same]) (fun c hc => by
      rw [f2 _ (by omega), a13 _ (by omega), w2 _ (by omega)]
      exact hA c hc)
    have ht4 : (if (400 : Int32) < nI (zHt B h g) then (400 : Int32) else nI (zHt B h g)) = nI (zHt B h g) := by
      rw [zl_400, if_neg (nI_nlt hTg (by omega))]
    refine ⟨I', A', ?_, ?_, ?_, ?_, ?_⟩
    · refine Eq.trans ?_ k1
      rw [f_X0_choose_r19_r43_l21, zp_I12 hJ, if_neg (nI_ge (by omega) (by omega)), zx_purse, zb_bd, h7, zb_bd, ht4, zb_let, hw, zb_bd, zl_0, zb_st (by omega) (by omega), zb_ld (by omega) (by omega), w3 0 (by omega) _ (Nat.le_refl _), hI, nI_add, zb_let, hch, zb_bd, zb_st (by omega) (by omega), zb_let, ← hI1, ← hA13, hf, zb_bd, zb_let, nI_1]
    · rw [k2, hI1, zu_updu, Nat.add_assoc]
      rfl
    · intro b hb
      rw [k3 b hb, f2 b (by omega), a13 b (by omega), w2 b (by omega)]
    · intro q hq
      rw [k4 q hq]
      by_cases c : g + 1 ≤ q
      · rw [if_pos c, if_pos (by omega)]
      · rw [if_neg c, f2 10 (by omega), hA13, zu_up]
        by_cases c2 : q = g
        · rw [c2, zu_same, if_pos (Nat.le_refl _)]
        · rw [zu_ne c2, if_neg (by omega), w2 10 (by omega)]
    · intro j hj
      rw [k5 j hj]
      by_cases c : g + 1 ≤ zOg B j
      · rw [if_pos c, if_pos (by omega)]
      · rw [if_neg c, f3 j]
        by_cases c2 : zOg B j = g
        · rw [if_pos ⟨Nat.zero_le _, hj, (zx_og hJ hs hg).mpr ⟨hj, c2⟩⟩, if_pos (by omega)]
          unfold zNf
          rw [c2]
        · rw [if_neg (fun z => c2 ((zx_og hJ hs hg).mp z.2.2).2), if_neg (by omega), a13 9 (by omega), w2 9 (by omega)]
theorem zx_lb_l (hJ : zJ I A G J B ng nk nh ns kept next) (h s : Nat) (hh : h < nh) (hs : s < ns) (hT : ∀ q, q < ng → zHt B h q ≤ 400) : ∀ (d g fu : Nat) (E : Nat → Nat → Int32), g + d = ng → d < fu → (∀ b, b ≠ 7 → b ≠ 8 → E b = B b) → ∃ E', f_X8_layBasket_l24 (nI h) (nI s) fu E (nI g) = some (nI 0, E') ∧ (∀ b, b ≠ 7 → b ≠ 8 → E' b = B b) ∧ (∀ j, j < nk → E' 8 j = if g ≤ zOg B j then nI (zNf B nk h s j) else E 8 j) := by
  have hb := zp_b hJ
  intro d
  induction d with
  | zero =>
    intro g fu E hd h1 hE
    obtain ⟨a, rfl⟩ : ∃ a, fu = a + 1 := ⟨fu - 1, by omega⟩
    refine ⟨E, ?_, hE, fun j hj => ?_⟩
    · rw [f_X8_layBasket_l24, zl_0, zb_ld (by omega) (by omega), hE 3 (by omega) (by omega), zp_F0 hJ, if_pos (nI_le (by omega) (by omega))]
    · obtain ⟨q, hq, v1⟩ := ((zp_V hJ).2 j hj).1
      rw [if_neg]
      unfold zOg
      rw [v1, nI_clamp (by omega)]
      omega
  | succ d ih =>
    intro g fu E hd h1 hE
    obtain ⟨a, rfl⟩ : ∃ a, fu = a + 1 := ⟨fu - 1, by omega⟩
    have hg : g < ng := by omega
    have hTg := hT g hg
    have hE0 := hE 0 (by omega) (by omega)
    have hE3 := hE 3 (by omega) (by omega)
    have hJE : zJ I A G J E ng nk nh ns kept next := by
      refine zJ_fr hJ (fun _ _ _ => rfl) (fun _ _ => rfl) rfl hE0 (hE 2 (by omega) (by omega)) hE3
    have h8 := zx_h8 hJE (by omega : h < 6) (by omega : g < 4)
    obtain ⟨E1, l1, l2, l3⟩ := zx_lay8 hJE hs hg (held := zHt B h g) hTg
    rw [hE0, hE3] at l3
    rw [hE0] at h8
    obtain ⟨E2, m1, m2, m3⟩ := zx_fill8 hJ hs hg hTg nk 0 100000 E1 (by omega) (by omega) (fun b b1 b2 => by rw [l2 b b1, hE b b1 b2]) l3
    obtain ⟨E', i1, i2, i3⟩ := ih (g + 1) a E2 (by omega) (by omega) (fun b b1 b2 => by rw [m2 b b2, l2 b b1, hE b b1 b2])
    refine ⟨E', ?_, i2, ?_⟩
    · refine Eq.trans ?_ i1
      have hf : f_X8_fillBasket E (nI h) (nI s) (nI g) = some E2 := by
        unfold f_X8_fillBasket
        rw [h8, zb_bd]
        rw [show zTn (B 0) ((h * 4 + g) * 5) = zHt B h g from rfl, l1, zb_bd, zl_0]
        exact m1
      rw [f_X8_layBasket_l24, zl_0, zb_ld (by omega) (by omega), hE3, zp_F0 hJ, if_neg (nI_ge (by omega) (by omega)), hf, zb_bd, zb_let, nI_1]
    · intro j hj
      rw [i3 j hj]
      by_cases c : g + 1 ≤ zOg B j
      · rw [if_pos c, if_pos (by omega)]
      · rw [if_neg c, m3 j]
        by_cases c2 : zOg B j = g
        · rw [if_pos ⟨Nat.zero_le _, hj, (zx_og hJ hs hg).mpr ⟨hj, c2⟩⟩, if_pos (by omega)]
          unfold zNf
          rw [c2]
        · rw [if_neg (fun z => c2 ((zx_og hJ hs hg).mp z.2.2).2), if_neg (by omega), l2 8 (by omega)]
/-- too many coupons for a search, or not -/
theorem zx_large (hJ : zJ I A G J B ng nk nh ns kept next) (h s : Nat) (hh : h < nh) : ∀ (d g fu1 fu2 : Nat), g + d = ng → d < fu1 → d < fu2 → (f_X7_fillBasket_l13 I A (nI h) (nI s) fu1 (nI g) = some (-nI 4, I, A) ∧ f_X8_isTooLarge_l2 B (nI h) fu2 (nI g) = some (nI 1)) ∨ (f_X7_fillBasket_l13 I A (nI h) (nI s) fu1 (nI g) = (qf_bd2 (f_X0_choose_r19_r43 I A (nI h) (nI s)) fun I2 A3 => some (nI 0, I2, A3)) ∧ f_X8_isTooLarge_l2 B (nI h) fu2 (nI g) = some (nI 0) ∧ ∀ q, g ≤ q → q < ng → zHt B h q ≤ 400) := by
  have hb := zp_b hJ
  intro d
  induction d with
  | zero =>
    intro g fu1 fu2 hd h1 h2
    obtain ⟨a, rfl⟩ : ∃ a, fu1 = a + 1 := ⟨fu1 - 1, by omega⟩
    obtain ⟨b, rfl⟩ : ∃ b, fu2 = b + 1 := ⟨fu2 - 1, by omega⟩
    right
    refine ⟨?_, ?_, fun q q1 q2 => by omega⟩
    · rw [f_X7_fillBasket_l13, zp_I12 hJ, if_pos (nI_le (by omega) (by omega))]
      rfl
    · rw [f_X8_isTooLarge_l2, zl_0, zb_ld (by omega) (by omega), zp_F0 hJ, if_pos (nI_le (by omega) (by omega))]
  | succ d ih =>
    intro g fu1 fu2 hd h1 h2
    obtain ⟨a, rfl⟩ : ∃ a, fu1 = a + 1 := ⟨fu1 - 1, by omega⟩
    obtain ⟨b, rfl⟩ : ∃ b, fu2 = b + 1 := ⟨fu2 - 1, by omega⟩
    have h7 := zx_h7 hJ (by omega : h < 6) (by omega : g < 4)
    have h8 := zx_h8 hJ (by omega : h < 6) (by omega : g < 4)
    have hle := zx_hle hJ (by omega : h < 6) (by omega : g < 4)
    have et : zTn (B 0) ((h * 4 + g) * 5) = zHt B h g := rfl
    rw [et] at h7 h8 hle
    have e7 : f_X7_fillBasket_l13 I A (nI h) (nI s) (a + 1) (nI g) = if nI (zHt B h g) ≤ nI 400 then f_X7_fillBasket_l13 I A (nI h) (nI s) a (nI (g + 1)) else some (-nI 4, I, A) := by
      rw [f_X7_fillBasket_l13, zp_I12 hJ, if_neg (nI_ge (by omega) (by omega)), h7, zb_bd, zl_400, zl_4, zb_let, nI_1]
    have e8 : f_X8_isTooLarge_l2 B (nI h) (b + 1) (nI g) = if nI (zHt B h g) ≤ nI 400 then f_X8_isTooLarge_l2 B (nI h) b (nI (g + 1)) else some (nI 1) := by
      rw [f_X8_isTooLarge_l2, zl_0, zb_ld (by omega) (by omega), zp_F0 hJ, if_neg (nI_ge (by omega) (by omega)), h8, zb_bd, zl_400, zb_let, nI_1, zl_1]
    by_cases c : zHt B h g ≤ 400
    · rw [e7, e8, if_pos (nI_le c (by omega)), if_pos (nI_le c (by omega))]
      rcases ih (g + 1) a b (by omega) (by omega) (by omega) with h | ⟨k1, k2, k3⟩
      · exact Or.inl h
      · refine Or.inr ⟨k1, k2, fun q q1 q2 => ?_⟩
        by_cases z : q = g
        · rw [z]; exact c
        · exact k3 q (by omega) q2
    · left
      rw [e7, e8, if_neg (nI_ge (by omega) (by omega)), if_neg (nI_ge (by omega) (by omega))]
      exact ⟨rfl, rfl⟩
theorem zx_bask (hJ : zJ I A G J B ng nk nh ns kept next) {h s : Nat} (hh : h < nh) (hs : s < ns) : (∃ x, (x = -nI 6 ∨ x = -nI 4) ∧ f_X7_fillBasket I A (nI h) (nI s) = some (x, I, A) ∧ f_X8_layBasket B (nI h) (nI s) = some (x, B)) ∨ (∃ I' A' B', f_X7_fillBasket I A (nI h) (nI s) = some (nI 0, I', A') ∧ f_X8_layBasket B (nI h) (nI s) = some (nI 0, B') ∧ (∀ q, q < ng → zHt B h q ≤ 400) ∧ I' 11 = nI (zS (fun q => zVd (zGo (B 3) (B 0) nk s q) 6 (zHt B h q)) 0 ng) ∧ (∀ i, i ≠ 11 → I' i = I i) ∧ (∀ a, (a < 2 ∨ 11 ≤ a) → A' a = A a) ∧ (∀ q, q < ng → A' 10 q = nI (zCd (zGo (B 3) (B 0) nk s q) 6 (zHt B h q))) ∧ (∀ j, j < nk → A' 9 j = nI (zNf B nk h s j)) ∧ (∀ b, b ≠ 7 → b ≠ 8 → B' b = B b) ∧ (∀ j, j < nk → B' 8 j = nI (zNf B nk h s j))) := by
  have hb := zp_b hJ
  have c7 := zx_closed7 (zp_R hJ) (by omega : s < 4)
  have c8 := zx_closed8 (B := B) (by omega : s < 4)
  unfold f_X7_fillBasket f_X8_layBasket f_X8_isTooLarge
  rcases zC_01 (B 0) s with hc | hc
  · rw [hc] at c7 c8
    rw [c7, zb_bd, if_pos nI_0, c8, zb_bd, if_pos nI_0, zl_0]
    rcases zx_large hJ h s hh ng 0 100000 100000 (by omega) (by omega) (by omega) with ⟨k1, k2⟩ | ⟨k1, k2, k3⟩
    · left
      refine ⟨-nI 4, Or.inr rfl, k1, ?_⟩
      rw [k2, zb_bd, if_neg (by decide)]
      rfl
    · right
      have hT : ∀ q, q < ng → zHt B h q ≤ 400 := fun q hq => k3 q (Nat.zero_le _) hq
      obtain ⟨f0, z1, z2, z3⟩ := zx_fill (n := 401) (by omega) (A (2 + nk)) (nI 0)
      have hJ4 : zJ (upd I 11 (nI 0)) (qf_up A (2 + nk) f0) G J B ng nk nh ns kept next := zJ_go hJ (fun i hi => zu_ne hi) (fun b hb => zu_upn (by omega)) (fun _ _ => rfl) (fun _ _ => rfl)
      obtain ⟨I', A', p1, p2, p3, p4, p5⟩ := zx_choose_l h s hh hs ng 0 100000 (upd I 11 (nI 0)) (qf_up A (2 + nk) f0) 0 hJ4 hT (by omega) (by omega) (zu_same _ _ _) (fun c hc => by rw [zu_up, z2 c (by omega)])
      obtain ⟨B', q1, q2, q3⟩ := zx_lb_l hJ h s hh hs hT ng 0 100000 B (by omega) (by omega) (fun _ _ _ => rfl)
      refine ⟨I', A', B', ?_, ?_, hT, ?_, ?_, ?_, ?_, ?_, q2, ?_⟩
      · rw [k1]
        have hcs : f_X0_choose_r19_r43 I A (nI h) (nI s) = some (I', A') := by
          unfold f_X0_choose_r19_r43
          rw [zb_let, zu_ne (by omega), zp_I13 hJ, zb_st (by omega) (by omega), zl_0, z1, zb_bd, zb_let]
          exact p1
        rw [hcs, zb_bd2]
      · rw [k2, zb_bd, if_pos (rfl : nI 0 = nI 0)]
        exact q1
      · rw [p2, zu_same, Nat.zero_add]
      · intro i hi
        rw [p2, zu_ne hi, zu_ne hi]
      · intro a ha
        rw [p3 a ha, zu_upn (by omega)]
      · intro q hq
        rw [p4 q hq, if_pos (Nat.zero_le _)]
      · intro j hj
        rw [p5 j hj, if_pos (Nat.zero_le _)]
      · intro j hj
        rw [q3 j hj, if_pos (Nat.zero_le _)]
  · left
    rw [hc] at c7 c8
    rw [c7, zb_bd, if_neg (by decide), c8, zb_bd, if_neg (by decide)]
    exact ⟨-nI 6, Or.inl rfl, rfl, rfl⟩
/-- the sums over goods and over groups -/
theorem zx_sums (hJ : zJ I A G J B ng nk nh ns kept next) {h s : Nat} (hs : s < ns) (hT : ∀ q, q < ng → zHt B h q ≤ 400) : zS (fun j => zNf B nk h s j * (B 3 (32 + j)).toNatClampNeg) 0 nk = zS (fun q => zVd (zGo (B 3) (B 0) nk s q) 6 (zHt B h q)) 0 ng ∧ zS (fun j => zNf B nk h s j * (B 3 (26 + j)).toNatClampNeg) 0 nk = zS (fun q => zCd (zGo (B 3) (B 0) nk s q) 6 (zHt B h q)) 0 ng ∧ (∀ g, g < ng → zS (fun j => if zOg B j = g then zNf B nk h s j * (B 3 (26 + j)).toNatClampNeg else 0) 0 nk = zCd (zGo (B 3) (B 0) nk s g) 6 (zHt B h g)) := by
  have hb := zp_b hJ
  have per : ∀ q, q < ng → zS (fun j => zV1 (zGo (B 3) (B 0) nk s q) j (zLk (zGo (B 3) (B 0) nk s q) (zHt B h q) j)) 0 nk = zVd (zGo (B 3) (B 0) nk s q) 6 (zHt B h q) ∧ zS (fun j => zC1 (zGo (B 3) (B 0) nk s q) j (zLk (zGo (B 3) (B 0) nk s q) (zHt B h q) j)) 0 nk = zCd (zGo (B 3) (B 0) nk s q) 6 (zHt B h q) := fun q hq => zS_val (zGo_ok hJ hs hq) hb.2.1 (fun k hk => zGo_none hk) (hT q hq) nk 0 (by omega)
  have one : ∀ q j, q < ng → j < nk → zV1 (zGo (B 3) (B 0) nk s q) j (zLk (zGo (B 3) (B 0) nk s q) (zHt B h q) j) = (if zOg B j = q then zNf B nk h s j * (B 3 (32 + j)).toNatClampNeg else 0) ∧ zC1 (zGo (B 3) (B 0) nk s q) j (zLk (zGo (B 3) (B 0) nk s q) (zHt B h q) j) = (if zOg B j = q then zNf B nk h s j * (B 3 (26 + j)).toNatClampNeg else 0) := by
    intro q j hq hj
    obtain ⟨q', r, v, n, hq', r1, r2, v1, n1, _, _, _, _, w1, w2, w3, w4, e⟩ := zx_go hJ hs hj q hq
    have eo : zOg B j = q' := by unfold zOg; rw [w1, nI_clamp (by omega)]
    by_cases c : q' = q
    · rw [if_pos c] at e
      obtain ⟨_, g2, g3⟩ := zgr_eq (L := zLk (zGo (B 3) (B 0) nk s q) (zHt B h q) j) e
      rw [if_pos (by omega), if_pos (by omega), g2, g3, w2, w3, nI_clamp (by omega), nI_clamp (by omega)]
      unfold zNf
      rw [eo, c]
      exact ⟨rfl, rfl⟩
    · rw [if_neg c] at e
      rw [if_neg (by omega), if_neg (by omega)]
      unfold zV1 zC1
      rw [e]
      exact ⟨rfl, rfl⟩
  have hog : ∀ j, j < nk → zOg B j < ng := by
    intro j hj
    obtain ⟨q, hq, v1⟩ := ((zp_V hJ).2 j hj).1
    unfold zOg
    rw [v1, nI_clamp (by omega)]
    exact hq
  refine ⟨?_, ?_, ?_⟩
  · rw [← zS_congr (f := fun q => zS (fun j => zV1 (zGo (B 3) (B 0) nk s q) j (zLk (zGo (B 3) (B 0) nk s q) (zHt B h q) j)) 0 nk) ng 0 (fun q _ hq => (per q (by omega)).1), zS_swap]
    refine zS_congr nk 0 (fun j _ hj => ?_)
    rw [zS_one (i0 := zOg B j) ng 0 (fun q _ hq hn => by rw [(one q j (by omega) (by omega)).1, if_neg (by omega)]) (Nat.zero_le _) (by have := hog j (by omega); omega), (one _ j (hog j (by omega)) (by omega)).1, if_pos rfl]
  · rw [← zS_congr (f := fun q => zS (fun j => zC1 (zGo (B 3) (B 0) nk s q) j (zLk (zGo (B 3) (B 0) nk s q) (zHt B h q) j)) 0 nk) ng 0 (fun q _ hq => (per q (by omega)).2), zS_swap]
    refine zS_congr nk 0 (fun j _ hj => ?_)
    rw [zS_one (i0 := zOg B j) ng 0 (fun q _ hq hn => by rw [(one q j (by omega) (by omega)).2, if_neg (by omega)]) (Nat.zero_le _) (by have := hog j (by omega); omega), (one _ j (hog j (by omega)) (by omega)).2, if_pos rfl]
  · intro g hg
    rw [← (per g hg).2]
    exact zS_congr nk 0 (fun j _ hj => ((one g j hg (by omega)).2).symm)
end ZBQ
