/-! the goods of a group in a shop, out of the tables -/
def zGo (F D : Nat → Int32) (nk s g k : Nat) : Option (Nat × Nat × Nat) := if k < nk ∧ F (20 + k) = nI g then some ((F (26 + k)).toNatClampNeg, (F (32 + k)).toNatClampNeg, (D (145 + (s * 6 + k))).toNatClampNeg) else none
section ZGO
variable {I : Nat → Int32} {A : Nat → Nat → Int32} {G : Nat → Int32 × (Nat → Nat → Int32)} {T : Nat} {J : Nat → Int32} {B : Nat → Nat → Int32} {w : Int64} {ng nk nh ns kept next : Nat}
theorem zx_go (hJ : zJ I A G J B ng nk nh ns kept next) {s k : Nat} (hs : s < ns) (hk : k < nk) (g : Nat) (hg : g < ng) : ∃ q r v n, q < ng ∧ 1 ≤ r ∧ r ≤ 20 ∧ v ≤ 99 ∧ n ≤ 99999 ∧ A 19 k = nI q ∧ A 20 k = nI r ∧ A 21 k = nI v ∧ A 39 (s * 6 + k) = nI n ∧ B 3 (20 + k) = nI q ∧ B 3 (26 + k) = nI r ∧ B 3 (32 + k) = nI v ∧ B 0 (145 + (s * 6 + k)) = nI n ∧ zGo (B 3) (B 0) nk s g k = if q = g then some (r, v, n) else none := by
  have hb := zp_b hJ
  obtain ⟨⟨q, hq, v1⟩, ⟨r, r1, r2, v2⟩, ⟨v, v3, v4⟩⟩ := (zp_V hJ).2 k hk
  obtain ⟨n, n1, n2, n3⟩ := zp_stock hJ (by omega : s < 4) (by omega : k < 6)
  refine ⟨q, r, v, n, hq, r1, r2, v3, n1, by rw [zp_19 hJ hk, v1], by rw [zp_20 hJ hk, v2], by rw [zp_21 hJ hk, v4], n3, v1, v2, v4, n2, ?_⟩
  unfold zGo
  by_cases c : q = g
  · rw [if_pos c, if_pos ⟨hk, by rw [v1, c]⟩, v2, v4, n2, nI_clamp (by omega), nI_clamp (by omega), nI_clamp (by omega)]
  · rw [if_neg c, if_neg (fun z => c ((nI_eq (by omega) (by omega)).mp (v1.symm.trans z.2)))]
theorem zGo_none {F D : Nat → Int32} {nk s g k : Nat} (hk : nk ≤ k) : zGo F D nk s g k = none := by
  unfold zGo
  rw [if_neg (by omega)]
theorem zGo_ok (hJ : zJ I A G J B ng nk nh ns kept next) {s g : Nat} (hs : s < ns) (hg : g < ng) : zGd (zGo (B 3) (B 0) nk s g) := by
  intro k r v st h
  by_cases hk : k < nk
  · obtain ⟨q, r', v', n', _, a1, a2, a3, a4, _, _, _, _, _, _, _, _, e⟩ := zx_go hJ hs hk g hg
    rw [e] at h
    by_cases c : q = g
    · rw [if_pos c] at h
      have h := Option.some.inj h
      have h1 : r' = r := (Prod.mk.inj h).1
      have h2 := (Prod.mk.inj h).2
      have h3 : v' = v := (Prod.mk.inj h2).1
      have h4 : n' = st := (Prod.mk.inj h2).2
      subst h1 h3 h4
      exact ⟨a1, a2, a3, a4⟩
    · rw [if_neg c] at h; cases h
  · rw [zGo_none (by omega)] at h; cases h
end ZGO
theorem zc_pred {c : Nat} (h : 0 < c) : nI c + -nI 1 = nI (c - 1) := sb_m1 h
/-! a row of the class: adding lots -/
theorem zx_lot_l {pr wo held : Nat} (hp : 1 ≤ pr) (hp2 : pr ≤ 400) (hh : held ≤ 400) (hw : wo ≤ 39600) (g : Nat → Nat) (hg : ∀ c, c ≤ held → g c ≤ 39600) : ∀ (d c fu : Nat) (f : Nat → Int32), c + 1 ≤ pr + d → d < fu → c ≤ held → (∀ x, x ≤ c → f x = nI (g x)) → ∃ f', f_X0_addLot_l3 401 (nI pr) (nI wo) fu f (nI c) = some f' ∧ (∀ x, x ≤ c → f' x = nI (if pr ≤ x then (if g x < g (x - pr) + wo then g (x - pr) + wo else g x) else g x)) ∧ ∀ x, c < x → f' x = f x := by
  intro d
  induction d with
  | zero =>
    intro c fu f h h1 h2 h3
    obtain ⟨a, rfl⟩ : ∃ a, fu = a + 1 := ⟨fu - 1, by omega⟩
    refine ⟨f, ?_, fun x hx => by rw [if_neg (by omega), h3 x hx], fun _ _ => rfl⟩
    rw [f_X0_addLot_l3, if_pos (nI_lt (by omega) (by omega))]
  | succ d ih =>
    intro c fu f h h1 h2 h3
    obtain ⟨a, rfl⟩ : ∃ a, fu = a + 1 := ⟨fu - 1, by omega⟩
    by_cases hc : c < pr
    · refine ⟨f, ?_, fun x hx => by rw [if_neg (by omega), h3 x hx], fun _ _ => rfl⟩
      rw [f_X0_addLot_l3, if_pos (nI_lt hc (by omega))]
    · have e1 := h3 c (Nat.le_refl _)
      have e2 := h3 (c - pr) (by omega)
      have b1 := hg c h2
      have b2 := hg (c - pr) (by omega)
      have em : (if nI (g c) < nI (g (c - pr)) + nI wo then nI (g (c - pr)) + nI wo else nI (g c)) = nI (if g c < g (c - pr) + wo then g (c - pr) + wo else g c) := by
        rw [nI_add]
        by_cases z : g c < g (c - pr) + wo
        · rw [if_pos z, if_pos (nI_lt z (by omega))]
        · rw [if_neg z, if_neg (nI_nlt (by omega) (by omega))]
      obtain ⟨f', i1, i2, i3⟩ := ih (c - 1) a (upd f c (nI (if g c < g (c - pr) + wo then g (c - pr) + wo else g c))) (by omega) (by omega) (by omega) (fun x hx => by rw [zu_ne (by omega), h3 x (by omega)])
      refine ⟨f', ?_, ?_, ?_⟩
      · refine Eq.trans ?_ i1
        rw [f_X0_addLot_l3, if_neg (nI_nlt (by omega) (by omega)), zb_ld (by omega) (by omega), pk_sub (by omega), zb_ld (by omega) (by omega), e1, e2, zb_let, em, zb_st (by omega) (by omega), zb_let, zb_let, zl_1, zc_pred (by omega)]
      · intro x hx
        by_cases z : x = c
        · rw [z, i3 c (by omega), zu_same, if_pos (show pr ≤ c by omega)]
        · exact i2 x (by omega)
      · intro x hx
        rw [i3 x (by omega), zu_ne (by omega)]
theorem zKx_le {f : Nat → Nat} {r v st c x : Nat} (hr : 1 ≤ r) (hv : v ≤ 99) (hf : ∀ c, f c ≤ 99 * c) (h : zKx f r v st c x) : x ≤ 99 * c := by
  obtain ⟨⟨n, n1, n2, n3⟩, _⟩ := h
  have h1 := hf (c - n * r)
  have h2 : n * v ≤ 99 * (n * r) := by
    have : n * v ≤ n * (99 * r) := Nat.mul_le_mul_left n (by omega)
    rw [Nat.mul_left_comm] at this
    exact this
  omega
theorem zx_addu_l {k r v most held : Nat} {f : Nat → Nat} (hk : k < 6) (hr : 1 ≤ r) (hv : v ≤ 99) (hm : most * r ≤ held) (hh : held ≤ 400) (hf : ∀ c, f c ≤ 99 * c) : ∀ (d lot fu : Nat) (A : Nat → Nat → Int32) (S : Nat) (g : Nat → Nat), most + 1 ≤ lot + d → d < fu → 1 ≤ lot → lot ≤ 1000 → (lot ≤ most → S + 1 = lot) → (most < lot → S = most) → (∀ c, c ≤ held → A (2 + k) c = nI (g c) ∧ zKx f r v S c (g c)) → ∃ A', f_X0_addUnits_l6 (nI k) (nI most) (nI r) (nI v) (nI held) fu A (nI (most - S)) (nI lot) = some A' ∧ (∀ a, a ≠ 2 + k → A' a = A a) ∧ (∀ c, c ≤ held → ∃ x, A' (2 + k) c = nI x ∧ zKx f r v most c x) := by
  have hmost : most ≤ 400 := by
    have : most * 1 ≤ most * r := Nat.mul_le_mul_left most hr
    omega
  intro d
  induction d with
  | zero =>
    intro lot fu A S g h h1 h2 h6 h3 h4 h5
    obtain ⟨a, rfl⟩ : ∃ a, fu = a + 1 := ⟨fu - 1, by omega⟩
    have hS := h4 (by omega)
    subst hS
    refine ⟨A, ?_, fun _ _ => rfl, fun c hc => ⟨g c, h5 c hc⟩⟩
    rw [f_X0_addUnits_l6, if_pos (nI_lt (by omega) (by omega))]
  | succ d ih =>
    intro lot fu A S g h h1 h2 h6 h3 h4 h5
    obtain ⟨a, rfl⟩ : ∃ a, fu = a + 1 := ⟨fu - 1, by omega⟩
    by_cases hl : most < lot
    · have hS := h4 hl
      subst hS
      refine ⟨A, ?_, fun _ _ => rfl, fun c hc => ⟨g c, h5 c hc⟩⟩
      rw [f_X0_addUnits_l6, if_pos (nI_lt (by omega) (by omega))]
    · have hS := h3 (by omega)
      obtain ⟨q, hq⟩ : ∃ q, q = (if most - S < lot then most - S else lot) := ⟨_, rfl⟩
      have q1 : 1 ≤ q ∧ q ≤ most - S ∧ q ≤ lot := by rw [hq]; split <;> omega
      have q2 : q = most - S ∧ most - S < lot ∨ q = lot ∧ lot ≤ most - S := by rw [hq]; split <;> omega
      have qr : q * r ≤ most * r := Nat.mul_le_mul_right r (by omega)
      have qr1 : 1 ≤ q * r := Nat.mul_le_mul q1.1 hr
      have qv : q * v ≤ 400 * 99 := Nat.mul_le_mul (by omega) hv
      have gb : ∀ c, c ≤ held → g c ≤ 39600 := fun c hc => by
        have := zKx_le hr hv hf (h5 c hc).2
        omega
      obtain ⟨f', i1, i2, i3⟩ := zx_lot_l qr1 (by omega : q * r ≤ 400) hh (by omega : q * v ≤ 39600) g gb 401 held 100000 (A (2 + k)) (by omega) (by omega) (Nat.le_refl _) (fun x hx => (h5 x hx).1)
      have i1 : f_X0_addLot 401 (A (2 + k)) (nI (q * r)) (nI (q * v)) (nI held) = some f' := i1
      have hmin : (if nI (most - S) < nI lot then nI (most - S) else nI lot) = nI q := by rw [zmin_n (by omega) (by omega), hq]
      obtain ⟨A', j1, j2, j3⟩ := ih (lot * 2) a (qf_up A (2 + k) f') (S + q) (fun x => if q * r ≤ x then (if g x < g (x - q * r) + q * v then g (x - q * r) + q * v else g x) else g x) (by omega) (by omega) (by omega) (by omega) (by omega) (by omega) (fun c hc => by
        rw [zu_up]
        refine ⟨i2 c hc, ?_⟩
        exact zKx_lot (h5 c hc).2 (fun hle => (h5 (c - q * r) (by omega)).2) q1.1 (by omega))
      refine ⟨A', ?_, ?_, j3⟩
      · refine Eq.trans ?_ j1
        rw [f_X0_addUnits_l6, if_neg (nI_nlt (by omega) (by omega)), zl_400, if_neg (nI_nlt (by omega) (by omega)), hmin, zb_let, zb_st (by omega) (by omega), pk_mul, pk_mul, i1, zb_bd, zb_let, pk_sub (by omega), zb_let, zl_2, pk_mul, zb_let, show most - S - q = most - (S + q) by omega]
      · intro a ha
        rw [j2 a ha, zu_upn ha]
theorem zx_addu {k r v most held : Nat} {f : Nat → Nat} (hk : k < 6) (hr : 1 ≤ r) (hv : v ≤ 99) (hm : most * r ≤ held) (hh : held ≤ 400) (hf : ∀ c, f c ≤ 99 * c) {A : Nat → Nat → Int32} (hA : ∀ c, c ≤ held → A (2 + k) c = nI (f c)) : ∃ A', f_X0_addUnits A (nI k) (nI most) (nI r) (nI v) (nI held) = some A' ∧ (∀ a, a ≠ 2 + k → A' a = A a) ∧ (∀ c, c ≤ held → ∃ x, A' (2 + k) c = nI x ∧ zKx f r v most c x) := by
  have hmost : most ≤ 400 := by
    have : most * 1 ≤ most * r := Nat.mul_le_mul_left most hr
    omega
  exact zx_addu_l hk hr hv hm hh hf 401 1 100000 A 0 f (by omega) (by omega) (by omega) (by omega) (by omega) (by omega) (fun c hc => ⟨hA c hc, zM2_spec f r v c 0⟩)
/-! the class: weighing a group -/
section ZW
variable {I : Nat → Int32} {A : Nat → Nat → Int32} {G : Nat → Int32 × (Nat → Nat → Int32)} {T : Nat} {J : Nat → Int32} {B : Nat → Nat → Int32} {w : Int64} {ng nk nh ns kept next : Nat}
theorem zx_weigh_l {s g held : Nat} (hs : s < ns) (hg : g < ng) (hh : held ≤ 400) : ∀ (m fu : Nat) (A : Nat → Nat → Int32), zJ I A G J B ng nk nh ns kept next → m ≤ nk → m < fu → (∀ j, m ≤ j → j ≤ nk → ∀ c, c ≤ held → A (2 + j) c = nI (zVd (zGo (B 3) (B 0) nk s g) (6 - j) c)) → ∃ A', f_X0_weigh_r19_r43_l8 I (nI s) (nI g) (nI held) fu A (if m = 0 then -nI 1 else nI (m - 1)) = some A' ∧ (∀ a, (a < 2 ∨ 2 + nk ≤ a) → A' a = A a) ∧ (∀ j, j ≤ nk → ∀ c, c ≤ held → A' (2 + j) c = nI (zVd (zGo (B 3) (B 0) nk s g) (6 - j) c)) := by
  intro m
  induction m with
  | zero =>
    intro fu A hJ hm h1 hA
    obtain ⟨a, rfl⟩ : ∃ a, fu = a + 1 := ⟨fu - 1, by omega⟩
    refine ⟨A, ?_, fun _ _ => rfl, fun j hj c hc => hA j (by omega) hj c hc⟩
    rw [if_pos rfl, f_X0_weigh_r19_r43_l8, if_pos (by decide)]
  | succ k ih =>
    intro fu A hJ hm h1 hA
    obtain ⟨a, rfl⟩ : ∃ a, fu = a + 1 := ⟨fu - 1, by omega⟩
    have hb := zp_b hJ
    have hgd := zGo_ok hJ hs hg
    obtain ⟨q, r, v, n, hq, r1, r2, v1, n1, a1, a2, a3, a4, _, _, _, _, e⟩ := zx_go hJ hs (by omega : k < nk) g hg
    have hcp : ∀ c, c ≤ held → va_cpy (A (2 + (k + 1))) (A (2 + k)) 0 0 (held + 1) c = nI (zVd (zGo (B 3) (B 0) nk s g) (6 - (k + 1)) c) := fun c hc => by
      rw [zx_cpy (by omega), hA (k + 1) (by omega) hm c hc]
    have hd : 6 - k = (6 - (k + 1)) + 1 := by omega
    have hk5 : 5 - (6 - (k + 1)) = k := by omega
    obtain ⟨A1, hA1⟩ : ∃ A1, A1 = qf_up A (2 + k) (va_cpy (A (2 + (k + 1))) (A (2 + k)) 0 0 (held + 1)) := ⟨_, rfl⟩
    have o1 : ∀ a, a ≠ 2 + k → A1 a = A a := fun a ha => by rw [hA1, zu_upn ha]
    have o2 : ∀ c, c ≤ held → A1 (2 + k) c = nI (zVd (zGo (B 3) (B 0) nk s g) (6 - (k + 1)) c) := fun c hc => by rw [hA1, zu_up, hcp c hc]
    have hy : (if k + 1 = 0 then -nI 1 else nI (k + 1 - 1)) = nI k := by rw [if_neg (by omega), Nat.add_sub_cancel]
    have front : f_X0_weigh_r19_r43_l8 I (nI s) (nI g) (nI held) (a + 1) A (nI k) = (qf_ld 6 (A1 19) (nI k) fun x5 =>
    if x5 = nI g then (qf_bd (f_X5_shelf (nI s) (nI k)) fun r6 =>
      qf_ld 24 (A1 39) r6 fun x7 =>
      qf_ld 6 (A1 20) (nI k) fun x8 =>
      qf_bd (f_X7_quotient (nI held) x8) fun r9 =>
      qf_let ((if r9 < x7 then r9 else x7)) fun x10 =>
      qf_ld 6 (A1 20) (nI k) fun x11 =>
      qf_ld 6 (A1 21) (nI k) fun x12 =>
      qf_bd (f_X0_addUnits A1 (nI k) x10 x11 x12 (nI held)) fun A13 =>
      f_X0_weigh_r19_r43_j102 I (fun z0 z1 => f_X0_weigh_r19_r43_l8 I (nI s) (nI g) (nI held) a z0 z1) A13 (nI s) (nI g) (nI held) (nI k)) else (f_X0_weigh_r19_r43_j102 I (fun z0 z1 => f_X0_weigh_r19_r43_l8 I (nI s) (nI g) (nI held) a z0 z1) A1 (nI s) (nI g) (nI held) (nI k))) := by
      rw [f_X0_weigh_r19_r43_l8, if_neg (nI_pos (by omega)), nI_1, zb_st (by omega) (by omega), zb_st (by omega) (by omega), nI_1, nI_clamp (by omega), zb_ck ⟨⟨by decide, by decide, nI_pos (by omega)⟩, (show 0 + (held + 1) ≤ 401 by omega), (show 0 + (held + 1) ≤ 401 by omega)⟩, zb_let, hA1, show Int32.toNatClampNeg (0 : Int32) = 0 from rfl]
    have next7 : ∀ A2 : Nat → Nat → Int32, f_X0_weigh_r19_r43_j102 I (fun z0 z1 => f_X0_weigh_r19_r43_l8 I (nI s) (nI g) (nI held) a z0 z1) A2 (nI s) (nI g) (nI held) (nI k) = f_X0_weigh_r19_r43_l8 I (nI s) (nI g) (nI held) a A2 (if k = 0 then -nI 1 else nI (k - 1)) := by
      intro A2
      unfold f_X0_weigh_r19_r43_j102
      rw [zb_let]
      by_cases c : k = 0
      · subst c; rfl
      · rw [if_neg c, zl_1, zc_pred (by omega)]
    have fin : ∀ A2 : Nat → Nat → Int32, (∀ a, a ≠ 2 + k → A2 a = A a) → (∀ c, c ≤ held → A2 (2 + k) c = nI (zVd (zGo (B 3) (B 0) nk s g) (6 - k) c)) → ∃ A', f_X0_weigh_r19_r43_l8 I (nI s) (nI g) (nI held) a A2 (if k = 0 then -nI 1 else nI (k - 1)) = some A' ∧ (∀ a, (a < 2 ∨ 2 + nk ≤ a) → A' a = A a) ∧ (∀ j, j ≤ nk → ∀ c, c ≤ held → A' (2 + j) c = nI (zVd (zGo (B 3) (B 0) nk s g) (6 - j) c)) := by
      intro A2 p1 p2
      obtain ⟨A', i1, i2, i3⟩ := ih a A2 (zJ_go hJ (fun _ _ => rfl) (fun b hb => p1 b (by omega)) (fun _ _ => rfl) (fun _ _ => rfl)) (by omega) (by omega) (fun j j1 j2 c hc => by
        by_cases z : j = k
        · rw [z]; exact p2 c hc
        · rw [p1 _ (by omega)]; exact hA j (by omega) j2 c hc)
      exact ⟨A', i1, fun a ha => by rw [i2 a ha, p1 a (by omega)], i3⟩
    rw [hy]
    by_cases c : q = g
    · rw [if_pos c] at e
      have hst : (if held / r < n then held / r else n) * r ≤ held := by
        have h1 : held / r * r ≤ held := Nat.div_mul_le_self held r
        by_cases z : held / r < n
        · rw [if_pos z]; exact h1
        · rw [if_neg z]
          have : n * r ≤ held / r * r := Nat.mul_le_mul_right r (by omega)
          omega
      obtain ⟨A2, u1, u2, u3⟩ := zx_addu (k := k) (by omega) r1 v1 hst hh (fun c => zVd_le hgd (6 - (k + 1)) c) o2
      obtain ⟨A', i1, i2, i3⟩ := fin A2 (fun a ha => by rw [u2 a ha, o1 a ha]) (fun x hx => by
        obtain ⟨y, y1, y2⟩ := u3 x hx
        rw [y1, hd]
        refine congrArg nI (zKx_uniq (zKx_most y2 (fun m hm2 => ?_)) (zVd_some (by rw [hk5]; exact e) x))
        have hdiv : m ≤ held / r := (Nat.le_div_iff_mul_le (by omega)).mpr (by omega)
        split <;> omega)
      refine ⟨A', ?_, i2, i3⟩
      have hl := Nat.div_le_self held r
      rw [front, zb_ld (by omega) (by omega), o1 19 (by omega), a1, c, if_pos rfl]
      unfold f_X5_shelf
      rw [zb_bd, zl_6, pk_mul, nI_add, zb_ld (by omega) (by omega), o1 39 (by omega), a4, zb_ld (by omega) (by omega), o1 20 (by omega), a2, zx_quo (by omega) (by omega) (by omega), zb_bd, zmin_n (by omega) (by omega), zb_let, zb_ld (by omega) (by omega), a2, zb_ld (by omega) (by omega), o1 21 (by omega), a3, u1, zb_bd, next7]
      exact i1
    · rw [if_neg c] at e
      obtain ⟨A', i1, i2, i3⟩ := fin A1 o1 (fun x hx => by rw [o2 x hx, hd, zVd_none (by rw [hk5]; exact e)])
      refine ⟨A', ?_, i2, i3⟩
      rw [front, zb_ld (by omega) (by omega), o1 19 (by omega), a1, if_neg (by rw [nI_eq (by omega) (by omega)]; exact c), next7]
      exact i1
end ZW
