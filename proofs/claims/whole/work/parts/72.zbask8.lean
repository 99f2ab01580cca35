/-! the number of units of each good, and what is left -/
def zMi (a b : Nat) : Nat := if a < b then a else b
def zP8 (gd : Nat → Option (Nat × Nat × Nat)) (k r v L n : Nat) : Bool := decide (n * r ≤ L ∧ zTm gd (5 - k) r v L n = zWd gd (6 - k) L)
def zN1 (gd : Nat → Option (Nat × Nat × Nat)) (k L : Nat) : Nat := match gd k with
  | none => 0
  | some (r, v, st) => zTop (zP8 gd k r v L) (zMi (L / r) st)
def zC1 (gd : Nat → Option (Nat × Nat × Nat)) (k L : Nat) : Nat := match gd k with
  | none => 0
  | some (r, _, _) => zN1 gd k L * r
def zV1 (gd : Nat → Option (Nat × Nat × Nat)) (k L : Nat) : Nat := match gd k with
  | none => 0
  | some (_, v, _) => zN1 gd k L * v
def zLk (gd : Nat → Option (Nat × Nat × Nat)) (T : Nat) : Nat → Nat
  | 0 => T
  | k + 1 => zLk gd T k - zC1 gd k (zLk gd T k)
theorem zLk_le (gd : Nat → Option (Nat × Nat × Nat)) (T : Nat) : ∀ k, zLk gd T k ≤ T := by
  intro k
  induction k with
  | zero => exact Nat.le_refl _
  | succ k ih => exact Nat.le_trans (Nat.sub_le _ _) ih
section ZGR
variable {gd : Nat → Option (Nat × Nat × Nat)} {k r v st L : Nat}
theorem zgr_ex (hg : zGd gd) (hk : k ≤ 5) (h : gd k = some (r, v, st)) (hL : L ≤ 400) : ∃ n, n ≤ zMi (L / r) st ∧ zP8 gd k r v L n = true := by
  have hr := (hg _ _ _ _ h).1
  have hk5 : 5 - (5 - k) = k := by omega
  obtain ⟨n, n1, n2, n3⟩ := zdp_ex (d := 5 - k) hg (by rw [hk5]; exact h) hL
  rw [show 5 - k + 1 = 6 - k by omega] at n3
  refine ⟨n, ?_, decide_eq_true ⟨n2, n3⟩⟩
  have : n ≤ L / r := (Nat.le_div_iff_mul_le (by omega)).mpr n2
  unfold zMi
  split <;> omega
theorem zgr_eq (h : gd k = some (r, v, st)) : zN1 gd k L = zTop (zP8 gd k r v L) (zMi (L / r) st) ∧ zC1 gd k L = zN1 gd k L * r ∧ zV1 gd k L = zN1 gd k L * v := by
  refine ⟨?_, ?_, ?_⟩
  · unfold zN1
    rw [h]
  · show (match gd k with | none => 0 | some (r, _, _) => zN1 gd k L * r) = _
    rw [h]
  · show (match gd k with | none => 0 | some (_, v, _) => zN1 gd k L * v) = _
    rw [h]
theorem zgr_sp (hg : zGd gd) (hk : k ≤ 5) (h : gd k = some (r, v, st)) (hL : L ≤ 400) : zN1 gd k L ≤ zMi (L / r) st ∧ zN1 gd k L * r ≤ L ∧ zTm gd (5 - k) r v L (zN1 gd k L) = zWd gd (6 - k) L ∧ zN1 gd k L * r + zCd gd (5 - k) (L - zN1 gd k L * r) = zCd gd (6 - k) L ∧ zN1 gd k L * v + zVd gd (5 - k) (L - zN1 gd k L * r) = zVd gd (6 - k) L := by
  have hr := (hg _ _ _ _ h).1
  have hk5 : 5 - (5 - k) = k := by omega
  rw [(zgr_eq h).1]
  obtain ⟨a1, a2, _⟩ := zTop_spec (zP8 gd k r v L) (zMi (L / r) st) (zgr_ex hg hk h hL)
  have a3 := of_decide_eq_true a2
  have hst : zTop (zP8 gd k r v L) (zMi (L / r) st) ≤ st := by
    unfold zMi at a1 ⊢
    revert a1
    split <;> omega
  have hr2 := zdp_rest (d := 5 - k) (by rw [hk5]; exact h) hL hst a3.1 (by rw [show 5 - k + 1 = 6 - k by omega]; exact a3.2)
  rw [show 5 - k + 1 = 6 - k by omega] at hr2
  exact ⟨a1, a3.1, a3.2, hr2.1, hr2.2⟩
/-- the class finds the same number -/
theorem zgr_7 (hg : zGd gd) (hk : k ≤ 5) (h : gd k = some (r, v, st)) (hL : L ≤ 400) : zTop (fun n => zVd gd (5 - k) (zCd gd (6 - k) L - n * r) + n * v == zVd gd (6 - k) (zCd gd (6 - k) L)) (zMi (zCd gd (6 - k) L / r) st) = zN1 gd k L := by
  have hr := (hg _ _ _ _ h).1
  have hk5 : 5 - (5 - k) = k := by omega
  have key : ∀ n, (n ≤ zMi (L / r) st ∧ zP8 gd k r v L n = true) ↔ (n ≤ zMi (zCd gd (6 - k) L / r) st ∧ (zVd gd (5 - k) (zCd gd (6 - k) L - n * r) + n * v == zVd gd (6 - k) (zCd gd (6 - k) L)) = true) := by
    intro n
    have e1 : n ≤ zMi (L / r) st ↔ n * r ≤ L ∧ n ≤ st := by
      have : n ≤ L / r ↔ n * r ≤ L := Nat.le_div_iff_mul_le (by omega)
      unfold zMi
      split <;> omega
    have e2 : n ≤ zMi (zCd gd (6 - k) L / r) st ↔ n * r ≤ zCd gd (6 - k) L ∧ n ≤ st := by
      have : n ≤ zCd gd (6 - k) L / r ↔ n * r ≤ zCd gd (6 - k) L := Nat.le_div_iff_mul_le (by omega)
      unfold zMi
      split <;> omega
    rw [e1, e2]
    constructor
    · rintro ⟨⟨p1, p2⟩, p3⟩
      have p3 := of_decide_eq_true p3
      have := (zdp_iff (d := 5 - k) hg (by rw [hk5]; exact h) hL p2).mp (by rw [show 5 - k + 1 = 6 - k by omega]; exact p3)
      rw [show 5 - k + 1 = 6 - k by omega] at this
      refine ⟨⟨this.1, p2⟩, ?_⟩
      rw [Nat.add_comm, this.2]
      exact beq_self_eq_true _
    · rintro ⟨⟨p1, p2⟩, p3⟩
      have p3 := eq_of_beq p3
      have := (zdp_iff (d := 5 - k) (n := n) hg (by rw [hk5]; exact h) hL p2).mpr (by rw [show 5 - k + 1 = 6 - k by omega]; exact ⟨p1, by rw [Nat.add_comm]; exact p3⟩)
      rw [show 5 - k + 1 = 6 - k by omega] at this
      exact ⟨⟨this.1, p2⟩, decide_eq_true this⟩
  rw [(zgr_eq h).1]
  refine (zTop_same (zgr_ex hg hk h hL) key).symm
end ZGR
/-! the class: cheapest, and the units -/
section ZW2
variable {I : Nat → Int32} {A : Nat → Nat → Int32} {G : Nat → Int32 × (Nat → Nat → Int32)} {T : Nat} {J : Nat → Int32} {B : Nat → Nat → Int32} {w : Int64} {ng nk nh ns kept next : Nat}
theorem zx_cheap {f : Nat → Nat} {held : Nat} (hh : held ≤ 400) (hf : ∀ c, f c ≤ 99 * c) {A : Nat → Nat → Int32} (hA : ∀ c, c ≤ held → A 2 c = nI (f c)) : ∀ (d i fu : Nat), i + d = held → d < fu → f_X0_cheapest_l2 A (nI held) fu (nI i) = some (nI (zLs (fun x => f x == f held) d i)) := by
  intro d
  induction d with
  | zero =>
    intro i fu h h1
    obtain ⟨a, rfl⟩ : ∃ a, fu = a + 1 := ⟨fu - 1, by omega⟩
    have : i = held := by omega
    rw [f_X0_cheapest_l2, this, if_pos (nI_le (Nat.le_refl _) (by omega))]
    rfl
  | succ d ih =>
    intro i fu h h1
    obtain ⟨a, rfl⟩ : ∃ a, fu = a + 1 := ⟨fu - 1, by omega⟩
    have b1 := hf i
    have b2 := hf held
    rw [f_X0_cheapest_l2, if_neg (nI_ge (by omega) (by omega)), zl_0, zb_st (by omega) (by omega), zb_ld (by omega) (by omega), zb_st (by omega) (by omega), zb_ld (by omega) (by omega), show 2 + 0 = 2 from rfl, hA i (by omega), hA held (Nat.le_refl _)]
    unfold zLs
    by_cases c : f i = f held
    · rw [if_pos (congrArg nI c), if_pos (by rw [c]; exact beq_self_eq_true _)]
    · rw [if_neg (fun z => c ((nI_eq (by omega) (by omega)).mp z)), if_neg (fun z => c (eq_of_beq z)), zb_let, nI_1]
      exact ih (i + 1) a (by omega) (by omega)
theorem zx_mwl {gd : Nat → Option (Nat × Nat × Nat)} (hg : zGd gd) {k r v R held : Nat} (hk : k ≤ 5) (hr : 1 ≤ r) (hv : v ≤ 99) (hR : R ≤ held) (hh : held ≤ 400) {A : Nat → Nat → Int32} (h1 : ∀ c, c ≤ held → A (2 + k) c = nI (zVd gd (6 - k) c)) (h2 : ∀ c, c ≤ held → A (2 + (k + 1)) c = nI (zVd gd (5 - k) c)) : ∀ (S fu : Nat), S < fu → S * r ≤ R → f_X0_mostWithoutLoss_l3 A (nI k) (nI r) (nI v) (nI R) fu (nI S) = some (nI (zTop (fun n => zVd gd (5 - k) (R - n * r) + n * v == zVd gd (6 - k) R) S)) := by
  intro S
  induction S with
  | zero =>
    intro fu h1 _
    obtain ⟨a, rfl⟩ : ∃ a, fu = a + 1 := ⟨fu - 1, by omega⟩
    rw [f_X0_mostWithoutLoss_l3, if_pos (by decide)]
    rfl
  | succ S ih =>
    intro fu hfu hS
    obtain ⟨a, rfl⟩ : ∃ a, fu = a + 1 := ⟨fu - 1, by omega⟩
    have b1 := zVd_le hg (5 - k) (R - (S + 1) * r)
    have b2 := zVd_le hg (6 - k) R
    have b3 : (S + 1) * v ≤ 99 * ((S + 1) * r) := by
      have : (S + 1) * v ≤ (S + 1) * (99 * r) := Nat.mul_le_mul_left _ (by omega)
      rw [Nat.mul_left_comm] at this
      exact this
    have b4 : (S + 1) * 1 ≤ (S + 1) * r := Nat.mul_le_mul_left _ hr
    rw [f_X0_mostWithoutLoss_l3, if_neg (nI_nle (by omega) (by omega)), nI_1, zb_st (by omega) (by omega), pk_mul, pk_sub hS, zb_ld (by omega) (by omega), zb_st (by omega) (by omega), zb_ld (by omega) (by omega), h2 _ (by omega), h1 R hR, pk_mul, nI_add]
    unfold zTop
    by_cases c : zVd gd (5 - k) (R - (S + 1) * r) + (S + 1) * v = zVd gd (6 - k) R
    · rw [if_pos (congrArg nI c), if_pos (by rw [c]; exact beq_self_eq_true _)]
    · rw [if_neg (fun z => c ((nI_eq (by omega) (by omega)).mp z)), if_neg (fun z => c (eq_of_beq z)), zb_let, zl_1, zc_pred (by omega), Nat.add_sub_cancel]
      exact ih a (by omega) (by
        have : S * r ≤ (S + 1) * r := Nat.mul_le_mul_right r (by omega)
        omega)
theorem zx_fill7 {s g held : Nat} (hs : s < ns) (hg : g < ng) (hh : held ≤ 400) : ∀ (d k fu : Nat) (A : Nat → Nat → Int32), zJ I A G J B ng nk nh ns kept next → k + d = nk → d < fu → (∀ j, j ≤ nk → ∀ c, c ≤ held → A (2 + j) c = nI (zVd (zGo (B 3) (B 0) nk s g) (6 - j) c)) → ∃ A', f_X0_fill_r19_r43_l12 I (nI s) (nI g) fu A (nI (zCd (zGo (B 3) (B 0) nk s g) (6 - k) (zLk (zGo (B 3) (B 0) nk s g) held k))) (nI k) = some A' ∧ (∀ a, a ≠ 9 → A' a = A a) ∧ (∀ j, A' 9 j = if k ≤ j ∧ j < nk ∧ (zGo (B 3) (B 0) nk s g j).isSome = true then nI (zN1 (zGo (B 3) (B 0) nk s g) j (zLk (zGo (B 3) (B 0) nk s g) held j)) else A 9 j) := by
  intro d
  induction d with
  | zero =>
    intro k fu A hJ h h1 hA
    obtain ⟨a, rfl⟩ : ∃ a, fu = a + 1 := ⟨fu - 1, by omega⟩
    have hb := zp_b hJ
    refine ⟨A, ?_, fun _ _ => rfl, fun j => (if_neg (by omega)).symm⟩
    rw [f_X0_fill_r19_r43_l12, zp_I13 hJ, if_pos (nI_le (by omega) (by omega))]
  | succ d ih =>
    intro k fu A hJ h h1 hA
    obtain ⟨a, rfl⟩ : ∃ a, fu = a + 1 := ⟨fu - 1, by omega⟩
    have hb := zp_b hJ
    have hgd := zGo_ok hJ hs hg
    obtain ⟨q, r, v, n, hq, r1, r2, v1, n1, a1, a2, a3, a4, _, _, _, _, e⟩ := zx_go hJ hs (by omega : k < nk) g hg
    have hL := zLk_le (zGo (B 3) (B 0) nk s g) held k
    have hCL := (zCd_spec (zGo (B 3) (B 0) nk s g) (6 - k) (zLk (zGo (B 3) (B 0) nk s g) held k)).1
    have hLs : zLk (zGo (B 3) (B 0) nk s g) held (k + 1) = zLk (zGo (B 3) (B 0) nk s g) held k - zC1 (zGo (B 3) (B 0) nk s g) k (zLk (zGo (B 3) (B 0) nk s g) held k) := rfl
    by_cases c : q = g
    · rw [if_pos c] at e
      obtain ⟨g1, g2, g3⟩ := zgr_eq (L := zLk (zGo (B 3) (B 0) nk s g) held k) e
      obtain ⟨s1, s2, s3, s4, s5⟩ := zgr_sp hgd (by omega) e (by omega : zLk (zGo (B 3) (B 0) nk s g) held k ≤ 400)
      have z7 := zgr_7 hgd (by omega) e (by omega : zLk (zGo (B 3) (B 0) nk s g) held k ≤ 400)
      rw [g2] at hLs
      generalize hLe : zLk (zGo (B 3) (B 0) nk s g) held k = L at *
      generalize hRe : zCd (zGo (B 3) (B 0) nk s g) (6 - k) L = R at *
      generalize hNe : zN1 (zGo (B 3) (B 0) nk s g) k L = N at *
      have hdl := Nat.div_le_self R r
      have hms : zMi (R / r) n * r ≤ R := by
        have h1 : R / r * r ≤ R := Nat.div_mul_le_self R r
        have h2 : zMi (R / r) n * r ≤ R / r * r := Nat.mul_le_mul_right r (by unfold zMi; split <;> omega)
        omega
      have hmb : zMi (R / r) n ≤ R / r := by unfold zMi; split <;> omega
      have hw := zx_mwl hgd (by omega : k ≤ 5) r1 v1 (by omega : R ≤ held) hh (hA k (by omega)) (by rw [show 5 - k = 6 - (k + 1) by omega]; exact hA (k + 1) (by omega)) (zMi (R / r) n) 100000 (by omega) hms
      rw [z7] at hw
      have hw : f_X0_mostWithoutLoss A (nI k) (nI (zMi (R / r) n)) (nI r) (nI v) (nI R) = some (nI N) := hw
      have hmi : (if nI (R / r) < nI n then nI (R / r) else nI n) = nI (zMi (R / r) n) := zmin_n (by omega) (by omega)
      obtain ⟨A', i1, i2, i3⟩ := ih (k + 1) a (qf_up A 9 (upd (A 9) k (nI N))) (zJ_go hJ (fun _ _ => rfl) (fun b hb => zu_upn (by omega)) (fun _ _ => rfl) (fun _ _ => rfl)) (by omega) (by omega) (fun j hj c hc => by rw [zu_upn (by omega)]; exact hA j hj c hc)
      rw [hLs, show 6 - (k + 1) = 5 - k by omega, show zCd (zGo (B 3) (B 0) nk s g) (5 - k) (L - N * r) = R - N * r by omega] at i1
      refine ⟨A', ?_, ?_, ?_⟩
      · refine Eq.trans ?_ i1
        rw [f_X0_fill_r19_r43_l12, zp_I13 hJ, if_neg (nI_ge (by omega) (by omega)), zb_ld (by omega) (by omega), a1, c, if_pos rfl]
        unfold f_X5_shelf f_X0_fill_r19_r43_j112
        rw [zb_bd, zl_6, pk_mul, nI_add, zb_ld (by omega) (by omega), a4, zb_ld (by omega) (by omega), a2, zx_quo (by omega) (by omega) (by omega), zb_bd, hmi, zb_let, zb_ld (by omega) (by omega), a2, zb_ld (by omega) (by omega), a3, hw, zb_bd, zb_st (by omega) (by omega), zb_let, zb_ld (by omega) (by omega), zu_up, zu_same, zb_ld (by omega) (by omega), zu_upn (by omega), a2, pk_mul, pk_sub (by omega), zb_let, zb_let, nI_1]
      · intro b hb
        rw [i2 b hb, zu_upn hb]
      · intro j
        rw [i3 j, zu_up]
        by_cases z : j = k
        · subst z
          rw [if_neg (by omega), zu_same, if_pos ⟨Nat.le_refl _, by omega, by rw [e]; rfl⟩, hLe, hNe]
        · rw [zu_ne z]
          by_cases z2 : k + 1 ≤ j ∧ j < nk ∧ (zGo (B 3) (B 0) nk s g j).isSome = true
          · rw [if_pos z2, if_pos ⟨by omega, z2.2⟩]
          · rw [if_neg z2, if_neg (fun y => z2 ⟨by omega, y.2⟩)]
    · rw [if_neg c] at e
      have hc1 : zC1 (zGo (B 3) (B 0) nk s g) k (zLk (zGo (B 3) (B 0) nk s g) held k) = 0 := by
        unfold zC1
        rw [e]
      rw [hc1, Nat.sub_zero] at hLs
      obtain ⟨A', i1, i2, i3⟩ := ih (k + 1) a A hJ (by omega) (by omega) hA
      have hcd := zCd_none (gd := zGo (B 3) (B 0) nk s g) (d := 5 - k) (by rw [show 5 - (5 - k) = k by omega]; exact e) (zLk (zGo (B 3) (B 0) nk s g) held k)
      rw [show 5 - k + 1 = 6 - k by omega] at hcd
      rw [hLs, show 6 - (k + 1) = 5 - k by omega, ← hcd] at i1
      refine ⟨A', ?_, i2, ?_⟩
      · refine Eq.trans ?_ i1
        rw [f_X0_fill_r19_r43_l12, zp_I13 hJ, if_neg (nI_ge (by omega) (by omega)), zb_ld (by omega) (by omega), a1, if_neg (by rw [nI_eq (by omega) (by omega)]; exact c)]
        unfold f_X0_fill_r19_r43_j112
        rw [zb_let, nI_1]
      · intro j
        rw [i3 j]
        by_cases z : j = k
        · subst z
          rw [if_neg (by omega), if_neg (fun y => by rw [e] at y; exact absurd y.2.2 (by decide))]
        · by_cases z2 : k + 1 ≤ j ∧ j < nk ∧ (zGo (B 3) (B 0) nk s g j).isSome = true
          · rw [if_pos z2, if_pos ⟨by omega, z2.2⟩]
          · rw [if_neg z2, if_neg (fun y => z2 ⟨by omega, y.2⟩)]
end ZW2
