/-! ints of integers -/
def iI (z : Int) : Int32 := Int32.ofInt z
theorem iI_n (n : Nat) : nI n = iI (n : Int) := (Int32.ofInt_eq_ofNat (n := n)).symm
theorem iI_add (a b : Int) : iI a + iI b = iI (a + b) := (Int32.ofInt_add a b).symm
theorem iI_sub (a b : Int) : iI a - iI b = iI (a - b) := (Int32.ofInt_sub a b).symm
theorem iI_mul (a b : Int) : iI a * iI b = iI (a * b) := (Int32.ofInt_mul a b).symm
theorem iI_t {a : Int} (h1 : -2147483648 ≤ a) (h2 : a < 2147483648) : (iI a).toInt = a := Int32.toInt_ofInt_of_le (by omega) (by omega)
theorem iI_le {a b : Int} (h1 : -2147483648 ≤ a) (h2 : a < 2147483648) (h3 : -2147483648 ≤ b) (h4 : b < 2147483648) : iI a ≤ iI b ↔ a ≤ b := by
  rw [Int32.le_iff_toInt_le, iI_t h1 h2, iI_t h3 h4]
theorem iI_eq {a b : Int} (h1 : -2147483648 ≤ a) (h2 : a < 2147483648) (h3 : -2147483648 ≤ b) (h4 : b < 2147483648) : iI a = iI b ↔ a = b := by
  rw [← Int32.toInt_inj, iI_t h1 h2, iI_t h3 h4]
theorem zWd_b {gd : Nat → Option (Nat × Nat × Nat)} (hg : zGd gd) {d c : Nat} (hc : c ≤ 400) : -400 ≤ zWd gd d c ∧ zWd gd d c ≤ 39600000 := by
  have h1 := zVd_le hg d c
  have h2 := (zCd_spec gd d c).1
  unfold zWd
  omega
theorem zTm_b {gd : Nat → Option (Nat × Nat × Nat)} (hg : zGd gd) {d r v c n : Nat} (hr : 1 ≤ r) (hv : v ≤ 99) (hc : c ≤ 400) (hn : n * r ≤ c) : -400 ≤ zTm gd d r v c n ∧ zTm gd d r v c n ≤ 39600000 := by
  have h1 := zVd_le hg d (c - n * r)
  have h2 := (zCd_spec gd d (c - n * r)).1
  have h3 : n * v ≤ 99 * (n * r) := by
    have : n * v ≤ n * (99 * r) := Nat.mul_le_mul_left n (by omega)
    rw [Nat.mul_left_comm] at this
    exact this
  rw [zTm_eq]
  omega
def zBx (t : Nat → Int) : Nat → Int → Int
  | 0, b => b
  | n + 1, b => zBx t n (if t (n + 1) ≤ b then b else t (n + 1))
theorem zBx_eq {t : Nat → Int} {W : Int} : ∀ (S : Nat) (b : Int), (∀ j, 1 ≤ j → j ≤ S → t j ≤ W) → b ≤ W → (b = W ∨ ∃ j, 1 ≤ j ∧ j ≤ S ∧ t j = W) → zBx t S b = W := by
  intro S
  induction S with
  | zero =>
    intro b h1 h2 h3
    rcases h3 with h | ⟨j, j1, j2, _⟩
    · exact h
    · omega
  | succ S ih =>
    intro b h1 h2 h3
    have h4 := h1 (S + 1) (by omega) (Nat.le_refl _)
    unfold zBx
    refine ih _ (fun j j1 j2 => h1 j j1 (by omega)) (by split <;> omega) ?_
    rcases h3 with h | ⟨j, j1, j2, j3⟩
    · left; split <;> omega
    · by_cases c : j = S + 1
      · subst c
        left
        split <;> omega
      · exact Or.inr ⟨j, j1, by omega, j3⟩
section ZM8
variable {gd : Nat → Option (Nat × Nat × Nat)} {k r v held : Nat}
theorem zx_ww (A : Nat → Nat → Int32) (hk : k ≤ 5) (hh : held ≤ 400) (v4 : A 3 (26 + k) = nI r) (v5 : A 3 (32 + k) = nI v) (hA : ∀ x, x ≤ held → A 7 (401 * (k + 1) + x) = iI (zWd gd (5 - k) x)) {n c : Nat} (hc : c ≤ held) (hn : n * r ≤ c) : f_X8_worthWith A (nI k) (nI n) (nI c) = some (iI (zTm gd (5 - k) r v c n)) := by
  unfold f_X8_worthWith
  rw [zl_32, nI_add, zb_ld (by omega) (by omega), v5, zl_26, nI_add, zb_ld (by omega) (by omega), v4, zb_ld (by omega) (by omega), v4, zl_401, zl_1, nI_add, pk_mul, nI_add, pk_mul, pk_sub (by omega), zb_ld (by omega) (by omega), show 401 * (k + 1) + c - n * r = 401 * (k + 1) + (c - n * r) by omega, hA _ (by omega), zl_1000]
  rw [iI_n n, iI_n 1000, iI_n v, iI_n r, iI_mul, iI_sub, iI_mul, iI_add]
  rfl
theorem zx_w114 (hg : zGd gd) (hk : k ≤ 5) (hr : 1 ≤ r) (hv : v ≤ 99) (hh : held ≤ 400) (K30 : (Nat → Nat → Int32) → Int32 → Option (Nat → Nat → Int32)) (K38 : (Nat → Nat → Int32) → Int32 → Option (Nat → Nat → Int32)) (y1 y2 y3 : Int32) (A : Nat → Nat → Int32) (v4 : A 3 (26 + k) = nI r) (v5 : A 3 (32 + k) = nI v) (hA : ∀ x, x ≤ held → A 7 (401 * (k + 1) + x) = iI (zWd gd (5 - k) x)) {c : Nat} (hc : c ≤ held) : ∀ (n fu : Nat) (b : Int), n < fu → n * r ≤ c → -400 ≤ b → b ≤ 39600000 → f_X8_layWorth_l114 K30 K38 y1 y2 y3 (nI k) (nI c) fu A (iI b) (nI n) = K38 (qf_up A 7 (upd (A 7) (401 * k + c) (iI (zBx (zTm gd (5 - k) r v c) n b)))) (nI (c + 1)) := by
  intro n
  induction n with
  | zero =>
    intro fu b h1 _ _ _
    obtain ⟨a, rfl⟩ : ∃ a, fu = a + 1 := ⟨fu - 1, by omega⟩
    rw [f_X8_layWorth_l114, if_pos (by decide), zl_401, pk_mul, nI_add, zb_st (by omega) (by omega), zb_let, zb_let, nI_1]
    rfl
  | succ n ih =>
    intro fu b h1 hn b1 b2
    obtain ⟨a, rfl⟩ : ∃ a, fu = a + 1 := ⟨fu - 1, by omega⟩
    have hb : (n + 1) * 1 ≤ (n + 1) * r := Nat.mul_le_mul_left _ hr
    have hn2 : n * r ≤ (n + 1) * r := Nat.mul_le_mul_right r (by omega)
    have tb := zTm_b hg (d := 5 - k) hr hv (by omega : c ≤ 400) hn
    have ww := zx_ww A hk hh v4 v5 hA hc hn
    rw [f_X8_layWorth_l114, if_neg (nI_nle (by omega) (by omega)), ww, zb_bd]
    unfold zBx f_X8_layWorth_j146
    by_cases z : zTm gd (5 - k) r v c (n + 1) ≤ b
    · rw [if_pos ((iI_le (by omega) (by omega) (by omega) (by omega)).mpr z), if_pos z, zb_let, zl_1, zc_pred (by omega), Nat.add_sub_cancel]
      exact ih a b (by omega) (by omega) b1 b2
    · rw [if_neg (fun y => z ((iI_le (by omega) (by omega) (by omega) (by omega)).mp y)), if_neg z, zb_bd, zb_let, zl_1, zc_pred (by omega), Nat.add_sub_cancel]
      exact ih a _ (by omega) (by omega) (by omega) (by omega)
end ZM8
section ZW3
variable {I : Nat → Int32} {A : Nat → Nat → Int32} {G : Nat → Int32 × (Nat → Nat → Int32)} {T : Nat} {J : Nat → Int32} {B : Nat → Nat → Int32} {w : Int64} {ng nk nh ns kept next : Nat}
/-- one row of the reference -/
theorem zx_w38 (hJ : zJ I A G J B ng nk nh ns kept next) {s g k held : Nat} (hs : s < ns) (hg : g < ng) (hk : k ≤ 5) (hh : held ≤ 400) (K30 : (Nat → Nat → Int32) → Int32 → Option (Nat → Nat → Int32)) : ∀ (d c fu : Nat) (E : Nat → Nat → Int32), c + d = held + 1 → d < fu → (∀ b, b ≠ 7 → E b = B b) → (∀ x, x ≤ held → E 7 (401 * (k + 1) + x) = iI (zWd (zGo (B 3) (B 0) nk s g) (5 - k) x)) → ∃ W', f_X8_layWorth_l38 K30 (nI s) (nI g) (nI held) (nI k) fu E (nI c) = K30 (qf_up E 7 W') (nI k + -nI 1) ∧ (∀ x, c ≤ x → x ≤ held → W' (401 * k + x) = iI (zWd (zGo (B 3) (B 0) nk s g) (6 - k) x)) ∧ ∀ q, (q < 401 * k + c ∨ 401 * k + held < q) → W' q = E 7 q := by
  have hb := zp_b hJ
  have hgd := zGo_ok hJ hs hg
  have hF1 := zp_F1 hJ
  intro d
  induction d with
  | zero =>
    intro c fu E h h1 hE hA
    obtain ⟨a, rfl⟩ : ∃ a, fu = a + 1 := ⟨fu - 1, by omega⟩
    refine ⟨E 7, ?_, fun x x1 x2 => by omega, fun _ _ => rfl⟩
    rw [zu_id, f_X8_layWorth_l38, if_pos (nI_lt (by omega) (by omega)), zb_let]
    rfl
  | succ d ih =>
    intro c fu E h h1 hE hA
    obtain ⟨a, rfl⟩ : ∃ a, fu = a + 1 := ⟨fu - 1, by omega⟩
    have hE3 := hE 3 (by omega)
    have hE0 := hE 0 (by omega)
    have hc : c ≤ held := by omega
    have e5 := hA c hc
    have front : f_X8_layWorth_l38 K30 (nI s) (nI g) (nI held) (nI k) (a + 1) E (nI c) = (if nI nk ≤ nI k then f_X8_layWorth_j91 K30 (fun z0 z1 => f_X8_layWorth_l38 K30 (nI s) (nI g) (nI held) (nI k) a z0 z1) E (nI s) (nI g) (nI held) (nI k) (nI c) (iI (zWd (zGo (B 3) (B 0) nk s g) (5 - k) c)) else (if B 3 (20 + k) = nI g then f_X8_layWorth_j92 K30 (fun z0 z1 => f_X8_layWorth_l38 K30 (nI s) (nI g) (nI held) (nI k) a z0 z1) E (nI s) (nI g) (nI held) (nI k) (nI c) (iI (zWd (zGo (B 3) (B 0) nk s g) (5 - k) c)) (nI 1) else f_X8_layWorth_j91 K30 (fun z0 z1 => f_X8_layWorth_l38 K30 (nI s) (nI g) (nI held) (nI k) a z0 z1) E (nI s) (nI g) (nI held) (nI k) (nI c) (iI (zWd (zGo (B 3) (B 0) nk s g) (5 - k) c)))) := by
      rw [f_X8_layWorth_l38, if_neg (nI_nlt (by omega) (by omega)), zl_401, zl_1, nI_add, pk_mul, nI_add, zb_ld (by omega) (by omega), e5, zb_ld (by omega) (by omega), hE3, hF1, zl_20, nI_add, zb_ld (by omega) (by omega)]
    -- a good that isn't of the group: the row behind it
    have skip : (zGo (B 3) (B 0) nk s g k = none) → f_X8_layWorth_j91 K30 (fun z0 z1 => f_X8_layWorth_l38 K30 (nI s) (nI g) (nI held) (nI k) a z0 z1) E (nI s) (nI g) (nI held) (nI k) (nI c) (iI (zWd (zGo (B 3) (B 0) nk s g) (5 - k) c)) = f_X8_layWorth_l38 K30 (nI s) (nI g) (nI held) (nI k) a (qf_up E 7 (upd (E 7) (401 * k + c) (iI (zWd (zGo (B 3) (B 0) nk s g) (6 - k) c)))) (nI (c + 1)) := by
      intro hn
      have e6 : zWd (zGo (B 3) (B 0) nk s g) (6 - k) c = zWd (zGo (B 3) (B 0) nk s g) (5 - k) c := by
        have h5 : zGo (B 3) (B 0) nk s g (5 - (5 - k)) = none := by rw [show 5 - (5 - k) = k by omega]; exact hn
        unfold zWd
        rw [show 6 - k = 5 - k + 1 by omega, zVd_none h5, zCd_none h5]
      unfold f_X8_layWorth_j91 f_X8_layWorth_j92 f_X8_layWorth_j112
      rw [if_pos (rfl : (0 : Int32) = 0), show (100000 : Nat) = 99999 + 1 from rfl, f_X8_layWorth_l114, if_pos (by decide), zl_401, pk_mul, nI_add, zb_st (by omega) (by omega), zb_let, zb_let, nI_1, e6]
    have fin : (qf_up E 7 (upd (E 7) (401 * k + c) (iI (zWd (zGo (B 3) (B 0) nk s g) (6 - k) c)))) = (qf_up E 7 (upd (E 7) (401 * k + c) (iI (zWd (zGo (B 3) (B 0) nk s g) (6 - k) c)))) → ∃ W', f_X8_layWorth_l38 K30 (nI s) (nI g) (nI held) (nI k) a (qf_up E 7 (upd (E 7) (401 * k + c) (iI (zWd (zGo (B 3) (B 0) nk s g) (6 - k) c)))) (nI (c + 1)) = K30 (qf_up E 7 W') (nI k + -nI 1) ∧ (∀ x, c ≤ x → x ≤ held → W' (401 * k + x) = iI (zWd (zGo (B 3) (B 0) nk s g) (6 - k) x)) ∧ ∀ q, (q < 401 * k + c ∨ 401 * k + held < q) → W' q = E 7 q := by
      intro _
      obtain ⟨W', i1, i2, i3⟩ := ih (c + 1) a (qf_up E 7 (upd (E 7) (401 * k + c) (iI (zWd (zGo (B 3) (B 0) nk s g) (6 - k) c)))) (by omega) (by omega) (fun b hb => by rw [zu_upn hb]; exact hE b hb) (fun x hx => by rw [zu_up, zu_ne (by omega)]; exact hA x hx)
      rw [zu_upup] at i1
      rw [zu_up] at i3
      refine ⟨W', i1, ?_, ?_⟩
      · intro x x1 x2
        by_cases z : x = c
        · rw [z, i3 _ (by omega), zu_same]
        · exact i2 x (by omega) x2
      · intro q hq
        rw [i3 q (by omega), zu_ne (by omega)]
    rw [front]
    by_cases hkn : nk ≤ k
    · rw [if_pos (nI_le hkn (by omega)), skip (zGo_none hkn)]
      exact fin rfl
    · rw [if_neg (nI_ge (by omega) (by omega))]
      obtain ⟨q, r, v, n, hq, r1, r2, v1, n1, _, _, _, _, w1, w2, w3, w4, e⟩ := zx_go hJ hs (by omega : k < nk) g hg
      by_cases cq : q = g
      · rw [if_pos cq] at e
        rw [w1, cq, if_pos rfl]
        have hS : zMi (c / r) n * r ≤ c := by
          have h1 : c / r * r ≤ c := Nat.div_mul_le_self c r
          have h2 : zMi (c / r) n * r ≤ c / r * r := Nat.mul_le_mul_right r (by unfold zMi; split <;> omega)
          omega
        have hdl := Nat.div_le_self c r
        have hSb : zMi (c / r) n ≤ c / r := by unfold zMi; split <;> omega
        have hmi : f_X8_mostIn E (nI s) (nI k) (nI c) = some (nI (zMi (c / r) n)) := by
          unfold f_X8_mostIn
          rw [zl_145, zl_6, pk_mul, nI_add, nI_add, zb_ld (by omega) (by omega), hE0, show 145 + 6 * s + k = 145 + (s * 6 + k) by omega, w4, zl_26, nI_add, zb_ld (by omega) (by omega), hE3, w2, zb_ck (nI_ne0 (by omega) (by omega)), pk_div (by omega) (by omega) (by omega), zx_lesser, zb_bd, zmin_n (by omega) (by omega)]
          rfl
        have wb := zWd_b hgd (d := 5 - k) (by omega : c ≤ 400)
        have l114 := zx_w114 hgd hk r1 v1 hh K30 (fun z0 z1 => f_X8_layWorth_l38 K30 (nI s) (nI g) (nI held) (nI k) a z0 z1) (nI s) (nI g) (nI held) E (by rw [hE3]; exact w2) (by rw [hE3]; exact w3) hA hc (zMi (c / r) n) 100000 (zWd (zGo (B 3) (B 0) nk s g) (5 - k) c) (by omega) hS (by omega) (by omega)
        have h5 : zGo (B 3) (B 0) nk s g (5 - (5 - k)) = some (r, v, n) := by rw [show 5 - (5 - k) = k by omega]; exact e
        have hT0 : zTm (zGo (B 3) (B 0) nk s g) (5 - k) r v c 0 = zWd (zGo (B 3) (B 0) nk s g) (5 - k) c := by
          unfold zTm
          rw [Nat.zero_mul, Nat.sub_zero]
          omega
        have hst : ∀ j, j ≤ zMi (c / r) n ↔ j * r ≤ c ∧ j ≤ n := fun j => by
          have : j ≤ c / r ↔ j * r ≤ c := Nat.le_div_iff_mul_le (by omega)
          unfold zMi
          split <;> omega
        have hbx : zBx (zTm (zGo (B 3) (B 0) nk s g) (5 - k) r v c) (zMi (c / r) n) (zWd (zGo (B 3) (B 0) nk s g) (5 - k) c) = zWd (zGo (B 3) (B 0) nk s g) (6 - k) c := by
          rw [show 6 - k = 5 - k + 1 by omega]
          refine zBx_eq _ _ (fun j j1 j2 => zdp_le hgd h5 (by omega) ((hst j).mp j2).2 ((hst j).mp j2).1) ?_ ?_
          · rw [← hT0]
            exact zdp_le hgd h5 (by omega) (Nat.zero_le _) (by omega)
          · obtain ⟨m, m1, m2, m3⟩ := zdp_ex hgd h5 (by omega : c ≤ 400)
            by_cases z : m = 0
            · left
              rw [z, hT0] at m3
              exact m3
            · exact Or.inr ⟨m, by omega, (hst m).mpr ⟨m2, m1⟩, m3⟩
        rw [hbx] at l114
        unfold f_X8_layWorth_j92 f_X8_layWorth_j112
        rw [if_neg (by decide), ← cq, hmi, zb_bd, cq, l114]
        exact fin rfl
      · rw [if_neg cq] at e
        rw [if_neg (by rw [w1, nI_eq (by omega) (by omega)]; exact cq), skip e]
        exact fin rfl
theorem zx_w30 (hJ : zJ I A G J B ng nk nh ns kept next) {s g held : Nat} (hs : s < ns) (hg : g < ng) (hh : held ≤ 400) : ∀ (m fu : Nat) (E : Nat → Nat → Int32), m ≤ 6 → m < fu → (∀ b, b ≠ 7 → E b = B b) → (∀ j, m ≤ j → j ≤ 6 → ∀ x, x ≤ held → E 7 (401 * j + x) = iI (zWd (zGo (B 3) (B 0) nk s g) (6 - j) x)) → ∃ E', f_X8_layWorth_l30 (nI s) (nI g) (nI held) fu E (if m = 0 then -nI 1 else nI (m - 1)) = some E' ∧ (∀ b, b ≠ 7 → E' b = B b) ∧ (∀ j, j ≤ 6 → ∀ x, x ≤ held → E' 7 (401 * j + x) = iI (zWd (zGo (B 3) (B 0) nk s g) (6 - j) x)) := by
  intro m
  induction m with
  | zero =>
    intro fu E _ h1 hE hA
    obtain ⟨a, rfl⟩ : ∃ a, fu = a + 1 := ⟨fu - 1, by omega⟩
    refine ⟨E, ?_, hE, fun j hj => hA j (by omega) hj⟩
    rw [if_pos rfl, f_X8_layWorth_l30, if_pos (by decide)]
  | succ k ih =>
    intro fu E hm h1 hE hA
    obtain ⟨a, rfl⟩ : ∃ a, fu = a + 1 := ⟨fu - 1, by omega⟩
    obtain ⟨W', w1, w2, w3⟩ := zx_w38 hJ hs hg (by omega : k ≤ 5) hh (fun z0 z1 => f_X8_layWorth_l30 (nI s) (nI g) (nI held) a z0 z1) (held + 1) 0 100000 E (by omega) (by omega) hE (by
      have := hA (k + 1) (Nat.le_refl _) hm
      rw [show 6 - (k + 1) = 5 - k by omega] at this
      exact this)
    obtain ⟨E', i1, i2, i3⟩ := ih a (qf_up E 7 W') (by omega) (by omega) (fun b hb => by rw [zu_upn hb]; exact hE b hb) (fun j j1 j2 x hx => by
      rw [zu_up]
      by_cases z : j = k
      · rw [z]; exact w2 x (by omega) hx
      · rw [w3 _ (by omega)]; exact hA j (by omega) j2 x hx)
    refine ⟨E', ?_, i2, i3⟩
    refine Eq.trans ?_ i1
    rw [if_neg (by omega), Nat.add_sub_cancel, f_X8_layWorth_l30, if_neg (nI_pos (by omega)), zl_0, w1]
    by_cases z : k = 0
    · subst z; rfl
    · rw [if_neg z, zc_pred (by omega)]
theorem zx_w3 (hJ : zJ I A G J B ng nk nh ns kept next) {s g held : Nat} (hs : s < ns) (hg : g < ng) (hh : held ≤ 400) : ∀ (d c fu : Nat) (E : Nat → Nat → Int32), c + d = held + 1 → d < fu → (∀ b, b ≠ 7 → E b = B b) → (∀ x, x < c → E 7 (2406 + x) = nI 0) → ∃ E', f_X8_layWorth_l3 (nI s) (nI g) (nI held) fu E (nI c) = some E' ∧ (∀ b, b ≠ 7 → E' b = B b) ∧ (∀ j, j ≤ 6 → ∀ x, x ≤ held → E' 7 (401 * j + x) = iI (zWd (zGo (B 3) (B 0) nk s g) (6 - j) x)) := by
  intro d
  induction d with
  | zero =>
    intro c fu E h h1 hE hA
    obtain ⟨a, rfl⟩ : ∃ a, fu = a + 1 := ⟨fu - 1, by omega⟩
    obtain ⟨E', i1, i2, i3⟩ := zx_w30 hJ hs hg hh 6 100000 E (Nat.le_refl _) (by omega) hE (fun j j1 j2 x hx => by
      have : j = 6 := by omega
      subst this
      rw [show 401 * 6 + x = 2406 + x by omega, hA x (by omega), iI_n]
      unfold zWd
      rw [show 6 - 6 = 0 from rfl, zCd_0]
      rfl)
    refine ⟨E', ?_, i2, i3⟩
    refine Eq.trans ?_ i1
    rw [f_X8_layWorth_l3, if_pos (nI_lt (by omega) (by omega)), zl_5, if_neg (by omega)]
  | succ d ih =>
    intro c fu E h h1 hE hA
    obtain ⟨a, rfl⟩ : ∃ a, fu = a + 1 := ⟨fu - 1, by omega⟩
    obtain ⟨E', i1, i2, i3⟩ := ih (c + 1) a (qf_up E 7 (upd (E 7) (2406 + c) (nI 0))) (by omega) (by omega) (fun b hb => by rw [zu_upn hb]; exact hE b hb) (fun x hx => by
      rw [zu_up]
      by_cases z : x = c
      · rw [z, zu_same]
      · rw [zu_ne (by omega)]; exact hA x (by omega))
    refine ⟨E', ?_, i2, i3⟩
    refine Eq.trans ?_ i1
    rw [f_X8_layWorth_l3, if_neg (nI_nlt (by omega) (by omega)), zl_2406, nI_add, zb_st (by omega) (by omega), zb_let, zb_let, nI_1, zl_0]
theorem zx_lay8 (hJ : zJ I A G J B ng nk nh ns kept next) {s g held : Nat} (hs : s < ns) (hg : g < ng) (hh : held ≤ 400) : ∃ E', f_X8_layWorth B (nI s) (nI g) (nI held) = some E' ∧ (∀ b, b ≠ 7 → E' b = B b) ∧ (∀ j, j ≤ 6 → ∀ x, x ≤ held → E' 7 (401 * j + x) = iI (zWd (zGo (B 3) (B 0) nk s g) (6 - j) x)) := by
  unfold f_X8_layWorth
  rw [zl_0]
  exact zx_w3 hJ hs hg hh (held + 1) 0 100000 B (by omega) (by omega) (fun _ _ => rfl) (fun x hx => by omega)
/-- the units of one good -/
theorem zx_f58 {gd : Nat → Option (Nat × Nat × Nat)} (hg : zGd gd) {k r v held L : Nat} (hk : k ≤ 5) (hr : 1 ≤ r) (hv : v ≤ 99) (hh : held ≤ 400) (hL : L ≤ held) (K : (Nat → Nat → Int32) → Int32 → Int32 → Option (Nat → Nat → Int32)) (y2 y3 : Int32) (E : Nat → Nat → Int32) (v4 : E 3 (26 + k) = nI r) (v5 : E 3 (32 + k) = nI v) (hA : ∀ j, j ≤ 6 → ∀ x, x ≤ held → E 7 (401 * j + x) = iI (zWd gd (6 - j) x)) : ∀ (n fu : Nat), n < fu → n * r ≤ L → (∃ m, m ≤ n ∧ zP8 gd k r v L m = true) → f_X8_fillBasket_l58 K y2 y3 (nI L) (nI k) fu E (nI n) = K (qf_up E 8 (upd (E 8) k (nI (zTop (zP8 gd k r v L) n)))) (nI (L - zTop (zP8 gd k r v L) n * r)) (nI (k + 1)) := by
  intro n
  induction n with
  | zero =>
    intro fu h1 hn hex
    obtain ⟨a, rfl⟩ : ∃ a, fu = a + 1 := ⟨fu - 1, by omega⟩
    obtain ⟨m, m1, m2⟩ := hex
    have : m = 0 := by omega
    subst this
    have m3 := of_decide_eq_true m2
    have ww := zx_ww (gd := gd) E hk hh v4 v5 (by have := hA (k + 1) (by omega); rw [show 6 - (k + 1) = 5 - k by omega] at this; exact this) hL hn
    rw [f_X8_fillBasket_l58, ww, zb_bd, zl_401, pk_mul, nI_add, zb_ld (by omega) (by omega), hA k (by omega) L hL, m3.2, if_pos rfl, zb_st (by omega) (by omega), zb_let, zl_26, nI_add, zb_ld (by omega) (by omega), zu_upn (by omega), v4, pk_mul, pk_sub hn, zb_let]
    unfold f_X8_fillBasket_j118
    rw [zb_let, nI_1]
    rfl
  | succ n ih =>
    intro fu h1 hn hex
    obtain ⟨a, rfl⟩ : ∃ a, fu = a + 1 := ⟨fu - 1, by omega⟩
    have ww := zx_ww (gd := gd) E hk hh v4 v5 (by have := hA (k + 1) (by omega); rw [show 6 - (k + 1) = 5 - k by omega] at this; exact this) hL hn
    have tb := zTm_b hg (d := 5 - k) hr hv (by omega : L ≤ 400) hn
    have wb := zWd_b hg (d := 6 - k) (by omega : L ≤ 400)
    rw [f_X8_fillBasket_l58, ww, zb_bd, zl_401, pk_mul, nI_add, zb_ld (by omega) (by omega), hA k (by omega) L hL]
    unfold zTop
    by_cases c : zTm gd (5 - k) r v L (n + 1) = zWd gd (6 - k) L
    · have hp : zP8 gd k r v L (n + 1) = true := decide_eq_true ⟨hn, c⟩
      rw [if_pos hp, if_pos (congrArg iI c), zb_st (by omega) (by omega), zb_let, zl_26, nI_add, zb_ld (by omega) (by omega), zu_upn (by omega), v4, pk_mul, pk_sub hn, zb_let]
      unfold f_X8_fillBasket_j118
      rw [zb_let, nI_1]
    · have hp : ¬ zP8 gd k r v L (n + 1) = true := fun z => c (of_decide_eq_true z).2
      rw [if_neg hp, if_neg (fun z => c ((iI_eq (by omega) (by omega) (by omega) (by omega)).mp z)), zb_let, zl_1, zc_pred (by omega), Nat.add_sub_cancel]
      refine ih a (by omega) (by
        have : n * r ≤ (n + 1) * r := Nat.mul_le_mul_right r (by omega)
        omega) ?_
      obtain ⟨m, m1, m2⟩ := hex
      refine ⟨m, ?_, m2⟩
      rcases (show m = n + 1 ∨ m ≤ n by omega) with z | z
      · rw [z] at m2; exact absurd m2 hp
      · exact z
theorem zx_fill8 (hJ : zJ I A G J B ng nk nh ns kept next) {s g held : Nat} (hs : s < ns) (hg : g < ng) (hh : held ≤ 400) : ∀ (d k fu : Nat) (E : Nat → Nat → Int32), k + d = nk → d < fu → (∀ b, b ≠ 7 → b ≠ 8 → E b = B b) → (∀ j, j ≤ 6 → ∀ x, x ≤ held → E 7 (401 * j + x) = iI (zWd (zGo (B 3) (B 0) nk s g) (6 - j) x)) → ∃ E', f_X8_fillBasket_l19 (nI s) (nI g) fu E (nI (zLk (zGo (B 3) (B 0) nk s g) held k)) (nI k) = some E' ∧ (∀ b, b ≠ 8 → E' b = E b) ∧ (∀ j, E' 8 j = if k ≤ j ∧ j < nk ∧ (zGo (B 3) (B 0) nk s g j).isSome = true then nI (zN1 (zGo (B 3) (B 0) nk s g) j (zLk (zGo (B 3) (B 0) nk s g) held j)) else E 8 j) := by
  have hb := zp_b hJ
  have hgd := zGo_ok hJ hs hg
  intro d
  induction d with
  | zero =>
    intro k fu E h h1 hE hA
    obtain ⟨a, rfl⟩ : ∃ a, fu = a + 1 := ⟨fu - 1, by omega⟩
    refine ⟨E, ?_, fun _ _ => rfl, fun j => (if_neg (by omega)).symm⟩
    rw [f_X8_fillBasket_l19, zl_1, zb_ld (by omega) (by omega), hE 3 (by omega) (by omega), zp_F1 hJ, if_pos (nI_le (by omega) (by omega))]
  | succ d ih =>
    intro k fu E h h1 hE hA
    obtain ⟨a, rfl⟩ : ∃ a, fu = a + 1 := ⟨fu - 1, by omega⟩
    have hE3 := hE 3 (by omega) (by omega)
    have hE0 := hE 0 (by omega) (by omega)
    obtain ⟨q, r, v, n, hq, r1, r2, v1, n1, _, _, _, _, w1, w2, w3, w4, e⟩ := zx_go hJ hs (by omega : k < nk) g hg
    have hL := zLk_le (zGo (B 3) (B 0) nk s g) held k
    have hLs : zLk (zGo (B 3) (B 0) nk s g) held (k + 1) = zLk (zGo (B 3) (B 0) nk s g) held k - zC1 (zGo (B 3) (B 0) nk s g) k (zLk (zGo (B 3) (B 0) nk s g) held k) := rfl
    by_cases c : q = g
    · rw [if_pos c] at e
      obtain ⟨g1, g2, g3⟩ := zgr_eq (L := zLk (zGo (B 3) (B 0) nk s g) held k) e
      have hex := zgr_ex hgd (by omega : k ≤ 5) e (by omega : zLk (zGo (B 3) (B 0) nk s g) held k ≤ 400)
      rw [g2, g1] at hLs
      generalize hLe : zLk (zGo (B 3) (B 0) nk s g) held k = L at *
      have hdl := Nat.div_le_self L r
      have hms : zMi (L / r) n * r ≤ L := by
        have h1 : L / r * r ≤ L := Nat.div_mul_le_self L r
        have h2 : zMi (L / r) n * r ≤ L / r * r := Nat.mul_le_mul_right r (by unfold zMi; split <;> omega)
        omega
      have hmb : zMi (L / r) n ≤ L / r := by unfold zMi; split <;> omega
      have f58 := zx_f58 hgd (by omega : k ≤ 5) r1 v1 hh hL (fun z0 z1 z2 => f_X8_fillBasket_l19 (nI s) (nI g) a z0 z1 z2) (nI s) (nI g) E (by rw [hE3]; exact w2) (by rw [hE3]; exact w3) hA (zMi (L / r) n) 100000 (by omega) hms hex
      have hmi : f_X8_mostIn E (nI s) (nI k) (nI L) = some (nI (zMi (L / r) n)) := by
        unfold f_X8_mostIn
        rw [zl_145, zl_6, pk_mul, nI_add, nI_add, zb_ld (by omega) (by omega), hE0, show 145 + 6 * s + k = 145 + (s * 6 + k) by omega, w4, zl_26, nI_add, zb_ld (by omega) (by omega), hE3, w2, zb_ck (nI_ne0 (by omega) (by omega)), pk_div (by omega) (by omega) (by omega), zx_lesser, zb_bd, zmin_n (by omega) (by omega)]
        rfl
      obtain ⟨E', i1, i2, i3⟩ := ih (k + 1) a (qf_up E 8 (upd (E 8) k (nI (zTop (zP8 (zGo (B 3) (B 0) nk s g) k r v L) (zMi (L / r) n))))) (by omega) (by omega) (fun b b1 b2 => by rw [zu_upn b2]; exact hE b b1 b2) (fun j hj x hx => by rw [zu_upn (by omega)]; exact hA j hj x hx)
      rw [hLs] at i1
      refine ⟨E', ?_, ?_, ?_⟩
      · refine Eq.trans ?_ i1
        rw [f_X8_fillBasket_l19, zl_1, zb_ld (by omega) (by omega), hE3, zp_F1 hJ, if_neg (nI_ge (by omega) (by omega)), zl_20, nI_add, zb_ld (by omega) (by omega), w1, c, if_pos rfl, hmi, zb_bd]
        exact f58
      · intro b hb
        rw [i2 b hb, zu_upn hb]
      · intro j
        rw [i3 j, zu_up]
        by_cases z : j = k
        · subst z
          rw [if_neg (by omega), zu_same, if_pos ⟨Nat.le_refl _, by omega, by rw [e]; rfl⟩, hLe, g1]
        · rw [zu_ne z]
          by_cases z2 : k + 1 ≤ j ∧ j < nk ∧ (zGo (B 3) (B 0) nk s g j).isSome = true
          · rw [if_pos z2, if_pos ⟨by omega, z2.2⟩]
          · rw [if_neg z2, if_neg (fun y => z2 ⟨by omega, y.2⟩)]
    · rw [if_neg c] at e
      have hc1 : zC1 (zGo (B 3) (B 0) nk s g) k (zLk (zGo (B 3) (B 0) nk s g) held k) = 0 := by
        unfold zC1
        rw [e]
      rw [hc1, Nat.sub_zero] at hLs
      obtain ⟨E', i1, i2, i3⟩ := ih (k + 1) a E (by omega) (by omega) hE hA
      rw [hLs] at i1
      refine ⟨E', ?_, i2, ?_⟩
      · refine Eq.trans ?_ i1
        rw [f_X8_fillBasket_l19, zl_1, zb_ld (by omega) (by omega), hE3, zp_F1 hJ, if_neg (nI_ge (by omega) (by omega)), zl_20, nI_add, zb_ld (by omega) (by omega), if_neg (by rw [w1, nI_eq (by omega) (by omega)]; exact c)]
        unfold f_X8_fillBasket_j118
        rw [zb_let, zl_1, nI_add]
      · intro j
        rw [i3 j]
        by_cases z : j = k
        · subst z
          rw [if_neg (by omega), if_neg (fun y => by rw [e] at y; exact absurd y.2.2 (by decide))]
        · by_cases z2 : k + 1 ≤ j ∧ j < nk ∧ (zGo (B 3) (B 0) nk s g j).isSome = true
          · rw [if_pos z2, if_pos ⟨by omega, z2.2⟩]
          · rw [if_neg z2, if_neg (fun y => z2 ⟨by omega, y.2⟩)]
end ZW3
