/-! a period ends: coupons grow older -/
def zAg (f : Nat → Int32) (b : Nat) (c : Int32) (p : Nat) : Int32 := if p = 0 then f (b + 1) * c / nI 100 else if p < 4 then f (b + (p + 1)) else nI 0
def zLv (f : Nat → Int32) (b : Nat) (c : Int32) : Int32 := f b + f (b + 1) - f (b + 1) * c / nI 100
theorem zGr_at {f : Nat → Int32} {b p : Nat} {c : Int32} (hp : p < 5) : zGr f b (f (b + 1) * c / nI 100) (b + p) = zAg f b c p := by
  unfold zGr zAg
  rcases (show p = 0 ∨ p = 1 ∨ p = 2 ∨ p = 3 ∨ p = 4 by omega) with rfl | rfl | rfl | rfl | rfl
  · rw [zu_ne (by omega), zu_ne (by omega), zu_ne (by omega), zu_ne (by omega)]
    exact zu_same _ _ _
  · rw [zu_ne (by omega), zu_ne (by omega), zu_ne (by omega), zu_same]
    rfl
  · rw [zu_ne (by omega), zu_ne (by omega), zu_same]
    rfl
  · rw [zu_ne (by omega), zu_same]
    rfl
  · rw [zu_same]
    rfl
theorem zGr_out {f : Nat → Int32} {b j : Nat} {x : Int32} (hj : j < b ∨ b + 5 ≤ j) : zGr f b x j = f j := by
  unfold zGr
  rw [zu_ne (by omega), zu_ne (by omega), zu_ne (by omega), zu_ne (by omega), zu_ne (by omega)]
theorem zAg_congr {f f' : Nat → Int32} {b b' : Nat} {c : Int32} {p : Nat} (hp : p < 5) (h : ∀ q, q < 5 → f (b + q) = f' (b' + q)) : zAg f b c p = zAg f' b' c p := by
  unfold zAg
  by_cases h0 : p = 0
  · rw [if_pos h0, if_pos h0, h 1 (by omega)]
  · rw [if_neg h0, if_neg h0]
    by_cases h4 : p < 4
    · rw [if_pos h4, if_pos h4, h (p + 1) (by omega)]
    · rw [if_neg h4, if_neg h4]
theorem zLv_congr {f f' : Nat → Int32} {b b' : Nat} {c : Int32} (h : ∀ q, q < 5 → f (b + q) = f' (b' + q)) : zLv f b c = zLv f' b' c := by
  unfold zLv
  have h0 := h 0 (by omega)
  rw [Nat.add_zero, Nat.add_zero] at h0
  rw [h0, h 1 (by omega)]
/-! sums of ints -/
def zQ (l : Nat → Int32) : Nat → Nat → Int32 → Int32
  | 0, _, a => a
  | d + 1, i, a => zQ l d (i + 1) (a + l i)
theorem zQ_add (l : Nat → Int32) : ∀ (d i : Nat) (a b : Int32), zQ l d i (a + b) = a + zQ l d i b := by
  intro d
  induction d with
  | zero => intro i a b; rfl
  | succ d ih =>
    intro i a b
    unfold zQ
    rw [Int32.add_assoc, ih]
theorem zQ_0 (l : Nat → Int32) (d i : Nat) (a : Int32) : zQ l d i a = a + zQ l d i (nI 0) := by
  rw [← zQ_add]
  exact congrArg (zQ l d i) (Int32.add_zero a).symm
theorem zQ_s (l : Nat → Int32) (d i : Nat) : zQ l (d + 1) i (nI 0) = l i + zQ l d (i + 1) (nI 0) := by
  show zQ l d (i + 1) (nI 0 + l i) = _
  rw [z0a, zQ_0]
theorem zQ_congr {l l' : Nat → Int32} : ∀ (d i : Nat) (a : Int32), (∀ j, i ≤ j → j < i + d → l j = l' j) → zQ l d i a = zQ l' d i a := by
  intro d
  induction d with
  | zero => intro i a _; rfl
  | succ d ih =>
    intro i a h
    unfold zQ
    rw [h i (by omega) (by omega), ih (i + 1) _ (fun j h1 h2 => h j (by omega) (by omega))]
theorem zQ_plus (u v : Nat → Int32) : ∀ (d i : Nat), zQ (fun j => u j + v j) d i (nI 0) = zQ u d i (nI 0) + zQ v d i (nI 0) := by
  intro d
  induction d with
  | zero => intro i; rfl
  | succ d ih =>
    intro i
    rw [zQ_s, zQ_s, zQ_s, ih]
    generalize zQ u d (i + 1) (nI 0) = a
    generalize zQ v d (i + 1) (nI 0) = b
    grind
theorem zQ_zero : ∀ (d i : Nat), zQ (fun _ => nI 0) d i (nI 0) = nI 0 := by
  intro d
  induction d with
  | zero => intro i; rfl
  | succ d ih =>
    intro i
    rw [zQ_s, ih]
    rfl
theorem zQ_swap (l : Nat → Nat → Int32) (dg ig : Nat) : ∀ (dh ih : Nat), zQ (fun h => zQ (fun g => l h g) dg ig (nI 0)) dh ih (nI 0) = zQ (fun g => zQ (fun h => l h g) dh ih (nI 0)) dg ig (nI 0) := by
  intro dh
  induction dh with
  | zero => intro ih; exact (zQ_zero dg ig).symm
  | succ dh rec =>
    intro ih
    rw [zQ_s, rec, ← zQ_plus]
    refine zQ_congr _ _ _ (fun j _ _ => ?_)
    exact (zQ_s (fun h => l h j) dh ih).symm
/-! the class: groups, in each the houses -/
theorem zx_end_l {I : Nat → Int32} {nh g : Nat} {c : Int32} (hI14 : I 14 = nI nh) (hnh : nh ≤ 6) (hg : g < 4) : ∀ (d h fu : Nat) (A : Nat → Nat → Int32) (acc : Int32), h + d = nh → d < fu → A 16 g = c → ∃ f', f_X7_endPeriodOf_l4 I (nI g) fu A acc (nI h) = some (zQ (fun h => zLv (A 36) ((h * 4 + g) * 5) c) d h acc, qf_up (qf_up A 36 f') 46 (upd (A 46) g (A 46 g + zQ (fun h => zLv (A 36) ((h * 4 + g) * 5) c) d h acc))) ∧ (∀ h' g' p, h' < 6 → g' < 4 → p < 5 → f' ((h' * 4 + g') * 5 + p) = if g' = g ∧ h ≤ h' ∧ h' < nh then zAg (A 36) ((h' * 4 + g') * 5) c p else A 36 ((h' * 4 + g') * 5 + p)) := by
  intro d
  induction d with
  | zero =>
    intro h fu A acc hd h1 hc
    obtain ⟨a, rfl⟩ : ∃ a, fu = a + 1 := ⟨fu - 1, by omega⟩
    refine ⟨A 36, ?_, fun h' g' p _ _ _ => (if_neg (by omega)).symm⟩
    rw [zu_id]
    simp (disch := omega) only [zl_0, zl_1, zl_2, zl_3, zl_4, zl_5, zl_6, zl_7, zl_8, zl_9, zl_10, zl_11, zl_12, zl_13, zl_14, zl_15, zl_16, zl_20, zl_24, zl_26, zl_31, zl_32, zl_38, zl_44, zl_48, zl_50, zl_56, zl_57, zl_59, zl_62, zl_96, zl_97, zl_99, zl_100, zl_122, zl_133, zl_139, zl_145, zl_169, zl_185, zl_189, zl_213, zl_237, zl_241, zl_245, zl_249, zl_250, zl_255, zl_400, zl_401, zl_800, zl_999, zl_1000, zl_2406, zl_2500, zl_2807, zl_9999, zl_99999, zl_100000, zl_1000000000, zl_100000000, zb_let, zb_bd, zb_bd2, zb_bd3, zb_bd4, zb_bd5, zb_ck, zb_ckT, zb_ld, zb_st, not_false_eq_true, zc_m1, zc_m2, zc_m3, zc_m4, zc_m5, zc_m6, zc_lt_t, zc_lt_f, zc_le_t, zc_le_f, zc_eq_t, zc_eq_f, nI_add, pk_mul, z0a, Nat.zero_add, Nat.add_zero, Nat.reduceAdd, ↓reduceIte, f_X7_endPeriodOf_l4, hI14, zQ]
  | succ d ih =>
    intro h fu A acc hd h1 hc
    obtain ⟨a, rfl⟩ : ∃ a, fu = a + 1 := ⟨fu - 1, by omega⟩
    have hgr := zx_grow (N := 120) (b := (h * 4 + g) * 5) (f := A 36) (by omega) (by omega) c
    obtain ⟨f', i1, i2⟩ := ih (h + 1) a (qf_up A 36 (zGr (A 36) ((h * 4 + g) * 5) (A 36 ((h * 4 + g) * 5 + 1) * c / nI 100))) (acc + zLv (A 36) ((h * 4 + g) * 5) c) (by omega) (by omega) (by rw [zu_upn (by omega), hc])
    have hs : zQ (fun h_1 => zLv (qf_up A 36 (zGr (A 36) ((h * 4 + g) * 5) (A 36 ((h * 4 + g) * 5 + 1) * c / nI 100)) 36) ((h_1 * 4 + g) * 5) c) d (h + 1) (acc + zLv (A 36) ((h * 4 + g) * 5) c) = zQ (fun h => zLv (A 36) ((h * 4 + g) * 5) c) (d + 1) h acc := by
      refine zQ_congr d (h + 1) _ (fun j j1 j2 => ?_)
      rw [zu_up]
      exact zLv_congr (fun q hq => zGr_out (by omega))
    refine ⟨f', ?_, ?_⟩
    · rw [hs] at i1
      simp (disch := omega) only [zu_upup, zu_upn] at i1
      simp (disch := omega) only [zl_0, zl_1, zl_2, zl_3, zl_4, zl_5, zl_6, zl_7, zl_8, zl_9, zl_10, zl_11, zl_12, zl_13, zl_14, zl_15, zl_16, zl_20, zl_24, zl_26, zl_31, zl_32, zl_38, zl_44, zl_48, zl_50, zl_56, zl_57, zl_59, zl_62, zl_96, zl_97, zl_99, zl_100, zl_122, zl_133, zl_139, zl_145, zl_169, zl_185, zl_189, zl_213, zl_237, zl_241, zl_245, zl_249, zl_250, zl_255, zl_400, zl_401, zl_800, zl_999, zl_1000, zl_2406, zl_2500, zl_2807, zl_9999, zl_99999, zl_100000, zl_1000000000, zl_100000000, zb_let, zb_bd, zb_bd2, zb_bd3, zb_bd4, zb_bd5, zb_ck, zb_ckT, zb_ld, zb_st, not_false_eq_true, zc_le_f, nI_add, ↓reduceIte, f_X7_endPeriodOf_l4, hI14, zx_purse, hc, hgr]
      exact i1
    · intro h' g' p a1 a2 a3
      rw [i2 h' g' p a1 a2 a3, zu_up]
      by_cases c1 : g' = g ∧ h' = h
      · obtain ⟨c1, c2⟩ := c1
        subst c1 c2
        rw [if_neg (by omega), if_pos ⟨rfl, Nat.le_refl _, by omega⟩, zGr_at a3]
      · have ho : ∀ q, q < 5 → zGr (A 36) ((h * 4 + g) * 5) (A 36 ((h * 4 + g) * 5 + 1) * c / nI 100) ((h' * 4 + g') * 5 + q) = A 36 ((h' * 4 + g') * 5 + q) := fun q hq => zGr_out (by omega)
        by_cases c2 : g' = g ∧ h + 1 ≤ h' ∧ h' < nh
        · rw [if_pos c2, if_pos ⟨c2.1, by omega, c2.2.2⟩]
          exact zAg_congr a3 ho
        · rw [if_neg c2, if_neg (by omega)]
          exact ho p a3
theorem zx_np7_l {I F : Nat → Int32} {G : Nat → Int32 × (Nat → Nat → Int32)} {ng nh : Nat} (hng : ng ≤ 4) (hnh : nh ≤ 6) (hI : I 12 = nI ng) (hI14 : I 14 = nI nh) : ∀ (d g fu : Nat) (A : Nat → Nat → Int32) (y : Int32), g + d = ng → d < fu → (∀ g, g < ng → A 16 g = F (8 + g)) → ∃ A' fu', 0 < fu' ∧ f_X7_nextPeriod_l15 fu I A G y (nI g) = f_X7_nextPeriod_l15 fu' I A' G (zQ (fun g => zQ (fun h => zLv (A 36) ((h * 4 + g) * 5) (F (8 + g))) nh 0 (nI 0)) d g y) (nI ng) ∧ (∀ a, a ≠ 36 → a ≠ 46 → A' a = A a) ∧ (∀ h' g' p, h' < 6 → g' < 4 → p < 5 → A' 36 ((h' * 4 + g') * 5 + p) = if g ≤ g' ∧ g' < ng ∧ h' < nh then zAg (A 36) ((h' * 4 + g') * 5) (F (8 + g')) p else A 36 ((h' * 4 + g') * 5 + p)) ∧ (∀ g', A' 46 g' = if g ≤ g' ∧ g' < ng then A 46 g' + zQ (fun h => zLv (A 36) ((h * 4 + g') * 5) (F (8 + g'))) nh 0 (nI 0) else A 46 g') := by
  intro d
  induction d with
  | zero =>
    intro g fu A y hd h1 hc
    have : g = ng := by omega
    subst this
    exact ⟨A, fu, h1, rfl, fun _ _ _ => rfl, fun h' g' p _ _ _ => (if_neg (by omega)).symm, fun g' => (if_neg (by omega)).symm⟩
  | succ d ih =>
    intro g fu A y hd h1 hc
    obtain ⟨a, rfl⟩ : ∃ a, fu = a + 1 := ⟨fu - 1, by omega⟩
    obtain ⟨f', e1, e2⟩ := zx_end_l (c := F (8 + g)) hI14 hnh (by omega : g < 4) nh 0 100000 A (nI 0) (by omega) (by omega) (hc g (by omega))
    have e1 : f_X7_endPeriodOf I A (nI g) = _ := e1
    generalize hS : zQ (fun h => zLv (A 36) ((h * 4 + g) * 5) (F (8 + g))) nh 0 (nI 0) = S at e1
    obtain ⟨A', fu', i0, i1, i2, i3, i4⟩ := ih (g + 1) a (qf_up (qf_up A 36 f') 46 (upd (A 46) g (A 46 g + S))) (y + S) (by omega) (by omega) (fun g' hg' => by rw [zu_upn (by omega), zu_upn (by omega), hc g' hg'])
    have f36 : (qf_up (qf_up A 36 f') 46 (upd (A 46) g (A 46 g + S))) 36 = f' := by rw [zu_upn (by omega), zu_up]
    have f46 : (qf_up (qf_up A 36 f') 46 (upd (A 46) g (A 46 g + S))) 46 = upd (A 46) g (A 46 g + S) := by rw [zu_up]
    rw [f36] at i1 i3 i4
    rw [f46] at i4
    have ho : ∀ g', g' < 4 → g' ≠ g → ∀ h, h < 6 → ∀ q, q < 5 → f' ((h * 4 + g') * 5 + q) = A 36 ((h * 4 + g') * 5 + q) := fun g' g4 gn h hh q hq => by rw [e2 h g' q hh g4 hq, if_neg (fun z => gn z.1)]
    have hsum : ∀ g', g' < 4 → g' ≠ g → zQ (fun h => zLv f' ((h * 4 + g') * 5) (F (8 + g'))) nh 0 (nI 0) = zQ (fun h => zLv (A 36) ((h * 4 + g') * 5) (F (8 + g'))) nh 0 (nI 0) := fun g' g4 gn => zQ_congr _ _ _ (fun j j1 j2 => zLv_congr (ho g' g4 gn j (by omega)))
    refine ⟨A', fu', i0, ?_, ?_, ?_, ?_⟩
    · have hs : zQ (fun g => zQ (fun h => zLv f' ((h * 4 + g) * 5) (F (8 + g))) nh 0 (nI 0)) d (g + 1) (y + S) = zQ (fun g => zQ (fun h => zLv (A 36) ((h * 4 + g) * 5) (F (8 + g))) nh 0 (nI 0)) (d + 1) g y := by
        show _ = zQ _ d (g + 1) (y + zQ (fun h => zLv (A 36) ((h * 4 + g) * 5) (F (8 + g))) nh 0 (nI 0))
        rw [hS]
        exact zQ_congr _ _ _ (fun j j1 j2 => hsum j (by omega) (by omega))
      rw [hs] at i1
      refine Eq.trans ?_ i1
      rw [f_X7_nextPeriod_l15, hI, if_neg (nI_ge (by omega) (by omega)), e1, zb_bd2, zb_let, zb_let, nI_1]
    · intro a a1 a2
      rw [i2 a a1 a2, zu_upn a2, zu_upn a1]
    · intro h' g' p a1 a2 a3
      rw [i3 h' g' p a1 a2 a3]
      by_cases c : g' = g
      · subst c
        rw [if_neg (by omega), e2 h' g' p a1 a2 a3]
        by_cases c2 : h' < nh
        · rw [if_pos ⟨rfl, by omega, c2⟩, if_pos ⟨Nat.le_refl _, by omega, c2⟩]
        · rw [if_neg (fun z => c2 z.2.2), if_neg (fun z => c2 z.2.2)]
      · by_cases c2 : g + 1 ≤ g' ∧ g' < ng ∧ h' < nh
        · rw [if_pos c2, if_pos ⟨by omega, c2.2⟩]
          exact zAg_congr a3 (ho g' a2 c h' a1)
        · rw [if_neg c2, if_neg (by omega)]
          exact ho g' a2 c h' a1 p a3
    · intro g'
      rw [i4 g']
      by_cases c : g' = g
      · subst c
        rw [if_neg (by omega), zu_same, if_pos ⟨Nat.le_refl _, by omega⟩, hS]
      · rw [zu_ne c]
        by_cases c2 : g + 1 ≤ g' ∧ g' < ng
        · rw [if_pos c2, if_pos ⟨by omega, c2.2⟩, hsum g' (by omega) c]
        · rw [if_neg c2, if_neg (by omega)]
/-! the reference: houses, in each the groups -/
theorem zx_sh {h g : Nat} (hh : h < 6) (hg : g < 4) (K13 K47 : (Nat → Int32) → (Nat → Nat → Int32) → Int32 → Int32 → Option (Int32 × (Nat → Int32) × (Nat → Nat → Int32))) (y1 y5 x : Int32) (J : Nat → Int32) (B : Nat → Nat → Int32) (n : Nat) : f_X8_nextPeriod_l114 K13 K47 y1 (nI h) (nI g) y5 (n + 4) J (qf_up B 0 (upd (B 0) (13 + (h * 4 + g) * 5) x)) (nI 1) = K47 J (qf_up B 0 (upd (zGr (B 0) (13 + (h * 4 + g) * 5) x) (245 + g) (B 0 (245 + g) + y5))) (y1 + y5) (nI (g + 1)) := by
  simp (disch := omega) only [zl_0, zl_1, zl_2, zl_3, zl_4, zl_5, zl_6, zl_7, zl_8, zl_9, zl_10, zl_11, zl_12, zl_13, zl_14, zl_15, zl_16, zl_20, zl_24, zl_26, zl_31, zl_32, zl_38, zl_44, zl_48, zl_50, zl_56, zl_57, zl_59, zl_62, zl_96, zl_97, zl_99, zl_100, zl_122, zl_133, zl_139, zl_145, zl_169, zl_185, zl_189, zl_213, zl_237, zl_241, zl_245, zl_249, zl_250, zl_255, zl_400, zl_401, zl_800, zl_999, zl_1000, zl_2406, zl_2500, zl_2807, zl_9999, zl_99999, zl_100000, zl_1000000000, zl_100000000, zb_let, zb_bd, zb_bd2, zb_bd3, zb_bd4, zb_bd5, zb_ck, zb_ckT, zb_ld, zb_st, not_false_eq_true, zc_m1, zc_m2, zc_m3, zc_m4, zc_m5, zc_m6, zc_lt_t, zc_lt_f, zc_le_t, zc_le_f, zc_eq_t, zc_eq_f, nI_add, pk_mul, z0a, Nat.zero_add, Nat.add_zero, Nat.reduceAdd, ↓reduceIte, f_X8_nextPeriod_l114, zx_at, zu_up, zu_upup, zu_ne, Nat.add_assoc, zGr]
theorem zx_np8_in {J F : Nat → Int32} {ng h : Nat} (hng : ng ≤ 4) (hF : F 0 = nI ng) (hh : h < 6) (K : (Nat → Int32) → (Nat → Nat → Int32) → Int32 → Int32 → Option (Int32 × (Nat → Int32) × (Nat → Nat → Int32))) : ∀ (d g fu : Nat) (B : Nat → Nat → Int32) (y : Int32), g + d = ng → d < fu → B 3 = F → ∃ B', f_X8_nextPeriod_l47 K (nI h) fu J B y (nI g) = K J B' (zQ (fun g => zLv (B 0) (13 + (h * 4 + g) * 5) (F (8 + g))) d g y) (nI (h + 1)) ∧ (∀ b, b ≠ 0 → B' b = B b) ∧ (∀ j, (j < 13 ∨ 133 ≤ j) → (j < 245 ∨ 249 ≤ j) → B' 0 j = B 0 j) ∧ (∀ g', g' < 4 → B' 0 (245 + g') = if g ≤ g' ∧ g' < ng then B 0 (245 + g') + zLv (B 0) (13 + (h * 4 + g') * 5) (F (8 + g')) else B 0 (245 + g')) ∧ (∀ h' g' p, h' < 6 → g' < 4 → p < 5 → B' 0 (13 + (h' * 4 + g') * 5 + p) = if h' = h ∧ g ≤ g' ∧ g' < ng then zAg (B 0) (13 + (h' * 4 + g') * 5) (F (8 + g')) p else B 0 (13 + (h' * 4 + g') * 5 + p)) := by
  intro d
  induction d with
  | zero =>
    intro g fu B y hd h1 hB
    obtain ⟨a, rfl⟩ : ∃ a, fu = a + 1 := ⟨fu - 1, by omega⟩
    refine ⟨B, ?_, fun _ _ => rfl, fun _ _ _ => rfl, fun g' _ => (if_neg (by omega)).symm, fun h' g' p _ _ _ => (if_neg (by omega)).symm⟩
    rw [f_X8_nextPeriod_l47]
    simp (disch := omega) only [zl_0, zl_1, zl_2, zl_3, zl_4, zl_5, zl_6, zl_7, zl_8, zl_9, zl_10, zl_11, zl_12, zl_13, zl_14, zl_15, zl_16, zl_20, zl_24, zl_26, zl_31, zl_32, zl_38, zl_44, zl_48, zl_50, zl_56, zl_57, zl_59, zl_62, zl_96, zl_97, zl_99, zl_100, zl_122, zl_133, zl_139, zl_145, zl_169, zl_185, zl_189, zl_213, zl_237, zl_241, zl_245, zl_249, zl_250, zl_255, zl_400, zl_401, zl_800, zl_999, zl_1000, zl_2406, zl_2500, zl_2807, zl_9999, zl_99999, zl_100000, zl_1000000000, zl_100000000, zb_let, zb_bd, zb_bd2, zb_bd3, zb_bd4, zb_bd5, zb_ck, zb_ckT, zb_ld, zb_st, not_false_eq_true, zc_le_t, nI_add, ↓reduceIte, hB, hF, zQ]
  | succ d ih =>
    intro g fu B y hd h1 hB
    obtain ⟨a, rfl⟩ : ∃ a, fu = a + 1 := ⟨fu - 1, by omega⟩
    have hsh := zx_sh hh (by omega : g < 4) K (fun z0 z1 z2 z3 => f_X8_nextPeriod_l47 K (nI h) a z0 z1 z2 z3) y (zLv (B 0) (13 + (h * 4 + g) * 5) (F (8 + g))) (B 0 (13 + (h * 4 + g) * 5 + 1) * F (8 + g) / nI 100) J B 99996
    have hsh : f_X8_nextPeriod_l114 K (fun z0 z1 z2 z3 => f_X8_nextPeriod_l47 K (nI h) a z0 z1 z2 z3) y (nI h) (nI g) (zLv (B 0) (13 + (h * 4 + g) * 5) (F (8 + g))) 100000 J (qf_up B 0 (upd (B 0) (13 + (h * 4 + g) * 5) (B 0 (13 + (h * 4 + g) * 5 + 1) * F (8 + g) / nI 100))) (nI 1) = _ := hsh
    obtain ⟨D1, hD1⟩ : ∃ D1, D1 = upd (zGr (B 0) (13 + (h * 4 + g) * 5) (B 0 (13 + (h * 4 + g) * 5 + 1) * F (8 + g) / nI 100)) (245 + g) (B 0 (245 + g) + zLv (B 0) (13 + (h * 4 + g) * 5) (F (8 + g))) := ⟨_, rfl⟩
    rw [← hD1] at hsh
    have hp : ∀ h' g' q, h' < 6 → g' < 4 → q < 5 → D1 (13 + (h' * 4 + g') * 5 + q) = zGr (B 0) (13 + (h * 4 + g) * 5) (B 0 (13 + (h * 4 + g) * 5 + 1) * F (8 + g) / nI 100) (13 + (h' * 4 + g') * 5 + q) := fun h' g' q a1 a2 a3 => by rw [hD1, zu_ne (by omega)]
    have ho : ∀ h' g', h' < 6 → g' < 4 → (h' ≠ h ∨ g' ≠ g) → ∀ q, q < 5 → D1 (13 + (h' * 4 + g') * 5 + q) = B 0 (13 + (h' * 4 + g') * 5 + q) := fun h' g' a1 a2 hn q hq => by rw [hp h' g' q a1 a2 hq, zGr_out (by omega)]
    obtain ⟨B', i1, i2, i3, i4, i5⟩ := ih (g + 1) a (qf_up B 0 D1) (y + zLv (B 0) (13 + (h * 4 + g) * 5) (F (8 + g))) (by omega) (by omega) (by rw [zu_upn (by omega), hB])
    rw [zu_up] at i1 i3 i4 i5
    refine ⟨B', ?_, ?_, ?_, ?_, ?_⟩
    · have hs : zQ (fun g => zLv D1 (13 + (h * 4 + g) * 5) (F (8 + g))) d (g + 1) (y + zLv (B 0) (13 + (h * 4 + g) * 5) (F (8 + g))) = zQ (fun g => zLv (B 0) (13 + (h * 4 + g) * 5) (F (8 + g))) (d + 1) g y := zQ_congr _ _ _ (fun j j1 j2 => zLv_congr (ho h j hh (by omega) (by omega)))
      rw [hs] at i1
      refine Eq.trans ?_ i1
      refine Eq.trans ?_ hsh
      rw [f_X8_nextPeriod_l47]
      simp (disch := omega) only [zl_0, zl_1, zl_2, zl_3, zl_4, zl_5, zl_6, zl_7, zl_8, zl_9, zl_10, zl_11, zl_12, zl_13, zl_14, zl_15, zl_16, zl_20, zl_24, zl_26, zl_31, zl_32, zl_38, zl_44, zl_48, zl_50, zl_56, zl_57, zl_59, zl_62, zl_96, zl_97, zl_99, zl_100, zl_122, zl_133, zl_139, zl_145, zl_169, zl_185, zl_189, zl_213, zl_237, zl_241, zl_245, zl_249, zl_250, zl_255, zl_400, zl_401, zl_800, zl_999, zl_1000, zl_2406, zl_2500, zl_2807, zl_9999, zl_99999, zl_100000, zl_1000000000, zl_100000000, zb_let, zb_bd, zb_bd2, zb_bd3, zb_bd4, zb_bd5, zb_ck, zb_ckT, zb_ld, zb_st, not_false_eq_true, zc_le_f, nI_add, ↓reduceIte, hB, hF, zx_at, f_X8_carriedOf]
      rfl
    · intro b hb
      rw [i2 b hb, zu_upn hb]
    · intro j j1 j2
      rw [i3 j j1 j2, hD1, zu_ne (by omega), zGr_out (by omega)]
    · intro g' hg'
      rw [i4 g' hg']
      by_cases c : g' = g
      · subst c
        rw [if_neg (by omega), if_pos ⟨Nat.le_refl _, by omega⟩, hD1, zu_same]
      · have e : D1 (245 + g') = B 0 (245 + g') := by rw [hD1, zu_ne (by omega), zGr_out (by omega)]
        by_cases c2 : g + 1 ≤ g' ∧ g' < ng
        · rw [if_pos c2, if_pos ⟨by omega, c2.2⟩, e, zLv_congr (ho h g' hh hg' (Or.inr c))]
        · rw [if_neg c2, if_neg (by omega), e]
    · intro h' g' p a1 a2 a3
      rw [i5 h' g' p a1 a2 a3]
      by_cases c : h' = h ∧ g' = g
      · obtain ⟨c1, c2⟩ := c
        subst c1 c2
        rw [if_neg (by omega), if_pos ⟨rfl, Nat.le_refl _, by omega⟩, hp h' g' p a1 a2 a3, zGr_at a3]
      · by_cases c2 : h' = h ∧ g + 1 ≤ g' ∧ g' < ng
        · rw [if_pos c2, if_pos ⟨c2.1, by omega, c2.2.2⟩]
          exact zAg_congr a3 (ho h' g' a1 a2 (by omega))
        · rw [if_neg c2, if_neg (by omega)]
          exact ho h' g' a1 a2 (by omega) p a3
theorem zx_np8_l {J F : Nat → Int32} {ng nh : Nat} (hng : ng ≤ 4) (hnh : nh ≤ 6) (hF : F 0 = nI ng) (hF2 : F 2 = nI nh) : ∀ (d h fu : Nat) (B : Nat → Nat → Int32) (y : Int32), h + d = nh → d < fu → B 3 = F → ∃ B' fu', 0 < fu' ∧ f_X8_nextPeriod_l13 fu J B y (nI h) = f_X8_nextPeriod_l13 fu' J B' (zQ (fun h => zQ (fun g => zLv (B 0) (13 + (h * 4 + g) * 5) (F (8 + g))) ng 0 (nI 0)) d h y) (nI nh) ∧ (∀ b, b ≠ 0 → B' b = B b) ∧ (∀ j, (j < 13 ∨ 145 ≤ j) → (j < 245 ∨ 249 ≤ j) → B' 0 j = B 0 j) ∧ (∀ g', g' < 4 → B' 0 (245 + g') = if g' < ng then zQ (fun h => zLv (B 0) (13 + (h * 4 + g') * 5) (F (8 + g'))) d h (B 0 (245 + g')) else B 0 (245 + g')) ∧ (∀ h' g' p, h' < 6 → g' < 4 → p < 5 → B' 0 (13 + (h' * 4 + g') * 5 + p) = if h ≤ h' ∧ h' < nh ∧ g' < ng then zAg (B 0) (13 + (h' * 4 + g') * 5) (F (8 + g')) p else B 0 (13 + (h' * 4 + g') * 5 + p)) ∧ (∀ h', h' < 6 → B' 0 (133 + h') = (if h ≤ h' ∧ h' < nh then nI 0 else B 0 (133 + h')) ∧ B' 0 (139 + h') = (if h ≤ h' ∧ h' < nh then nI 0 else B 0 (139 + h'))) := by
  intro d
  induction d with
  | zero =>
    intro h fu B y hd h1 hB
    have : h = nh := by omega
    subst this
    exact ⟨B, fu, h1, rfl, fun _ _ => rfl, fun _ _ _ => rfl, fun g' _ => by (split <;> rfl), fun h' g' p _ _ _ => (if_neg (by omega)).symm, fun h' _ => ⟨(if_neg (by omega)).symm, (if_neg (by omega)).symm⟩⟩
  | succ d ih =>
    intro h fu B y hd h1 hB
    obtain ⟨a, rfl⟩ : ∃ a, fu = a + 1 := ⟨fu - 1, by omega⟩
    obtain ⟨D0, hD0⟩ : ∃ D0, D0 = upd (upd (B 0) (133 + h) (nI 0)) (139 + h) (nI 0) := ⟨_, rfl⟩
    have d0 : ∀ j, j ≠ 133 + h → j ≠ 139 + h → D0 j = B 0 j := fun j j1 j2 => by rw [hD0, zu_ne j2, zu_ne j1]
    obtain ⟨B1, k1, k2, k3, k4, k5⟩ := zx_np8_in (J := J) hng hF (by omega : h < 6) (fun z0 z1 z2 z3 => f_X8_nextPeriod_l13 a z0 z1 z2 z3) ng 0 100000 (qf_up B 0 D0) y (by omega) (by omega) (by rw [zu_upn (by omega), hB])
    rw [zu_up] at k1 k3 k4 k5
    have hl0 : ∀ h' g', h' < 6 → g' < 4 → ∀ q, q < 5 → D0 (13 + (h' * 4 + g') * 5 + q) = B 0 (13 + (h' * 4 + g') * 5 + q) := fun h' g' a1 a2 q hq => d0 _ (by omega) (by omega)
    have hl1 : ∀ h' g', h' < 6 → g' < 4 → h' ≠ h → ∀ q, q < 5 → B1 0 (13 + (h' * 4 + g') * 5 + q) = B 0 (13 + (h' * 4 + g') * 5 + q) := fun h' g' a1 a2 hn q hq => by
      rw [k5 h' g' q a1 a2 hq, if_neg (fun z => hn z.1), hl0 h' g' a1 a2 q hq]
    obtain ⟨B', fu', i0, i1, i2, i3, i4, i5, i6⟩ := ih (h + 1) a B1 (zQ (fun g => zLv (B 0) (13 + (h * 4 + g) * 5) (F (8 + g))) ng 0 y) (by omega) (by omega) (by rw [k2 3 (by omega), zu_upn (by omega), hB])
    refine ⟨B', fu', i0, ?_, ?_, ?_, ?_, ?_, ?_⟩
    · have hs : zQ (fun h => zQ (fun g => zLv (B1 0) (13 + (h * 4 + g) * 5) (F (8 + g))) ng 0 (nI 0)) d (h + 1) (zQ (fun g => zLv (B 0) (13 + (h * 4 + g) * 5) (F (8 + g))) ng 0 y) = zQ (fun h => zQ (fun g => zLv (B 0) (13 + (h * 4 + g) * 5) (F (8 + g))) ng 0 (nI 0)) (d + 1) h y := by
        show _ = zQ _ d (h + 1) (y + zQ (fun g => zLv (B 0) (13 + (h * 4 + g) * 5) (F (8 + g))) ng 0 (nI 0))
        rw [← zQ_0]
        exact zQ_congr _ _ _ (fun j j1 j2 => zQ_congr _ _ _ (fun g g1 g2 => zLv_congr (hl1 j g (by omega) (by omega) (by omega))))
      have hs0 : zQ (fun g => zLv D0 (13 + (h * 4 + g) * 5) (F (8 + g))) ng 0 y = zQ (fun g => zLv (B 0) (13 + (h * 4 + g) * 5) (F (8 + g))) ng 0 y := zQ_congr _ _ _ (fun g g1 g2 => zLv_congr (hl0 h g (by omega) (by omega)))
      rw [hs] at i1
      rw [hs0] at k1
      refine Eq.trans ?_ i1
      refine Eq.trans ?_ k1
      rw [f_X8_nextPeriod_l13]
      simp (disch := omega) only [zl_0, zl_1, zl_2, zl_3, zl_4, zl_5, zl_6, zl_7, zl_8, zl_9, zl_10, zl_11, zl_12, zl_13, zl_14, zl_15, zl_16, zl_20, zl_24, zl_26, zl_31, zl_32, zl_38, zl_44, zl_48, zl_50, zl_56, zl_57, zl_59, zl_62, zl_96, zl_97, zl_99, zl_100, zl_122, zl_133, zl_139, zl_145, zl_169, zl_185, zl_189, zl_213, zl_237, zl_241, zl_245, zl_249, zl_250, zl_255, zl_400, zl_401, zl_800, zl_999, zl_1000, zl_2406, zl_2500, zl_2807, zl_9999, zl_99999, zl_100000, zl_1000000000, zl_100000000, zb_let, zb_bd, zb_bd2, zb_bd3, zb_bd4, zb_bd5, zb_ck, zb_ckT, zb_ld, zb_st, not_false_eq_true, zc_le_f, nI_add, ↓reduceIte, hB, hF2, zu_up, zu_upup, ← hD0]
    · intro b hb
      rw [i2 b hb, k2 b hb, zu_upn hb]
    · intro j j1 j2
      rw [i3 j j1 j2, k3 j (by omega) j2, d0 j (by omega) (by omega)]
    · intro g' hg'
      rw [i4 g' hg', k4 g' hg', d0 _ (by omega) (by omega)]
      by_cases c : g' < ng
      · rw [if_pos c, if_pos c, if_pos ⟨by omega, c⟩, zLv_congr (hl0 h g' (by omega) hg')]
        exact zQ_congr _ _ _ (fun j j1 j2 => zLv_congr (hl1 j g' (by omega) hg' (by omega)))
      · rw [if_neg c, if_neg c, if_neg (by omega)]
    · intro h' g' p a1 a2 a3
      rw [i5 h' g' p a1 a2 a3]
      by_cases c : h' = h
      · subst c
        rw [if_neg (by omega), k5 h' g' p a1 a2 a3]
        by_cases c2 : g' < ng
        · rw [if_pos ⟨rfl, by omega, c2⟩, if_pos ⟨Nat.le_refl _, by omega, c2⟩]
          exact zAg_congr a3 (hl0 h' g' a1 a2)
        · rw [if_neg (fun z => c2 z.2.2), if_neg (fun z => c2 z.2.2), hl0 h' g' a1 a2 p a3]
      · by_cases c2 : h + 1 ≤ h' ∧ h' < nh ∧ g' < ng
        · rw [if_pos c2, if_pos ⟨by omega, c2.2⟩]
          exact zAg_congr a3 (hl1 h' g' a1 a2 c)
        · rw [if_neg c2, if_neg (by omega)]
          exact hl1 h' g' a1 a2 c p a3
    · intro h' hh'
      obtain ⟨q1, q2⟩ := i6 h' hh'
      have r1 : B1 0 (133 + h') = D0 (133 + h') := k3 _ (by omega) (by omega)
      have r2 : B1 0 (139 + h') = D0 (139 + h') := k3 _ (by omega) (by omega)
      rw [r1] at q1
      rw [r2] at q2
      by_cases c : h' = h
      · subst c
        rw [if_neg (by omega)] at q1 q2
        refine ⟨?_, ?_⟩
        · rw [q1, if_pos ⟨Nat.le_refl _, by omega⟩, hD0, zu_ne (by omega), zu_same]
        · rw [q2, if_pos ⟨Nat.le_refl _, by omega⟩, hD0, zu_same]
      · rw [d0 _ (by omega) (by omega)] at q1 q2
        by_cases c2 : h + 1 ≤ h' ∧ h' < nh
        · rw [if_pos c2] at q1 q2
          exact ⟨by rw [q1, if_pos ⟨by omega, c2.2⟩], by rw [q2, if_pos ⟨by omega, c2.2⟩]⟩
        · rw [if_neg c2] at q1 q2
          exact ⟨by rw [q1, if_neg (by omega)], by rw [q2, if_neg (by omega)]⟩
