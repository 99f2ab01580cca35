/-! paying -/
def zRep (c t : Nat) (sb : Option (Nat × Nat)) : Option Nat := if c ≤ t then some 0 else match sb with
  | none => none
  | some (ts, f) => if (c - t) * f ≤ ts then some ((c - t) * f) else none
def zOn (b : Bool) : Int32 := if b then nI 1 else nI 0
def zRv : Option Nat → Int32
  | none => -nI 1
  | some v => nI v
/-- the greatest cost that can be paid -/
def zMx (t : Nat) : Option (Nat × Nat) → Nat
  | none => t
  | some (ts, f) => t + ts / f
theorem zRep_some {c t : Nat} {sb : Option (Nat × Nat)} (h : ∀ ts f, sb = some (ts, f) → 1 ≤ f) : (zRep c t sb).isSome = decide (c ≤ zMx t sb) := by
  unfold zRep
  by_cases hc : c ≤ t
  · rw [if_pos hc]
    have : c ≤ zMx t sb := by
      cases sb with
      | none => exact hc
      | some p => obtain ⟨ts, f⟩ := p; exact Nat.le_trans hc (Nat.le_add_right _ _)
    rw [decide_eq_true this]
    rfl
  · rw [if_neg hc]
    cases sb with
    | none => rw [decide_eq_false (show ¬ c ≤ zMx t none from hc)]; rfl
    | some p =>
      obtain ⟨ts, f⟩ := p
      have hf := h ts f rfl
      show (if (c - t) * f ≤ ts then some ((c - t) * f) else none).isSome = decide (c ≤ t + ts / f)
      have e : (c - t) * f ≤ ts ↔ c - t ≤ ts / f := (Nat.le_div_iff_mul_le (by omega)).symm
      by_cases h2 : (c - t) * f ≤ ts
      · rw [if_pos h2, decide_eq_true (show c ≤ t + ts / f by have := e.mp h2; omega)]; rfl
      · rw [if_neg h2, decide_eq_false (show ¬ c ≤ t + ts / f by intro h3; exact h2 (e.mpr (by omega)))]; rfl
section ZY
variable {I : Nat → Int32} {A : Nat → Nat → Int32} {G : Nat → Int32 × (Nat → Nat → Int32)} {T : Nat} {J : Nat → Int32} {B : Nat → Nat → Int32} {w : Int64} {ng nk nh ns kept next : Nat}
theorem zx_good (hJ : zJ I A G J B ng nk nh ns kept next) {k : Nat} (hk : k < nk) : ∃ g r, g < ng ∧ 1 ≤ r ∧ r ≤ 20 ∧ A 19 k = nI g ∧ A 20 k = nI r ∧ B 3 (20 + k) = nI g ∧ B 3 (26 + k) = nI r := by
  obtain ⟨⟨g, hg, v1⟩, ⟨r, r1, r2, v2⟩, _⟩ := (zp_V hJ).2 k hk
  exact ⟨g, r, hg, r1, r2, by rw [zp_19 hJ hk, v1], by rw [zp_20 hJ hk, v2], v1, v2⟩
/-- what the substitute of a group gives: its coupons and the factor -/
def zSb (B : Nat → Nat → Int32) (h g : Nat) : Option (Nat × Nat) := if B 3 (12 + g) < 0 then none else some (zTn (B 0) ((h * 4 + (B 3 (12 + g)).toNatClampNeg) * 5), (B 3 (16 + g)).toNatClampNeg)
theorem zx_sb (hJ : zJ I A G J B ng nk nh ns kept next) (h : Nat) {g : Nat} (hg : g < ng) : (B 3 (12 + g) = -nI 1 ∧ A 17 g = -nI 1 ∧ zSb B h g = none) ∨ ∃ s f, s < ng ∧ 1 ≤ f ∧ f ≤ 9 ∧ B 3 (12 + g) = nI s ∧ B 3 (16 + g) = nI f ∧ A 17 g = nI s ∧ A 18 g = nI f ∧ zSb B h g = some (zTn (B 0) ((h * 4 + s) * 5), f) := by
  have hb := zp_b hJ
  unfold zSb
  rcases zp_sub hJ hg with e | ⟨s, s1, s2, f, f1, f2, f3⟩
  · left
    exact ⟨e, by rw [zp_17 hJ hg, e], by rw [e, if_pos (by decide)]⟩
  · right
    exact ⟨s, f, s1, f1, f2, s2, f3, by rw [zp_17 hJ hg, s2], by rw [zp_18 hJ hg, f3], by rw [s2, f3, if_neg (nI_pos (by omega)), nI_clamp (by omega), nI_clamp (by omega)]⟩
theorem zSb_f (hJ : zJ I A G J B ng nk nh ns kept next) {h g : Nat} (hh : h < 6) (hg : g < ng) : ∀ ts f, zSb B h g = some (ts, f) → 1 ≤ f ∧ f ≤ 9 ∧ ts ≤ 26730 := by
  intro ts f e
  have hb := zp_b hJ
  rcases zx_sb hJ h hg with ⟨_, _, e2⟩ | ⟨s, f', s1, f1, f2, _, _, _, _, e2⟩
  · rw [e2] at e; cases e
  · rw [e2] at e
    have e := Option.some.inj e
    have h1 : zTn (B 0) ((h * 4 + s) * 5) = ts := (Prod.mk.inj e).1
    have h2 : f' = f := (Prod.mk.inj e).2
    rw [← h1, ← h2]
    exact ⟨f1, f2, zx_hle hJ hh (by omega)⟩
theorem zx_pay (hJ : zJ I A G J B ng nk nh ns kept next) {h k g r u : Nat} (hh : h < nh) (hk : k < nk) (hg : g < ng) (hr : r ≤ 20) (hu : u ≤ 9999) (v1 : A 19 k = nI g) (v2 : A 20 k = nI r) (v3 : B 3 (20 + k) = nI g) (v4 : B 3 (26 + k) = nI r) : f_X7_canPay A (nI h) (nI k) (nI u) = some (zOn (zRep (u * r) (zTn (B 0) ((h * 4 + g) * 5)) (zSb B h g)).isSome) ∧ f_X8_replaced B (nI h) (nI k) (nI u) = some (zRv (zRep (u * r) (zTn (B 0) ((h * 4 + g) * 5)) (zSb B h g))) ∧ (∀ v, zRep (u * r) (zTn (B 0) ((h * 4 + g) * 5)) (zSb B h g) = some v → f_X7_fromSubstitute A (nI h) (nI k) (nI u) = some (nI v)) := by
  have hb := zp_b hJ
  have h7 := zx_h7 hJ (by omega : h < 6) (by omega : g < 4)
  have h8 := zx_h8 hJ (by omega : h < 6) (by omega : g < 4)
  have ht := zx_hle hJ (by omega : h < 6) (by omega : g < 4)
  have hc : u * r ≤ 9999 * 20 := Nat.mul_le_mul hu hr
  generalize zTn (B 0) ((h * 4 + g) * 5) = t at h7 h8 ht
  generalize hce : u * r = c at hc
  have hpos := zx_pos (s := c) (t := t) (by omega) (by omega)
  have e18 : A 18 g = B 3 (16 + g) := zp_18 hJ hg
  have hfs : f_X7_fromSubstitute A (nI h) (nI k) (nI u) = some (nI (c - t) * A 18 g) := by
    unfold f_X7_fromSubstitute
    simp (disch := omega) only [zl_0, zl_1, zl_2, zl_3, zl_4, zl_5, zl_6, zl_7, zl_8, zl_9, zl_10, zl_11, zl_12, zl_13, zl_14, zl_15, zl_16, zl_20, zl_24, zl_26, zl_31, zl_32, zl_38, zl_44, zl_48, zl_50, zl_56, zl_57, zl_59, zl_62, zl_96, zl_97, zl_99, zl_100, zl_122, zl_133, zl_139, zl_145, zl_169, zl_185, zl_189, zl_213, zl_237, zl_241, zl_245, zl_249, zl_250, zl_255, zl_400, zl_401, zl_800, zl_999, zl_1000, zl_2406, zl_2500, zl_2807, zl_9999, zl_99999, zl_100000, zl_1000000000, zl_100000000, zb_let, zb_bd, zb_bd2, zb_bd3, zb_bd4, zb_bd5, zb_ck, zb_ckT, zb_ld, zb_st, not_false_eq_true, pk_mul, v1, v2, h7, hce, hpos]
  rcases zx_sb hJ h hg with ⟨e1, e2, e3⟩ | ⟨s, f, s1, f1, f2, e1, e2, e3, e4, e5⟩
  · rw [e3]
    by_cases hct : c ≤ t
    · have er : zRep c t none = some 0 := by unfold zRep; rw [if_pos hct]
      rw [er]
      refine ⟨?_, ?_, ?_⟩
      · unfold f_X7_canPay
        simp (disch := omega) only [zl_0, zl_1, zl_2, zl_3, zl_4, zl_5, zl_6, zl_7, zl_8, zl_9, zl_10, zl_11, zl_12, zl_13, zl_14, zl_15, zl_16, zl_20, zl_24, zl_26, zl_31, zl_32, zl_38, zl_44, zl_48, zl_50, zl_56, zl_57, zl_59, zl_62, zl_96, zl_97, zl_99, zl_100, zl_122, zl_133, zl_139, zl_145, zl_169, zl_185, zl_189, zl_213, zl_237, zl_241, zl_245, zl_249, zl_250, zl_255, zl_400, zl_401, zl_800, zl_999, zl_1000, zl_2406, zl_2500, zl_2807, zl_9999, zl_99999, zl_100000, zl_1000000000, zl_100000000, zb_let, zb_bd, zb_bd2, zb_bd3, zb_bd4, zb_bd5, zb_ck, zb_ckT, zb_ld, zb_st, not_false_eq_true, zc_m1, zc_m2, zc_m3, zc_m4, zc_m5, zc_m6, zc_lt_t, zc_lt_f, zc_le_t, zc_le_f, zc_eq_t, zc_eq_f, nI_add, pk_mul, z0a, Nat.zero_add, Nat.add_zero, Nat.reduceAdd, ↓reduceIte, v1, v2, e2, h7, hce]
        rfl
      · unfold f_X8_replaced
        have n1 : ¬ nI 0 < nI c - nI t := by
          rw [Int32.lt_iff_toInt_lt, pk_sub_toInt (by omega) (by omega), nI_toInt (by omega)]
          omega
        simp (disch := omega) only [zl_0, zl_1, zl_2, zl_3, zl_4, zl_5, zl_6, zl_7, zl_8, zl_9, zl_10, zl_11, zl_12, zl_13, zl_14, zl_15, zl_16, zl_20, zl_24, zl_26, zl_31, zl_32, zl_38, zl_44, zl_48, zl_50, zl_56, zl_57, zl_59, zl_62, zl_96, zl_97, zl_99, zl_100, zl_122, zl_133, zl_139, zl_145, zl_169, zl_185, zl_189, zl_213, zl_237, zl_241, zl_245, zl_249, zl_250, zl_255, zl_400, zl_401, zl_800, zl_999, zl_1000, zl_2406, zl_2500, zl_2807, zl_9999, zl_99999, zl_100000, zl_1000000000, zl_100000000, zb_let, zb_bd, zb_bd2, zb_bd3, zb_bd4, zb_bd5, zb_ck, zb_ckT, zb_ld, zb_st, not_false_eq_true, zc_m1, zc_m2, zc_m3, zc_m4, zc_m5, zc_m6, zc_lt_t, zc_lt_f, zc_le_t, zc_le_f, zc_eq_t, zc_eq_f, nI_add, pk_mul, z0a, Nat.zero_add, Nat.add_zero, Nat.reduceAdd, ↓reduceIte, v3, v4, h8, hce, n1]
        rfl
      · intro v hv
        have : 0 = v := Option.some.inj hv
        subst this
        rw [hfs, show c - t = 0 by omega, show nI 0 * A 18 g = nI 0 from Int32.zero_mul]
    · have er : zRep c t none = none := by unfold zRep; rw [if_neg hct]
      rw [er]
      refine ⟨?_, ?_, ?_⟩
      · unfold f_X7_canPay
        simp (disch := omega) only [zl_0, zl_1, zl_2, zl_3, zl_4, zl_5, zl_6, zl_7, zl_8, zl_9, zl_10, zl_11, zl_12, zl_13, zl_14, zl_15, zl_16, zl_20, zl_24, zl_26, zl_31, zl_32, zl_38, zl_44, zl_48, zl_50, zl_56, zl_57, zl_59, zl_62, zl_96, zl_97, zl_99, zl_100, zl_122, zl_133, zl_139, zl_145, zl_169, zl_185, zl_189, zl_213, zl_237, zl_241, zl_245, zl_249, zl_250, zl_255, zl_400, zl_401, zl_800, zl_999, zl_1000, zl_2406, zl_2500, zl_2807, zl_9999, zl_99999, zl_100000, zl_1000000000, zl_100000000, zb_let, zb_bd, zb_bd2, zb_bd3, zb_bd4, zb_bd5, zb_ck, zb_ckT, zb_ld, zb_st, not_false_eq_true, zc_m1, zc_m2, zc_m3, zc_m4, zc_m5, zc_m6, zc_lt_t, zc_lt_f, zc_le_t, zc_le_f, zc_eq_t, zc_eq_f, nI_add, pk_mul, z0a, Nat.zero_add, Nat.add_zero, Nat.reduceAdd, ↓reduceIte, v1, v2, e2, h7, hce]
        rfl
      · unfold f_X8_replaced
        simp (disch := omega) only [zl_0, zl_1, zl_2, zl_3, zl_4, zl_5, zl_6, zl_7, zl_8, zl_9, zl_10, zl_11, zl_12, zl_13, zl_14, zl_15, zl_16, zl_20, zl_24, zl_26, zl_31, zl_32, zl_38, zl_44, zl_48, zl_50, zl_56, zl_57, zl_59, zl_62, zl_96, zl_97, zl_99, zl_100, zl_122, zl_133, zl_139, zl_145, zl_169, zl_185, zl_189, zl_213, zl_237, zl_241, zl_245, zl_249, zl_250, zl_255, zl_400, zl_401, zl_800, zl_999, zl_1000, zl_2406, zl_2500, zl_2807, zl_9999, zl_99999, zl_100000, zl_1000000000, zl_100000000, zb_let, zb_bd, zb_bd2, zb_bd3, zb_bd4, zb_bd5, zb_ck, zb_ckT, zb_ld, zb_st, not_false_eq_true, zc_m1, zc_m2, zc_m3, zc_m4, zc_m5, zc_m6, zc_lt_t, zc_lt_f, zc_le_t, zc_le_f, zc_eq_t, zc_eq_f, nI_add, pk_mul, z0a, Nat.zero_add, Nat.add_zero, Nat.reduceAdd, ↓reduceIte, v3, v4, h8, hce, pk_sub, e1]
        rfl
      · intro v hv; cases hv
  · rw [e5]
    have h7s := zx_h7 hJ (by omega : h < 6) (by omega : s < 4)
    have h8s := zx_h8 hJ (by omega : h < 6) (by omega : s < 4)
    have hts := zx_hle hJ (by omega : h < 6) (by omega : s < 4)
    generalize zTn (B 0) ((h * 4 + s) * 5) = ts at h7s h8s hts
    have hm : (c - t) * f ≤ (9999 * 20) * 9 := Nat.mul_le_mul (by omega) f2
    by_cases hct : c ≤ t
    · have er : zRep c t (some (ts, f)) = some 0 := by unfold zRep; rw [if_pos hct]
      rw [er]
      have k0 : (c - t) * f = 0 := by rw [show c - t = 0 by omega, Nat.zero_mul]
      refine ⟨?_, ?_, ?_⟩
      · unfold f_X7_canPay
        simp (disch := omega) only [zl_0, zl_1, zl_2, zl_3, zl_4, zl_5, zl_6, zl_7, zl_8, zl_9, zl_10, zl_11, zl_12, zl_13, zl_14, zl_15, zl_16, zl_20, zl_24, zl_26, zl_31, zl_32, zl_38, zl_44, zl_48, zl_50, zl_56, zl_57, zl_59, zl_62, zl_96, zl_97, zl_99, zl_100, zl_122, zl_133, zl_139, zl_145, zl_169, zl_185, zl_189, zl_213, zl_237, zl_241, zl_245, zl_249, zl_250, zl_255, zl_400, zl_401, zl_800, zl_999, zl_1000, zl_2406, zl_2500, zl_2807, zl_9999, zl_99999, zl_100000, zl_1000000000, zl_100000000, zb_let, zb_bd, zb_bd2, zb_bd3, zb_bd4, zb_bd5, zb_ck, zb_ckT, zb_ld, zb_st, not_false_eq_true, zc_m1, zc_m2, zc_m3, zc_m4, zc_m5, zc_m6, zc_lt_t, zc_lt_f, zc_le_t, zc_le_f, zc_eq_t, zc_eq_f, nI_add, pk_mul, z0a, Nat.zero_add, Nat.add_zero, Nat.reduceAdd, ↓reduceIte, v1, e3, h7s, hfs, e4, k0]
        rfl
      · unfold f_X8_replaced
        have n1 : ¬ nI 0 < nI c - nI t := by
          rw [Int32.lt_iff_toInt_lt, pk_sub_toInt (by omega) (by omega), nI_toInt (by omega)]
          omega
        simp (disch := omega) only [zl_0, zl_1, zl_2, zl_3, zl_4, zl_5, zl_6, zl_7, zl_8, zl_9, zl_10, zl_11, zl_12, zl_13, zl_14, zl_15, zl_16, zl_20, zl_24, zl_26, zl_31, zl_32, zl_38, zl_44, zl_48, zl_50, zl_56, zl_57, zl_59, zl_62, zl_96, zl_97, zl_99, zl_100, zl_122, zl_133, zl_139, zl_145, zl_169, zl_185, zl_189, zl_213, zl_237, zl_241, zl_245, zl_249, zl_250, zl_255, zl_400, zl_401, zl_800, zl_999, zl_1000, zl_2406, zl_2500, zl_2807, zl_9999, zl_99999, zl_100000, zl_1000000000, zl_100000000, zb_let, zb_bd, zb_bd2, zb_bd3, zb_bd4, zb_bd5, zb_ck, zb_ckT, zb_ld, zb_st, not_false_eq_true, zc_m1, zc_m2, zc_m3, zc_m4, zc_m5, zc_m6, zc_lt_t, zc_lt_f, zc_le_t, zc_le_f, zc_eq_t, zc_eq_f, nI_add, pk_mul, z0a, Nat.zero_add, Nat.add_zero, Nat.reduceAdd, ↓reduceIte, v3, v4, h8, hce, n1]
        rfl
      · intro v hv
        have : 0 = v := Option.some.inj hv
        subst this
        rw [hfs, e4, pk_mul, k0]
    · by_cases hp : (c - t) * f ≤ ts
      · have er : zRep c t (some (ts, f)) = some ((c - t) * f) := by
          unfold zRep
          rw [if_neg hct]
          show (if (c - t) * f ≤ ts then some ((c - t) * f) else none) = _
          rw [if_pos hp]
        rw [er]
        refine ⟨?_, ?_, ?_⟩
        · unfold f_X7_canPay
          simp (disch := omega) only [zl_0, zl_1, zl_2, zl_3, zl_4, zl_5, zl_6, zl_7, zl_8, zl_9, zl_10, zl_11, zl_12, zl_13, zl_14, zl_15, zl_16, zl_20, zl_24, zl_26, zl_31, zl_32, zl_38, zl_44, zl_48, zl_50, zl_56, zl_57, zl_59, zl_62, zl_96, zl_97, zl_99, zl_100, zl_122, zl_133, zl_139, zl_145, zl_169, zl_185, zl_189, zl_213, zl_237, zl_241, zl_245, zl_249, zl_250, zl_255, zl_400, zl_401, zl_800, zl_999, zl_1000, zl_2406, zl_2500, zl_2807, zl_9999, zl_99999, zl_100000, zl_1000000000, zl_100000000, zb_let, zb_bd, zb_bd2, zb_bd3, zb_bd4, zb_bd5, zb_ck, zb_ckT, zb_ld, zb_st, not_false_eq_true, zc_m1, zc_m2, zc_m3, zc_m4, zc_m5, zc_m6, zc_lt_t, zc_lt_f, zc_le_t, zc_le_f, zc_eq_t, zc_eq_f, nI_add, pk_mul, z0a, Nat.zero_add, Nat.add_zero, Nat.reduceAdd, ↓reduceIte, v1, e3, h7s, hfs, e4]
          rfl
        · unfold f_X8_replaced
          simp (disch := omega) only [zl_0, zl_1, zl_2, zl_3, zl_4, zl_5, zl_6, zl_7, zl_8, zl_9, zl_10, zl_11, zl_12, zl_13, zl_14, zl_15, zl_16, zl_20, zl_24, zl_26, zl_31, zl_32, zl_38, zl_44, zl_48, zl_50, zl_56, zl_57, zl_59, zl_62, zl_96, zl_97, zl_99, zl_100, zl_122, zl_133, zl_139, zl_145, zl_169, zl_185, zl_189, zl_213, zl_237, zl_241, zl_245, zl_249, zl_250, zl_255, zl_400, zl_401, zl_800, zl_999, zl_1000, zl_2406, zl_2500, zl_2807, zl_9999, zl_99999, zl_100000, zl_1000000000, zl_100000000, zb_let, zb_bd, zb_bd2, zb_bd3, zb_bd4, zb_bd5, zb_ck, zb_ckT, zb_ld, zb_st, not_false_eq_true, zc_m1, zc_m2, zc_m3, zc_m4, zc_m5, zc_m6, zc_lt_t, zc_lt_f, zc_le_t, zc_le_f, zc_eq_t, zc_eq_f, nI_add, pk_mul, z0a, Nat.zero_add, Nat.add_zero, Nat.reduceAdd, ↓reduceIte, v3, v4, h8, hce, pk_sub, e1, e2, h8s]
          rfl
        · intro v hv
          have : (c - t) * f = v := Option.some.inj hv
          subst this
          rw [hfs, e4, pk_mul]
      · have er : zRep c t (some (ts, f)) = none := by
          unfold zRep
          rw [if_neg hct]
          show (if (c - t) * f ≤ ts then some ((c - t) * f) else none) = _
          rw [if_neg hp]
        rw [er]
        refine ⟨?_, ?_, ?_⟩
        · unfold f_X7_canPay
          simp (disch := omega) only [zl_0, zl_1, zl_2, zl_3, zl_4, zl_5, zl_6, zl_7, zl_8, zl_9, zl_10, zl_11, zl_12, zl_13, zl_14, zl_15, zl_16, zl_20, zl_24, zl_26, zl_31, zl_32, zl_38, zl_44, zl_48, zl_50, zl_56, zl_57, zl_59, zl_62, zl_96, zl_97, zl_99, zl_100, zl_122, zl_133, zl_139, zl_145, zl_169, zl_185, zl_189, zl_213, zl_237, zl_241, zl_245, zl_249, zl_250, zl_255, zl_400, zl_401, zl_800, zl_999, zl_1000, zl_2406, zl_2500, zl_2807, zl_9999, zl_99999, zl_100000, zl_1000000000, zl_100000000, zb_let, zb_bd, zb_bd2, zb_bd3, zb_bd4, zb_bd5, zb_ck, zb_ckT, zb_ld, zb_st, not_false_eq_true, zc_m1, zc_m2, zc_m3, zc_m4, zc_m5, zc_m6, zc_lt_t, zc_lt_f, zc_le_t, zc_le_f, zc_eq_t, zc_eq_f, nI_add, pk_mul, z0a, Nat.zero_add, Nat.add_zero, Nat.reduceAdd, ↓reduceIte, v1, e3, h7s, hfs, e4]
          rfl
        · unfold f_X8_replaced
          simp (disch := omega) only [zl_0, zl_1, zl_2, zl_3, zl_4, zl_5, zl_6, zl_7, zl_8, zl_9, zl_10, zl_11, zl_12, zl_13, zl_14, zl_15, zl_16, zl_20, zl_24, zl_26, zl_31, zl_32, zl_38, zl_44, zl_48, zl_50, zl_56, zl_57, zl_59, zl_62, zl_96, zl_97, zl_99, zl_100, zl_122, zl_133, zl_139, zl_145, zl_169, zl_185, zl_189, zl_213, zl_237, zl_241, zl_245, zl_249, zl_250, zl_255, zl_400, zl_401, zl_800, zl_999, zl_1000, zl_2406, zl_2500, zl_2807, zl_9999, zl_99999, zl_100000, zl_1000000000, zl_100000000, zb_let, zb_bd, zb_bd2, zb_bd3, zb_bd4, zb_bd5, zb_ck, zb_ckT, zb_ld, zb_st, not_false_eq_true, zc_m1, zc_m2, zc_m3, zc_m4, zc_m5, zc_m6, zc_lt_t, zc_lt_f, zc_le_t, zc_le_f, zc_eq_t, zc_eq_f, nI_add, pk_mul, z0a, Nat.zero_add, Nat.add_zero, Nat.reduceAdd, ↓reduceIte, v3, v4, h8, hce, pk_sub, e1, e2, h8s]
          rfl
        · intro v hv; cases hv
theorem zp_stock (hJ : zJ I A G J B ng nk nh ns kept next) {s k : Nat} (hs : s < 4) (hk : k < 6) : ∃ n, n ≤ 99999 ∧ B 0 (145 + (s * 6 + k)) = nI n ∧ A 39 (s * 6 + k) = nI n := by
  obtain ⟨n, n1, n2⟩ := (zp_O hJ).2.2.2.2.2.2.2.1 (s * 6 + k) (by omega)
  exact ⟨n, n1, n2, by rw [zr_6 (zp_R hJ) (by omega), n2]⟩
def zWhy (c : Int32) (stock u : Nat) (b : Bool) : Int32 := if c = nI 0 then (if u ≤ stock then (if b then nI 0 else nI 3) else nI 2) else nI 1
theorem zx_why (hJ : zJ I A G J B ng nk nh ns kept next) {h s k g r u n : Nat} (hh : h < nh) (hs : s < ns) (hk : k < nk) (hg : g < ng) (hr : r ≤ 20) (hu : u ≤ 9999) (v1 : A 19 k = nI g) (v2 : A 20 k = nI r) (v3 : B 3 (20 + k) = nI g) (v4 : B 3 (26 + k) = nI r) (n1 : n ≤ 99999) (n2 : B 0 (145 + (s * 6 + k)) = nI n) (n3 : A 39 (s * 6 + k) = nI n) : f_X7_reasonAgainst A (nI h) (nI s) (nI k) (nI u) = some (zWhy (zC (B 0) s) n u (zRep (u * r) (zTn (B 0) ((h * 4 + g) * 5)) (zSb B h g)).isSome) ∧ f_X8_reason B (nI h) (nI s) (nI k) (nI u) = some (zWhy (zC (B 0) s) n u (zRep (u * r) (zTn (B 0) ((h * 4 + g) * 5)) (zSb B h g)).isSome) := by
  have hb := zp_b hJ
  obtain ⟨p7, p8, _⟩ := zx_pay hJ hh hk hg hr hu v1 v2 v3 v4
  have c7 := zx_closed7 (zp_R hJ) (by omega : s < 4)
  have c8 := zx_closed8 (B := B) (by omega : s < 4)
  have hv : ∀ v, zRep (u * r) (zTn (B 0) ((h * 4 + g) * 5)) (zSb B h g) = some v → v < 2147483648 := by
    intro v e
    have hc : u * r ≤ 9999 * 20 := Nat.mul_le_mul hu hr
    unfold zRep at e
    by_cases h1 : u * r ≤ zTn (B 0) ((h * 4 + g) * 5)
    · rw [if_pos h1] at e
      have := Option.some.inj e
      omega
    · rw [if_neg h1] at e
      cases hsb : zSb B h g with
      | none => rw [hsb] at e; cases e
      | some p =>
        obtain ⟨ts, f⟩ := p
        have hf := zSb_f hJ (by omega : h < 6) hg ts f hsb
        rw [hsb] at e
        have e : (if (u * r - zTn (B 0) ((h * 4 + g) * 5)) * f ≤ ts then some ((u * r - zTn (B 0) ((h * 4 + g) * 5)) * f) else none) = some v := e
        by_cases h2 : (u * r - zTn (B 0) ((h * 4 + g) * 5)) * f ≤ ts
        · rw [if_pos h2] at e
          have := Option.some.inj e
          omega
        · rw [if_neg h2] at e; cases e
  generalize zRep (u * r) (zTn (B 0) ((h * 4 + g) * 5)) (zSb B h g) = q at p7 p8 hv
  unfold f_X7_reasonAgainst f_X8_reason f_X5_shelf zWhy
  rcases zC_01 (B 0) s with hc | hc
  · rw [hc] at c7 c8
    rw [hc]
    by_cases hst : u ≤ n
    · cases q with
      | none =>
        constructor
        · simp (disch := omega) only [zl_0, zl_1, zl_2, zl_3, zl_4, zl_5, zl_6, zl_7, zl_8, zl_9, zl_10, zl_11, zl_12, zl_13, zl_14, zl_15, zl_16, zl_20, zl_24, zl_26, zl_31, zl_32, zl_38, zl_44, zl_48, zl_50, zl_56, zl_57, zl_59, zl_62, zl_96, zl_97, zl_99, zl_100, zl_122, zl_133, zl_139, zl_145, zl_169, zl_185, zl_189, zl_213, zl_237, zl_241, zl_245, zl_249, zl_250, zl_255, zl_400, zl_401, zl_800, zl_999, zl_1000, zl_2406, zl_2500, zl_2807, zl_9999, zl_99999, zl_100000, zl_1000000000, zl_100000000, zb_let, zb_bd, zb_bd2, zb_bd3, zb_bd4, zb_bd5, zb_ck, zb_ckT, zb_ld, zb_st, not_false_eq_true, zc_m1, zc_m2, zc_m3, zc_m4, zc_m5, zc_m6, zc_lt_t, zc_lt_f, zc_le_t, zc_le_f, zc_eq_t, zc_eq_f, nI_add, pk_mul, z0a, Nat.zero_add, Nat.add_zero, Nat.reduceAdd, ↓reduceIte, c7, n3, p7, zOn, Option.isSome_none, Bool.false_eq_true, hst]
        · simp (disch := omega) only [zl_0, zl_1, zl_2, zl_3, zl_4, zl_5, zl_6, zl_7, zl_8, zl_9, zl_10, zl_11, zl_12, zl_13, zl_14, zl_15, zl_16, zl_20, zl_24, zl_26, zl_31, zl_32, zl_38, zl_44, zl_48, zl_50, zl_56, zl_57, zl_59, zl_62, zl_96, zl_97, zl_99, zl_100, zl_122, zl_133, zl_139, zl_145, zl_169, zl_185, zl_189, zl_213, zl_237, zl_241, zl_245, zl_249, zl_250, zl_255, zl_400, zl_401, zl_800, zl_999, zl_1000, zl_2406, zl_2500, zl_2807, zl_9999, zl_99999, zl_100000, zl_1000000000, zl_100000000, zb_let, zb_bd, zb_bd2, zb_bd3, zb_bd4, zb_bd5, zb_ck, zb_ckT, zb_ld, zb_st, not_false_eq_true, zc_m1, zc_m2, zc_m3, zc_m4, zc_m5, zc_m6, zc_lt_t, zc_lt_f, zc_le_t, zc_le_f, zc_eq_t, zc_eq_f, nI_add, pk_mul, z0a, Nat.zero_add, Nat.add_zero, Nat.reduceAdd, ↓reduceIte, c8, n2, p8, zn_6, Nat.add_assoc, zRv, Option.isSome_none, Bool.false_eq_true, hst]
      | some v =>
        have := hv v rfl
        constructor
        · simp (disch := omega) only [zl_0, zl_1, zl_2, zl_3, zl_4, zl_5, zl_6, zl_7, zl_8, zl_9, zl_10, zl_11, zl_12, zl_13, zl_14, zl_15, zl_16, zl_20, zl_24, zl_26, zl_31, zl_32, zl_38, zl_44, zl_48, zl_50, zl_56, zl_57, zl_59, zl_62, zl_96, zl_97, zl_99, zl_100, zl_122, zl_133, zl_139, zl_145, zl_169, zl_185, zl_189, zl_213, zl_237, zl_241, zl_245, zl_249, zl_250, zl_255, zl_400, zl_401, zl_800, zl_999, zl_1000, zl_2406, zl_2500, zl_2807, zl_9999, zl_99999, zl_100000, zl_1000000000, zl_100000000, zb_let, zb_bd, zb_bd2, zb_bd3, zb_bd4, zb_bd5, zb_ck, zb_ckT, zb_ld, zb_st, not_false_eq_true, zc_m1, zc_m2, zc_m3, zc_m4, zc_m5, zc_m6, zc_lt_t, zc_lt_f, zc_le_t, zc_le_f, zc_eq_t, zc_eq_f, nI_add, pk_mul, z0a, Nat.zero_add, Nat.add_zero, Nat.reduceAdd, ↓reduceIte, c7, n3, p7, zOn, Option.isSome_some, hst]
        · simp (disch := omega) only [zl_0, zl_1, zl_2, zl_3, zl_4, zl_5, zl_6, zl_7, zl_8, zl_9, zl_10, zl_11, zl_12, zl_13, zl_14, zl_15, zl_16, zl_20, zl_24, zl_26, zl_31, zl_32, zl_38, zl_44, zl_48, zl_50, zl_56, zl_57, zl_59, zl_62, zl_96, zl_97, zl_99, zl_100, zl_122, zl_133, zl_139, zl_145, zl_169, zl_185, zl_189, zl_213, zl_237, zl_241, zl_245, zl_249, zl_250, zl_255, zl_400, zl_401, zl_800, zl_999, zl_1000, zl_2406, zl_2500, zl_2807, zl_9999, zl_99999, zl_100000, zl_1000000000, zl_100000000, zb_let, zb_bd, zb_bd2, zb_bd3, zb_bd4, zb_bd5, zb_ck, zb_ckT, zb_ld, zb_st, not_false_eq_true, zc_m1, zc_m2, zc_m3, zc_m4, zc_m5, zc_m6, zc_lt_t, zc_lt_f, zc_le_t, zc_le_f, zc_eq_t, zc_eq_f, nI_add, pk_mul, z0a, Nat.zero_add, Nat.add_zero, Nat.reduceAdd, ↓reduceIte, c8, n2, p8, zn_6, Nat.add_assoc, zRv, Option.isSome_some, hst]
    · constructor
      · simp (disch := omega) only [zl_0, zl_1, zl_2, zl_3, zl_4, zl_5, zl_6, zl_7, zl_8, zl_9, zl_10, zl_11, zl_12, zl_13, zl_14, zl_15, zl_16, zl_20, zl_24, zl_26, zl_31, zl_32, zl_38, zl_44, zl_48, zl_50, zl_56, zl_57, zl_59, zl_62, zl_96, zl_97, zl_99, zl_100, zl_122, zl_133, zl_139, zl_145, zl_169, zl_185, zl_189, zl_213, zl_237, zl_241, zl_245, zl_249, zl_250, zl_255, zl_400, zl_401, zl_800, zl_999, zl_1000, zl_2406, zl_2500, zl_2807, zl_9999, zl_99999, zl_100000, zl_1000000000, zl_100000000, zb_let, zb_bd, zb_bd2, zb_bd3, zb_bd4, zb_bd5, zb_ck, zb_ckT, zb_ld, zb_st, not_false_eq_true, zc_m1, zc_m2, zc_m3, zc_m4, zc_m5, zc_m6, zc_lt_t, zc_lt_f, zc_le_t, zc_le_f, zc_eq_t, zc_eq_f, nI_add, pk_mul, z0a, Nat.zero_add, Nat.add_zero, Nat.reduceAdd, ↓reduceIte, c7, n3, hst]
      · simp (disch := omega) only [zl_0, zl_1, zl_2, zl_3, zl_4, zl_5, zl_6, zl_7, zl_8, zl_9, zl_10, zl_11, zl_12, zl_13, zl_14, zl_15, zl_16, zl_20, zl_24, zl_26, zl_31, zl_32, zl_38, zl_44, zl_48, zl_50, zl_56, zl_57, zl_59, zl_62, zl_96, zl_97, zl_99, zl_100, zl_122, zl_133, zl_139, zl_145, zl_169, zl_185, zl_189, zl_213, zl_237, zl_241, zl_245, zl_249, zl_250, zl_255, zl_400, zl_401, zl_800, zl_999, zl_1000, zl_2406, zl_2500, zl_2807, zl_9999, zl_99999, zl_100000, zl_1000000000, zl_100000000, zb_let, zb_bd, zb_bd2, zb_bd3, zb_bd4, zb_bd5, zb_ck, zb_ckT, zb_ld, zb_st, not_false_eq_true, zc_m1, zc_m2, zc_m3, zc_m4, zc_m5, zc_m6, zc_lt_t, zc_lt_f, zc_le_t, zc_le_f, zc_eq_t, zc_eq_f, nI_add, pk_mul, z0a, Nat.zero_add, Nat.add_zero, Nat.reduceAdd, ↓reduceIte, c8, n2, zn_6, Nat.add_assoc, hst]
  · rw [hc] at c7 c8
    rw [hc]
    constructor
    · simp (disch := omega) only [zl_0, zl_1, zl_2, zl_3, zl_4, zl_5, zl_6, zl_7, zl_8, zl_9, zl_10, zl_11, zl_12, zl_13, zl_14, zl_15, zl_16, zl_20, zl_24, zl_26, zl_31, zl_32, zl_38, zl_44, zl_48, zl_50, zl_56, zl_57, zl_59, zl_62, zl_96, zl_97, zl_99, zl_100, zl_122, zl_133, zl_139, zl_145, zl_169, zl_185, zl_189, zl_213, zl_237, zl_241, zl_245, zl_249, zl_250, zl_255, zl_400, zl_401, zl_800, zl_999, zl_1000, zl_2406, zl_2500, zl_2807, zl_9999, zl_99999, zl_100000, zl_1000000000, zl_100000000, zb_let, zb_bd, zb_bd2, zb_bd3, zb_bd4, zb_bd5, zb_ck, zb_ckT, zb_ld, zb_st, not_false_eq_true, zc_m1, zc_m2, zc_m3, zc_m4, zc_m5, zc_m6, zc_lt_t, zc_lt_f, zc_le_t, zc_le_f, zc_eq_t, zc_eq_f, nI_add, pk_mul, z0a, Nat.zero_add, Nat.add_zero, Nat.reduceAdd, ↓reduceIte, c7]
    · simp (disch := omega) only [zl_0, zl_1, zl_2, zl_3, zl_4, zl_5, zl_6, zl_7, zl_8, zl_9, zl_10, zl_11, zl_12, zl_13, zl_14, zl_15, zl_16, zl_20, zl_24, zl_26, zl_31, zl_32, zl_38, zl_44, zl_48, zl_50, zl_56, zl_57, zl_59, zl_62, zl_96, zl_97, zl_99, zl_100, zl_122, zl_133, zl_139, zl_145, zl_169, zl_185, zl_189, zl_213, zl_237, zl_241, zl_245, zl_249, zl_250, zl_255, zl_400, zl_401, zl_800, zl_999, zl_1000, zl_2406, zl_2500, zl_2807, zl_9999, zl_99999, zl_100000, zl_1000000000, zl_100000000, zb_let, zb_bd, zb_bd2, zb_bd3, zb_bd4, zb_bd5, zb_ck, zb_ckT, zb_ld, zb_st, not_false_eq_true, zc_m1, zc_m2, zc_m3, zc_m4, zc_m5, zc_m6, zc_lt_t, zc_lt_f, zc_le_t, zc_le_f, zc_eq_t, zc_eq_f, nI_add, pk_mul, z0a, Nat.zero_add, Nat.add_zero, Nat.reduceAdd, ↓reduceIte, c8]
/-! the most units -/
def zMost (c : Int32) (stock r mx : Nat) : Nat := if c = nI 0 then (if 9999 < (if stock < mx / r then stock else mx / r) then 9999 else (if stock < mx / r then stock else mx / r)) else 0
theorem zMost_le (c : Int32) (stock r mx : Nat) : zMost c stock r mx ≤ 9999 := by
  unfold zMost
  by_cases h : c = nI 0
  · rw [if_pos h]
    by_cases h2 : 9999 < (if stock < mx / r then stock else mx / r)
    · rw [if_pos h2]; exact Nat.le_refl _
    · rw [if_neg h2]; omega
  · rw [if_neg h]; omega
theorem zMost_iff {c : Int32} {stock r mx u : Nat} (hc : c = nI 0 ∨ c = nI 1) (hr : 1 ≤ r) (hu : 1 ≤ u) (hu2 : u ≤ 9999) : (zWhy c stock u (decide (u * r ≤ mx)) = nI 0) ↔ u ≤ zMost c stock r mx := by
  have e : u * r ≤ mx ↔ u ≤ mx / r := (Nat.le_div_iff_mul_le (by omega)).symm
  unfold zWhy zMost
  rcases hc with rfl | rfl
  · rw [if_pos rfl, if_pos rfl]
    by_cases h1 : u ≤ stock
    · rw [if_pos h1]
      by_cases h2 : u * r ≤ mx
      · have h3 := e.mp h2
        rw [decide_eq_true h2]
        constructor
        · intro _
          split <;> split <;> omega
        · intro _; rfl
      · have h3 : ¬ u ≤ mx / r := fun h => h2 (e.mpr h)
        rw [decide_eq_false h2]
        constructor
        · intro hh; exact absurd hh (by decide)
        · intro hh
          exfalso
          revert hh
          split <;> split <;> omega
    · rw [if_neg h1]
      constructor
      · intro hh; exact absurd hh (by decide)
      · intro hh
        exfalso
        revert hh
        split <;> split <;> omega
  · rw [if_neg (by decide), if_neg (by decide)]
    constructor
    · intro hh; exact absurd hh (by decide)
    · intro hh; omega
theorem zx_bis {h s k m : Nat} (hm : m ≤ 9999) (hq : ∀ u, 1 ≤ u → u ≤ 9999 → ∃ y : Int32, f_X8_reason B (nI h) (nI s) (nI k) (nI u) = some y ∧ ((y = nI 0) ↔ u ≤ m)) : ∀ (d lo hi fu : Nat), hi - lo ≤ d → d < fu → lo ≤ m → m ≤ hi → hi ≤ 9999 → f_X8_mostNow_l8 B (nI h) (nI s) (nI k) fu (nI lo) (nI hi) = some (nI m) := by
  intro d
  induction d with
  | zero =>
    intro lo hi fu h1 h2 h3 h4 h5
    obtain ⟨a, rfl⟩ : ∃ a, fu = a + 1 := ⟨fu - 1, by omega⟩
    have : lo = m := by omega
    simp (disch := omega) only [zl_0, zl_1, zl_2, zl_3, zl_4, zl_5, zl_6, zl_7, zl_8, zl_9, zl_10, zl_11, zl_12, zl_13, zl_14, zl_15, zl_16, zl_20, zl_24, zl_26, zl_31, zl_32, zl_38, zl_44, zl_48, zl_50, zl_56, zl_57, zl_59, zl_62, zl_96, zl_97, zl_99, zl_100, zl_122, zl_133, zl_139, zl_145, zl_169, zl_185, zl_189, zl_213, zl_237, zl_241, zl_245, zl_249, zl_250, zl_255, zl_400, zl_401, zl_800, zl_999, zl_1000, zl_2406, zl_2500, zl_2807, zl_9999, zl_99999, zl_100000, zl_1000000000, zl_100000000, zb_let, zb_bd, zb_bd2, zb_bd3, zb_bd4, zb_bd5, zb_ck, zb_ckT, zb_ld, zb_st, not_false_eq_true, zc_m1, zc_m2, zc_m3, zc_m4, zc_m5, zc_m6, zc_lt_t, zc_lt_f, zc_le_t, zc_le_f, zc_eq_t, zc_eq_f, nI_add, pk_mul, z0a, Nat.zero_add, Nat.add_zero, Nat.reduceAdd, ↓reduceIte, f_X8_mostNow_l8, this]
  | succ d ih =>
    intro lo hi fu h1 h2 h3 h4 h5
    obtain ⟨a, rfl⟩ : ∃ a, fu = a + 1 := ⟨fu - 1, by omega⟩
    by_cases hlt : hi ≤ lo
    · have : lo = m := by omega
      simp (disch := omega) only [zl_0, zl_1, zl_2, zl_3, zl_4, zl_5, zl_6, zl_7, zl_8, zl_9, zl_10, zl_11, zl_12, zl_13, zl_14, zl_15, zl_16, zl_20, zl_24, zl_26, zl_31, zl_32, zl_38, zl_44, zl_48, zl_50, zl_56, zl_57, zl_59, zl_62, zl_96, zl_97, zl_99, zl_100, zl_122, zl_133, zl_139, zl_145, zl_169, zl_185, zl_189, zl_213, zl_237, zl_241, zl_245, zl_249, zl_250, zl_255, zl_400, zl_401, zl_800, zl_999, zl_1000, zl_2406, zl_2500, zl_2807, zl_9999, zl_99999, zl_100000, zl_1000000000, zl_100000000, zb_let, zb_bd, zb_bd2, zb_bd3, zb_bd4, zb_bd5, zb_ck, zb_ckT, zb_ld, zb_st, not_false_eq_true, zc_m1, zc_m2, zc_m3, zc_m4, zc_m5, zc_m6, zc_lt_t, zc_lt_f, zc_le_t, zc_le_f, zc_eq_t, zc_eq_f, nI_add, pk_mul, z0a, Nat.zero_add, Nat.add_zero, Nat.reduceAdd, ↓reduceIte, f_X8_mostNow_l8, this]
    · obtain ⟨y, y1, y2⟩ := hq ((lo + hi + 1) / 2) (by omega) (by omega)
      by_cases hy : y = nI 0
      · have := y2.mp hy
        rw [hy] at y1
        simp (disch := omega) only [zl_0, zl_1, zl_2, zl_3, zl_4, zl_5, zl_6, zl_7, zl_8, zl_9, zl_10, zl_11, zl_12, zl_13, zl_14, zl_15, zl_16, zl_20, zl_24, zl_26, zl_31, zl_32, zl_38, zl_44, zl_48, zl_50, zl_56, zl_57, zl_59, zl_62, zl_96, zl_97, zl_99, zl_100, zl_122, zl_133, zl_139, zl_145, zl_169, zl_185, zl_189, zl_213, zl_237, zl_241, zl_245, zl_249, zl_250, zl_255, zl_400, zl_401, zl_800, zl_999, zl_1000, zl_2406, zl_2500, zl_2807, zl_9999, zl_99999, zl_100000, zl_1000000000, zl_100000000, zb_let, zb_bd, zb_bd2, zb_bd3, zb_bd4, zb_bd5, zb_ck, zb_ckT, zb_ld, zb_st, not_false_eq_true, zc_m1, zc_m2, zc_m3, zc_m4, zc_m5, zc_m6, zc_lt_t, zc_lt_f, zc_le_t, zc_le_f, zc_eq_t, zc_eq_f, nI_add, pk_mul, z0a, Nat.zero_add, Nat.add_zero, Nat.reduceAdd, ↓reduceIte, f_X8_mostNow_l8, f_X8_mostNow_j51, pk_div, y1]
        exact ih _ _ a (by omega) (by omega) this h4 h5
      · have : ¬ (lo + hi + 1) / 2 ≤ m := fun hle => hy (y2.mpr hle)
        simp (disch := omega) only [zl_0, zl_1, zl_2, zl_3, zl_4, zl_5, zl_6, zl_7, zl_8, zl_9, zl_10, zl_11, zl_12, zl_13, zl_14, zl_15, zl_16, zl_20, zl_24, zl_26, zl_31, zl_32, zl_38, zl_44, zl_48, zl_50, zl_56, zl_57, zl_59, zl_62, zl_96, zl_97, zl_99, zl_100, zl_122, zl_133, zl_139, zl_145, zl_169, zl_185, zl_189, zl_213, zl_237, zl_241, zl_245, zl_249, zl_250, zl_255, zl_400, zl_401, zl_800, zl_999, zl_1000, zl_2406, zl_2500, zl_2807, zl_9999, zl_99999, zl_100000, zl_1000000000, zl_100000000, zb_let, zb_bd, zb_bd2, zb_bd3, zb_bd4, zb_bd5, zb_ck, zb_ckT, zb_ld, zb_st, not_false_eq_true, zc_m1, zc_m2, zc_m3, zc_m4, zc_m5, zc_m6, zc_lt_t, zc_lt_f, zc_le_t, zc_le_f, zc_eq_t, zc_eq_f, nI_add, pk_mul, z0a, Nat.zero_add, Nat.add_zero, Nat.reduceAdd, ↓reduceIte, f_X8_mostNow_l8, f_X8_mostNow_j51, pk_div, y1, hy, pk_sub]
        exact ih _ _ a (by omega) (by omega) h3 (by omega) (by omega)
theorem zx_most (hJ : zJ I A G J B ng nk nh ns kept next) {h s k : Nat} (hh : h < nh) (hs : s < ns) (hk : k < nk) : ∃ m, m ≤ 9999 ∧ f_X7_mostToBuy A (nI h) (nI s) (nI k) = some (nI m) ∧ f_X8_mostNow B (nI h) (nI s) (nI k) = some (nI m) := by
  have hb := zp_b hJ
  obtain ⟨g, r, hg, r1, r2, v1, v2, v3, v4⟩ := zx_good hJ hk
  obtain ⟨n, n1, n2, n3⟩ := zp_stock hJ (by omega : s < 4) (by omega : k < 6)
  have hf := zSb_f hJ (by omega : h < 6) hg
  have hm := zMost_le (zC (B 0) s) n r (zMx (zTn (B 0) ((h * 4 + g) * 5)) (zSb B h g))
  refine ⟨_, hm, ?_, ?_⟩
  · have c7 := zx_closed7 (zp_R hJ) (by omega : s < 4)
    have h7 := zx_h7 hJ (by omega : h < 6) (by omega : g < 4)
    have ht := zx_hle hJ (by omega : h < 6) (by omega : g < 4)
    generalize zTn (B 0) ((h * 4 + g) * 5) = t at h7 ht
    have key : ∀ x, x ≤ 99999 → f_X7_mostToBuy_j72 A (nI s) (nI k) (nI x) = some (nI (if 9999 < (if n < x / r then n else x / r) then 9999 else (if n < x / r then n else x / r))) := by
      intro x hx
      have hd : x / r ≤ x := Nat.div_le_self _ _
      unfold f_X7_mostToBuy_j72 f_X5_shelf
      have m1 : (if n < x / r then n else x / r) < 2147483648 := by split <;> omega
      simp (disch := omega) only [zl_0, zl_1, zl_2, zl_3, zl_4, zl_5, zl_6, zl_7, zl_8, zl_9, zl_10, zl_11, zl_12, zl_13, zl_14, zl_15, zl_16, zl_20, zl_24, zl_26, zl_31, zl_32, zl_38, zl_44, zl_48, zl_50, zl_56, zl_57, zl_59, zl_62, zl_96, zl_97, zl_99, zl_100, zl_122, zl_133, zl_139, zl_145, zl_169, zl_185, zl_189, zl_213, zl_237, zl_241, zl_245, zl_249, zl_250, zl_255, zl_400, zl_401, zl_800, zl_999, zl_1000, zl_2406, zl_2500, zl_2807, zl_9999, zl_99999, zl_100000, zl_1000000000, zl_100000000, zb_let, zb_bd, zb_bd2, zb_bd3, zb_bd4, zb_bd5, zb_ck, zb_ckT, zb_ld, zb_st, not_false_eq_true, nI_add, pk_mul, v2, zx_quo, n3, zmin_n]
    unfold f_X7_mostToBuy zMost
    rcases zC_01 (B 0) s with hc | hc
    · rw [hc] at c7
      rw [hc]
      rcases zx_sb hJ h hg with ⟨e1, e2, e3⟩ | ⟨s', f, s1, f1, f2, e1, e2, e3, e4, e5⟩
      · rw [e3]
        simp (disch := omega) only [zl_0, zl_1, zl_2, zl_3, zl_4, zl_5, zl_6, zl_7, zl_8, zl_9, zl_10, zl_11, zl_12, zl_13, zl_14, zl_15, zl_16, zl_20, zl_24, zl_26, zl_31, zl_32, zl_38, zl_44, zl_48, zl_50, zl_56, zl_57, zl_59, zl_62, zl_96, zl_97, zl_99, zl_100, zl_122, zl_133, zl_139, zl_145, zl_169, zl_185, zl_189, zl_213, zl_237, zl_241, zl_245, zl_249, zl_250, zl_255, zl_400, zl_401, zl_800, zl_999, zl_1000, zl_2406, zl_2500, zl_2807, zl_9999, zl_99999, zl_100000, zl_1000000000, zl_100000000, zb_let, zb_bd, zb_bd2, zb_bd3, zb_bd4, zb_bd5, zb_ck, zb_ckT, zb_ld, zb_st, not_false_eq_true, zc_m1, zc_m2, zc_m3, zc_m4, zc_m5, zc_m6, zc_lt_t, zc_lt_f, zc_le_t, zc_le_f, zc_eq_t, zc_eq_f, nI_add, pk_mul, z0a, Nat.zero_add, Nat.add_zero, Nat.reduceAdd, ↓reduceIte, c7, v1, e2, h7]
        rw [key t (by omega)]
        rfl
      · rw [e5]
        have h7s := zx_h7 hJ (by omega : h < 6) (by omega : s' < 4)
        have hts := zx_hle hJ (by omega : h < 6) (by omega : s' < 4)
        generalize zTn (B 0) ((h * 4 + s') * 5) = ts at h7s hts
        have hd : ts / f ≤ ts := Nat.div_le_self _ _
        simp (disch := omega) only [zl_0, zl_1, zl_2, zl_3, zl_4, zl_5, zl_6, zl_7, zl_8, zl_9, zl_10, zl_11, zl_12, zl_13, zl_14, zl_15, zl_16, zl_20, zl_24, zl_26, zl_31, zl_32, zl_38, zl_44, zl_48, zl_50, zl_56, zl_57, zl_59, zl_62, zl_96, zl_97, zl_99, zl_100, zl_122, zl_133, zl_139, zl_145, zl_169, zl_185, zl_189, zl_213, zl_237, zl_241, zl_245, zl_249, zl_250, zl_255, zl_400, zl_401, zl_800, zl_999, zl_1000, zl_2406, zl_2500, zl_2807, zl_9999, zl_99999, zl_100000, zl_1000000000, zl_100000000, zb_let, zb_bd, zb_bd2, zb_bd3, zb_bd4, zb_bd5, zb_ck, zb_ckT, zb_ld, zb_st, not_false_eq_true, zc_m1, zc_m2, zc_m3, zc_m4, zc_m5, zc_m6, zc_lt_t, zc_lt_f, zc_le_t, zc_le_f, zc_eq_t, zc_eq_f, nI_add, pk_mul, z0a, Nat.zero_add, Nat.add_zero, Nat.reduceAdd, ↓reduceIte, c7, v1, e3, e4, h7, h7s, zx_quo]
        rw [key (t + ts / f) (by omega)]
        rfl
    · rw [hc] at c7
      rw [hc]
      simp (disch := omega) only [zl_0, zl_1, zl_2, zl_3, zl_4, zl_5, zl_6, zl_7, zl_8, zl_9, zl_10, zl_11, zl_12, zl_13, zl_14, zl_15, zl_16, zl_20, zl_24, zl_26, zl_31, zl_32, zl_38, zl_44, zl_48, zl_50, zl_56, zl_57, zl_59, zl_62, zl_96, zl_97, zl_99, zl_100, zl_122, zl_133, zl_139, zl_145, zl_169, zl_185, zl_189, zl_213, zl_237, zl_241, zl_245, zl_249, zl_250, zl_255, zl_400, zl_401, zl_800, zl_999, zl_1000, zl_2406, zl_2500, zl_2807, zl_9999, zl_99999, zl_100000, zl_1000000000, zl_100000000, zb_let, zb_bd, zb_bd2, zb_bd3, zb_bd4, zb_bd5, zb_ck, zb_ckT, zb_ld, zb_st, not_false_eq_true, zc_m1, zc_m2, zc_m3, zc_m4, zc_m5, zc_m6, zc_lt_t, zc_lt_f, zc_le_t, zc_le_f, zc_eq_t, zc_eq_f, nI_add, pk_mul, z0a, Nat.zero_add, Nat.add_zero, Nat.reduceAdd, ↓reduceIte, c7]
  · refine zx_bis hm ?_ 9999 0 9999 100000 (by omega) (by omega) (by omega) hm (by omega)
    intro u u1 u2
    refine ⟨_, (zx_why hJ hh hs hk hg r2 u2 v1 v2 v3 v4 n1 n2 n3).2, ?_⟩
    rw [zRep_some (fun ts f e => (hf ts f e).1)]
    exact zMost_iff (zC_01 _ _) r1 u1 u2
theorem zx_bhouse_l (hJ : zJ I A G J B ng nk nh ns kept next) {s k : Nat} (hs : s < ns) (hk : k < nk) (J' : Nat → Int32) : ∀ (d i fu1 fu2 m : Nat) (y : Int32), i + d = nh → d < fu1 → d < fu2 → m ≤ 9999 → ∃ r, f_X7_bestHouse_l32 I A (nI s) (nI k) fu1 y (nI m) (nI i) = some (some r) ∧ f_X8_bestHouse_l38 B (nI s) (nI k) fu2 J' y (nI m) (nI i) = some (r, J') := by
  have hb := zp_b hJ
  intro d
  induction d with
  | zero =>
    intro i fu1 fu2 m y h h1 h2 hm
    obtain ⟨a, rfl⟩ : ∃ a, fu1 = a + 1 := ⟨fu1 - 1, by omega⟩
    obtain ⟨b, rfl⟩ : ∃ b, fu2 = b + 1 := ⟨fu2 - 1, by omega⟩
    refine ⟨y, ?_, ?_⟩
    · simp (disch := omega) only [zl_0, zl_1, zl_2, zl_3, zl_4, zl_5, zl_6, zl_7, zl_8, zl_9, zl_10, zl_11, zl_12, zl_13, zl_14, zl_15, zl_16, zl_20, zl_24, zl_26, zl_31, zl_32, zl_38, zl_44, zl_48, zl_50, zl_56, zl_57, zl_59, zl_62, zl_96, zl_97, zl_99, zl_100, zl_122, zl_133, zl_139, zl_145, zl_169, zl_185, zl_189, zl_213, zl_237, zl_241, zl_245, zl_249, zl_250, zl_255, zl_400, zl_401, zl_800, zl_999, zl_1000, zl_2406, zl_2500, zl_2807, zl_9999, zl_99999, zl_100000, zl_1000000000, zl_100000000, zb_let, zb_bd, zb_bd2, zb_bd3, zb_bd4, zb_bd5, zb_ck, zb_ckT, zb_ld, zb_st, not_false_eq_true, zc_m1, zc_m2, zc_m3, zc_m4, zc_m5, zc_m6, zc_lt_t, zc_lt_f, zc_le_t, zc_le_f, zc_eq_t, zc_eq_f, nI_add, pk_mul, z0a, Nat.zero_add, Nat.add_zero, Nat.reduceAdd, ↓reduceIte, f_X7_bestHouse_l32, zp_I14 hJ]
    · simp (disch := omega) only [zl_0, zl_1, zl_2, zl_3, zl_4, zl_5, zl_6, zl_7, zl_8, zl_9, zl_10, zl_11, zl_12, zl_13, zl_14, zl_15, zl_16, zl_20, zl_24, zl_26, zl_31, zl_32, zl_38, zl_44, zl_48, zl_50, zl_56, zl_57, zl_59, zl_62, zl_96, zl_97, zl_99, zl_100, zl_122, zl_133, zl_139, zl_145, zl_169, zl_185, zl_189, zl_213, zl_237, zl_241, zl_245, zl_249, zl_250, zl_255, zl_400, zl_401, zl_800, zl_999, zl_1000, zl_2406, zl_2500, zl_2807, zl_9999, zl_99999, zl_100000, zl_1000000000, zl_100000000, zb_let, zb_bd, zb_bd2, zb_bd3, zb_bd4, zb_bd5, zb_ck, zb_ckT, zb_ld, zb_st, not_false_eq_true, zc_m1, zc_m2, zc_m3, zc_m4, zc_m5, zc_m6, zc_lt_t, zc_lt_f, zc_le_t, zc_le_f, zc_eq_t, zc_eq_f, nI_add, pk_mul, z0a, Nat.zero_add, Nat.add_zero, Nat.reduceAdd, ↓reduceIte, f_X8_bestHouse_l38, zp_F2 hJ]
  | succ d ih =>
    intro i fu1 fu2 m y h h1 h2 hm
    obtain ⟨a, rfl⟩ : ∃ a, fu1 = a + 1 := ⟨fu1 - 1, by omega⟩
    obtain ⟨b, rfl⟩ : ∃ b, fu2 = b + 1 := ⟨fu2 - 1, by omega⟩
    obtain ⟨q, q1, q2, q3⟩ := zx_most hJ (by omega : i < nh) hs hk
    by_cases c : q ≤ m
    · obtain ⟨r, i1, i2⟩ := ih (i + 1) a b m y (by omega) (by omega) (by omega) hm
      refine ⟨r, ?_, ?_⟩
      · simp (disch := omega) only [zl_0, zl_1, zl_2, zl_3, zl_4, zl_5, zl_6, zl_7, zl_8, zl_9, zl_10, zl_11, zl_12, zl_13, zl_14, zl_15, zl_16, zl_20, zl_24, zl_26, zl_31, zl_32, zl_38, zl_44, zl_48, zl_50, zl_56, zl_57, zl_59, zl_62, zl_96, zl_97, zl_99, zl_100, zl_122, zl_133, zl_139, zl_145, zl_169, zl_185, zl_189, zl_213, zl_237, zl_241, zl_245, zl_249, zl_250, zl_255, zl_400, zl_401, zl_800, zl_999, zl_1000, zl_2406, zl_2500, zl_2807, zl_9999, zl_99999, zl_100000, zl_1000000000, zl_100000000, zb_let, zb_bd, zb_bd2, zb_bd3, zb_bd4, zb_bd5, zb_ck, zb_ckT, zb_ld, zb_st, not_false_eq_true, zc_m1, zc_m2, zc_m3, zc_m4, zc_m5, zc_m6, zc_lt_t, zc_lt_f, zc_le_t, zc_le_f, zc_eq_t, zc_eq_f, nI_add, pk_mul, z0a, Nat.zero_add, Nat.add_zero, Nat.reduceAdd, ↓reduceIte, f_X7_bestHouse_l32, f_X7_bestHouse_j68, zp_I14 hJ, q2, i1]
      · simp (disch := omega) only [zl_0, zl_1, zl_2, zl_3, zl_4, zl_5, zl_6, zl_7, zl_8, zl_9, zl_10, zl_11, zl_12, zl_13, zl_14, zl_15, zl_16, zl_20, zl_24, zl_26, zl_31, zl_32, zl_38, zl_44, zl_48, zl_50, zl_56, zl_57, zl_59, zl_62, zl_96, zl_97, zl_99, zl_100, zl_122, zl_133, zl_139, zl_145, zl_169, zl_185, zl_189, zl_213, zl_237, zl_241, zl_245, zl_249, zl_250, zl_255, zl_400, zl_401, zl_800, zl_999, zl_1000, zl_2406, zl_2500, zl_2807, zl_9999, zl_99999, zl_100000, zl_1000000000, zl_100000000, zb_let, zb_bd, zb_bd2, zb_bd3, zb_bd4, zb_bd5, zb_ck, zb_ckT, zb_ld, zb_st, not_false_eq_true, zc_m1, zc_m2, zc_m3, zc_m4, zc_m5, zc_m6, zc_lt_t, zc_lt_f, zc_le_t, zc_le_f, zc_eq_t, zc_eq_f, nI_add, pk_mul, z0a, Nat.zero_add, Nat.add_zero, Nat.reduceAdd, ↓reduceIte, f_X8_bestHouse_l38, f_X8_bestHouse_j78, zp_F2 hJ, q3, i2]
    · obtain ⟨r, i1, i2⟩ := ih (i + 1) a b q (nI i) (by omega) (by omega) (by omega) q1
      refine ⟨r, ?_, ?_⟩
      · simp (disch := omega) only [zl_0, zl_1, zl_2, zl_3, zl_4, zl_5, zl_6, zl_7, zl_8, zl_9, zl_10, zl_11, zl_12, zl_13, zl_14, zl_15, zl_16, zl_20, zl_24, zl_26, zl_31, zl_32, zl_38, zl_44, zl_48, zl_50, zl_56, zl_57, zl_59, zl_62, zl_96, zl_97, zl_99, zl_100, zl_122, zl_133, zl_139, zl_145, zl_169, zl_185, zl_189, zl_213, zl_237, zl_241, zl_245, zl_249, zl_250, zl_255, zl_400, zl_401, zl_800, zl_999, zl_1000, zl_2406, zl_2500, zl_2807, zl_9999, zl_99999, zl_100000, zl_1000000000, zl_100000000, zb_let, zb_bd, zb_bd2, zb_bd3, zb_bd4, zb_bd5, zb_ck, zb_ckT, zb_ld, zb_st, not_false_eq_true, zc_m1, zc_m2, zc_m3, zc_m4, zc_m5, zc_m6, zc_lt_t, zc_lt_f, zc_le_t, zc_le_f, zc_eq_t, zc_eq_f, nI_add, pk_mul, z0a, Nat.zero_add, Nat.add_zero, Nat.reduceAdd, ↓reduceIte, f_X7_bestHouse_l32, f_X7_bestHouse_j68, zp_I14 hJ, q2, i1]
      · simp (disch := omega) only [zl_0, zl_1, zl_2, zl_3, zl_4, zl_5, zl_6, zl_7, zl_8, zl_9, zl_10, zl_11, zl_12, zl_13, zl_14, zl_15, zl_16, zl_20, zl_24, zl_26, zl_31, zl_32, zl_38, zl_44, zl_48, zl_50, zl_56, zl_57, zl_59, zl_62, zl_96, zl_97, zl_99, zl_100, zl_122, zl_133, zl_139, zl_145, zl_169, zl_185, zl_189, zl_213, zl_237, zl_241, zl_245, zl_249, zl_250, zl_255, zl_400, zl_401, zl_800, zl_999, zl_1000, zl_2406, zl_2500, zl_2807, zl_9999, zl_99999, zl_100000, zl_1000000000, zl_100000000, zb_let, zb_bd, zb_bd2, zb_bd3, zb_bd4, zb_bd5, zb_ck, zb_ckT, zb_ld, zb_st, not_false_eq_true, zc_m1, zc_m2, zc_m3, zc_m4, zc_m5, zc_m6, zc_lt_t, zc_lt_f, zc_le_t, zc_le_f, zc_eq_t, zc_eq_f, nI_add, pk_mul, z0a, Nat.zero_add, Nat.add_zero, Nat.reduceAdd, ↓reduceIte, f_X8_bestHouse_l38, f_X8_bestHouse_j78, zp_F2 hJ, q3, i2]
/-! served -/
theorem zx_serv_c (hJ : zJ I A G J B ng nk nh ns kept next) {s k : Nat} (hs : s < ns) (hc : zC (B 0) s = nI 1) (J' : Nat → Int32) (u x z : Int32) : ∀ (d i fu : Nat), i + d = nh → d < fu → f_X8_served_l63 B (nI s) (nI k) u fu J' x z (nI i) = some (z, J') := by
  have hb := zp_b hJ
  have c8 := zx_closed8 (B := B) (by omega : s < 4)
  rw [hc] at c8
  intro d
  induction d with
  | zero =>
    intro i fu h h1
    obtain ⟨a, rfl⟩ : ∃ a, fu = a + 1 := ⟨fu - 1, by omega⟩
    simp (disch := omega) only [zl_0, zl_1, zl_2, zl_3, zl_4, zl_5, zl_6, zl_7, zl_8, zl_9, zl_10, zl_11, zl_12, zl_13, zl_14, zl_15, zl_16, zl_20, zl_24, zl_26, zl_31, zl_32, zl_38, zl_44, zl_48, zl_50, zl_56, zl_57, zl_59, zl_62, zl_96, zl_97, zl_99, zl_100, zl_122, zl_133, zl_139, zl_145, zl_169, zl_185, zl_189, zl_213, zl_237, zl_241, zl_245, zl_249, zl_250, zl_255, zl_400, zl_401, zl_800, zl_999, zl_1000, zl_2406, zl_2500, zl_2807, zl_9999, zl_99999, zl_100000, zl_1000000000, zl_100000000, zb_let, zb_bd, zb_bd2, zb_bd3, zb_bd4, zb_bd5, zb_ck, zb_ckT, zb_ld, zb_st, not_false_eq_true, zc_m1, zc_m2, zc_m3, zc_m4, zc_m5, zc_m6, zc_lt_t, zc_lt_f, zc_le_t, zc_le_f, zc_eq_t, zc_eq_f, nI_add, pk_mul, z0a, Nat.zero_add, Nat.add_zero, Nat.reduceAdd, ↓reduceIte, f_X8_served_l63, zp_F2 hJ]
  | succ d ih =>
    intro i fu h h1
    obtain ⟨a, rfl⟩ : ∃ a, fu = a + 1 := ⟨fu - 1, by omega⟩
    simp (disch := omega) only [zl_0, zl_1, zl_2, zl_3, zl_4, zl_5, zl_6, zl_7, zl_8, zl_9, zl_10, zl_11, zl_12, zl_13, zl_14, zl_15, zl_16, zl_20, zl_24, zl_26, zl_31, zl_32, zl_38, zl_44, zl_48, zl_50, zl_56, zl_57, zl_59, zl_62, zl_96, zl_97, zl_99, zl_100, zl_122, zl_133, zl_139, zl_145, zl_169, zl_185, zl_189, zl_213, zl_237, zl_241, zl_245, zl_249, zl_250, zl_255, zl_400, zl_401, zl_800, zl_999, zl_1000, zl_2406, zl_2500, zl_2807, zl_9999, zl_99999, zl_100000, zl_1000000000, zl_100000000, zb_let, zb_bd, zb_bd2, zb_bd3, zb_bd4, zb_bd5, zb_ck, zb_ckT, zb_ld, zb_st, not_false_eq_true, zc_m1, zc_m2, zc_m3, zc_m4, zc_m5, zc_m6, zc_lt_t, zc_lt_f, zc_le_t, zc_le_f, zc_eq_t, zc_eq_f, nI_add, pk_mul, z0a, Nat.zero_add, Nat.add_zero, Nat.reduceAdd, ↓reduceIte, f_X8_served_l63, f_X8_served_j111, zp_F2 hJ, c8]
    exact ih (i + 1) a (by omega) (by omega)
theorem zx_serv (hJ : zJ I A G J B ng nk nh ns kept next) {s k u n : Nat} (hs : s < ns) (hk : k < nk) (u1 : 1 ≤ u) (u2 : u ≤ 9999) (hc : zC (B 0) s = nI 0) (n1 : n ≤ 99999) (n3 : A 39 (s * 6 + k) = nI n) (J' : Nat → Int32) : ∀ (d i fu1 fu2 p : Nat), i + d = nh → d < fu1 → d < fu2 → p ≤ i → ∃ r, f_X7_served_l50 I A (nI s) (nI k) (nI u) fu1 (nI p) (nI i) = some (some r) ∧ f_X8_served_l63 B (nI s) (nI k) (nI u) fu2 J' (nI (n - (if n / u < p then n / u else p) * u)) (nI (if n / u < p then n / u else p)) (nI i) = some (r, J') := by
  have hb := zp_b hJ
  have c8 := zx_closed8 (B := B) (by omega : s < 4)
  rw [hc] at c8
  obtain ⟨g, r, hg, r1, r2, v1, v2, v3, v4⟩ := zx_good hJ hk
  have hq0 : n / u * u ≤ n := Nat.div_mul_le_self n u
  have hq1 : n < (n / u + 1) * u := by rw [Nat.mul_comm]; exact Nat.lt_mul_div_succ n (by omega)
  have hq2 : n / u ≤ n := Nat.div_le_self _ _
  rw [Nat.succ_mul] at hq1
  generalize hqe : n / u = q at hq0 hq1 hq2
  intro d
  induction d with
  | zero =>
    intro i fu1 fu2 p h h1 h2 hp
    obtain ⟨a, rfl⟩ : ∃ a, fu1 = a + 1 := ⟨fu1 - 1, by omega⟩
    obtain ⟨b, rfl⟩ : ∃ b, fu2 = b + 1 := ⟨fu2 - 1, by omega⟩
    refine ⟨nI (if q < p then q else p), ?_, ?_⟩
    · simp (disch := omega) only [zl_0, zl_1, zl_2, zl_3, zl_4, zl_5, zl_6, zl_7, zl_8, zl_9, zl_10, zl_11, zl_12, zl_13, zl_14, zl_15, zl_16, zl_20, zl_24, zl_26, zl_31, zl_32, zl_38, zl_44, zl_48, zl_50, zl_56, zl_57, zl_59, zl_62, zl_96, zl_97, zl_99, zl_100, zl_122, zl_133, zl_139, zl_145, zl_169, zl_185, zl_189, zl_213, zl_237, zl_241, zl_245, zl_249, zl_250, zl_255, zl_400, zl_401, zl_800, zl_999, zl_1000, zl_2406, zl_2500, zl_2807, zl_9999, zl_99999, zl_100000, zl_1000000000, zl_100000000, zb_let, zb_bd, zb_bd2, zb_bd3, zb_bd4, zb_bd5, zb_ck, zb_ckT, zb_ld, zb_st, not_false_eq_true, zc_le_t, nI_add, pk_mul, ↓reduceIte, f_X7_served_l50, f_X5_shelf, zp_I14 hJ, n3, zx_quo, hqe, zmin_n]
    · simp (disch := omega) only [zl_0, zl_1, zl_2, zl_3, zl_4, zl_5, zl_6, zl_7, zl_8, zl_9, zl_10, zl_11, zl_12, zl_13, zl_14, zl_15, zl_16, zl_20, zl_24, zl_26, zl_31, zl_32, zl_38, zl_44, zl_48, zl_50, zl_56, zl_57, zl_59, zl_62, zl_96, zl_97, zl_99, zl_100, zl_122, zl_133, zl_139, zl_145, zl_169, zl_185, zl_189, zl_213, zl_237, zl_241, zl_245, zl_249, zl_250, zl_255, zl_400, zl_401, zl_800, zl_999, zl_1000, zl_2406, zl_2500, zl_2807, zl_9999, zl_99999, zl_100000, zl_1000000000, zl_100000000, zb_let, zb_bd, zb_bd2, zb_bd3, zb_bd4, zb_bd5, zb_ck, zb_ckT, zb_ld, zb_st, not_false_eq_true, zc_le_t, ↓reduceIte, f_X8_served_l63, zp_F2 hJ]
  | succ d ih =>
    intro i fu1 fu2 p h h1 h2 hp
    obtain ⟨a, rfl⟩ : ∃ a, fu1 = a + 1 := ⟨fu1 - 1, by omega⟩
    obtain ⟨b, rfl⟩ : ∃ b, fu2 = b + 1 := ⟨fu2 - 1, by omega⟩
    obtain ⟨p7, p8, _⟩ := zx_pay hJ (by omega : i < nh) hk hg r2 u2 v1 v2 v3 v4
    have hvn : ∀ v, zRep (u * r) (zTn (B 0) ((i * 4 + g) * 5)) (zSb B i g) = some v → zRv (some v) = nI v := fun _ _ => rfl
    cases hrep : zRep (u * r) (zTn (B 0) ((i * 4 + g) * 5)) (zSb B i g) with
    | none =>
      rw [hrep] at p7 p8
      obtain ⟨rr, i1, i2⟩ := ih (i + 1) a b p (by omega) (by omega) (by omega) (by omega)
      refine ⟨rr, ?_, ?_⟩
      · simp (disch := omega) only [zl_0, zl_1, zl_2, zl_3, zl_4, zl_5, zl_6, zl_7, zl_8, zl_9, zl_10, zl_11, zl_12, zl_13, zl_14, zl_15, zl_16, zl_20, zl_24, zl_26, zl_31, zl_32, zl_38, zl_44, zl_48, zl_50, zl_56, zl_57, zl_59, zl_62, zl_96, zl_97, zl_99, zl_100, zl_122, zl_133, zl_139, zl_145, zl_169, zl_185, zl_189, zl_213, zl_237, zl_241, zl_245, zl_249, zl_250, zl_255, zl_400, zl_401, zl_800, zl_999, zl_1000, zl_2406, zl_2500, zl_2807, zl_9999, zl_99999, zl_100000, zl_1000000000, zl_100000000, zb_let, zb_bd, zb_bd2, zb_bd3, zb_bd4, zb_bd5, zb_ck, zb_ckT, zb_ld, zb_st, not_false_eq_true, zc_m1, zc_m2, zc_m3, zc_m4, zc_m5, zc_m6, zc_lt_t, zc_lt_f, zc_le_t, zc_le_f, zc_eq_t, zc_eq_f, nI_add, pk_mul, z0a, Nat.zero_add, Nat.add_zero, Nat.reduceAdd, ↓reduceIte, f_X7_served_l50, f_X7_served_j76, zp_I14 hJ, p7, zOn, Option.isSome_none, Bool.false_eq_true]
        exact i1
      · by_cases hst : n - (if q < p then q else p) * u < u
        · simp (disch := omega) only [zl_0, zl_1, zl_2, zl_3, zl_4, zl_5, zl_6, zl_7, zl_8, zl_9, zl_10, zl_11, zl_12, zl_13, zl_14, zl_15, zl_16, zl_20, zl_24, zl_26, zl_31, zl_32, zl_38, zl_44, zl_48, zl_50, zl_56, zl_57, zl_59, zl_62, zl_96, zl_97, zl_99, zl_100, zl_122, zl_133, zl_139, zl_145, zl_169, zl_185, zl_189, zl_213, zl_237, zl_241, zl_245, zl_249, zl_250, zl_255, zl_400, zl_401, zl_800, zl_999, zl_1000, zl_2406, zl_2500, zl_2807, zl_9999, zl_99999, zl_100000, zl_1000000000, zl_100000000, zb_let, zb_bd, zb_bd2, zb_bd3, zb_bd4, zb_bd5, zb_ck, zb_ckT, zb_ld, zb_st, not_false_eq_true, zc_le_f, zc_lt_t, zc_eq_t, nI_add, ↓reduceIte, f_X8_served_l63, f_X8_served_j111, zp_F2 hJ, c8, hst]
          exact i2
        · simp (disch := omega) only [zl_0, zl_1, zl_2, zl_3, zl_4, zl_5, zl_6, zl_7, zl_8, zl_9, zl_10, zl_11, zl_12, zl_13, zl_14, zl_15, zl_16, zl_20, zl_24, zl_26, zl_31, zl_32, zl_38, zl_44, zl_48, zl_50, zl_56, zl_57, zl_59, zl_62, zl_96, zl_97, zl_99, zl_100, zl_122, zl_133, zl_139, zl_145, zl_169, zl_185, zl_189, zl_213, zl_237, zl_241, zl_245, zl_249, zl_250, zl_255, zl_400, zl_401, zl_800, zl_999, zl_1000, zl_2406, zl_2500, zl_2807, zl_9999, zl_99999, zl_100000, zl_1000000000, zl_100000000, zb_let, zb_bd, zb_bd2, zb_bd3, zb_bd4, zb_bd5, zb_ck, zb_ckT, zb_ld, zb_st, not_false_eq_true, zc_le_f, zc_lt_f, zc_eq_t, nI_add, ↓reduceIte, f_X8_served_l63, f_X8_served_j111, zp_F2 hJ, c8, hst, p8, zRv]
          rw [if_neg (by decide)]
          exact i2
    | some v =>
      have hvb : v ≤ 26730 := by
        unfold zRep at hrep
        by_cases h1 : u * r ≤ zTn (B 0) ((i * 4 + g) * 5)
        · rw [if_pos h1] at hrep
          have := Option.some.inj hrep
          omega
        · rw [if_neg h1] at hrep
          cases hsb : zSb B i g with
          | none => rw [hsb] at hrep; cases hrep
          | some p =>
            obtain ⟨ts, f⟩ := p
            have hf := zSb_f hJ (by omega : i < 6) hg ts f hsb
            rw [hsb] at hrep
            have e : (if (u * r - zTn (B 0) ((i * 4 + g) * 5)) * f ≤ ts then some ((u * r - zTn (B 0) ((i * 4 + g) * 5)) * f) else none) = some v := hrep
            by_cases h2 : (u * r - zTn (B 0) ((i * 4 + g) * 5)) * f ≤ ts
            · rw [if_pos h2] at e
              have := Option.some.inj e
              omega
            · rw [if_neg h2] at e; cases e
      rw [hrep] at p7 p8
      obtain ⟨rr, i1, i2⟩ := ih (i + 1) a b (p + 1) (by omega) (by omega) (by omega) (by omega)
      refine ⟨rr, ?_, ?_⟩
      · simp (disch := omega) only [zl_0, zl_1, zl_2, zl_3, zl_4, zl_5, zl_6, zl_7, zl_8, zl_9, zl_10, zl_11, zl_12, zl_13, zl_14, zl_15, zl_16, zl_20, zl_24, zl_26, zl_31, zl_32, zl_38, zl_44, zl_48, zl_50, zl_56, zl_57, zl_59, zl_62, zl_96, zl_97, zl_99, zl_100, zl_122, zl_133, zl_139, zl_145, zl_169, zl_185, zl_189, zl_213, zl_237, zl_241, zl_245, zl_249, zl_250, zl_255, zl_400, zl_401, zl_800, zl_999, zl_1000, zl_2406, zl_2500, zl_2807, zl_9999, zl_99999, zl_100000, zl_1000000000, zl_100000000, zb_let, zb_bd, zb_bd2, zb_bd3, zb_bd4, zb_bd5, zb_ck, zb_ckT, zb_ld, zb_st, not_false_eq_true, zc_m1, zc_m2, zc_m3, zc_m4, zc_m5, zc_m6, zc_lt_t, zc_lt_f, zc_le_t, zc_le_f, zc_eq_t, zc_eq_f, nI_add, pk_mul, z0a, Nat.zero_add, Nat.add_zero, Nat.reduceAdd, ↓reduceIte, f_X7_served_l50, f_X7_served_j76, zp_I14 hJ, p7, zOn, Option.isSome_some]
        exact i1
      · by_cases hpq : p < q
        · have m1 : (if q < p then q else p) = p := if_neg (by omega)
          have m2 : (if q < p + 1 then q else p + 1) = p + 1 := if_neg (by omega)
          have m3 : (p + 1) * u ≤ q * u := Nat.mul_le_mul_right u (by omega)
          rw [Nat.succ_mul] at m3
          rw [m2, Nat.succ_mul] at i2
          rw [m1]
          simp (disch := omega) only [zl_0, zl_1, zl_2, zl_3, zl_4, zl_5, zl_6, zl_7, zl_8, zl_9, zl_10, zl_11, zl_12, zl_13, zl_14, zl_15, zl_16, zl_20, zl_24, zl_26, zl_31, zl_32, zl_38, zl_44, zl_48, zl_50, zl_56, zl_57, zl_59, zl_62, zl_96, zl_97, zl_99, zl_100, zl_122, zl_133, zl_139, zl_145, zl_169, zl_185, zl_189, zl_213, zl_237, zl_241, zl_245, zl_249, zl_250, zl_255, zl_400, zl_401, zl_800, zl_999, zl_1000, zl_2406, zl_2500, zl_2807, zl_9999, zl_99999, zl_100000, zl_1000000000, zl_100000000, zb_let, zb_bd, zb_bd2, zb_bd3, zb_bd4, zb_bd5, zb_ck, zb_ckT, zb_ld, zb_st, not_false_eq_true, zc_le_f, zc_le_t, zc_lt_f, zc_eq_t, nI_add, ↓reduceIte, f_X8_served_l63, f_X8_served_j111, zp_F2 hJ, c8, p8, zRv, pk_sub]
          rw [show n - p * u - u = n - (p * u + u) by omega]
          exact i2
        · have m1 : (if q < p then q else p) = q := by split <;> omega
          have m2 : (if q < p + 1 then q else p + 1) = q := if_pos (by omega)
          rw [m2] at i2
          rw [m1]
          simp (disch := omega) only [zl_0, zl_1, zl_2, zl_3, zl_4, zl_5, zl_6, zl_7, zl_8, zl_9, zl_10, zl_11, zl_12, zl_13, zl_14, zl_15, zl_16, zl_20, zl_24, zl_26, zl_31, zl_32, zl_38, zl_44, zl_48, zl_50, zl_56, zl_57, zl_59, zl_62, zl_96, zl_97, zl_99, zl_100, zl_122, zl_133, zl_139, zl_145, zl_169, zl_185, zl_189, zl_213, zl_237, zl_241, zl_245, zl_249, zl_250, zl_255, zl_400, zl_401, zl_800, zl_999, zl_1000, zl_2406, zl_2500, zl_2807, zl_9999, zl_99999, zl_100000, zl_1000000000, zl_100000000, zb_let, zb_bd, zb_bd2, zb_bd3, zb_bd4, zb_bd5, zb_ck, zb_ckT, zb_ld, zb_st, not_false_eq_true, zc_le_f, zc_lt_t, zc_eq_t, nI_add, ↓reduceIte, f_X8_served_l63, f_X8_served_j111, zp_F2 hJ, c8]
          exact i2
end ZY
theorem zx_units (p : Int32) : (∃ u, 1 ≤ u ∧ u ≤ 9999 ∧ p = nI u ∧ f_X7_areUnits p = some (nI 1) ∧ f_X8_isUnits p = some (nI 1)) ∨ (f_X7_areUnits p = some (nI 0) ∧ f_X8_isUnits p = some (nI 0)) := by
  unfold f_X7_areUnits f_X8_isUnits
  rw [zf_r]
  by_cases h : p < 1
  · right
    rw [if_pos h, if_pos h]
    exact ⟨rfl, by rw [zb_bd, zb_ck (Or.inl nI_0)]⟩
  · by_cases h2 : 9999 < p
    · right
      rw [if_neg h, if_neg h, if_pos h2, if_pos h2]
      exact ⟨rfl, by rw [zb_bd, zb_ck (Or.inl nI_0)]⟩
    · left
      have h0 : ¬ p < 0 := fun h0 => h (Int32.lt_trans h0 (by decide))
      obtain ⟨j, hj, rfl⟩ := nI_of h0
      rw [zl_1, nI_ltI (by omega) (by omega)] at h
      rw [zl_9999, nI_ltI (by omega) (by omega)] at h2
      refine ⟨j, by omega, by omega, rfl, ?_, ?_⟩
      · simp (disch := omega) only [zl_0, zl_1, zl_2, zl_3, zl_4, zl_5, zl_6, zl_7, zl_8, zl_9, zl_10, zl_11, zl_12, zl_13, zl_14, zl_15, zl_16, zl_20, zl_24, zl_26, zl_31, zl_32, zl_38, zl_44, zl_48, zl_50, zl_56, zl_57, zl_59, zl_62, zl_96, zl_97, zl_99, zl_100, zl_122, zl_133, zl_139, zl_145, zl_169, zl_185, zl_189, zl_213, zl_237, zl_241, zl_245, zl_249, zl_250, zl_255, zl_400, zl_401, zl_800, zl_999, zl_1000, zl_2406, zl_2500, zl_2807, zl_9999, zl_99999, zl_100000, zl_1000000000, zl_100000000, zb_let, zb_bd, zb_bd2, zb_bd3, zb_bd4, zb_bd5, zb_ck, zb_ckT, zb_ld, zb_st, not_false_eq_true, zc_m1, zc_m2, zc_m3, zc_m4, zc_m5, zc_m6, zc_lt_t, zc_lt_f, zc_le_t, zc_le_f, zc_eq_t, zc_eq_f, nI_add, pk_mul, z0a, Nat.zero_add, Nat.add_zero, Nat.reduceAdd, ↓reduceIte]
      · simp (disch := omega) only [zl_0, zl_1, zl_2, zl_3, zl_4, zl_5, zl_6, zl_7, zl_8, zl_9, zl_10, zl_11, zl_12, zl_13, zl_14, zl_15, zl_16, zl_20, zl_24, zl_26, zl_31, zl_32, zl_38, zl_44, zl_48, zl_50, zl_56, zl_57, zl_59, zl_62, zl_96, zl_97, zl_99, zl_100, zl_122, zl_133, zl_139, zl_145, zl_169, zl_185, zl_189, zl_213, zl_237, zl_241, zl_245, zl_249, zl_250, zl_255, zl_400, zl_401, zl_800, zl_999, zl_1000, zl_2406, zl_2500, zl_2807, zl_9999, zl_99999, zl_100000, zl_1000000000, zl_100000000, zb_let, zb_bd, zb_bd2, zb_bd3, zb_bd4, zb_bd5, zb_ck, zb_ckT, zb_ld, zb_st, not_false_eq_true, zc_m1, zc_m2, zc_m3, zc_m4, zc_m5, zc_m6, zc_lt_t, zc_lt_f, zc_le_t, zc_le_f, zc_eq_t, zc_eq_f, nI_add, pk_mul, z0a, Nat.zero_add, Nat.add_zero, Nat.reduceAdd, ↓reduceIte, or_true]
