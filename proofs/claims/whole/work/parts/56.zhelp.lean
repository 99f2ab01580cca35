/-! helpers: the best giver that wasn't asked yet -/
def zEnc : Option Nat → Int32
  | none => -nI 1
  | some b => nI b
def zBg (v : Nat → Nat) (M : Nat) : Nat → Nat → Option Nat → Option Nat
  | 0, _, b => b
  | d + 1, i, b => zBg v M d (i + 1) (match M.testBit i, b with
    | true, b => b
    | false, none => some i
    | false, some c => if v i ≤ v c then some c else some i)
theorem zBg_spec (v : Nat → Nat) (M : Nat) : ∀ (d i : Nat) (b : Option Nat), (∀ c, b = some c → c < i ∧ M.testBit c = false ∧ ∀ o, o < i → M.testBit o = false → v o ≤ v c) → (b = none → ∀ o, o < i → M.testBit o = true) → (∀ c, zBg v M d i b = some c → c < i + d ∧ M.testBit c = false ∧ ∀ o, o < i + d → M.testBit o = false → v o ≤ v c) ∧ (zBg v M d i b = none → ∀ o, o < i + d → M.testBit o = true) := by
  intro d
  induction d with
  | zero => intro i b h1 h2; exact ⟨h1, h2⟩
  | succ d ih =>
    intro i b h1 h2
    rw [show i + (d + 1) = i + 1 + d by omega]
    unfold zBg
    refine ih (i + 1) _ ?_ ?_
    · intro c hc
      cases ht : M.testBit i with
      | true =>
        rw [ht] at hc
        obtain ⟨a1, a2, a3⟩ := h1 c hc
        refine ⟨by omega, a2, fun o ho hf => ?_⟩
        rcases (show o < i ∨ o = i by omega) with h | rfl
        · exact a3 o h hf
        · rw [ht] at hf; cases hf
      | false =>
        rw [ht] at hc
        cases b with
        | none =>
          have hc : i = c := Option.some.inj hc
          subst hc
          refine ⟨by omega, ht, fun o ho hf => ?_⟩
          rcases (show o < i ∨ o = i by omega) with h | rfl
          · have := h2 rfl o h
            rw [hf] at this; cases this
          · exact Nat.le_refl _
        | some b0 =>
          obtain ⟨a1, a2, a3⟩ := h1 b0 rfl
          by_cases hv : v i ≤ v b0
          · have hc : (if v i ≤ v b0 then some b0 else some i) = some c := hc
            rw [if_pos hv] at hc
            have hc : b0 = c := Option.some.inj hc
            subst hc
            refine ⟨by omega, a2, fun o ho hf => ?_⟩
            rcases (show o < i ∨ o = i by omega) with h | rfl
            · exact a3 o h hf
            · exact hv
          · have hc : (if v i ≤ v b0 then some b0 else some i) = some c := hc
            rw [if_neg hv] at hc
            have hc : i = c := Option.some.inj hc
            subst hc
            refine ⟨by omega, ht, fun o ho hf => ?_⟩
            rcases (show o < i ∨ o = i by omega) with h | rfl
            · have := a3 o h hf; omega
            · exact Nat.le_refl _
    · intro hn o ho
      cases ht : M.testBit i with
      | true =>
        rw [ht] at hn
        rcases (show o < i ∨ o = i by omega) with h | rfl
        · exact h2 hn o h
        · exact ht
      | false =>
        rw [ht] at hn
        cases b with
        | none => cases hn
        | some b0 =>
          have hn : (if v i ≤ v b0 then some b0 else some i) = none := hn
          by_cases hv : v i ≤ v b0
          · rw [if_pos hv] at hn; cases hn
          · rw [if_neg hv] at hn; cases hn
section ZB
variable {I : Nat → Int32} {A : Nat → Nat → Int32} {G : Nat → Int32 × (Nat → Nat → Int32)} {T : Nat} {J : Nat → Int32} {B : Nat → Nat → Int32} {w : Int64} {ng nk nh ns kept next : Nat}
theorem zx_bg7 (hJ : zJ I A G J B ng nk nh ns kept next) {g M : Nat} (hg : g < 4) (hM : M < 64) : ∀ (d i fu : Nat) (b : Option Nat), i + d = nh → d < fu → (∀ c, b = some c → c < nh) → f_X7_bestGiver_l5 I A (nI g) (nI M) fu (zEnc b) (nI i) = some (zEnc (zBg (zGv (B 0) g) M d i b)) := by
  have hb := zp_b hJ
  intro d
  induction d with
  | zero =>
    intro i fu b h h1 hc
    obtain ⟨a, rfl⟩ : ∃ a, fu = a + 1 := ⟨fu - 1, by omega⟩
    simp (disch := omega) only [zl_0, zl_1, zl_2, zl_3, zl_4, zl_5, zl_6, zl_7, zl_8, zl_9, zl_10, zl_11, zl_12, zl_13, zl_14, zl_15, zl_16, zl_20, zl_24, zl_26, zl_31, zl_32, zl_38, zl_44, zl_48, zl_50, zl_56, zl_57, zl_59, zl_62, zl_96, zl_97, zl_99, zl_100, zl_122, zl_133, zl_139, zl_145, zl_169, zl_185, zl_189, zl_213, zl_237, zl_241, zl_245, zl_249, zl_250, zl_255, zl_400, zl_401, zl_800, zl_999, zl_1000, zl_2406, zl_2500, zl_2807, zl_9999, zl_99999, zl_100000, zl_1000000000, zl_100000000, zb_let, zb_bd, zb_bd2, zb_bd3, zb_bd4, zb_bd5, zb_ck, zb_ckT, zb_ld, zb_st, not_false_eq_true, zc_m1, zc_m2, zc_m3, zc_m4, zc_m5, zc_m6, zc_lt_t, zc_lt_f, zc_le_t, zc_le_f, zc_eq_t, zc_eq_f, nI_add, pk_mul, z0a, Nat.zero_add, Nat.add_zero, Nat.reduceAdd, ↓reduceIte, f_X7_bestGiver_l5, zp_I14 hJ, zBg]
  | succ d ih =>
    intro i fu b h h1 hc
    obtain ⟨a, rfl⟩ : ∃ a, fu = a + 1 := ⟨fu - 1, by omega⟩
    have ihh := ih (i + 1) a
    have vi := zGv_le hJ (by omega : i < 6) g
    unfold zBg
    cases ht : M.testBit i with
    | true =>
      simp (disch := omega) only [zl_0, zl_1, zl_2, zl_3, zl_4, zl_5, zl_6, zl_7, zl_8, zl_9, zl_10, zl_11, zl_12, zl_13, zl_14, zl_15, zl_16, zl_20, zl_24, zl_26, zl_31, zl_32, zl_38, zl_44, zl_48, zl_50, zl_56, zl_57, zl_59, zl_62, zl_96, zl_97, zl_99, zl_100, zl_122, zl_133, zl_139, zl_145, zl_169, zl_185, zl_189, zl_213, zl_237, zl_241, zl_245, zl_249, zl_250, zl_255, zl_400, zl_401, zl_800, zl_999, zl_1000, zl_2406, zl_2500, zl_2807, zl_9999, zl_99999, zl_100000, zl_1000000000, zl_100000000, zb_let, zb_bd, zb_bd2, zb_bd3, zb_bd4, zb_bd5, zb_ck, zb_ckT, zb_ld, zb_st, not_false_eq_true, zc_m1, zc_m2, zc_m3, zc_m4, zc_m5, zc_m6, zc_lt_t, zc_lt_f, zc_le_t, zc_le_f, zc_eq_t, zc_eq_f, nI_add, pk_mul, z0a, Nat.zero_add, Nat.add_zero, Nat.reduceAdd, ↓reduceIte, f_X7_bestGiver_l5, f_X7_bestGiver_j31, f_X7_bestGiver_j61, zp_I14 hJ, zm_andE, ht, Bool.true_eq_false]
      exact ihh b (by omega) (by omega) hc
    | false =>
      cases b with
      | none =>
        simp (disch := omega) only [zl_0, zl_1, zl_2, zl_3, zl_4, zl_5, zl_6, zl_7, zl_8, zl_9, zl_10, zl_11, zl_12, zl_13, zl_14, zl_15, zl_16, zl_20, zl_24, zl_26, zl_31, zl_32, zl_38, zl_44, zl_48, zl_50, zl_56, zl_57, zl_59, zl_62, zl_96, zl_97, zl_99, zl_100, zl_122, zl_133, zl_139, zl_145, zl_169, zl_185, zl_189, zl_213, zl_237, zl_241, zl_245, zl_249, zl_250, zl_255, zl_400, zl_401, zl_800, zl_999, zl_1000, zl_2406, zl_2500, zl_2807, zl_9999, zl_99999, zl_100000, zl_1000000000, zl_100000000, zb_let, zb_bd, zb_bd2, zb_bd3, zb_bd4, zb_bd5, zb_ck, zb_ckT, zb_ld, zb_st, not_false_eq_true, zc_m1, zc_m2, zc_m3, zc_m4, zc_m5, zc_m6, zc_lt_t, zc_lt_f, zc_le_t, zc_le_f, zc_eq_t, zc_eq_f, nI_add, pk_mul, z0a, Nat.zero_add, Nat.add_zero, Nat.reduceAdd, ↓reduceIte, f_X7_bestGiver_l5, f_X7_bestGiver_j31, f_X7_bestGiver_j58, f_X7_bestGiver_j61, zp_I14 hJ, zm_andE, ht, zEnc]
        exact ihh (some i) (by omega) (by omega) (fun c hc => by have := Option.some.inj hc; omega)
      | some b0 =>
        have hb0 := hc b0 rfl
        have vb := zGv_le hJ (by omega : b0 < 6) g
        by_cases hv : zGv (B 0) g i ≤ zGv (B 0) g b0
        · simp (disch := omega) only [zl_0, zl_1, zl_2, zl_3, zl_4, zl_5, zl_6, zl_7, zl_8, zl_9, zl_10, zl_11, zl_12, zl_13, zl_14, zl_15, zl_16, zl_20, zl_24, zl_26, zl_31, zl_32, zl_38, zl_44, zl_48, zl_50, zl_56, zl_57, zl_59, zl_62, zl_96, zl_97, zl_99, zl_100, zl_122, zl_133, zl_139, zl_145, zl_169, zl_185, zl_189, zl_213, zl_237, zl_241, zl_245, zl_249, zl_250, zl_255, zl_400, zl_401, zl_800, zl_999, zl_1000, zl_2406, zl_2500, zl_2807, zl_9999, zl_99999, zl_100000, zl_1000000000, zl_100000000, zb_let, zb_bd, zb_bd2, zb_bd3, zb_bd4, zb_bd5, zb_ck, zb_ckT, zb_ld, zb_st, not_false_eq_true, zc_m1, zc_m2, zc_m3, zc_m4, zc_m5, zc_m6, zc_lt_t, zc_lt_f, zc_le_t, zc_le_f, zc_eq_t, zc_eq_f, nI_add, pk_mul, z0a, Nat.zero_add, Nat.add_zero, Nat.reduceAdd, ↓reduceIte, f_X7_bestGiver_l5, f_X7_bestGiver_j31, f_X7_bestGiver_j61, zp_I14 hJ, zm_andE, ht, zEnc, zx_v7 hJ, hv]
          exact ihh (some b0) (by omega) (by omega) hc
        · simp (disch := omega) only [zl_0, zl_1, zl_2, zl_3, zl_4, zl_5, zl_6, zl_7, zl_8, zl_9, zl_10, zl_11, zl_12, zl_13, zl_14, zl_15, zl_16, zl_20, zl_24, zl_26, zl_31, zl_32, zl_38, zl_44, zl_48, zl_50, zl_56, zl_57, zl_59, zl_62, zl_96, zl_97, zl_99, zl_100, zl_122, zl_133, zl_139, zl_145, zl_169, zl_185, zl_189, zl_213, zl_237, zl_241, zl_245, zl_249, zl_250, zl_255, zl_400, zl_401, zl_800, zl_999, zl_1000, zl_2406, zl_2500, zl_2807, zl_9999, zl_99999, zl_100000, zl_1000000000, zl_100000000, zb_let, zb_bd, zb_bd2, zb_bd3, zb_bd4, zb_bd5, zb_ck, zb_ckT, zb_ld, zb_st, not_false_eq_true, zc_m1, zc_m2, zc_m3, zc_m4, zc_m5, zc_m6, zc_lt_t, zc_lt_f, zc_le_t, zc_le_f, zc_eq_t, zc_eq_f, nI_add, pk_mul, z0a, Nat.zero_add, Nat.add_zero, Nat.reduceAdd, ↓reduceIte, f_X7_bestGiver_l5, f_X7_bestGiver_j31, f_X7_bestGiver_j58, f_X7_bestGiver_j61, zp_I14 hJ, zm_andE, ht, zEnc, zx_v7 hJ, hv]
          exact ihh (some i) (by omega) (by omega) (fun c hc => by have := Option.some.inj hc; omega)
theorem zx_bg8 (hJ : zJ I A G J B ng nk nh ns kept next) {g M : Nat} (hg : g < 4) (hM : M < 64) (K : (Nat → Int32) → Int32 → Int32 → Int32 → Option (Int32 × (Nat → Int32))) (y4 y6 : Int32) (J' : Nat → Int32) : ∀ (d i fu : Nat) (b : Option Nat), i + d = nh → d < fu → (∀ c, b = some c → c < nh) → ∃ fu', 0 < fu' ∧ f_X8_helpers_l90 B K (nI g) y4 (nI M) y6 fu J' (zEnc b) (nI i) = f_X8_helpers_l90 B K (nI g) y4 (nI M) y6 fu' J' (zEnc (zBg (zGv (B 0) g) M d i b)) (nI nh) := by
  have hb := zp_b hJ
  intro d
  induction d with
  | zero =>
    intro i fu b h h1 hc
    have : i = nh := by omega
    subst this
    exact ⟨fu, h1, rfl⟩
  | succ d ih =>
    intro i fu b h h1 hc
    obtain ⟨a, rfl⟩ : ∃ a, fu = a + 1 := ⟨fu - 1, by omega⟩
    have ihh := ih (i + 1) a
    have vi := zGv_le hJ (by omega : i < 6) g
    unfold zBg
    cases ht : M.testBit i with
    | true =>
      obtain ⟨f', k1, k2⟩ := ihh b (by omega) (by omega) hc
      refine ⟨f', k1, ?_⟩
      refine Eq.trans ?_ k2
      rw [f_X8_helpers_l90]
      simp (disch := omega) only [zl_0, zl_1, zl_2, zl_3, zl_4, zl_5, zl_6, zl_7, zl_8, zl_9, zl_10, zl_11, zl_12, zl_13, zl_14, zl_15, zl_16, zl_20, zl_24, zl_26, zl_31, zl_32, zl_38, zl_44, zl_48, zl_50, zl_56, zl_57, zl_59, zl_62, zl_96, zl_97, zl_99, zl_100, zl_122, zl_133, zl_139, zl_145, zl_169, zl_185, zl_189, zl_213, zl_237, zl_241, zl_245, zl_249, zl_250, zl_255, zl_400, zl_401, zl_800, zl_999, zl_1000, zl_2406, zl_2500, zl_2807, zl_9999, zl_99999, zl_100000, zl_1000000000, zl_100000000, zb_let, zb_bd, zb_bd2, zb_bd3, zb_bd4, zb_bd5, zb_ck, zb_ckT, zb_ld, zb_st, not_false_eq_true, zc_m1, zc_m2, zc_m3, zc_m4, zc_m5, zc_m6, zc_lt_t, zc_lt_f, zc_le_t, zc_le_f, zc_eq_t, zc_eq_f, nI_add, pk_mul, z0a, Nat.zero_add, Nat.add_zero, Nat.reduceAdd, ↓reduceIte, f_X8_helpers_j137, zp_F2 hJ, zm_shrE, ht, Bool.true_eq_false]
    | false =>
      cases b with
      | none =>
        obtain ⟨f', k1, k2⟩ := ihh (some i) (by omega) (by omega) (fun c hc => by have := Option.some.inj hc; omega)
        refine ⟨f', k1, ?_⟩
        refine Eq.trans ?_ k2
        rw [f_X8_helpers_l90]
        simp (disch := omega) only [zl_0, zl_1, zl_2, zl_3, zl_4, zl_5, zl_6, zl_7, zl_8, zl_9, zl_10, zl_11, zl_12, zl_13, zl_14, zl_15, zl_16, zl_20, zl_24, zl_26, zl_31, zl_32, zl_38, zl_44, zl_48, zl_50, zl_56, zl_57, zl_59, zl_62, zl_96, zl_97, zl_99, zl_100, zl_122, zl_133, zl_139, zl_145, zl_169, zl_185, zl_189, zl_213, zl_237, zl_241, zl_245, zl_249, zl_250, zl_255, zl_400, zl_401, zl_800, zl_999, zl_1000, zl_2406, zl_2500, zl_2807, zl_9999, zl_99999, zl_100000, zl_1000000000, zl_100000000, zb_let, zb_bd, zb_bd2, zb_bd3, zb_bd4, zb_bd5, zb_ck, zb_ckT, zb_ld, zb_st, not_false_eq_true, zc_m1, zc_m2, zc_m3, zc_m4, zc_m5, zc_m6, zc_lt_t, zc_lt_f, zc_le_t, zc_le_f, zc_eq_t, zc_eq_f, nI_add, pk_mul, z0a, Nat.zero_add, Nat.add_zero, Nat.reduceAdd, ↓reduceIte, f_X8_helpers_j133, f_X8_helpers_j137, zp_F2 hJ, zm_shrE, ht, zEnc]
      | some b0 =>
        have hb0 := hc b0 rfl
        have vb := zGv_le hJ (by omega : b0 < 6) g
        by_cases hv : zGv (B 0) g i ≤ zGv (B 0) g b0
        · obtain ⟨f', k1, k2⟩ := ihh (some b0) (by omega) (by omega) hc
          refine ⟨f', k1, ?_⟩
          refine Eq.trans ?_ (k2.trans ?_)
          · rw [f_X8_helpers_l90]
            simp (disch := omega) only [zl_0, zl_1, zl_2, zl_3, zl_4, zl_5, zl_6, zl_7, zl_8, zl_9, zl_10, zl_11, zl_12, zl_13, zl_14, zl_15, zl_16, zl_20, zl_24, zl_26, zl_31, zl_32, zl_38, zl_44, zl_48, zl_50, zl_56, zl_57, zl_59, zl_62, zl_96, zl_97, zl_99, zl_100, zl_122, zl_133, zl_139, zl_145, zl_169, zl_185, zl_189, zl_213, zl_237, zl_241, zl_245, zl_249, zl_250, zl_255, zl_400, zl_401, zl_800, zl_999, zl_1000, zl_2406, zl_2500, zl_2807, zl_9999, zl_99999, zl_100000, zl_1000000000, zl_100000000, zb_let, zb_bd, zb_bd2, zb_bd3, zb_bd4, zb_bd5, zb_ck, zb_ckT, zb_ld, zb_st, not_false_eq_true, zc_m1, zc_m2, zc_m3, zc_m4, zc_m5, zc_m6, zc_lt_t, zc_lt_f, zc_le_t, zc_le_f, zc_eq_t, zc_eq_f, nI_add, pk_mul, z0a, Nat.zero_add, Nat.add_zero, Nat.reduceAdd, ↓reduceIte, f_X8_helpers_j137, zp_F2 hJ, zm_shrE, ht, zEnc, zx_v8 hJ, hv]
          · simp only [hv, ↓reduceIte]
        · obtain ⟨f', k1, k2⟩ := ihh (some i) (by omega) (by omega) (fun c hc => by have := Option.some.inj hc; omega)
          refine ⟨f', k1, ?_⟩
          refine Eq.trans ?_ (k2.trans ?_)
          · rw [f_X8_helpers_l90]
            simp (disch := omega) only [zl_0, zl_1, zl_2, zl_3, zl_4, zl_5, zl_6, zl_7, zl_8, zl_9, zl_10, zl_11, zl_12, zl_13, zl_14, zl_15, zl_16, zl_20, zl_24, zl_26, zl_31, zl_32, zl_38, zl_44, zl_48, zl_50, zl_56, zl_57, zl_59, zl_62, zl_96, zl_97, zl_99, zl_100, zl_122, zl_133, zl_139, zl_145, zl_169, zl_185, zl_189, zl_213, zl_237, zl_241, zl_245, zl_249, zl_250, zl_255, zl_400, zl_401, zl_800, zl_999, zl_1000, zl_2406, zl_2500, zl_2807, zl_9999, zl_99999, zl_100000, zl_1000000000, zl_100000000, zb_let, zb_bd, zb_bd2, zb_bd3, zb_bd4, zb_bd5, zb_ck, zb_ckT, zb_ld, zb_st, not_false_eq_true, zc_m1, zc_m2, zc_m3, zc_m4, zc_m5, zc_m6, zc_lt_t, zc_lt_f, zc_le_t, zc_le_f, zc_eq_t, zc_eq_f, nI_add, pk_mul, z0a, Nat.zero_add, Nat.add_zero, Nat.reduceAdd, ↓reduceIte, f_X8_helpers_j133, f_X8_helpers_j137, zp_F2 hJ, zm_shrE, ht, zEnc, zx_v8 hJ, hv]
          · simp only [hv, ↓reduceIte]
/-- nobody left has anything to give -/
theorem zx_few0 (hJ : zJ I A G J B ng nk nh ns kept next) {g y : Nat} (hg : g < 4) (hy : 0 < y) (hy2 : y ≤ 9999) : ∀ (d c M fu : Nat), c + d = nh → d < fu → M < 2 ^ nh → zpc M = c → (∀ o, o < nh → M.testBit o = false → zGv (B 0) g o = 0) → f_X7_fewestGivers_l11 I A (nI g) fu (nI M) (nI y) (nI c) = some (-nI 1) := by
  have hb := zp_b hJ
  have h64 := zm_64 nh (by omega)
  intro d
  induction d with
  | zero =>
    intro c M fu h h1 hM hp hz
    obtain ⟨a, rfl⟩ : ∃ a, fu = a + 1 := ⟨fu - 1, by omega⟩
    simp (disch := omega) only [zl_0, zl_1, zl_2, zl_3, zl_4, zl_5, zl_6, zl_7, zl_8, zl_9, zl_10, zl_11, zl_12, zl_13, zl_14, zl_15, zl_16, zl_20, zl_24, zl_26, zl_31, zl_32, zl_38, zl_44, zl_48, zl_50, zl_56, zl_57, zl_59, zl_62, zl_96, zl_97, zl_99, zl_100, zl_122, zl_133, zl_139, zl_145, zl_169, zl_185, zl_189, zl_213, zl_237, zl_241, zl_245, zl_249, zl_250, zl_255, zl_400, zl_401, zl_800, zl_999, zl_1000, zl_2406, zl_2500, zl_2807, zl_9999, zl_99999, zl_100000, zl_1000000000, zl_100000000, zb_let, zb_bd, zb_bd2, zb_bd3, zb_bd4, zb_bd5, zb_ck, zb_ckT, zb_ld, zb_st, not_false_eq_true, zc_m1, zc_m2, zc_m3, zc_m4, zc_m5, zc_m6, zc_lt_t, zc_lt_f, zc_le_t, zc_le_f, zc_eq_t, zc_eq_f, nI_add, pk_mul, z0a, Nat.zero_add, Nat.add_zero, Nat.reduceAdd, ↓reduceIte, f_X7_fewestGivers_l11, zp_I14 hJ]
  | succ d ih =>
    intro c M fu h h1 hM hp hz
    obtain ⟨a, rfl⟩ : ∃ a, fu = a + 1 := ⟨fu - 1, by omega⟩
    have e7 := zx_bg7 hJ hg (by omega : M < 64) nh 0 100000 none (by omega) (by omega) (fun c hc => by (cases hc))
    have sp := zBg_spec (zGv (B 0) g) M nh 0 none (fun c hc => by (cases hc)) (fun _ o ho => by omega)
    rw [Nat.zero_add] at sp
    have e7' : f_X7_bestGiver I A (nI g) (nI M) = some (zEnc (zBg (zGv (B 0) g) M nh 0 none)) := e7
    cases hbg : zBg (zGv (B 0) g) M nh 0 none with
    | none =>
      rw [hbg] at e7'
      simp (disch := omega) only [zl_0, zl_1, zl_2, zl_3, zl_4, zl_5, zl_6, zl_7, zl_8, zl_9, zl_10, zl_11, zl_12, zl_13, zl_14, zl_15, zl_16, zl_20, zl_24, zl_26, zl_31, zl_32, zl_38, zl_44, zl_48, zl_50, zl_56, zl_57, zl_59, zl_62, zl_96, zl_97, zl_99, zl_100, zl_122, zl_133, zl_139, zl_145, zl_169, zl_185, zl_189, zl_213, zl_237, zl_241, zl_245, zl_249, zl_250, zl_255, zl_400, zl_401, zl_800, zl_999, zl_1000, zl_2406, zl_2500, zl_2807, zl_9999, zl_99999, zl_100000, zl_1000000000, zl_100000000, zb_let, zb_bd, zb_bd2, zb_bd3, zb_bd4, zb_bd5, zb_ck, zb_ckT, zb_ld, zb_st, not_false_eq_true, zc_m1, zc_m2, zc_m3, zc_m4, zc_m5, zc_m6, zc_lt_t, zc_lt_f, zc_le_t, zc_le_f, zc_eq_t, zc_eq_f, nI_add, pk_mul, z0a, Nat.zero_add, Nat.add_zero, Nat.reduceAdd, ↓reduceIte, f_X7_fewestGivers_l11, zp_I14 hJ, e7', zEnc]
    | some b0 =>
      obtain ⟨s1, s2, s3⟩ := sp.1 b0 hbg
      rw [hbg] at e7'
      have hz0 := hz b0 s1 s2
      have ih2 := ih (c + 1) (M ||| 2 ^ b0) a (by omega) (by omega) (zm_lt nh (by omega) M hM b0 s1) (by rw [zm_pc M (by omega) b0 (by omega) s2, hp]) (fun o ho hf => hz o ho (by
        rw [Nat.testBit_or] at hf
        exact (Bool.or_eq_false_iff.mp hf).1))
      simp (disch := omega) only [zl_0, zl_1, zl_2, zl_3, zl_4, zl_5, zl_6, zl_7, zl_8, zl_9, zl_10, zl_11, zl_12, zl_13, zl_14, zl_15, zl_16, zl_20, zl_24, zl_26, zl_31, zl_32, zl_38, zl_44, zl_48, zl_50, zl_56, zl_57, zl_59, zl_62, zl_96, zl_97, zl_99, zl_100, zl_122, zl_133, zl_139, zl_145, zl_169, zl_185, zl_189, zl_213, zl_237, zl_241, zl_245, zl_249, zl_250, zl_255, zl_400, zl_401, zl_800, zl_999, zl_1000, zl_2406, zl_2500, zl_2807, zl_9999, zl_99999, zl_100000, zl_1000000000, zl_100000000, zb_let, zb_bd, zb_bd2, zb_bd3, zb_bd4, zb_bd5, zb_ck, zb_ckT, zb_ld, zb_st, not_false_eq_true, zc_m1, zc_m2, zc_m3, zc_m4, zc_m5, zc_m6, zc_lt_t, zc_lt_f, zc_le_t, zc_le_f, zc_eq_t, zc_eq_f, nI_add, pk_mul, z0a, Nat.zero_add, Nat.add_zero, Nat.reduceAdd, ↓reduceIte, f_X7_fewestGivers_l11, zp_I14 hJ, e7', zEnc, zx_v7 hJ, zm_orE, hz0, pk_sub, Nat.sub_zero]
      exact ih2
theorem zx_few (hJ : zJ I A G J B ng nk nh ns kept next) {g : Nat} (hg : g < 4) (J' : Nat → Int32) : ∀ (d c M y fu1 fu2 : Nat), c + 1 + d = nh → d < fu1 → d + 1 < fu2 → 0 < y → y ≤ 9999 → M < 2 ^ nh → zpc M = c + 1 → ∃ r, f_X7_fewestGivers_l11 I A (nI g) fu1 (nI M) (nI y) (nI (c + 1)) = some r ∧ f_X8_helpers_l79 B (nI g) fu2 J' (nI y) (nI M) (nI c) = some (r, J') := by
  have hb := zp_b hJ
  have h64 := zm_64 nh (by omega)
  intro d
  induction d with
  | zero =>
    intro c M y fu1 fu2 h h1 h2 hy hy2 hM hp
    obtain ⟨a, rfl⟩ : ∃ a, fu1 = a + 1 := ⟨fu1 - 1, by omega⟩
    obtain ⟨b, rfl⟩ : ∃ b, fu2 = b + 1 := ⟨fu2 - 1, by omega⟩
    have hfull := zm_full nh (by omega) M hM (by omega)
    have sp := zBg_spec (zGv (B 0) g) M nh 0 none (fun c hc => by (cases hc)) (fun _ o ho => by omega)
    rw [Nat.zero_add] at sp
    obtain ⟨f', k1, k2⟩ := zx_bg8 hJ hg (by omega : M < 64) (fun z0 z1 z2 z3 => f_X8_helpers_l79 B (nI g) b z0 z1 z2 z3) (nI y) (nI c) J' nh 0 100000 none (by omega) (by omega) (fun c hc => by (cases hc))
    have hbg : zBg (zGv (B 0) g) M nh 0 none = none := by
      cases hbg : zBg (zGv (B 0) g) M nh 0 none with
      | none => rfl
      | some b0 =>
        obtain ⟨s1, s2, s3⟩ := sp.1 b0 hbg
        have := hfull b0 s1
        rw [s2] at this
        cases this
    rw [hbg] at k2
    refine ⟨-nI 1, ?_, ?_⟩
    · simp (disch := omega) only [zl_0, zl_1, zl_2, zl_3, zl_4, zl_5, zl_6, zl_7, zl_8, zl_9, zl_10, zl_11, zl_12, zl_13, zl_14, zl_15, zl_16, zl_20, zl_24, zl_26, zl_31, zl_32, zl_38, zl_44, zl_48, zl_50, zl_56, zl_57, zl_59, zl_62, zl_96, zl_97, zl_99, zl_100, zl_122, zl_133, zl_139, zl_145, zl_169, zl_185, zl_189, zl_213, zl_237, zl_241, zl_245, zl_249, zl_250, zl_255, zl_400, zl_401, zl_800, zl_999, zl_1000, zl_2406, zl_2500, zl_2807, zl_9999, zl_99999, zl_100000, zl_1000000000, zl_100000000, zb_let, zb_bd, zb_bd2, zb_bd3, zb_bd4, zb_bd5, zb_ck, zb_ckT, zb_ld, zb_st, not_false_eq_true, zc_m1, zc_m2, zc_m3, zc_m4, zc_m5, zc_m6, zc_lt_t, zc_lt_f, zc_le_t, zc_le_f, zc_eq_t, zc_eq_f, nI_add, pk_mul, z0a, Nat.zero_add, Nat.add_zero, Nat.reduceAdd, ↓reduceIte, f_X7_fewestGivers_l11, zp_I14 hJ]
    · obtain ⟨f2, rfl⟩ : ∃ b, f' = b + 1 := ⟨f' - 1, by omega⟩
      rw [f_X8_helpers_l79, if_neg (nI_nle hy (by omega)), zl_1, zl_0]
      rw [show zEnc none = -nI 1 from rfl] at k2
      refine k2.trans ?_
      rw [f_X8_helpers_l90]
      simp (disch := omega) only [zl_0, zl_1, zl_2, zl_3, zl_4, zl_5, zl_6, zl_7, zl_8, zl_9, zl_10, zl_11, zl_12, zl_13, zl_14, zl_15, zl_16, zl_20, zl_24, zl_26, zl_31, zl_32, zl_38, zl_44, zl_48, zl_50, zl_56, zl_57, zl_59, zl_62, zl_96, zl_97, zl_99, zl_100, zl_122, zl_133, zl_139, zl_145, zl_169, zl_185, zl_189, zl_213, zl_237, zl_241, zl_245, zl_249, zl_250, zl_255, zl_400, zl_401, zl_800, zl_999, zl_1000, zl_2406, zl_2500, zl_2807, zl_9999, zl_99999, zl_100000, zl_1000000000, zl_100000000, zb_let, zb_bd, zb_bd2, zb_bd3, zb_bd4, zb_bd5, zb_ck, zb_ckT, zb_ld, zb_st, not_false_eq_true, zc_m1, zc_m2, zc_m3, zc_m4, zc_m5, zc_m6, zc_lt_t, zc_lt_f, zc_le_t, zc_le_f, zc_eq_t, zc_eq_f, nI_add, pk_mul, z0a, Nat.zero_add, Nat.add_zero, Nat.reduceAdd, ↓reduceIte, zp_F2 hJ, zEnc]
  | succ d ih =>
    intro c M y fu1 fu2 h h1 h2 hy hy2 hM hp
    obtain ⟨a, rfl⟩ : ∃ a, fu1 = a + 1 := ⟨fu1 - 1, by omega⟩
    obtain ⟨b, rfl⟩ : ∃ b, fu2 = b + 1 := ⟨fu2 - 1, by omega⟩
    have e7 := zx_bg7 hJ hg (by omega : M < 64) nh 0 100000 none (by omega) (by omega) (fun c hc => by (cases hc))
    have e7' : f_X7_bestGiver I A (nI g) (nI M) = some (zEnc (zBg (zGv (B 0) g) M nh 0 none)) := e7
    have sp := zBg_spec (zGv (B 0) g) M nh 0 none (fun c hc => by (cases hc)) (fun _ o ho => by omega)
    rw [Nat.zero_add] at sp
    obtain ⟨f', k1, k2⟩ := zx_bg8 hJ hg (by omega : M < 64) (fun z0 z1 z2 z3 => f_X8_helpers_l79 B (nI g) b z0 z1 z2 z3) (nI y) (nI c) J' nh 0 100000 none (by omega) (by omega) (fun c hc => by (cases hc))
    obtain ⟨f2, rfl⟩ : ∃ b, f' = b + 1 := ⟨f' - 1, by omega⟩
    cases hbg : zBg (zGv (B 0) g) M nh 0 none with
    | none =>
      obtain ⟨j, j1, j2⟩ := zm_free nh (by omega) M hM (by omega)
      have := sp.2 hbg j j1
      rw [j2] at this
      cases this
    | some b0 =>
      obtain ⟨s1, s2, s3⟩ := sp.1 b0 hbg
      rw [hbg] at e7' k2
      have vb := zGv_le hJ (by omega : b0 < 6) g
      have hM2 := zm_lt nh (by omega) M hM b0 s1
      have hp2 : zpc (M ||| 2 ^ b0) = c + 1 + 1 := by rw [zm_pc M (by omega) b0 (by omega) s2, hp]
      by_cases hz : zGv (B 0) g b0 = 0
      · have z := zx_few0 hJ hg hy hy2 d (c + 1 + 1) (M ||| 2 ^ b0) a (by omega) (by omega) hM2 hp2 (fun o ho hf => by
          rw [Nat.testBit_or] at hf
          have := s3 o ho (Bool.or_eq_false_iff.mp hf).1
          omega)
        refine ⟨-nI 1, ?_, ?_⟩
        · simp (disch := omega) only [zl_0, zl_1, zl_2, zl_3, zl_4, zl_5, zl_6, zl_7, zl_8, zl_9, zl_10, zl_11, zl_12, zl_13, zl_14, zl_15, zl_16, zl_20, zl_24, zl_26, zl_31, zl_32, zl_38, zl_44, zl_48, zl_50, zl_56, zl_57, zl_59, zl_62, zl_96, zl_97, zl_99, zl_100, zl_122, zl_133, zl_139, zl_145, zl_169, zl_185, zl_189, zl_213, zl_237, zl_241, zl_245, zl_249, zl_250, zl_255, zl_400, zl_401, zl_800, zl_999, zl_1000, zl_2406, zl_2500, zl_2807, zl_9999, zl_99999, zl_100000, zl_1000000000, zl_100000000, zb_let, zb_bd, zb_bd2, zb_bd3, zb_bd4, zb_bd5, zb_ck, zb_ckT, zb_ld, zb_st, not_false_eq_true, zc_m1, zc_m2, zc_m3, zc_m4, zc_m5, zc_m6, zc_lt_t, zc_lt_f, zc_le_t, zc_le_f, zc_eq_t, zc_eq_f, nI_add, pk_mul, z0a, Nat.zero_add, Nat.add_zero, Nat.reduceAdd, ↓reduceIte, f_X7_fewestGivers_l11, zp_I14 hJ, e7', zEnc, zx_v7 hJ, zm_orE, hz, pk_sub, Nat.sub_zero]
          exact z
        · rw [f_X8_helpers_l79, if_neg (nI_nle hy (by omega)), zl_1, zl_0]
          rw [show zEnc none = -nI 1 from rfl] at k2
          refine k2.trans ?_
          rw [f_X8_helpers_l90]
          simp (disch := omega) only [zl_0, zl_1, zl_2, zl_3, zl_4, zl_5, zl_6, zl_7, zl_8, zl_9, zl_10, zl_11, zl_12, zl_13, zl_14, zl_15, zl_16, zl_20, zl_24, zl_26, zl_31, zl_32, zl_38, zl_44, zl_48, zl_50, zl_56, zl_57, zl_59, zl_62, zl_96, zl_97, zl_99, zl_100, zl_122, zl_133, zl_139, zl_145, zl_169, zl_185, zl_189, zl_213, zl_237, zl_241, zl_245, zl_249, zl_250, zl_255, zl_400, zl_401, zl_800, zl_999, zl_1000, zl_2406, zl_2500, zl_2807, zl_9999, zl_99999, zl_100000, zl_1000000000, zl_100000000, zb_let, zb_bd, zb_bd2, zb_bd3, zb_bd4, zb_bd5, zb_ck, zb_ckT, zb_ld, zb_st, not_false_eq_true, zc_m1, zc_m2, zc_m3, zc_m4, zc_m5, zc_m6, zc_lt_t, zc_lt_f, zc_le_t, zc_le_f, zc_eq_t, zc_eq_f, nI_add, pk_mul, z0a, Nat.zero_add, Nat.add_zero, Nat.reduceAdd, ↓reduceIte, zp_F2 hJ, zEnc, zx_v8 hJ, hz]
      · by_cases hq : zGv (B 0) g b0 < y
        · obtain ⟨r, i1, i2⟩ := ih (c + 1) (M ||| 2 ^ b0) (y - zGv (B 0) g b0) a b (by omega) (by omega) (by omega) (by omega) (by omega) hM2 hp2
          refine ⟨r, ?_, ?_⟩
          · simp (disch := omega) only [zl_0, zl_1, zl_2, zl_3, zl_4, zl_5, zl_6, zl_7, zl_8, zl_9, zl_10, zl_11, zl_12, zl_13, zl_14, zl_15, zl_16, zl_20, zl_24, zl_26, zl_31, zl_32, zl_38, zl_44, zl_48, zl_50, zl_56, zl_57, zl_59, zl_62, zl_96, zl_97, zl_99, zl_100, zl_122, zl_133, zl_139, zl_145, zl_169, zl_185, zl_189, zl_213, zl_237, zl_241, zl_245, zl_249, zl_250, zl_255, zl_400, zl_401, zl_800, zl_999, zl_1000, zl_2406, zl_2500, zl_2807, zl_9999, zl_99999, zl_100000, zl_1000000000, zl_100000000, zb_let, zb_bd, zb_bd2, zb_bd3, zb_bd4, zb_bd5, zb_ck, zb_ckT, zb_ld, zb_st, not_false_eq_true, zc_m1, zc_m2, zc_m3, zc_m4, zc_m5, zc_m6, zc_lt_t, zc_lt_f, zc_le_t, zc_le_f, zc_eq_t, zc_eq_f, nI_add, pk_mul, z0a, Nat.zero_add, Nat.add_zero, Nat.reduceAdd, ↓reduceIte, f_X7_fewestGivers_l11, zp_I14 hJ, e7', zEnc, zx_v7 hJ, zm_orE, pk_sub]
            exact i1
          · rw [f_X8_helpers_l79, if_neg (nI_nle hy (by omega)), zl_1, zl_0]
            rw [show zEnc none = -nI 1 from rfl] at k2
            refine k2.trans ?_
            rw [f_X8_helpers_l90]
            simp (disch := omega) only [zl_0, zl_1, zl_2, zl_3, zl_4, zl_5, zl_6, zl_7, zl_8, zl_9, zl_10, zl_11, zl_12, zl_13, zl_14, zl_15, zl_16, zl_20, zl_24, zl_26, zl_31, zl_32, zl_38, zl_44, zl_48, zl_50, zl_56, zl_57, zl_59, zl_62, zl_96, zl_97, zl_99, zl_100, zl_122, zl_133, zl_139, zl_145, zl_169, zl_185, zl_189, zl_213, zl_237, zl_241, zl_245, zl_249, zl_250, zl_255, zl_400, zl_401, zl_800, zl_999, zl_1000, zl_2406, zl_2500, zl_2807, zl_9999, zl_99999, zl_100000, zl_1000000000, zl_100000000, zb_let, zb_bd, zb_bd2, zb_bd3, zb_bd4, zb_bd5, zb_ck, zb_ckT, zb_ld, zb_st, not_false_eq_true, zc_m1, zc_m2, zc_m3, zc_m4, zc_m5, zc_m6, zc_lt_t, zc_lt_f, zc_le_t, zc_le_f, zc_eq_t, zc_eq_f, nI_add, pk_mul, z0a, Nat.zero_add, Nat.add_zero, Nat.reduceAdd, ↓reduceIte, zp_F2 hJ, zEnc, zx_v8 hJ, zm_orE, pk_sub]
            exact i2
        · have n1 : ¬ nI 0 < nI y - nI (zGv (B 0) g b0) := by
            rw [Int32.lt_iff_toInt_lt, pk_sub_toInt (by omega) (by omega), nI_toInt (by omega)]
            omega
          have n2 : nI y - nI (zGv (B 0) g b0) ≤ nI 0 := Int32.not_lt.mp n1
          obtain ⟨b2, rfl⟩ : ∃ b2, b = b2 + 1 := ⟨b - 1, by omega⟩
          refine ⟨nI (c + 1), ?_, ?_⟩
          · simp (disch := omega) only [zl_0, zl_1, zl_2, zl_3, zl_4, zl_5, zl_6, zl_7, zl_8, zl_9, zl_10, zl_11, zl_12, zl_13, zl_14, zl_15, zl_16, zl_20, zl_24, zl_26, zl_31, zl_32, zl_38, zl_44, zl_48, zl_50, zl_56, zl_57, zl_59, zl_62, zl_96, zl_97, zl_99, zl_100, zl_122, zl_133, zl_139, zl_145, zl_169, zl_185, zl_189, zl_213, zl_237, zl_241, zl_245, zl_249, zl_250, zl_255, zl_400, zl_401, zl_800, zl_999, zl_1000, zl_2406, zl_2500, zl_2807, zl_9999, zl_99999, zl_100000, zl_1000000000, zl_100000000, zb_let, zb_bd, zb_bd2, zb_bd3, zb_bd4, zb_bd5, zb_ck, zb_ckT, zb_ld, zb_st, not_false_eq_true, zc_m1, zc_m2, zc_m3, zc_m4, zc_m5, zc_m6, zc_lt_t, zc_lt_f, zc_le_t, zc_le_f, zc_eq_t, zc_eq_f, nI_add, pk_mul, z0a, Nat.zero_add, Nat.add_zero, Nat.reduceAdd, ↓reduceIte, f_X7_fewestGivers_l11, zp_I14 hJ, e7', zEnc, zx_v7 hJ, zm_orE, n1]
          · rw [f_X8_helpers_l79, if_neg (nI_nle hy (by omega)), zl_1, zl_0]
            rw [show zEnc none = -nI 1 from rfl] at k2
            refine k2.trans ?_
            rw [f_X8_helpers_l90]
            simp (disch := omega) only [zl_0, zl_1, zl_2, zl_3, zl_4, zl_5, zl_6, zl_7, zl_8, zl_9, zl_10, zl_11, zl_12, zl_13, zl_14, zl_15, zl_16, zl_20, zl_24, zl_26, zl_31, zl_32, zl_38, zl_44, zl_48, zl_50, zl_56, zl_57, zl_59, zl_62, zl_96, zl_97, zl_99, zl_100, zl_122, zl_133, zl_139, zl_145, zl_169, zl_185, zl_189, zl_213, zl_237, zl_241, zl_245, zl_249, zl_250, zl_255, zl_400, zl_401, zl_800, zl_999, zl_1000, zl_2406, zl_2500, zl_2807, zl_9999, zl_99999, zl_100000, zl_1000000000, zl_100000000, zb_let, zb_bd, zb_bd2, zb_bd3, zb_bd4, zb_bd5, zb_ck, zb_ckT, zb_ld, zb_st, not_false_eq_true, zc_m1, zc_m2, zc_m3, zc_m4, zc_m5, zc_m6, zc_lt_t, zc_lt_f, zc_le_t, zc_le_f, zc_eq_t, zc_eq_f, nI_add, pk_mul, z0a, Nat.zero_add, Nat.add_zero, Nat.reduceAdd, ↓reduceIte, zp_F2 hJ, zEnc, zx_v8 hJ, zm_orE]
            rw [f_X8_helpers_l79, zl_0, if_pos n2]
end ZB
theorem ze_helpers : QE_helpers zI := by
  intro ad I A G T J B w p1 p2 p3 hI
  obtain ⟨⟨ng, nk, nh, ns, kept, next, hJ⟩, _⟩ := id hI
  have hb := zp_b hJ
  rcases zg_house hJ p1 with ⟨x, hx, rfl, e1, e2⟩ | ⟨e1, e2⟩
  · rcases zg_group hJ p2 with ⟨y, hy, rfl, e3, e4⟩ | ⟨e3, e4⟩
    · rcases zg_n (n := 9999) (by omega) p3 with ⟨j, hj, rfl⟩ | h | ⟨h, h2⟩
      · have ht := zx_hle hJ (by omega : x < 6) (by omega : y < 4)
        have h7 := zx_h7 hJ (by omega : x < 6) (by omega : y < 4)
        have h8 := zx_h8 hJ (by omega : x < 6) (by omega : y < 4)
        generalize zTn (B 0) ((x * 4 + y) * 5) = t at ht h7 h8
        obtain ⟨t7, tle⟩ := zx_t7 hJ (by omega : x < 6)
        have t8 := zx_t8 hJ (by omega : x < 6)
        obtain ⟨o1, o2, o3⟩ := zm_one x (by omega)
        by_cases hl : t < j
        · by_cases hc : zG2 (B 0) x < j - t
          · exact zq_ok (-nI 1) hI (by simp (disch := omega) only [zl_0, zl_1, zl_2, zl_3, zl_4, zl_5, zl_6, zl_7, zl_8, zl_9, zl_10, zl_11, zl_12, zl_13, zl_14, zl_15, zl_16, zl_20, zl_24, zl_26, zl_31, zl_32, zl_38, zl_44, zl_48, zl_50, zl_56, zl_57, zl_59, zl_62, zl_96, zl_97, zl_99, zl_100, zl_122, zl_133, zl_139, zl_145, zl_169, zl_185, zl_189, zl_213, zl_237, zl_241, zl_245, zl_249, zl_250, zl_255, zl_400, zl_401, zl_800, zl_999, zl_1000, zl_2406, zl_2500, zl_2807, zl_9999, zl_99999, zl_100000, zl_1000000000, zl_100000000, zb_let, zb_bd, zb_bd2, zb_bd3, zb_bd4, zb_bd5, zb_ck, zb_ckT, zb_ld, zb_st, not_false_eq_true, zc_m1, zc_m2, zc_m3, zc_m4, zc_m5, zc_m6, zc_lt_t, zc_lt_f, zc_le_t, zc_le_f, zc_eq_t, zc_eq_f, nI_add, pk_mul, z0a, Nat.zero_add, Nat.add_zero, Nat.reduceAdd, ↓reduceIte, f_X7_helpers, f_X7_helpers_j21, e1, e3, h7, pk_sub, t7]) (by simp (disch := omega) only [zl_0, zl_1, zl_2, zl_3, zl_4, zl_5, zl_6, zl_7, zl_8, zl_9, zl_10, zl_11, zl_12, zl_13, zl_14, zl_15, zl_16, zl_20, zl_24, zl_26, zl_31, zl_32, zl_38, zl_44, zl_48, zl_50, zl_56, zl_57, zl_59, zl_62, zl_96, zl_97, zl_99, zl_100, zl_122, zl_133, zl_139, zl_145, zl_169, zl_185, zl_189, zl_213, zl_237, zl_241, zl_245, zl_249, zl_250, zl_255, zl_400, zl_401, zl_800, zl_999, zl_1000, zl_2406, zl_2500, zl_2807, zl_9999, zl_99999, zl_100000, zl_1000000000, zl_100000000, zb_let, zb_bd, zb_bd2, zb_bd3, zb_bd4, zb_bd5, zb_ck, zb_ckT, zb_ld, zb_st, not_false_eq_true, zc_m1, zc_m2, zc_m3, zc_m4, zc_m5, zc_m6, zc_lt_t, zc_lt_f, zc_le_t, zc_le_f, zc_eq_t, zc_eq_f, nI_add, pk_mul, z0a, Nat.zero_add, Nat.add_zero, Nat.reduceAdd, ↓reduceIte, f_X8_helpers, f_X8_helpers_j22, e2, e4, zf_1, zf_r, h8, pk_sub, t8])
          · obtain ⟨r, i1, i2⟩ := zx_few hJ (by omega : y < 4) (upd J 1 (nI 0)) (nh - 1) 0 (2 ^ x) (j - t) 100000 100000 (by omega) (by omega) (by omega) (by omega) (by omega) (zm_self nh (by omega) x hx) o3
            rw [Nat.zero_add] at i1
            exact zq_ok r hI (by simp (disch := omega) only [zl_0, zl_1, zl_2, zl_3, zl_4, zl_5, zl_6, zl_7, zl_8, zl_9, zl_10, zl_11, zl_12, zl_13, zl_14, zl_15, zl_16, zl_20, zl_24, zl_26, zl_31, zl_32, zl_38, zl_44, zl_48, zl_50, zl_56, zl_57, zl_59, zl_62, zl_96, zl_97, zl_99, zl_100, zl_122, zl_133, zl_139, zl_145, zl_169, zl_185, zl_189, zl_213, zl_237, zl_241, zl_245, zl_249, zl_250, zl_255, zl_400, zl_401, zl_800, zl_999, zl_1000, zl_2406, zl_2500, zl_2807, zl_9999, zl_99999, zl_100000, zl_1000000000, zl_100000000, zb_let, zb_bd, zb_bd2, zb_bd3, zb_bd4, zb_bd5, zb_ck, zb_ckT, zb_ld, zb_st, not_false_eq_true, zc_m1, zc_m2, zc_m3, zc_m4, zc_m5, zc_m6, zc_lt_t, zc_lt_f, zc_le_t, zc_le_f, zc_eq_t, zc_eq_f, nI_add, pk_mul, z0a, Nat.zero_add, Nat.add_zero, Nat.reduceAdd, ↓reduceIte, f_X7_helpers, f_X7_helpers_j21, f_X7_fewestGivers, e1, e3, h7, pk_sub, t7, o1, i1]) (by simp (disch := omega) only [zl_0, zl_1, zl_2, zl_3, zl_4, zl_5, zl_6, zl_7, zl_8, zl_9, zl_10, zl_11, zl_12, zl_13, zl_14, zl_15, zl_16, zl_20, zl_24, zl_26, zl_31, zl_32, zl_38, zl_44, zl_48, zl_50, zl_56, zl_57, zl_59, zl_62, zl_96, zl_97, zl_99, zl_100, zl_122, zl_133, zl_139, zl_145, zl_169, zl_185, zl_189, zl_213, zl_237, zl_241, zl_245, zl_249, zl_250, zl_255, zl_400, zl_401, zl_800, zl_999, zl_1000, zl_2406, zl_2500, zl_2807, zl_9999, zl_99999, zl_100000, zl_1000000000, zl_100000000, zb_let, zb_bd, zb_bd2, zb_bd3, zb_bd4, zb_bd5, zb_ck, zb_ckT, zb_ld, zb_st, not_false_eq_true, zc_m1, zc_m2, zc_m3, zc_m4, zc_m5, zc_m6, zc_lt_t, zc_lt_f, zc_le_t, zc_le_f, zc_eq_t, zc_eq_f, nI_add, pk_mul, z0a, Nat.zero_add, Nat.add_zero, Nat.reduceAdd, ↓reduceIte, f_X8_helpers, f_X8_helpers_j22, f_X8_helpers_j71, e2, e4, zf_1, zf_r, h8, pk_sub, t8, o1, i2])
        · have n1 : ¬ nI 0 < nI j - nI t := by
            rw [Int32.lt_iff_toInt_lt, pk_sub_toInt (by omega) (by omega), nI_toInt (by omega)]
            omega
          have n2 : nI j - nI t ≤ nI 0 := Int32.not_lt.mp n1
          have e9 : f_X8_helpers_l79 B (nI y) (99999 + 1) (upd J 1 (nI 0)) (nI j - nI t) (nI (2 ^ x)) (nI 0) = some (nI 0, upd J 1 (nI 0)) := by
            rw [f_X8_helpers_l79, zl_0, if_pos n2]
          have e9 : f_X8_helpers_l79 B (nI y) 100000 (upd J 1 (nI 0)) (nI j - nI t) (nI (2 ^ x)) (nI 0) = some (nI 0, upd J 1 (nI 0)) := e9
          exact zq_ok (nI 0) hI (by simp (disch := omega) only [zl_0, zl_1, zl_2, zl_3, zl_4, zl_5, zl_6, zl_7, zl_8, zl_9, zl_10, zl_11, zl_12, zl_13, zl_14, zl_15, zl_16, zl_20, zl_24, zl_26, zl_31, zl_32, zl_38, zl_44, zl_48, zl_50, zl_56, zl_57, zl_59, zl_62, zl_96, zl_97, zl_99, zl_100, zl_122, zl_133, zl_139, zl_145, zl_169, zl_185, zl_189, zl_213, zl_237, zl_241, zl_245, zl_249, zl_250, zl_255, zl_400, zl_401, zl_800, zl_999, zl_1000, zl_2406, zl_2500, zl_2807, zl_9999, zl_99999, zl_100000, zl_1000000000, zl_100000000, zb_let, zb_bd, zb_bd2, zb_bd3, zb_bd4, zb_bd5, zb_ck, zb_ckT, zb_ld, zb_st, not_false_eq_true, zc_m1, zc_m2, zc_m3, zc_m4, zc_m5, zc_m6, zc_lt_t, zc_lt_f, zc_le_t, zc_le_f, zc_eq_t, zc_eq_f, nI_add, pk_mul, z0a, Nat.zero_add, Nat.add_zero, Nat.reduceAdd, ↓reduceIte, f_X7_helpers, f_X7_helpers_j21, e1, e3, h7, n1]) (by simp (disch := omega) only [zl_0, zl_1, zl_2, zl_3, zl_4, zl_5, zl_6, zl_7, zl_8, zl_9, zl_10, zl_11, zl_12, zl_13, zl_14, zl_15, zl_16, zl_20, zl_24, zl_26, zl_31, zl_32, zl_38, zl_44, zl_48, zl_50, zl_56, zl_57, zl_59, zl_62, zl_96, zl_97, zl_99, zl_100, zl_122, zl_133, zl_139, zl_145, zl_169, zl_185, zl_189, zl_213, zl_237, zl_241, zl_245, zl_249, zl_250, zl_255, zl_400, zl_401, zl_800, zl_999, zl_1000, zl_2406, zl_2500, zl_2807, zl_9999, zl_99999, zl_100000, zl_1000000000, zl_100000000, zb_let, zb_bd, zb_bd2, zb_bd3, zb_bd4, zb_bd5, zb_ck, zb_ckT, zb_ld, zb_st, not_false_eq_true, zc_m1, zc_m2, zc_m3, zc_m4, zc_m5, zc_m6, zc_lt_t, zc_lt_f, zc_le_t, zc_le_f, zc_eq_t, zc_eq_f, nI_add, pk_mul, z0a, Nat.zero_add, Nat.add_zero, Nat.reduceAdd, ↓reduceIte, f_X8_helpers, f_X8_helpers_j22, f_X8_helpers_j71, e2, e4, zf_1, zf_r, h8, n2, o1, e9])
      · exact zq_ok (-nI 2) hI (by simp (disch := omega) only [zl_0, zl_1, zl_2, zl_3, zl_4, zl_5, zl_6, zl_7, zl_8, zl_9, zl_10, zl_11, zl_12, zl_13, zl_14, zl_15, zl_16, zl_20, zl_24, zl_26, zl_31, zl_32, zl_38, zl_44, zl_48, zl_50, zl_56, zl_57, zl_59, zl_62, zl_96, zl_97, zl_99, zl_100, zl_122, zl_133, zl_139, zl_145, zl_169, zl_185, zl_189, zl_213, zl_237, zl_241, zl_245, zl_249, zl_250, zl_255, zl_400, zl_401, zl_800, zl_999, zl_1000, zl_2406, zl_2500, zl_2807, zl_9999, zl_99999, zl_100000, zl_1000000000, zl_100000000, zb_let, zb_bd, zb_bd2, zb_bd3, zb_bd4, zb_bd5, zb_ck, zb_ckT, zb_ld, zb_st, not_false_eq_true, zc_m1, zc_m2, zc_m3, zc_m4, zc_m5, zc_m6, zc_lt_t, zc_lt_f, zc_le_t, zc_le_f, zc_eq_t, zc_eq_f, nI_add, pk_mul, z0a, Nat.zero_add, Nat.add_zero, Nat.reduceAdd, ↓reduceIte, f_X7_helpers, f_X7_helpers_j21, e1, e3, h]) (by simp (disch := omega) only [zl_0, zl_1, zl_2, zl_3, zl_4, zl_5, zl_6, zl_7, zl_8, zl_9, zl_10, zl_11, zl_12, zl_13, zl_14, zl_15, zl_16, zl_20, zl_24, zl_26, zl_31, zl_32, zl_38, zl_44, zl_48, zl_50, zl_56, zl_57, zl_59, zl_62, zl_96, zl_97, zl_99, zl_100, zl_122, zl_133, zl_139, zl_145, zl_169, zl_185, zl_189, zl_213, zl_237, zl_241, zl_245, zl_249, zl_250, zl_255, zl_400, zl_401, zl_800, zl_999, zl_1000, zl_2406, zl_2500, zl_2807, zl_9999, zl_99999, zl_100000, zl_1000000000, zl_100000000, zb_let, zb_bd, zb_bd2, zb_bd3, zb_bd4, zb_bd5, zb_ck, zb_ckT, zb_ld, zb_st, not_false_eq_true, zc_m1, zc_m2, zc_m3, zc_m4, zc_m5, zc_m6, zc_lt_t, zc_lt_f, zc_le_t, zc_le_f, zc_eq_t, zc_eq_f, nI_add, pk_mul, z0a, Nat.zero_add, Nat.add_zero, Nat.reduceAdd, ↓reduceIte, f_X8_helpers, f_X8_helpers_j22, e2, e4, zf_1, zf_r, h])
      · have h3 : ¬ p3 ≤ nI 9999 := Int32.not_le.mpr h2
        exact zq_ok (-nI 2) hI (by simp (disch := omega) only [zl_0, zl_1, zl_2, zl_3, zl_4, zl_5, zl_6, zl_7, zl_8, zl_9, zl_10, zl_11, zl_12, zl_13, zl_14, zl_15, zl_16, zl_20, zl_24, zl_26, zl_31, zl_32, zl_38, zl_44, zl_48, zl_50, zl_56, zl_57, zl_59, zl_62, zl_96, zl_97, zl_99, zl_100, zl_122, zl_133, zl_139, zl_145, zl_169, zl_185, zl_189, zl_213, zl_237, zl_241, zl_245, zl_249, zl_250, zl_255, zl_400, zl_401, zl_800, zl_999, zl_1000, zl_2406, zl_2500, zl_2807, zl_9999, zl_99999, zl_100000, zl_1000000000, zl_100000000, zb_let, zb_bd, zb_bd2, zb_bd3, zb_bd4, zb_bd5, zb_ck, zb_ckT, zb_ld, zb_st, not_false_eq_true, zc_m1, zc_m2, zc_m3, zc_m4, zc_m5, zc_m6, zc_lt_t, zc_lt_f, zc_le_t, zc_le_f, zc_eq_t, zc_eq_f, nI_add, pk_mul, z0a, Nat.zero_add, Nat.add_zero, Nat.reduceAdd, ↓reduceIte, f_X7_helpers, f_X7_helpers_j21, e1, e3, h, h3]) (by simp (disch := omega) only [zl_0, zl_1, zl_2, zl_3, zl_4, zl_5, zl_6, zl_7, zl_8, zl_9, zl_10, zl_11, zl_12, zl_13, zl_14, zl_15, zl_16, zl_20, zl_24, zl_26, zl_31, zl_32, zl_38, zl_44, zl_48, zl_50, zl_56, zl_57, zl_59, zl_62, zl_96, zl_97, zl_99, zl_100, zl_122, zl_133, zl_139, zl_145, zl_169, zl_185, zl_189, zl_213, zl_237, zl_241, zl_245, zl_249, zl_250, zl_255, zl_400, zl_401, zl_800, zl_999, zl_1000, zl_2406, zl_2500, zl_2807, zl_9999, zl_99999, zl_100000, zl_1000000000, zl_100000000, zb_let, zb_bd, zb_bd2, zb_bd3, zb_bd4, zb_bd5, zb_ck, zb_ckT, zb_ld, zb_st, not_false_eq_true, zc_m1, zc_m2, zc_m3, zc_m4, zc_m5, zc_m6, zc_lt_t, zc_lt_f, zc_le_t, zc_le_f, zc_eq_t, zc_eq_f, nI_add, pk_mul, z0a, Nat.zero_add, Nat.add_zero, Nat.reduceAdd, ↓reduceIte, f_X8_helpers, f_X8_helpers_j22, e2, e4, zf_1, zf_r, h, h2])
    · exact zq_no hI (by simp (disch := omega) only [zl_0, zl_1, zl_2, zl_3, zl_4, zl_5, zl_6, zl_7, zl_8, zl_9, zl_10, zl_11, zl_12, zl_13, zl_14, zl_15, zl_16, zl_20, zl_24, zl_26, zl_31, zl_32, zl_38, zl_44, zl_48, zl_50, zl_56, zl_57, zl_59, zl_62, zl_96, zl_97, zl_99, zl_100, zl_122, zl_133, zl_139, zl_145, zl_169, zl_185, zl_189, zl_213, zl_237, zl_241, zl_245, zl_249, zl_250, zl_255, zl_400, zl_401, zl_800, zl_999, zl_1000, zl_2406, zl_2500, zl_2807, zl_9999, zl_99999, zl_100000, zl_1000000000, zl_100000000, zb_let, zb_bd, zb_bd2, zb_bd3, zb_bd4, zb_bd5, zb_ck, zb_ckT, zb_ld, zb_st, not_false_eq_true, zc_m1, zc_m2, zc_m3, zc_m4, zc_m5, zc_m6, zc_lt_t, zc_lt_f, zc_le_t, zc_le_f, zc_eq_t, zc_eq_f, nI_add, pk_mul, z0a, Nat.zero_add, Nat.add_zero, Nat.reduceAdd, ↓reduceIte, f_X7_helpers, f_X7_helpers_j20, f_X7_helpers_j21, e1, e3]) (by simp (disch := omega) only [zl_0, zl_1, zl_2, zl_3, zl_4, zl_5, zl_6, zl_7, zl_8, zl_9, zl_10, zl_11, zl_12, zl_13, zl_14, zl_15, zl_16, zl_20, zl_24, zl_26, zl_31, zl_32, zl_38, zl_44, zl_48, zl_50, zl_56, zl_57, zl_59, zl_62, zl_96, zl_97, zl_99, zl_100, zl_122, zl_133, zl_139, zl_145, zl_169, zl_185, zl_189, zl_213, zl_237, zl_241, zl_245, zl_249, zl_250, zl_255, zl_400, zl_401, zl_800, zl_999, zl_1000, zl_2406, zl_2500, zl_2807, zl_9999, zl_99999, zl_100000, zl_1000000000, zl_100000000, zb_let, zb_bd, zb_bd2, zb_bd3, zb_bd4, zb_bd5, zb_ck, zb_ckT, zb_ld, zb_st, not_false_eq_true, zc_m1, zc_m2, zc_m3, zc_m4, zc_m5, zc_m6, zc_lt_t, zc_lt_f, zc_le_t, zc_le_f, zc_eq_t, zc_eq_f, nI_add, pk_mul, z0a, Nat.zero_add, Nat.add_zero, Nat.reduceAdd, ↓reduceIte, f_X8_helpers, f_X8_helpers_j21, f_X8_helpers_j22, e2, e4, zf_0])
  · exact zq_no hI (by simp (disch := omega) only [zl_0, zl_1, zl_2, zl_3, zl_4, zl_5, zl_6, zl_7, zl_8, zl_9, zl_10, zl_11, zl_12, zl_13, zl_14, zl_15, zl_16, zl_20, zl_24, zl_26, zl_31, zl_32, zl_38, zl_44, zl_48, zl_50, zl_56, zl_57, zl_59, zl_62, zl_96, zl_97, zl_99, zl_100, zl_122, zl_133, zl_139, zl_145, zl_169, zl_185, zl_189, zl_213, zl_237, zl_241, zl_245, zl_249, zl_250, zl_255, zl_400, zl_401, zl_800, zl_999, zl_1000, zl_2406, zl_2500, zl_2807, zl_9999, zl_99999, zl_100000, zl_1000000000, zl_100000000, zb_let, zb_bd, zb_bd2, zb_bd3, zb_bd4, zb_bd5, zb_ck, zb_ckT, zb_ld, zb_st, not_false_eq_true, zc_m1, zc_m2, zc_m3, zc_m4, zc_m5, zc_m6, zc_lt_t, zc_lt_f, zc_le_t, zc_le_f, zc_eq_t, zc_eq_f, nI_add, pk_mul, z0a, Nat.zero_add, Nat.add_zero, Nat.reduceAdd, ↓reduceIte, f_X7_helpers, f_X7_helpers_j20, f_X7_helpers_j21, e1]) (by simp (disch := omega) only [zl_0, zl_1, zl_2, zl_3, zl_4, zl_5, zl_6, zl_7, zl_8, zl_9, zl_10, zl_11, zl_12, zl_13, zl_14, zl_15, zl_16, zl_20, zl_24, zl_26, zl_31, zl_32, zl_38, zl_44, zl_48, zl_50, zl_56, zl_57, zl_59, zl_62, zl_96, zl_97, zl_99, zl_100, zl_122, zl_133, zl_139, zl_145, zl_169, zl_185, zl_189, zl_213, zl_237, zl_241, zl_245, zl_249, zl_250, zl_255, zl_400, zl_401, zl_800, zl_999, zl_1000, zl_2406, zl_2500, zl_2807, zl_9999, zl_99999, zl_100000, zl_1000000000, zl_100000000, zb_let, zb_bd, zb_bd2, zb_bd3, zb_bd4, zb_bd5, zb_ck, zb_ckT, zb_ld, zb_st, not_false_eq_true, zc_m1, zc_m2, zc_m3, zc_m4, zc_m5, zc_m6, zc_lt_t, zc_lt_f, zc_le_t, zc_le_f, zc_eq_t, zc_eq_f, nI_add, pk_mul, z0a, Nat.zero_add, Nat.add_zero, Nat.reduceAdd, ↓reduceIte, f_X8_helpers, f_X8_helpers_j21, f_X8_helpers_j22, e2, zf_0])
