/-! guards -/
theorem zg_hi {n : Nat} (hn : n ≤ 6) {p : Int32} (h0 : ¬ p < 0) (h : nI n ≤ p) : nI n - 1 < p := by
  obtain ⟨j, hj, rfl⟩ := nI_of h0
  rw [nI_leI (by omega) hj] at h
  rcases n with _ | n
  · show -nI 1 < nI j
    exact of_eq_true (zc_m1 (by omega))
  · rw [nI_pred]
    exact nI_lt (by omega) hj
theorem zg_x {n : Nat} (hn : n ≤ 6) (p : Int32) : (∃ j, j < n ∧ p = nI j ∧ (if p < 0 then some (0 : Int32) else if nI n ≤ p then some 0 else some 1) = some (nI 1) ∧ (qf_bd (f_X8_inRange p (0 : Int32) (nI n - 1)) fun r2 => qf_ck (r2 = 0 ∨ r2 = 1) <| some r2) = some (nI 1)) ∨ ((if p < 0 then some (0 : Int32) else if nI n ≤ p then some 0 else some 1) = some (nI 0) ∧ (qf_bd (f_X8_inRange p (0 : Int32) (nI n - 1)) fun r2 => qf_ck (r2 = 0 ∨ r2 = 1) <| some r2) = some (nI 0)) := by
  unfold f_X8_inRange
  by_cases h0 : p < 0
  · right
    rw [if_pos h0, if_pos h0]
    exact ⟨rfl, by rw [zb_bd, zb_ck (Or.inl rfl)]; rfl⟩
  · by_cases h1 : nI n ≤ p
    · right
      rw [if_neg h0, if_pos h1, if_neg h0, if_pos (zg_hi hn h0 h1)]
      exact ⟨rfl, by rw [zb_bd, zb_ck (Or.inl rfl)]; rfl⟩
    · left
      obtain ⟨j, hj, rfl⟩ := nI_of h0
      rw [nI_leI (by omega) hj] at h1
      have h2 : ¬ nI n - 1 < nI j := by
        obtain ⟨m, rfl⟩ : ∃ m, n = m + 1 := ⟨n - 1, by omega⟩
        rw [nI_pred]
        exact nI_nlt (by omega) (by omega)
      refine ⟨j, by omega, rfl, ?_, ?_⟩
      · rw [if_neg h0, if_neg (by rw [nI_leI (by omega) hj]; exact h1)]
        rfl
      · rw [if_neg h0, if_neg h2, zb_bd, zb_ck (Or.inr rfl)]
        rfl
section ZG
variable {I : Nat → Int32} {A : Nat → Nat → Int32} {G : Nat → Int32 × (Nat → Nat → Int32)} {T : Nat} {J : Nat → Int32} {B : Nat → Nat → Int32} {w : Int64} {ng nk nh ns kept next : Nat}
theorem zg_group (h : zJ I A G J B ng nk nh ns kept next) (p : Int32) : (∃ j, j < ng ∧ p = nI j ∧ f_X7_isGroup I p = some (nI 1) ∧ f_X8_isGroup B p = some (nI 1)) ∨ (f_X7_isGroup I p = some (nI 0) ∧ f_X8_isGroup B p = some (nI 0)) := by
  have e1 : I 12 = nI ng := h.1.2.2.1.1
  have e2 : B 3 0 = nI ng := h.1.2.1.1
  unfold f_X7_isGroup f_X8_isGroup
  rw [e1, zl_0, zb_ld (k := 0) (by omega) (by omega), e2]
  exact zg_x (by have := h.1.1; omega) p
theorem zg_good (h : zJ I A G J B ng nk nh ns kept next) (p : Int32) : (∃ j, j < nk ∧ p = nI j ∧ f_X7_isGood I p = some (nI 1) ∧ f_X8_isGood B p = some (nI 1)) ∨ (f_X7_isGood I p = some (nI 0) ∧ f_X8_isGood B p = some (nI 0)) := by
  have e1 : I 13 = nI nk := h.1.2.2.1.2.1
  have e2 : B 3 1 = nI nk := h.1.2.1.2.1
  unfold f_X7_isGood f_X8_isGood
  rw [e1]
  have e3 : ∀ K : Int32 → Option Int32, qf_ld 62 (B 3) (1 : Int32) K = K (nI nk) := fun K => by rw [zl_1, zb_ld (k := 1) (by omega) (by omega), e2]
  rw [e3]
  exact zg_x (by have := h.1.1; omega) p
theorem zg_house (h : zJ I A G J B ng nk nh ns kept next) (p : Int32) : (∃ j, j < nh ∧ p = nI j ∧ f_X7_isHouse I p = some (nI 1) ∧ f_X8_isHouse B p = some (nI 1)) ∨ (f_X7_isHouse I p = some (nI 0) ∧ f_X8_isHouse B p = some (nI 0)) := by
  have e1 : I 14 = nI nh := h.1.2.2.1.2.2.1
  have e2 : B 3 2 = nI nh := h.1.2.1.2.2.1
  unfold f_X7_isHouse f_X8_isHouse
  rw [e1]
  have e3 : ∀ K : Int32 → Option Int32, qf_ld 62 (B 3) (2 : Int32) K = K (nI nh) := fun K => by rw [zl_2, zb_ld (k := 2) (by omega) (by omega), e2]
  rw [e3]
  exact zg_x (by have := h.1.1; omega) p
theorem zg_shop (h : zJ I A G J B ng nk nh ns kept next) (p : Int32) : (∃ j, j < ns ∧ p = nI j ∧ f_X7_isShop I p = some (nI 1) ∧ f_X8_isShop B p = some (nI 1)) ∨ (f_X7_isShop I p = some (nI 0) ∧ f_X8_isShop B p = some (nI 0)) := by
  have e1 : I 15 = nI ns := h.1.2.2.1.2.2.2
  have e2 : B 3 3 = nI ns := h.1.2.1.2.2.2
  unfold f_X7_isShop f_X8_isShop
  rw [e1]
  have e3 : ∀ K : Int32 → Option Int32, qf_ld 62 (B 3) (3 : Int32) K = K (nI ns) := fun K => by rw [zl_3, zb_ld (k := 3) (by omega) (by omega), e2]
  rw [e3]
  exact zg_x (by have := h.1.1; omega) p
end ZG
theorem zf_1 (J : Nat → Int32) : f_X8_fails J (nI 1) = some (nI 0, upd J 1 (nI 0)) := by
  unfold f_X8_fails f_X8_fails_j10
  simp (disch := omega) only [zl_0, zl_1, zl_2, zl_3, zl_4, zl_5, zl_6, zl_7, zl_8, zl_9, zl_10, zl_11, zl_12, zl_13, zl_14, zl_15, zl_16, zl_20, zl_24, zl_26, zl_31, zl_32, zl_38, zl_44, zl_48, zl_50, zl_56, zl_57, zl_59, zl_62, zl_96, zl_97, zl_99, zl_100, zl_122, zl_133, zl_139, zl_145, zl_169, zl_185, zl_189, zl_213, zl_237, zl_241, zl_245, zl_249, zl_250, zl_255, zl_400, zl_401, zl_800, zl_999, zl_1000, zl_2406, zl_2500, zl_2807, zl_9999, zl_99999, zl_100000, zl_1000000000, zl_100000000, zb_let, zb_bd, zb_bd2, zb_bd3, zb_bd4, zb_bd5, zb_ck, zb_ckT, zb_ld, zb_st, not_false_eq_true, zc_m1, zc_m2, zc_m3, zc_m4, zc_m5, zc_m6, zc_lt_t, zc_lt_f, zc_le_t, zc_le_f, zc_eq_t, zc_eq_f, nI_add, pk_mul, z0a, Nat.zero_add, Nat.add_zero, Nat.reduceAdd, ↓reduceIte]
theorem zf_0 (J : Nat → Int32) : f_X8_fails J (nI 0) = some (nI 1, upd J 1 (nI 1)) := by
  unfold f_X8_fails f_X8_fails_j10
  simp (disch := omega) only [zl_0, zl_1, zl_2, zl_3, zl_4, zl_5, zl_6, zl_7, zl_8, zl_9, zl_10, zl_11, zl_12, zl_13, zl_14, zl_15, zl_16, zl_20, zl_24, zl_26, zl_31, zl_32, zl_38, zl_44, zl_48, zl_50, zl_56, zl_57, zl_59, zl_62, zl_96, zl_97, zl_99, zl_100, zl_122, zl_133, zl_139, zl_145, zl_169, zl_185, zl_189, zl_213, zl_237, zl_241, zl_245, zl_249, zl_250, zl_255, zl_400, zl_401, zl_800, zl_999, zl_1000, zl_2406, zl_2500, zl_2807, zl_9999, zl_99999, zl_100000, zl_1000000000, zl_100000000, zb_let, zb_bd, zb_bd2, zb_bd3, zb_bd4, zb_bd5, zb_ck, zb_ckT, zb_ld, zb_st, not_false_eq_true, zc_m1, zc_m2, zc_m3, zc_m4, zc_m5, zc_m6, zc_lt_t, zc_lt_f, zc_le_t, zc_le_f, zc_eq_t, zc_eq_f, nI_add, pk_mul, z0a, Nat.zero_add, Nat.add_zero, Nat.reduceAdd, ↓reduceIte]
theorem zf_r (p a b : Int32) : f_X8_inRange p a b = some (if p < a then nI 0 else if b < p then nI 0 else nI 1) := by
  unfold f_X8_inRange
  by_cases h : p < a
  · rw [if_pos h, if_pos h]; rfl
  · rw [if_neg h, if_neg h]
    by_cases h2 : b < p
    · rw [if_pos h2, if_pos h2]; rfl
    · rw [if_neg h2, if_neg h2]; rfl
/-- a number between 0 and n, or not -/
theorem zg_n {n : Nat} (hn : n < 2147483648) (p : Int32) : (∃ j, j ≤ n ∧ p = nI j) ∨ p < nI 0 ∨ (¬ p < nI 0 ∧ nI n < p) := by
  by_cases h0 : p < nI 0
  · exact Or.inr (Or.inl h0)
  · obtain ⟨j, hj, rfl⟩ := nI_of h0
    by_cases h : j ≤ n
    · exact Or.inl ⟨j, h, rfl⟩
    · exact Or.inr (Or.inr ⟨h0, nI_lt (by omega) hj⟩)
/-! the calls that only look a number up -/
theorem ze_errorPosition : QE_errorPosition zI := by
  intro ad I A G T J B w hI
  obtain ⟨_, fed, f1, f2, f3, f4, f5⟩ := id hI
  exact ⟨_, rfl, _, _, rfl, f5, zI_J 0 hI⟩
theorem ze_groupCount : QE_groupCount zI := by
  intro ad I A G T J B w hI
  obtain ⟨⟨ng, nk, nh, ns, kept, next, hJ⟩, _⟩ := id hI
  have e1 : I 12 = nI ng := hJ.1.2.2.1.1
  have e2 : B 3 0 = nI ng := hJ.1.2.1.1
  refine ⟨_, rfl, nI ng, upd J 1 0, ?_, e1, zI_J 0 hI⟩
  unfold f_X8_groupCount f_X8_countOf
  simp (disch := omega) only [zl_0, zl_1, zl_2, zl_3, zl_4, zl_5, zl_6, zl_7, zl_8, zl_9, zl_10, zl_11, zl_12, zl_13, zl_14, zl_15, zl_16, zl_20, zl_24, zl_26, zl_31, zl_32, zl_38, zl_44, zl_48, zl_50, zl_56, zl_57, zl_59, zl_62, zl_96, zl_97, zl_99, zl_100, zl_122, zl_133, zl_139, zl_145, zl_169, zl_185, zl_189, zl_213, zl_237, zl_241, zl_245, zl_249, zl_250, zl_255, zl_400, zl_401, zl_800, zl_999, zl_1000, zl_2406, zl_2500, zl_2807, zl_9999, zl_99999, zl_100000, zl_1000000000, zl_100000000, zb_let, zb_bd, zb_bd2, zb_bd3, zb_bd4, zb_bd5, zb_ck, zb_ckT, zb_ld, zb_st, not_false_eq_true, zc_m1, zc_m2, zc_m3, zc_m4, zc_m5, zc_m6, zc_lt_t, zc_lt_f, zc_le_t, zc_le_f, zc_eq_t, zc_eq_f, nI_add, pk_mul, z0a, Nat.zero_add, Nat.add_zero, Nat.reduceAdd, ↓reduceIte, Nat.zero_add, e2]
theorem ze_goodCount : QE_goodCount zI := by
  intro ad I A G T J B w hI
  obtain ⟨⟨ng, nk, nh, ns, kept, next, hJ⟩, _⟩ := id hI
  have e1 : I 13 = nI nk := hJ.1.2.2.1.2.1
  have e2 : B 3 1 = nI nk := hJ.1.2.1.2.1
  refine ⟨_, rfl, nI nk, upd J 1 0, ?_, e1, zI_J 0 hI⟩
  unfold f_X8_goodCount f_X8_countOf
  simp (disch := omega) only [zl_0, zl_1, zl_2, zl_3, zl_4, zl_5, zl_6, zl_7, zl_8, zl_9, zl_10, zl_11, zl_12, zl_13, zl_14, zl_15, zl_16, zl_20, zl_24, zl_26, zl_31, zl_32, zl_38, zl_44, zl_48, zl_50, zl_56, zl_57, zl_59, zl_62, zl_96, zl_97, zl_99, zl_100, zl_122, zl_133, zl_139, zl_145, zl_169, zl_185, zl_189, zl_213, zl_237, zl_241, zl_245, zl_249, zl_250, zl_255, zl_400, zl_401, zl_800, zl_999, zl_1000, zl_2406, zl_2500, zl_2807, zl_9999, zl_99999, zl_100000, zl_1000000000, zl_100000000, zb_let, zb_bd, zb_bd2, zb_bd3, zb_bd4, zb_bd5, zb_ck, zb_ckT, zb_ld, zb_st, not_false_eq_true, zc_m1, zc_m2, zc_m3, zc_m4, zc_m5, zc_m6, zc_lt_t, zc_lt_f, zc_le_t, zc_le_f, zc_eq_t, zc_eq_f, nI_add, pk_mul, z0a, Nat.zero_add, Nat.add_zero, Nat.reduceAdd, ↓reduceIte, Nat.zero_add, e2]
theorem ze_houseCount : QE_houseCount zI := by
  intro ad I A G T J B w hI
  obtain ⟨⟨ng, nk, nh, ns, kept, next, hJ⟩, _⟩ := id hI
  have e1 : I 14 = nI nh := hJ.1.2.2.1.2.2.1
  have e2 : B 3 2 = nI nh := hJ.1.2.1.2.2.1
  refine ⟨_, rfl, nI nh, upd J 1 0, ?_, e1, zI_J 0 hI⟩
  unfold f_X8_houseCount f_X8_countOf
  simp (disch := omega) only [zl_0, zl_1, zl_2, zl_3, zl_4, zl_5, zl_6, zl_7, zl_8, zl_9, zl_10, zl_11, zl_12, zl_13, zl_14, zl_15, zl_16, zl_20, zl_24, zl_26, zl_31, zl_32, zl_38, zl_44, zl_48, zl_50, zl_56, zl_57, zl_59, zl_62, zl_96, zl_97, zl_99, zl_100, zl_122, zl_133, zl_139, zl_145, zl_169, zl_185, zl_189, zl_213, zl_237, zl_241, zl_245, zl_249, zl_250, zl_255, zl_400, zl_401, zl_800, zl_999, zl_1000, zl_2406, zl_2500, zl_2807, zl_9999, zl_99999, zl_100000, zl_1000000000, zl_100000000, zb_let, zb_bd, zb_bd2, zb_bd3, zb_bd4, zb_bd5, zb_ck, zb_ckT, zb_ld, zb_st, not_false_eq_true, zc_m1, zc_m2, zc_m3, zc_m4, zc_m5, zc_m6, zc_lt_t, zc_lt_f, zc_le_t, zc_le_f, zc_eq_t, zc_eq_f, nI_add, pk_mul, z0a, Nat.zero_add, Nat.add_zero, Nat.reduceAdd, ↓reduceIte, Nat.zero_add, e2]
theorem ze_shopCount : QE_shopCount zI := by
  intro ad I A G T J B w hI
  obtain ⟨⟨ng, nk, nh, ns, kept, next, hJ⟩, _⟩ := id hI
  have e1 : I 15 = nI ns := hJ.1.2.2.1.2.2.2
  have e2 : B 3 3 = nI ns := hJ.1.2.1.2.2.2
  refine ⟨_, rfl, nI ns, upd J 1 0, ?_, e1, zI_J 0 hI⟩
  unfold f_X8_shopCount f_X8_countOf
  simp (disch := omega) only [zl_0, zl_1, zl_2, zl_3, zl_4, zl_5, zl_6, zl_7, zl_8, zl_9, zl_10, zl_11, zl_12, zl_13, zl_14, zl_15, zl_16, zl_20, zl_24, zl_26, zl_31, zl_32, zl_38, zl_44, zl_48, zl_50, zl_56, zl_57, zl_59, zl_62, zl_96, zl_97, zl_99, zl_100, zl_122, zl_133, zl_139, zl_145, zl_169, zl_185, zl_189, zl_213, zl_237, zl_241, zl_245, zl_249, zl_250, zl_255, zl_400, zl_401, zl_800, zl_999, zl_1000, zl_2406, zl_2500, zl_2807, zl_9999, zl_99999, zl_100000, zl_1000000000, zl_100000000, zb_let, zb_bd, zb_bd2, zb_bd3, zb_bd4, zb_bd5, zb_ck, zb_ckT, zb_ld, zb_st, not_false_eq_true, zc_m1, zc_m2, zc_m3, zc_m4, zc_m5, zc_m6, zc_lt_t, zc_lt_f, zc_le_t, zc_le_f, zc_eq_t, zc_eq_f, nI_add, pk_mul, z0a, Nat.zero_add, Nat.add_zero, Nat.reduceAdd, ↓reduceIte, Nat.zero_add, e2]
theorem ze_undoCount : QE_undoCount zI := by
  intro ad I A G T J B w hI
  obtain ⟨⟨ng, nk, nh, ns, kept, next, _, _, _, _, _, _, h10, hj0, _⟩, _⟩ := id hI
  refine ⟨_, rfl, J 0, upd J 1 0, ?_, h10.trans hj0.symm, zI_J 0 hI⟩
  unfold f_X8_undoCount
  rw [zb_let, zu_ne (by decide)]
theorem ze_period : QE_period zI := by
  intro ad I A G T J B w hI
  obtain ⟨⟨ng, nk, nh, ns, kept, next, _, _, _, h20, _⟩, _⟩ := id hI
  refine ⟨_, rfl, B 0 249, upd J 1 0, ?_, h20, zI_J 0 hI⟩
  unfold f_X8_period
  simp (disch := omega) only [zl_0, zl_1, zl_2, zl_3, zl_4, zl_5, zl_6, zl_7, zl_8, zl_9, zl_10, zl_11, zl_12, zl_13, zl_14, zl_15, zl_16, zl_20, zl_24, zl_26, zl_31, zl_32, zl_38, zl_44, zl_48, zl_50, zl_56, zl_57, zl_59, zl_62, zl_96, zl_97, zl_99, zl_100, zl_122, zl_133, zl_139, zl_145, zl_169, zl_185, zl_189, zl_213, zl_237, zl_241, zl_245, zl_249, zl_250, zl_255, zl_400, zl_401, zl_800, zl_999, zl_1000, zl_2406, zl_2500, zl_2807, zl_9999, zl_99999, zl_100000, zl_1000000000, zl_100000000, zb_let, zb_bd, zb_bd2, zb_bd3, zb_bd4, zb_bd5, zb_ck, zb_ckT, zb_ld, zb_st, not_false_eq_true, zc_m1, zc_m2, zc_m3, zc_m4, zc_m5, zc_m6, zc_lt_t, zc_lt_f, zc_le_t, zc_le_f, zc_eq_t, zc_eq_f, nI_add, pk_mul, z0a, Nat.zero_add, Nat.add_zero, Nat.reduceAdd, ↓reduceIte]
/-! names -/
theorem zx_find_l {N n s : Nat} {f F : Nat → Int32} {p : Int32} (hs : s ≤ 3) (hn : n ≤ 6) (hN : n ≤ N) (hN2 : N ≤ 6) (hF : F s = nI n) (hf : ∀ i, i < n → f i = F (38 + 6 * s + i)) : ∀ (d i fu1 fu2 : Nat), i + d = n → d < fu1 → d < fu2 → ∃ r, f_X3_find_l2 N f (nI n) p fu1 (nI i) = some r ∧ f_X8_indexOf_l2 62 F (nI s) p fu2 (nI i) = some r ∧ (r = -nI 1 ∨ ∃ j, j < n ∧ r = nI j) := by
  intro d
  induction d with
  | zero =>
    intro i fu1 fu2 h h1 h2
    obtain ⟨a, rfl⟩ : ∃ a, fu1 = a + 1 := ⟨fu1 - 1, by omega⟩
    obtain ⟨b, rfl⟩ : ∃ b, fu2 = b + 1 := ⟨fu2 - 1, by omega⟩
    refine ⟨-nI 1, ?_, ?_, Or.inl rfl⟩
    · simp (disch := omega) only [zl_0, zl_1, zl_2, zl_3, zl_4, zl_5, zl_6, zl_7, zl_8, zl_9, zl_10, zl_11, zl_12, zl_13, zl_14, zl_15, zl_16, zl_20, zl_24, zl_26, zl_31, zl_32, zl_38, zl_44, zl_48, zl_50, zl_56, zl_57, zl_59, zl_62, zl_96, zl_97, zl_99, zl_100, zl_122, zl_133, zl_139, zl_145, zl_169, zl_185, zl_189, zl_213, zl_237, zl_241, zl_245, zl_249, zl_250, zl_255, zl_400, zl_401, zl_800, zl_999, zl_1000, zl_2406, zl_2500, zl_2807, zl_9999, zl_99999, zl_100000, zl_1000000000, zl_100000000, zb_let, zb_bd, zb_bd2, zb_bd3, zb_bd4, zb_bd5, zb_ck, zb_ckT, zb_ld, zb_st, not_false_eq_true, zc_m1, zc_m2, zc_m3, zc_m4, zc_m5, zc_m6, zc_lt_t, zc_lt_f, zc_le_t, zc_le_f, zc_eq_t, zc_eq_f, nI_add, pk_mul, z0a, Nat.zero_add, Nat.add_zero, Nat.reduceAdd, ↓reduceIte, f_X3_find_l2]
    · simp (disch := omega) only [zl_0, zl_1, zl_2, zl_3, zl_4, zl_5, zl_6, zl_7, zl_8, zl_9, zl_10, zl_11, zl_12, zl_13, zl_14, zl_15, zl_16, zl_20, zl_24, zl_26, zl_31, zl_32, zl_38, zl_44, zl_48, zl_50, zl_56, zl_57, zl_59, zl_62, zl_96, zl_97, zl_99, zl_100, zl_122, zl_133, zl_139, zl_145, zl_169, zl_185, zl_189, zl_213, zl_237, zl_241, zl_245, zl_249, zl_250, zl_255, zl_400, zl_401, zl_800, zl_999, zl_1000, zl_2406, zl_2500, zl_2807, zl_9999, zl_99999, zl_100000, zl_1000000000, zl_100000000, zb_let, zb_bd, zb_bd2, zb_bd3, zb_bd4, zb_bd5, zb_ck, zb_ckT, zb_ld, zb_st, not_false_eq_true, zc_m1, zc_m2, zc_m3, zc_m4, zc_m5, zc_m6, zc_lt_t, zc_lt_f, zc_le_t, zc_le_f, zc_eq_t, zc_eq_f, nI_add, pk_mul, z0a, Nat.zero_add, Nat.add_zero, Nat.reduceAdd, ↓reduceIte, f_X8_indexOf_l2, Nat.zero_add, hF]
  | succ d ih =>
    intro i fu1 fu2 h h1 h2
    obtain ⟨a, rfl⟩ : ∃ a, fu1 = a + 1 := ⟨fu1 - 1, by omega⟩
    obtain ⟨b, rfl⟩ : ∃ b, fu2 = b + 1 := ⟨fu2 - 1, by omega⟩
    have hfi := hf i (by omega)
    by_cases he : f i = p
    · refine ⟨nI i, ?_, ?_, Or.inr ⟨i, by omega, rfl⟩⟩
      · simp (disch := omega) only [zl_0, zl_1, zl_2, zl_3, zl_4, zl_5, zl_6, zl_7, zl_8, zl_9, zl_10, zl_11, zl_12, zl_13, zl_14, zl_15, zl_16, zl_20, zl_24, zl_26, zl_31, zl_32, zl_38, zl_44, zl_48, zl_50, zl_56, zl_57, zl_59, zl_62, zl_96, zl_97, zl_99, zl_100, zl_122, zl_133, zl_139, zl_145, zl_169, zl_185, zl_189, zl_213, zl_237, zl_241, zl_245, zl_249, zl_250, zl_255, zl_400, zl_401, zl_800, zl_999, zl_1000, zl_2406, zl_2500, zl_2807, zl_9999, zl_99999, zl_100000, zl_1000000000, zl_100000000, zb_let, zb_bd, zb_bd2, zb_bd3, zb_bd4, zb_bd5, zb_ck, zb_ckT, zb_ld, zb_st, not_false_eq_true, zc_m1, zc_m2, zc_m3, zc_m4, zc_m5, zc_m6, zc_lt_t, zc_lt_f, zc_le_t, zc_le_f, zc_eq_t, zc_eq_f, nI_add, pk_mul, z0a, Nat.zero_add, Nat.add_zero, Nat.reduceAdd, ↓reduceIte, f_X3_find_l2, he]
      · simp (disch := omega) only [zl_0, zl_1, zl_2, zl_3, zl_4, zl_5, zl_6, zl_7, zl_8, zl_9, zl_10, zl_11, zl_12, zl_13, zl_14, zl_15, zl_16, zl_20, zl_24, zl_26, zl_31, zl_32, zl_38, zl_44, zl_48, zl_50, zl_56, zl_57, zl_59, zl_62, zl_96, zl_97, zl_99, zl_100, zl_122, zl_133, zl_139, zl_145, zl_169, zl_185, zl_189, zl_213, zl_237, zl_241, zl_245, zl_249, zl_250, zl_255, zl_400, zl_401, zl_800, zl_999, zl_1000, zl_2406, zl_2500, zl_2807, zl_9999, zl_99999, zl_100000, zl_1000000000, zl_100000000, zb_let, zb_bd, zb_bd2, zb_bd3, zb_bd4, zb_bd5, zb_ck, zb_ckT, zb_ld, zb_st, not_false_eq_true, zc_m1, zc_m2, zc_m3, zc_m4, zc_m5, zc_m6, zc_lt_t, zc_lt_f, zc_le_t, zc_le_f, zc_eq_t, zc_eq_f, nI_add, pk_mul, z0a, Nat.zero_add, Nat.add_zero, Nat.reduceAdd, ↓reduceIte, f_X8_indexOf_l2, Nat.zero_add, hF, ← hfi, he]
    · obtain ⟨r, e1, e2, e3⟩ := ih (i + 1) a b (by omega) (by omega) (by omega)
      refine ⟨r, ?_, ?_, e3⟩
      · simp (disch := omega) only [zl_0, zl_1, zl_2, zl_3, zl_4, zl_5, zl_6, zl_7, zl_8, zl_9, zl_10, zl_11, zl_12, zl_13, zl_14, zl_15, zl_16, zl_20, zl_24, zl_26, zl_31, zl_32, zl_38, zl_44, zl_48, zl_50, zl_56, zl_57, zl_59, zl_62, zl_96, zl_97, zl_99, zl_100, zl_122, zl_133, zl_139, zl_145, zl_169, zl_185, zl_189, zl_213, zl_237, zl_241, zl_245, zl_249, zl_250, zl_255, zl_400, zl_401, zl_800, zl_999, zl_1000, zl_2406, zl_2500, zl_2807, zl_9999, zl_99999, zl_100000, zl_1000000000, zl_100000000, zb_let, zb_bd, zb_bd2, zb_bd3, zb_bd4, zb_bd5, zb_ck, zb_ckT, zb_ld, zb_st, not_false_eq_true, zc_m1, zc_m2, zc_m3, zc_m4, zc_m5, zc_m6, zc_lt_t, zc_lt_f, zc_le_t, zc_le_f, zc_eq_t, zc_eq_f, nI_add, pk_mul, z0a, Nat.zero_add, Nat.add_zero, Nat.reduceAdd, ↓reduceIte, f_X3_find_l2, he, e1]
      · simp (disch := omega) only [zl_0, zl_1, zl_2, zl_3, zl_4, zl_5, zl_6, zl_7, zl_8, zl_9, zl_10, zl_11, zl_12, zl_13, zl_14, zl_15, zl_16, zl_20, zl_24, zl_26, zl_31, zl_32, zl_38, zl_44, zl_48, zl_50, zl_56, zl_57, zl_59, zl_62, zl_96, zl_97, zl_99, zl_100, zl_122, zl_133, zl_139, zl_145, zl_169, zl_185, zl_189, zl_213, zl_237, zl_241, zl_245, zl_249, zl_250, zl_255, zl_400, zl_401, zl_800, zl_999, zl_1000, zl_2406, zl_2500, zl_2807, zl_9999, zl_99999, zl_100000, zl_1000000000, zl_100000000, zb_let, zb_bd, zb_bd2, zb_bd3, zb_bd4, zb_bd5, zb_ck, zb_ckT, zb_ld, zb_st, not_false_eq_true, zc_m1, zc_m2, zc_m3, zc_m4, zc_m5, zc_m6, zc_lt_t, zc_lt_f, zc_le_t, zc_le_f, zc_eq_t, zc_eq_f, nI_add, pk_mul, z0a, Nat.zero_add, Nat.add_zero, Nat.reduceAdd, ↓reduceIte, f_X8_indexOf_l2, Nat.zero_add, hF, ← hfi, he, e2]
theorem zx_find {N n s : Nat} {f F : Nat → Int32} (p : Int32) (hs : s ≤ 3) (hn : n ≤ 6) (hN : n ≤ N) (hN2 : N ≤ 6) (hF : F s = nI n) (hf : ∀ i, i < n → f i = F (38 + 6 * s + i)) : ∃ r, f_X3_find N f (nI n) p = some r ∧ f_X8_indexOf 62 F (nI s) p = some r ∧ (r = -nI 1 ∨ ∃ j, j < n ∧ r = nI j) :=
  zx_find_l hs hn hN hN2 hF hf n 0 100000 100000 (by omega) (by omega) (by omega)
theorem ze_groupNamed : QE_groupNamed zI := by
  intro ad I A G T J B w p hI
  obtain ⟨⟨ng, nk, nh, ns, kept, next, hJ⟩, _⟩ := id hI
  obtain ⟨hb, ⟨g1, g2, g3, g4⟩, ⟨c1, c2, c3, c4⟩, q1, q2, q3, q4⟩ := hJ.1
  obtain ⟨r, e1, e2, _⟩ := zx_find (N := 4) (f := A 11) p (by omega : 0 ≤ 3) (by omega) (by omega) (by omega) g1 (fun i hi => (q1 i hi).1)
  have c1 : I 12 = nI ng := c1
  refine ⟨r, ?_, r, upd J 1 0, ?_, rfl, zI_J 0 hI⟩
  · unfold f_X7_groupNamed
    rw [c1, e1]
    rfl
  · unfold f_X8_groupNamed f_X8_find
    rw [zl_0, e2]
    rfl
theorem ze_goodNamed : QE_goodNamed zI := by
  intro ad I A G T J B w p hI
  obtain ⟨⟨ng, nk, nh, ns, kept, next, hJ⟩, _⟩ := id hI
  obtain ⟨hb, ⟨g1, g2, g3, g4⟩, ⟨c1, c2, c3, c4⟩, q1, q2, q3, q4⟩ := hJ.1
  obtain ⟨r, e1, e2, _⟩ := zx_find (N := 6) (f := A 12) p (by omega : 1 ≤ 3) (by omega) (by omega) (by omega) g2 (fun i hi => (q2 i hi).1)
  have c2 : I 13 = nI nk := c2
  refine ⟨r, ?_, r, upd J 1 0, ?_, rfl, zI_J 0 hI⟩
  · unfold f_X7_goodNamed
    rw [c2, e1]
    rfl
  · unfold f_X8_goodNamed f_X8_find
    rw [zl_1, e2]
    rfl
theorem ze_houseNamed : QE_houseNamed zI := by
  intro ad I A G T J B w p hI
  obtain ⟨⟨ng, nk, nh, ns, kept, next, hJ⟩, _⟩ := id hI
  obtain ⟨hb, ⟨g1, g2, g3, g4⟩, ⟨c1, c2, c3, c4⟩, q1, q2, q3, q4⟩ := hJ.1
  obtain ⟨r, e1, e2, _⟩ := zx_find (N := 6) (f := A 13) p (by omega : 2 ≤ 3) (by omega) (by omega) (by omega) g3 (fun i hi => q3 i hi)
  have c3 : I 14 = nI nh := c3
  refine ⟨r, ?_, r, upd J 1 0, ?_, rfl, zI_J 0 hI⟩
  · unfold f_X7_houseNamed
    rw [c3, e1]
    rfl
  · unfold f_X8_houseNamed f_X8_find
    rw [zl_2, e2]
    rfl
theorem ze_shopNamed : QE_shopNamed zI := by
  intro ad I A G T J B w p hI
  obtain ⟨⟨ng, nk, nh, ns, kept, next, hJ⟩, _⟩ := id hI
  obtain ⟨hb, ⟨g1, g2, g3, g4⟩, ⟨c1, c2, c3, c4⟩, q1, q2, q3, q4⟩ := hJ.1
  obtain ⟨r, e1, e2, _⟩ := zx_find (N := 4) (f := A 14) p (by omega : 3 ≤ 3) (by omega) (by omega) (by omega) g4 (fun i hi => q4 i hi)
  have c4 : I 15 = nI ns := c4
  refine ⟨r, ?_, r, upd J 1 0, ?_, rfl, zI_J 0 hI⟩
  · unfold f_X7_shopNamed
    rw [c4, e1]
    rfl
  · unfold f_X8_shopNamed f_X8_find
    rw [zl_3, e2]
    rfl
