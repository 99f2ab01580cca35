theorem zx_fill_l {n : Nat} (hn : n < 2147483647) (v : Int32) : ∀ (d i fu : Nat) (f : Nat → Int32), i + d = n → d < fu → ∃ f', f_J7_fill_53178_l5 n v (nI n) fu f (nI i) = some f' ∧ (∀ j, i ≤ j → j < n → f' j = v) ∧ ∀ j, (j < i ∨ n ≤ j) → f' j = f j := by
  intro d
  induction d with
  | zero =>
    intro i fu f h h1
    obtain ⟨a, rfl⟩ : ∃ a, fu = a + 1 := ⟨fu - 1, by omega⟩
    refine ⟨f, ?_, fun j h1 h2 => by omega, fun _ _ => rfl⟩
    simp (disch := omega) only [zl_0, zl_1, zl_2, zl_3, zl_4, zl_5, zl_6, zl_7, zl_8, zl_9, zl_10, zl_11, zl_12, zl_13, zl_14, zl_15, zl_16, zl_20, zl_24, zl_26, zl_31, zl_32, zl_38, zl_44, zl_48, zl_50, zl_56, zl_57, zl_59, zl_62, zl_96, zl_97, zl_99, zl_100, zl_122, zl_133, zl_139, zl_145, zl_169, zl_185, zl_189, zl_213, zl_237, zl_241, zl_245, zl_249, zl_250, zl_255, zl_400, zl_401, zl_800, zl_999, zl_1000, zl_2406, zl_2500, zl_2807, zl_9999, zl_99999, zl_100000, zl_1000000000, zl_100000000, zb_let, zb_bd, zb_bd2, zb_bd3, zb_bd4, zb_bd5, zb_ck, zb_ckT, zb_ld, zb_st, not_false_eq_true, zc_m1, zc_m2, zc_m3, zc_m4, zc_m5, zc_m6, zc_lt_t, zc_lt_f, zc_le_t, zc_le_f, zc_eq_t, zc_eq_f, nI_add, pk_mul, z0a, Nat.zero_add, Nat.add_zero, Nat.reduceAdd, ↓reduceIte, f_J7_fill_53178_l5]
  | succ d ih =>
    intro i fu f h h1
    obtain ⟨a, rfl⟩ : ∃ a, fu = a + 1 := ⟨fu - 1, by omega⟩
    obtain ⟨f', i1, i2, i3⟩ := ih (i + 1) a (upd f i v) (by omega) (by omega)
    refine ⟨f', ?_, ?_, ?_⟩
    · simp (disch := omega) only [zl_0, zl_1, zl_2, zl_3, zl_4, zl_5, zl_6, zl_7, zl_8, zl_9, zl_10, zl_11, zl_12, zl_13, zl_14, zl_15, zl_16, zl_20, zl_24, zl_26, zl_31, zl_32, zl_38, zl_44, zl_48, zl_50, zl_56, zl_57, zl_59, zl_62, zl_96, zl_97, zl_99, zl_100, zl_122, zl_133, zl_139, zl_145, zl_169, zl_185, zl_189, zl_213, zl_237, zl_241, zl_245, zl_249, zl_250, zl_255, zl_400, zl_401, zl_800, zl_999, zl_1000, zl_2406, zl_2500, zl_2807, zl_9999, zl_99999, zl_100000, zl_1000000000, zl_100000000, zb_let, zb_bd, zb_bd2, zb_bd3, zb_bd4, zb_bd5, zb_ck, zb_ckT, zb_ld, zb_st, not_false_eq_true, zc_m1, zc_m2, zc_m3, zc_m4, zc_m5, zc_m6, zc_lt_t, zc_lt_f, zc_le_t, zc_le_f, zc_eq_t, zc_eq_f, nI_add, pk_mul, z0a, Nat.zero_add, Nat.add_zero, Nat.reduceAdd, ↓reduceIte, f_J7_fill_53178_l5, i1]
    · intro j j1 j2
      by_cases c : j = i
      · rw [c, i3 i (by omega), zu_same]
      · exact i2 j (by omega) j2
    · intro j hj
      rw [i3 j (by omega), zu_ne (by omega)]
theorem zx_fill {n : Nat} (hn : n < 100000) (f : Nat → Int32) (v : Int32) : ∃ f', f_J7_fill_53178 n f v = some f' ∧ (∀ j, j < n → f' j = v) ∧ ∀ j, n ≤ j → f' j = f j := by
  obtain ⟨f', i1, i2, i3⟩ := zx_fill_l (by omega : n < 2147483647) v n 0 100000 f (by omega) (by omega)
  refine ⟨f', ?_, fun j hj => i2 j (by omega) hj, fun j hj => i3 j (Or.inr hj)⟩
  unfold f_J7_fill_53178
  rw [zb_let, show Int32.ofNat n = nI n from rfl, zl_0]
  exact i1
/-! an issue -/
theorem zx_iss_in {I : Nat → Int32} {F D0 : Nat → Int32} {A0 B0 : Nat → Nat → Int32} {ng nh h : Nat} (hng : ng ≤ 4) (hnh : nh ≤ 6) (hI : I 12 = nI ng) (hF : F 0 = nI ng) (hL : ∀ g, g < ng → ∃ l, 1 ≤ l ∧ l ≤ 4 ∧ F (4 + g) = nI l) (hA : ∀ g, g < ng → A0 15 g = F (4 + g)) (hB : B0 3 = F) (hh : h < nh) (K1 K2 : (Nat → Nat → Int32) → Int32 → Option (Nat → Nat → Int32)) : ∀ (d g fu1 fu2 : Nat) (A B : Nat → Nat → Int32), g + d = ng → d < fu1 → d < fu2 → zR (fun a => A (33 + a)) (B 0) → (∀ a, a ≠ 36 → a ≠ 44 → A a = A0 a) → (∀ b, b ≠ 0 → B b = B0 b) → (∀ j, j < 13 → B 0 j = D0 j) → ∃ A' B', f_X7_issueToAll_l15 I K1 (nI h) fu1 A (nI g) = K1 A' (nI (h + 1)) ∧ f_X8_issue_l14 K2 (nI h) fu2 B (nI g) = K2 B' (nI (h + 1)) ∧ zR (fun a => A' (33 + a)) (B' 0) ∧ (∀ a, a ≠ 36 → a ≠ 44 → A' a = A0 a) ∧ (∀ b, b ≠ 0 → B' b = B0 b) ∧ (∀ j, (j < 13 ∨ 133 ≤ j) → (j < 237 ∨ 241 ≤ j) → B' 0 j = B 0 j) ∧ (∀ h' g' p, h' < 6 → g' < 4 → p < 5 → B' 0 (13 + ((h' * 4 + g') * 5 + p)) = if h' = h ∧ g ≤ g' ∧ g' < ng ∧ F (4 + g') = nI p then B 0 (13 + ((h' * 4 + g') * 5 + p)) + D0 (7 + h) * D0 (3 + g') else B 0 (13 + ((h' * 4 + g') * 5 + p))) := by
  intro d
  induction d with
  | zero =>
    intro g fu1 fu2 A B hd h1 h2 hR fA fB hD
    obtain ⟨a, rfl⟩ : ∃ a, fu1 = a + 1 := ⟨fu1 - 1, by omega⟩
    obtain ⟨b, rfl⟩ : ∃ b, fu2 = b + 1 := ⟨fu2 - 1, by omega⟩
    refine ⟨A, B, ?_, ?_, hR, fA, fB, fun _ _ _ => rfl, fun h' g' p _ _ _ => (if_neg (by omega)).symm⟩
    · rw [f_X7_issueToAll_l15]
      simp (disch := omega) only [zl_0, zl_1, zl_2, zl_3, zl_4, zl_5, zl_6, zl_7, zl_8, zl_9, zl_10, zl_11, zl_12, zl_13, zl_14, zl_15, zl_16, zl_20, zl_24, zl_26, zl_31, zl_32, zl_38, zl_44, zl_48, zl_50, zl_56, zl_57, zl_59, zl_62, zl_96, zl_97, zl_99, zl_100, zl_122, zl_133, zl_139, zl_145, zl_169, zl_185, zl_189, zl_213, zl_237, zl_241, zl_245, zl_249, zl_250, zl_255, zl_400, zl_401, zl_800, zl_999, zl_1000, zl_2406, zl_2500, zl_2807, zl_9999, zl_99999, zl_100000, zl_1000000000, zl_100000000, zb_let, zb_bd, zb_bd2, zb_bd3, zb_bd4, zb_bd5, zb_ck, zb_ckT, zb_ld, zb_st, not_false_eq_true, zc_le_t, nI_add, ↓reduceIte, hI]
    · rw [f_X8_issue_l14]
      simp (disch := omega) only [zl_0, zl_1, zl_2, zl_3, zl_4, zl_5, zl_6, zl_7, zl_8, zl_9, zl_10, zl_11, zl_12, zl_13, zl_14, zl_15, zl_16, zl_20, zl_24, zl_26, zl_31, zl_32, zl_38, zl_44, zl_48, zl_50, zl_56, zl_57, zl_59, zl_62, zl_96, zl_97, zl_99, zl_100, zl_122, zl_133, zl_139, zl_145, zl_169, zl_185, zl_189, zl_213, zl_237, zl_241, zl_245, zl_249, zl_250, zl_255, zl_400, zl_401, zl_800, zl_999, zl_1000, zl_2406, zl_2500, zl_2807, zl_9999, zl_99999, zl_100000, zl_1000000000, zl_100000000, zb_let, zb_bd, zb_bd2, zb_bd3, zb_bd4, zb_bd5, zb_ck, zb_ckT, zb_ld, zb_st, not_false_eq_true, zc_le_t, nI_add, ↓reduceIte, fB, hB, hF]
  | succ d ih =>
    intro g fu1 fu2 A B hd h1 h2 hR fA fB hD
    obtain ⟨a, rfl⟩ : ∃ a, fu1 = a + 1 := ⟨fu1 - 1, by omega⟩
    obtain ⟨b, rfl⟩ : ∃ b, fu2 = b + 1 := ⟨fu2 - 1, by omega⟩
    obtain ⟨l, l1, l2, l3⟩ := hL g (by omega)
    have e15 : A 15 g = nI l := by rw [fA 15 (by omega) (by omega), hA g (by omega), l3]
    have eF : B 3 (4 + g) = nI l := by rw [fB 3 (by omega), hB, l3]
    have e0 : B 3 0 = nI ng := by rw [fB 3 (by omega), hB, hF]
    have q1 : A 34 h = D0 (7 + h) := by rw [zr_1 hR (by omega), hD _ (by omega)]
    have q2 : A 33 g = D0 (3 + g) := by rw [zr_0 hR (by omega), hD _ (by omega)]
    have q3 : B 0 (7 + h) = D0 (7 + h) := hD _ (by omega)
    have q4 : B 0 (3 + g) = D0 (3 + g) := hD _ (by omega)
    have hR1 := zR_up hR 3 ((h * 4 + g) * 5 + l) (B 0 (13 + ((h * 4 + g) * 5 + l)) + D0 (7 + h) * D0 (3 + g)) (k := 36) (o := 13 + ((h * 4 + g) * 5 + l)) (by omega) (show (h * 4 + g) * 5 + l < 120 by omega) rfl rfl
    have hR2 := zR_up hR1 11 g (B 0 (237 + g) + D0 (7 + h) * D0 (3 + g)) (k := 44) (o := 237 + g) (by omega) (show g < 4 by omega) rfl rfl
    rw [zu_upn (by omega)] at hR2
    obtain ⟨A', B', i1, i2, i3, i4, i5, i6, i7⟩ := ih (g + 1) a b (qf_up (qf_up A 36 (upd (A 36) ((h * 4 + g) * 5 + l) (B 0 (13 + ((h * 4 + g) * 5 + l)) + D0 (7 + h) * D0 (3 + g)))) 44 (upd (A 44) g (B 0 (237 + g) + D0 (7 + h) * D0 (3 + g)))) (qf_up B 0 (upd (upd (B 0) (13 + ((h * 4 + g) * 5 + l)) (B 0 (13 + ((h * 4 + g) * 5 + l)) + D0 (7 + h) * D0 (3 + g))) (237 + g) (B 0 (237 + g) + D0 (7 + h) * D0 (3 + g)))) (by omega) (by omega) (by omega) (by rw [zu_up]; exact hR2) (fun a a1 a2 => by rw [zu_upn a2, zu_upn a1, fA a a1 a2]) (fun b b1 => by rw [zu_upn b1, fB b b1]) (fun j hj => by rw [zu_up, zu_ne (by omega), zu_ne (by omega), hD j hj])
    refine ⟨A', B', ?_, ?_, i3, i4, i5, ?_, ?_⟩
    · refine Eq.trans ?_ i1
      rw [f_X7_issueToAll_l15]
      simp (disch := omega) only [zl_0, zl_1, zl_2, zl_3, zl_4, zl_5, zl_6, zl_7, zl_8, zl_9, zl_10, zl_11, zl_12, zl_13, zl_14, zl_15, zl_16, zl_20, zl_24, zl_26, zl_31, zl_32, zl_38, zl_44, zl_48, zl_50, zl_56, zl_57, zl_59, zl_62, zl_96, zl_97, zl_99, zl_100, zl_122, zl_133, zl_139, zl_145, zl_169, zl_185, zl_189, zl_213, zl_237, zl_241, zl_245, zl_249, zl_250, zl_255, zl_400, zl_401, zl_800, zl_999, zl_1000, zl_2406, zl_2500, zl_2807, zl_9999, zl_99999, zl_100000, zl_1000000000, zl_100000000, zb_let, zb_bd, zb_bd2, zb_bd3, zb_bd4, zb_bd5, zb_ck, zb_ckT, zb_ld, zb_st, not_false_eq_true, zc_le_f, nI_add, ↓reduceIte, hI, f_X7_shareOf, zx_purse, q1, q2, e15, zu_upn, zr_3 hR, zr_11 hR]
    · refine Eq.trans ?_ i2
      rw [f_X8_issue_l14]
      simp (disch := omega) only [zl_0, zl_1, zl_2, zl_3, zl_4, zl_5, zl_6, zl_7, zl_8, zl_9, zl_10, zl_11, zl_12, zl_13, zl_14, zl_15, zl_16, zl_20, zl_24, zl_26, zl_31, zl_32, zl_38, zl_44, zl_48, zl_50, zl_56, zl_57, zl_59, zl_62, zl_96, zl_97, zl_99, zl_100, zl_122, zl_133, zl_139, zl_145, zl_169, zl_185, zl_189, zl_213, zl_237, zl_241, zl_245, zl_249, zl_250, zl_255, zl_400, zl_401, zl_800, zl_999, zl_1000, zl_2406, zl_2500, zl_2807, zl_9999, zl_99999, zl_100000, zl_1000000000, zl_100000000, zb_let, zb_bd, zb_bd2, zb_bd3, zb_bd4, zb_bd5, zb_ck, zb_ckT, zb_ld, zb_st, not_false_eq_true, zc_le_f, nI_add, ↓reduceIte, e0, f_X8_issueOf, zx_at, q3, q4, eF, zu_up, zu_upup, zu_ne, Nat.add_assoc]
    · intro j j1 j2
      rw [i6 j j1 j2, zu_up, zu_ne (by omega), zu_ne (by omega)]
    · intro h' g' p h'6 g'4 p5
      rw [i7 h' g' p h'6 g'4 p5, zu_up, zu_ne (by omega)]
      by_cases c : h' = h ∧ g' = g ∧ p = l
      · obtain ⟨c1, c2, c3⟩ := c
        subst c1 c2 c3
        rw [zu_same, if_neg (by omega), if_pos ⟨rfl, Nat.le_refl _, by omega, l3⟩]
      · rw [zu_ne (by omega)]
        by_cases c2 : h' = h ∧ g + 1 ≤ g' ∧ g' < ng ∧ F (4 + g') = nI p
        · rw [if_pos c2, if_pos ⟨c2.1, by omega, c2.2.2⟩]
        · rw [if_neg c2]
          rw [if_neg]
          rintro ⟨d1, d2, d3, d4⟩
          by_cases c3 : g' = g
          · subst c3
            have : l = p := by
              rw [l3] at d4
              exact (nI_eq (by omega) (by omega)).mp d4
            exact c ⟨d1, rfl, this.symm⟩
          · exact c2 ⟨d1, by omega, d3, d4⟩
theorem zx_iss_l {I : Nat → Int32} {F D0 : Nat → Int32} {A0 B0 : Nat → Nat → Int32} {ng nh : Nat} (hng : ng ≤ 4) (hnh : nh ≤ 6) (hI : I 12 = nI ng) (hI14 : I 14 = nI nh) (hF : F 0 = nI ng) (hF2 : F 2 = nI nh) (hL : ∀ g, g < ng → ∃ l, 1 ≤ l ∧ l ≤ 4 ∧ F (4 + g) = nI l) (hA : ∀ g, g < ng → A0 15 g = F (4 + g)) (hB : B0 3 = F) : ∀ (d h fu1 fu2 : Nat) (A B : Nat → Nat → Int32), h + d = nh → d < fu1 → d < fu2 → zR (fun a => A (33 + a)) (B 0) → (∀ a, a ≠ 36 → a ≠ 44 → A a = A0 a) → (∀ b, b ≠ 0 → B b = B0 b) → (∀ j, j < 13 → B 0 j = D0 j) → ∃ A' B', f_X7_issueToAll_l2 I fu1 A (nI h) = some A' ∧ f_X8_issue_l2 fu2 B (nI h) = some B' ∧ zR (fun a => A' (33 + a)) (B' 0) ∧ (∀ a, a ≠ 36 → a ≠ 44 → A' a = A0 a) ∧ (∀ b, b ≠ 0 → B' b = B0 b) ∧ (∀ j, (j < 13 ∨ 133 ≤ j) → (j < 237 ∨ 241 ≤ j) → B' 0 j = B 0 j) ∧ (∀ h' g' p, h' < 6 → g' < 4 → p < 5 → B' 0 (13 + ((h' * 4 + g') * 5 + p)) = if h ≤ h' ∧ h' < nh ∧ g' < ng ∧ F (4 + g') = nI p then B 0 (13 + ((h' * 4 + g') * 5 + p)) + D0 (7 + h') * D0 (3 + g') else B 0 (13 + ((h' * 4 + g') * 5 + p))) := by
  intro d
  induction d with
  | zero =>
    intro h fu1 fu2 A B hd h1 h2 hR fA fB hD
    obtain ⟨a, rfl⟩ : ∃ a, fu1 = a + 1 := ⟨fu1 - 1, by omega⟩
    obtain ⟨b, rfl⟩ : ∃ b, fu2 = b + 1 := ⟨fu2 - 1, by omega⟩
    refine ⟨A, B, ?_, ?_, hR, fA, fB, fun _ _ _ => rfl, fun h' g' p _ _ _ => (if_neg (by omega)).symm⟩
    · rw [f_X7_issueToAll_l2]
      simp (disch := omega) only [zl_0, zl_1, zl_2, zl_3, zl_4, zl_5, zl_6, zl_7, zl_8, zl_9, zl_10, zl_11, zl_12, zl_13, zl_14, zl_15, zl_16, zl_20, zl_24, zl_26, zl_31, zl_32, zl_38, zl_44, zl_48, zl_50, zl_56, zl_57, zl_59, zl_62, zl_96, zl_97, zl_99, zl_100, zl_122, zl_133, zl_139, zl_145, zl_169, zl_185, zl_189, zl_213, zl_237, zl_241, zl_245, zl_249, zl_250, zl_255, zl_400, zl_401, zl_800, zl_999, zl_1000, zl_2406, zl_2500, zl_2807, zl_9999, zl_99999, zl_100000, zl_1000000000, zl_100000000, zb_let, zb_bd, zb_bd2, zb_bd3, zb_bd4, zb_bd5, zb_ck, zb_ckT, zb_ld, zb_st, not_false_eq_true, zc_le_t, nI_add, ↓reduceIte, hI14]
    · rw [f_X8_issue_l2]
      simp (disch := omega) only [zl_0, zl_1, zl_2, zl_3, zl_4, zl_5, zl_6, zl_7, zl_8, zl_9, zl_10, zl_11, zl_12, zl_13, zl_14, zl_15, zl_16, zl_20, zl_24, zl_26, zl_31, zl_32, zl_38, zl_44, zl_48, zl_50, zl_56, zl_57, zl_59, zl_62, zl_96, zl_97, zl_99, zl_100, zl_122, zl_133, zl_139, zl_145, zl_169, zl_185, zl_189, zl_213, zl_237, zl_241, zl_245, zl_249, zl_250, zl_255, zl_400, zl_401, zl_800, zl_999, zl_1000, zl_2406, zl_2500, zl_2807, zl_9999, zl_99999, zl_100000, zl_1000000000, zl_100000000, zb_let, zb_bd, zb_bd2, zb_bd3, zb_bd4, zb_bd5, zb_ck, zb_ckT, zb_ld, zb_st, not_false_eq_true, zc_le_t, nI_add, ↓reduceIte, fB, hB, hF2]
  | succ d ih =>
    intro h fu1 fu2 A B hd h1 h2 hR fA fB hD
    obtain ⟨a, rfl⟩ : ∃ a, fu1 = a + 1 := ⟨fu1 - 1, by omega⟩
    obtain ⟨b, rfl⟩ : ∃ b, fu2 = b + 1 := ⟨fu2 - 1, by omega⟩
    have e2 : B 3 2 = nI nh := by rw [fB 3 (by omega), hB, hF2]
    obtain ⟨A1, B1, k1, k2, k3, k4, k5, k6, k7⟩ := zx_iss_in hng hnh hI hF hL hA hB (by omega : h < nh) (fun z0 z1 => f_X7_issueToAll_l2 I a z0 z1) (fun z0 z1 => f_X8_issue_l2 b z0 z1) ng 0 100000 100000 A B (by omega) (by omega) (by omega) hR fA fB hD
    obtain ⟨A', B', i1, i2, i3, i4, i5, i6, i7⟩ := ih (h + 1) a b A1 B1 (by omega) (by omega) (by omega) k3 k4 k5 (fun j hj => by rw [k6 j (by omega) (by omega), hD j hj])
    refine ⟨A', B', ?_, ?_, i3, i4, i5, ?_, ?_⟩
    · refine Eq.trans ?_ i1
      refine Eq.trans ?_ k1
      rw [f_X7_issueToAll_l2, hI14, if_neg (nI_ge (by omega) (by omega)), zl_0]
    · refine Eq.trans ?_ i2
      refine Eq.trans ?_ k2
      rw [f_X8_issue_l2, zl_2, zb_ld (by omega) (by omega), e2, if_neg (nI_ge (by omega) (by omega)), zl_0]
    · intro j j1 j2
      rw [i6 j j1 j2, k6 j j1 j2]
    · intro h' g' p h'6 g'4 p5
      rw [i7 h' g' p h'6 g'4 p5, k7 h' g' p h'6 g'4 p5]
      by_cases c : h' = h
      · subst c
        rw [if_neg (by omega)]
        by_cases c2 : g' < ng ∧ F (4 + g') = nI p
        · rw [if_pos ⟨rfl, by omega, c2⟩, if_pos ⟨Nat.le_refl _, by omega, c2⟩]
        · rw [if_neg (fun z => c2 z.2.2), if_neg (fun z => c2 z.2.2)]
      · by_cases c2 : h + 1 ≤ h' ∧ h' < nh ∧ g' < ng ∧ F (4 + g') = nI p
        · rw [if_pos c2, if_neg (fun z => c z.1), if_pos ⟨by omega, c2.2⟩]
        · rw [if_neg c2, if_neg (fun z => c z.1), if_neg (fun z => c2 ⟨by omega, z.2⟩)]
theorem zx_iss {I : Nat → Int32} {F : Nat → Int32} {A B : Nat → Nat → Int32} {ng nh : Nat} (hng : ng ≤ 4) (hnh : nh ≤ 6) (hI : I 12 = nI ng) (hI14 : I 14 = nI nh) (hF : F 0 = nI ng) (hF2 : F 2 = nI nh) (hL : ∀ g, g < ng → ∃ l, 1 ≤ l ∧ l ≤ 4 ∧ F (4 + g) = nI l) (hA : ∀ g, g < ng → A 15 g = F (4 + g)) (hB : B 3 = F) (hR : zR (fun a => A (33 + a)) (B 0)) : ∃ A' B', f_X7_issueToAll I A = some A' ∧ f_X8_issue B = some B' ∧ zR (fun a => A' (33 + a)) (B' 0) ∧ (∀ a, a ≠ 36 → a ≠ 44 → A' a = A a) ∧ (∀ b, b ≠ 0 → B' b = B b) ∧ (∀ j, (j < 13 ∨ 133 ≤ j) → (j < 237 ∨ 241 ≤ j) → B' 0 j = B 0 j) ∧ (∀ h' g' p, h' < 6 → g' < 4 → p < 5 → B' 0 (13 + ((h' * 4 + g') * 5 + p)) = if h' < nh ∧ g' < ng ∧ F (4 + g') = nI p then B 0 (13 + ((h' * 4 + g') * 5 + p)) + B 0 (7 + h') * B 0 (3 + g') else B 0 (13 + ((h' * 4 + g') * 5 + p))) := by
  obtain ⟨A', B', i1, i2, i3, i4, i5, i6, i7⟩ := zx_iss_l (D0 := B 0) hng hnh hI hI14 hF hF2 hL hA hB nh 0 100000 100000 A B (by omega) (by omega) (by omega) hR (fun _ _ _ => rfl) (fun _ _ => rfl) (fun _ _ => rfl)
  refine ⟨A', B', i1, i2, i3, i4, i5, i6, fun h' g' p a1 a2 a3 => ?_⟩
  rw [i7 h' g' p a1 a2 a3]
  by_cases c : h' < nh ∧ g' < ng ∧ F (4 + g') = nI p
  · rw [if_pos ⟨by omega, c⟩, if_pos c]
  · rw [if_neg (fun z => c z.2), if_neg c]
/-- an issue into empty places keeps the ranges -/
theorem zO_iss {F D D' : Nat → Int32} {ng nh : Nat} (hng : ng ≤ 4) (hnh : nh ≤ 6) (hL : ∀ g, g < ng → ∃ l, 1 ≤ l ∧ l ≤ 4 ∧ F (4 + g) = nI l) (hO : zO F D ng nh) (hE : ∀ h g p, h < 6 → g < ng → p < 5 → F (4 + g) = nI p → zU D ((h * 4 + g) * 5 + p) = 0) (h1 : ∀ j, (j < 13 ∨ 133 ≤ j) → (j < 237 ∨ 241 ≤ j) → D' j = D j) (h2 : ∀ h' g' p, h' < 6 → g' < 4 → p < 5 → D' (13 + ((h' * 4 + g') * 5 + p)) = if h' < nh ∧ g' < ng ∧ F (4 + g') = nI p then D (13 + ((h' * 4 + g') * 5 + p)) + D (7 + h') * D (3 + g') else D (13 + ((h' * 4 + g') * 5 + p))) : zO F D' ng nh := by
  have hu := hO.2.2.2.1
  have key : ∀ h g p, h < 6 → g < 4 → p < 5 → ∃ x, D' (13 + ((h * 4 + g) * 5 + p)) = nI x ∧ x < 2147483648 ∧ ((g < ng ∧ F (4 + g) = nI p) → x ≤ 891 ∧ (nh ≤ h → x = 0)) ∧ (¬ (g < ng ∧ F (4 + g) = nI p) → x = zU D ((h * 4 + g) * 5 + p)) := by
    intro h g p hh hg hp
    rw [h2 h g p hh hg hp]
    by_cases c : g < ng ∧ F (4 + g) = nI p
    · have hz := hE h g p hh c.1 hp c.2
      have e0 : D (13 + ((h * 4 + g) * 5 + p)) = nI 0 := by rw [hu _ (by omega), hz]
      by_cases c2 : h < nh
      · rw [if_pos ⟨c2, c⟩, e0]
        obtain ⟨r, r1, r2⟩ := hO.2.1 g hg
        obtain ⟨z, z1, z2, _⟩ := hO.2.2.1 h hh
        have hm : z * r ≤ 9 * 99 := Nat.mul_le_mul z1 r1
        refine ⟨z * r, ?_, by omega, fun _ => ⟨by omega, fun hl => by omega⟩, fun n => absurd c n⟩
        rw [r2, z2, pk_mul, nI_add, Nat.zero_add]
      · rw [if_neg (fun z => c2 z.1), e0]
        exact ⟨0, rfl, by omega, fun _ => ⟨by omega, fun _ => rfl⟩, fun n => absurd c n⟩
    · rw [if_neg (fun z => c z.2)]
      exact ⟨zU D ((h * 4 + g) * 5 + p), hu _ (by omega), zu_lt _, fun n => absurd n c, fun _ => rfl⟩
  have key2 : ∀ h g p, h < 6 → g < 4 → p < 5 → D' (13 + ((h * 4 + g) * 5 + p)) = nI (zU D' ((h * 4 + g) * 5 + p)) ∧ ((g < ng ∧ F (4 + g) = nI p) → zU D' ((h * 4 + g) * 5 + p) ≤ 891 ∧ (nh ≤ h → zU D' ((h * 4 + g) * 5 + p) = 0)) ∧ (¬ (g < ng ∧ F (4 + g) = nI p) → zU D' ((h * 4 + g) * 5 + p) = zU D ((h * 4 + g) * 5 + p)) := by
    intro h g p hh hg hp
    obtain ⟨x, x1, x2, x3, x4⟩ := key h g p hh hg hp
    have e : zU D' ((h * 4 + g) * 5 + p) = x := by
      show (D' (13 + ((h * 4 + g) * 5 + p))).toNatClampNeg = x
      rw [x1, nI_clamp (by omega)]
    rw [e]
    exact ⟨x1, x3, x4⟩
  refine zO_mk hng hO (Or.inl fun i hi => h1 _ (by omega) (by omega)) (fun g hg => Or.inl (h1 _ (by omega) (by omega))) (fun h hh => Or.inl (h1 _ (by omega) (by omega))) (Or.inr ⟨fun i hi => ?_, ?_, ?_, ?_⟩) (fun h hh => ⟨Or.inl (h1 _ (by omega) (by omega)), Or.inl (h1 _ (by omega) (by omega))⟩) (fun i hi => Or.inl (h1 _ (by omega) (by omega)))
  · have hk := (key2 (i / 20) (i / 5 % 4) (i % 5) (by omega) (by omega) (by omega)).1
    rw [show (i / 20 * 4 + i / 5 % 4) * 5 + i % 5 = i by omega] at hk
    exact hk
  · intro g p hg hp
    have hs := hO.2.2.2.2.1 g p hg hp
    have k0 := (key2 0 g p (by omega) hg hp).2
    have k1 := (key2 1 g p (by omega) hg hp).2
    have k2 := (key2 2 g p (by omega) hg hp).2
    have k3 := (key2 3 g p (by omega) hg hp).2
    have k4 := (key2 4 g p (by omega) hg hp).2
    have k5 := (key2 5 g p (by omega) hg hp).2
    rw [show (0 * 4 + g) * 5 + p = g * 5 + p by omega] at k0
    rw [show (1 * 4 + g) * 5 + p = (4 + g) * 5 + p by omega] at k1
    rw [show (2 * 4 + g) * 5 + p = (8 + g) * 5 + p by omega] at k2
    rw [show (3 * 4 + g) * 5 + p = (12 + g) * 5 + p by omega] at k3
    rw [show (4 * 4 + g) * 5 + p = (16 + g) * 5 + p by omega] at k4
    rw [show (5 * 4 + g) * 5 + p = (20 + g) * 5 + p by omega] at k5
    by_cases c : g < ng ∧ F (4 + g) = nI p
    · have a0 := k0.1 c
      have a1 := (k1.1 c).1
      have a2 := (k2.1 c).1
      have a3 := (k3.1 c).1
      have a4 := (k4.1 c).1
      have a5 := (k5.1 c).1
      omega
    · rw [k0.2 c, k1.2 c, k2.2 c, k3.2 c, k4.2 c, k5.2 c]
      exact hs
  · intro g h p hg hh hp hl
    have hz := hO.2.2.2.2.2.1 g h p hg hh hp hl
    obtain ⟨l, l1, l2, l3⟩ := hL g hg
    rw [(key2 h g p hh (by omega) hp).2.2 (fun z => by
      rw [z.2] at hl
      exact absurd hl (nI_nlt (Nat.le_refl _) (by omega)))]
    exact hz
  · intro h g p hl hh hg hp
    obtain ⟨_, k1, k2⟩ := key2 h g p hh hg hp
    by_cases c : g < ng ∧ F (4 + g) = nI p
    · exact (k1 c).2 hl
    · rw [k2 c]
      exact (hO.2.2.2.2.2.2.2.2 h hl hh).2.2 g p hg hp
