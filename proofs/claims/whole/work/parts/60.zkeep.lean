/-! what is kept for undo -/
theorem zx_copy {n : Nat} (hn : n < 2147483648) (f g : Nat → Int32) : f_X5_copy n n f g = some (va_cpy f g 0 0 n) := by
  unfold f_X5_copy
  have e : (if Int32.ofNat n < Int32.ofNat n then Int32.ofNat n else Int32.ofNat n) = nI n := by
    split <;> rfl
  rw [e, zb_let, nI_clamp (by omega), zb_ck ⟨⟨by decide, by decide, nI_pos (by omega)⟩, (show 0 + n ≤ n by omega), (show 0 + n ≤ n by omega)⟩]
  rfl
theorem zx_cpy {n i : Nat} {f g : Nat → Int32} (hi : i < n) : va_cpy f g 0 0 n i = f i := by
  unfold va_cpy
  rw [if_pos (by omega)]
  exact congrArg f (by omega)
def zCp (A S : Nat → Nat → Int32) : Nat → Nat → Int32 := qf_up (qf_up (qf_up (qf_up (qf_up (qf_up (qf_up (qf_up (qf_up (qf_up (qf_up (qf_up (qf_up (qf_up (S) 0 (va_cpy (A 33) (S 0) 0 0 4)) 1 (va_cpy (A 34) (S 1) 0 0 6)) 2 (va_cpy (A 35) (S 2) 0 0 3)) 3 (va_cpy (A 36) (S 3) 0 0 120)) 4 (va_cpy (A 37) (S 4) 0 0 6)) 5 (va_cpy (A 38) (S 5) 0 0 6)) 6 (va_cpy (A 39) (S 6) 0 0 24)) 7 (va_cpy (A 40) (S 7) 0 0 16)) 8 (va_cpy (A 41) (S 8) 0 0 4)) 9 (va_cpy (A 42) (S 9) 0 0 24)) 10 (va_cpy (A 43) (S 10) 0 0 24)) 11 (va_cpy (A 44) (S 11) 0 0 4)) 12 (va_cpy (A 45) (S 12) 0 0 4)) 13 (va_cpy (A 46) (S 13) 0 0 4)
def zCq (A S : Nat → Nat → Int32) : Nat → Nat → Int32 := qf_up (qf_up (qf_up (qf_up (qf_up (qf_up (qf_up (qf_up (qf_up (qf_up (qf_up (qf_up (qf_up (qf_up (A) 33 (va_cpy (S 0) (A 33) 0 0 4)) 34 (va_cpy (S 1) (A 34) 0 0 6)) 35 (va_cpy (S 2) (A 35) 0 0 3)) 36 (va_cpy (S 3) (A 36) 0 0 120)) 37 (va_cpy (S 4) (A 37) 0 0 6)) 38 (va_cpy (S 5) (A 38) 0 0 6)) 39 (va_cpy (S 6) (A 39) 0 0 24)) 40 (va_cpy (S 7) (A 40) 0 0 16)) 41 (va_cpy (S 8) (A 41) 0 0 4)) 42 (va_cpy (S 9) (A 42) 0 0 24)) 43 (va_cpy (S 10) (A 43) 0 0 24)) 44 (va_cpy (S 11) (A 44) 0 0 4)) 45 (va_cpy (S 12) (A 45) 0 0 4)) 46 (va_cpy (S 13) (A 46) 0 0 4)
theorem zx_become7 (I : Nat → Int32) (A : Nat → Nat → Int32) (G : Nat → Int32 × (Nat → Nat → Int32)) (j : Nat) : f_X5_become_tring_r43 I A G j = some (qf_up G j (I 20, zCp A (G j).2)) := by
  unfold f_X5_become_tring_r43 zCp
  simp (disch := omega) only [zx_copy, zb_let, zb_bd, zu_up, zu_upup, zu_upn]
theorem zx_become8 (I : Nat → Int32) (A : Nat → Nat → Int32) (G : Nat → Int32 × (Nat → Nat → Int32)) (j : Nat) : f_X5_become_t43_rring G I A j = some (upd I 20 (G j).1, zCq A (G j).2) := by
  unfold f_X5_become_t43_rring zCq
  simp (disch := omega) only [zx_copy, zb_let, zb_bd, zu_upn]
theorem zCp_R {A S : Nat → Nat → Int32} {D : Nat → Int32} (h : zR (fun a => A (33 + a)) D) : zR (zCp A S) D := by
  intro a i ha hi
  have e := h a i ha hi
  unfold zCp
  rcases (show a = 0 ∨ a = 1 ∨ a = 2 ∨ a = 3 ∨ a = 4 ∨ a = 5 ∨ a = 6 ∨ a = 7 ∨ a = 8 ∨ a = 9 ∨ a = 10 ∨ a = 11 ∨ a = 12 ∨ a = 13 by omega) with rfl | rfl | rfl | rfl | rfl | rfl | rfl | rfl | rfl | rfl | rfl | rfl | rfl | rfl
  · simp (disch := omega) only [zu_up, zu_upn]
    rw [zx_cpy (by exact hi)]
    exact e
  · simp (disch := omega) only [zu_up, zu_upn]
    rw [zx_cpy (by exact hi)]
    exact e
  · simp (disch := omega) only [zu_up, zu_upn]
    rw [zx_cpy (by exact hi)]
    exact e
  · simp (disch := omega) only [zu_up, zu_upn]
    rw [zx_cpy (by exact hi)]
    exact e
  · simp (disch := omega) only [zu_up, zu_upn]
    rw [zx_cpy (by exact hi)]
    exact e
  · simp (disch := omega) only [zu_up, zu_upn]
    rw [zx_cpy (by exact hi)]
    exact e
  · simp (disch := omega) only [zu_up, zu_upn]
    rw [zx_cpy (by exact hi)]
    exact e
  · simp (disch := omega) only [zu_up, zu_upn]
    rw [zx_cpy (by exact hi)]
    exact e
  · simp (disch := omega) only [zu_up, zu_upn]
    rw [zx_cpy (by exact hi)]
    exact e
  · simp (disch := omega) only [zu_up, zu_upn]
    rw [zx_cpy (by exact hi)]
    exact e
  · simp (disch := omega) only [zu_up, zu_upn]
    rw [zx_cpy (by exact hi)]
    exact e
  · simp (disch := omega) only [zu_up, zu_upn]
    rw [zx_cpy (by exact hi)]
    exact e
  · simp (disch := omega) only [zu_up, zu_upn]
    rw [zx_cpy (by exact hi)]
    exact e
  · simp (disch := omega) only [zu_up, zu_upn]
    rw [zx_cpy (by exact hi)]
    exact e
theorem zCq_R {A S : Nat → Nat → Int32} {D : Nat → Int32} (h : zR S D) : zR (fun a => zCq A S (33 + a)) D := by
  intro a i ha hi
  have e := h a i ha hi
  show zCq A S (33 + a) i = _
  unfold zCq
  rcases (show a = 0 ∨ a = 1 ∨ a = 2 ∨ a = 3 ∨ a = 4 ∨ a = 5 ∨ a = 6 ∨ a = 7 ∨ a = 8 ∨ a = 9 ∨ a = 10 ∨ a = 11 ∨ a = 12 ∨ a = 13 by omega) with rfl | rfl | rfl | rfl | rfl | rfl | rfl | rfl | rfl | rfl | rfl | rfl | rfl | rfl
  · simp (disch := omega) only [zu_up, zu_upn, Nat.reduceAdd]
    rw [zx_cpy (by exact hi)]
    exact e
  · simp (disch := omega) only [zu_up, zu_upn, Nat.reduceAdd]
    rw [zx_cpy (by exact hi)]
    exact e
  · simp (disch := omega) only [zu_up, zu_upn, Nat.reduceAdd]
    rw [zx_cpy (by exact hi)]
    exact e
  · simp (disch := omega) only [zu_up, zu_upn, Nat.reduceAdd]
    rw [zx_cpy (by exact hi)]
    exact e
  · simp (disch := omega) only [zu_up, zu_upn, Nat.reduceAdd]
    rw [zx_cpy (by exact hi)]
    exact e
  · simp (disch := omega) only [zu_up, zu_upn, Nat.reduceAdd]
    rw [zx_cpy (by exact hi)]
    exact e
  · simp (disch := omega) only [zu_up, zu_upn, Nat.reduceAdd]
    rw [zx_cpy (by exact hi)]
    exact e
  · simp (disch := omega) only [zu_up, zu_upn, Nat.reduceAdd]
    rw [zx_cpy (by exact hi)]
    exact e
  · simp (disch := omega) only [zu_up, zu_upn, Nat.reduceAdd]
    rw [zx_cpy (by exact hi)]
    exact e
  · simp (disch := omega) only [zu_up, zu_upn, Nat.reduceAdd]
    rw [zx_cpy (by exact hi)]
    exact e
  · simp (disch := omega) only [zu_up, zu_upn, Nat.reduceAdd]
    rw [zx_cpy (by exact hi)]
    exact e
  · simp (disch := omega) only [zu_up, zu_upn, Nat.reduceAdd]
    rw [zx_cpy (by exact hi)]
    exact e
  · simp (disch := omega) only [zu_up, zu_upn, Nat.reduceAdd]
    rw [zx_cpy (by exact hi)]
    exact e
  · simp (disch := omega) only [zu_up, zu_upn, Nat.reduceAdd]
    rw [zx_cpy (by exact hi)]
    exact e
theorem zCq_low (A S : Nat → Nat → Int32) {a : Nat} (h : a < 33) : zCq A S a = A a := by
  unfold zCq
  simp (disch := omega) only [zu_upn]
theorem zR_congr {S : Nat → Nat → Int32} {D D' : Nat → Int32} (h : zR S D) (e : ∀ i, i < 250 → D' i = D i) : zR S D' := by
  intro a i ha hi
  have := zoff_top a ha
  rw [e _ (by omega)]
  exact h a i ha hi
theorem zO_congr {F D D' : Nat → Int32} {ng nh : Nat} (hng : ng ≤ 4) (h : zO F D ng nh) (e : ∀ i, i < 250 → D' i = D i) : zO F D' ng nh := by
  obtain ⟨⟨a1, a2, a3⟩, b, c, d, s, z, q, t, v⟩ := h
  have eu : ∀ i, i < 120 → zU D' i = zU D i := fun i hi => by unfold zU; rw [e _ (by omega)]
  refine ⟨⟨?_, ?_, ?_⟩, ?_, ?_, ?_, ?_, ?_, ?_, ?_, ?_⟩
  · rw [e _ (by omega)]; exact a1
  · rw [e _ (by omega)]; exact a2
  · rw [e _ (by omega)]; exact a3
  · intro g hg; rw [e _ (by omega)]; exact b g hg
  · intro g hg; rw [e _ (by omega)]; exact c g hg
  · intro i hi; rw [eu i hi, e _ (by omega)]; exact d i hi
  · intro g p hg hp
    rw [eu _ (by omega), eu _ (by omega), eu _ (by omega), eu _ (by omega), eu _ (by omega), eu _ (by omega)]
    exact s g p hg hp
  · intro g h p hg hh hp hl; rw [eu _ (by omega)]; exact z g h p hg hh hp hl
  · intro h hh; rw [e _ (by omega), e _ (by omega)]; exact q h hh
  · intro i hi; rw [e _ (by omega)]; exact t i hi
  · intro h h1 h2
    obtain ⟨v1, v2, v3⟩ := v h h1 h2
    exact ⟨by rw [e _ (by omega), v1], by rw [e _ (by omega), v2], fun g p hg hp => by rw [eu _ (by omega), v3 g p hg hp]⟩
/-- the state copied behind the blocks -/
theorem zx_rem_l {K : Nat} (hK : K ≤ 9) {J : Nat → Int32} (h0 : J 0 = nI K) {B : Nat → Nat → Int32} : ∀ (d i fu : Nat) (M : Nat → Int32), i + d = 250 → d < fu → ∃ M', f_X8_remember_l54 fu J (qf_up B 2 M) (nI i) = some (upd J 0 (nI (K + 1)), qf_up B 2 M') ∧ (∀ j, i ≤ j → j < 250 → M' (K * 250 + j) = B 0 j) ∧ ∀ q, (q < K * 250 + i ∨ K * 250 + 250 ≤ q) → M' q = M q := by
  intro d
  induction d with
  | zero =>
    intro i fu M h h1
    obtain ⟨a, rfl⟩ : ∃ a, fu = a + 1 := ⟨fu - 1, by omega⟩
    refine ⟨M, ?_, fun j h1 h2 => by omega, fun _ _ => rfl⟩
    simp (disch := omega) only [zl_0, zl_1, zl_2, zl_3, zl_4, zl_5, zl_6, zl_7, zl_8, zl_9, zl_10, zl_11, zl_12, zl_13, zl_14, zl_15, zl_16, zl_20, zl_24, zl_26, zl_31, zl_32, zl_38, zl_44, zl_48, zl_50, zl_56, zl_57, zl_59, zl_62, zl_96, zl_97, zl_99, zl_100, zl_122, zl_133, zl_139, zl_145, zl_169, zl_185, zl_189, zl_213, zl_237, zl_241, zl_245, zl_249, zl_250, zl_255, zl_400, zl_401, zl_800, zl_999, zl_1000, zl_2406, zl_2500, zl_2807, zl_9999, zl_99999, zl_100000, zl_1000000000, zl_100000000, zb_let, zb_bd, zb_bd2, zb_bd3, zb_bd4, zb_bd5, zb_ck, zb_ckT, zb_ld, zb_st, not_false_eq_true, zc_m1, zc_m2, zc_m3, zc_m4, zc_m5, zc_m6, zc_lt_t, zc_lt_f, zc_le_t, zc_le_f, zc_eq_t, zc_eq_f, nI_add, pk_mul, z0a, Nat.zero_add, Nat.add_zero, Nat.reduceAdd, ↓reduceIte, f_X8_remember_l54, h0]
  | succ d ih =>
    intro i fu M h h1
    obtain ⟨a, rfl⟩ : ∃ a, fu = a + 1 := ⟨fu - 1, by omega⟩
    obtain ⟨M', i1, i2, i3⟩ := ih (i + 1) a (upd M (K * 250 + i) (B 0 i)) (by omega) (by omega)
    refine ⟨M', ?_, ?_, ?_⟩
    · simp (disch := omega) only [zl_0, zl_1, zl_2, zl_3, zl_4, zl_5, zl_6, zl_7, zl_8, zl_9, zl_10, zl_11, zl_12, zl_13, zl_14, zl_15, zl_16, zl_20, zl_24, zl_26, zl_31, zl_32, zl_38, zl_44, zl_48, zl_50, zl_56, zl_57, zl_59, zl_62, zl_96, zl_97, zl_99, zl_100, zl_122, zl_133, zl_139, zl_145, zl_169, zl_185, zl_189, zl_213, zl_237, zl_241, zl_245, zl_249, zl_250, zl_255, zl_400, zl_401, zl_800, zl_999, zl_1000, zl_2406, zl_2500, zl_2807, zl_9999, zl_99999, zl_100000, zl_1000000000, zl_100000000, zb_let, zb_bd, zb_bd2, zb_bd3, zb_bd4, zb_bd5, zb_ck, zb_ckT, zb_ld, zb_st, not_false_eq_true, zc_m1, zc_m2, zc_m3, zc_m4, zc_m5, zc_m6, zc_lt_t, zc_lt_f, zc_le_t, zc_le_f, zc_eq_t, zc_eq_f, nI_add, pk_mul, z0a, Nat.zero_add, Nat.add_zero, Nat.reduceAdd, ↓reduceIte, f_X8_remember_l54, h0, zu_up, zu_upn, zu_upup]
      exact i1
    · intro j j1 j2
      rcases (show j = i ∨ i + 1 ≤ j by omega) with rfl | hj
      · rw [i3 _ (by omega), zu_same]
      · exact i2 j hj j2
    · intro q hq
      rw [i3 q (by omega), zu_ne (by omega)]
/-- the blocks moved down by one -/
theorem zx_shift_l {J : Nat → Int32} (h0 : J 0 = nI 10) {B : Nat → Nat → Int32} : ∀ (d i fu : Nat) (M : Nat → Int32), i + d = 2500 → 250 ≤ i → d < fu → ∃ M', f_X8_remember_l13 J fu (qf_up B 2 M) (nI i) = f_X8_remember_j52 (upd J 0 (nI 9)) (qf_up B 2 M') ∧ (∀ q, i ≤ q + 250 → q < 2250 → M' q = M (q + 250)) ∧ ∀ q, q + 250 < i → M' q = M q := by
  intro d
  induction d with
  | zero =>
    intro i fu M h hi h1
    obtain ⟨a, rfl⟩ : ∃ a, fu = a + 1 := ⟨fu - 1, by omega⟩
    refine ⟨M, ?_, fun j h1 h2 => by omega, fun _ _ => rfl⟩
    rw [f_X8_remember_l13]
    simp (disch := omega) only [zl_0, zl_1, zl_2, zl_3, zl_4, zl_5, zl_6, zl_7, zl_8, zl_9, zl_10, zl_11, zl_12, zl_13, zl_14, zl_15, zl_16, zl_20, zl_24, zl_26, zl_31, zl_32, zl_38, zl_44, zl_48, zl_50, zl_56, zl_57, zl_59, zl_62, zl_96, zl_97, zl_99, zl_100, zl_122, zl_133, zl_139, zl_145, zl_169, zl_185, zl_189, zl_213, zl_237, zl_241, zl_245, zl_249, zl_250, zl_255, zl_400, zl_401, zl_800, zl_999, zl_1000, zl_2406, zl_2500, zl_2807, zl_9999, zl_99999, zl_100000, zl_1000000000, zl_100000000, zb_let, zb_bd, zb_bd2, zb_bd3, zb_bd4, zb_bd5, zb_ck, zb_ckT, zb_ld, zb_st, not_false_eq_true, zc_le_t, ↓reduceIte, h0, pk_sub, Nat.reduceSub]
  | succ d ih =>
    intro i fu M h hi h1
    obtain ⟨a, rfl⟩ : ∃ a, fu = a + 1 := ⟨fu - 1, by omega⟩
    obtain ⟨M', i1, i2, i3⟩ := ih (i + 1) a (upd M (i - 250) (M i)) (by omega) (by omega) (by omega)
    refine ⟨M', ?_, ?_, ?_⟩
    · rw [← i1, f_X8_remember_l13]
      simp (disch := omega) only [zl_0, zl_1, zl_2, zl_3, zl_4, zl_5, zl_6, zl_7, zl_8, zl_9, zl_10, zl_11, zl_12, zl_13, zl_14, zl_15, zl_16, zl_20, zl_24, zl_26, zl_31, zl_32, zl_38, zl_44, zl_48, zl_50, zl_56, zl_57, zl_59, zl_62, zl_96, zl_97, zl_99, zl_100, zl_122, zl_133, zl_139, zl_145, zl_169, zl_185, zl_189, zl_213, zl_237, zl_241, zl_245, zl_249, zl_250, zl_255, zl_400, zl_401, zl_800, zl_999, zl_1000, zl_2406, zl_2500, zl_2807, zl_9999, zl_99999, zl_100000, zl_1000000000, zl_100000000, zb_let, zb_bd, zb_bd2, zb_bd3, zb_bd4, zb_bd5, zb_ck, zb_ckT, zb_ld, zb_st, not_false_eq_true, zc_le_f, nI_add, ↓reduceIte, pk_sub, zu_up, zu_upup]
    · intro q q1 q2
      by_cases hqi : q = i - 250
      · rw [hqi, i3 _ (by omega), zu_same, show i - 250 + 250 = i by omega]
      · rw [i2 q (by omega) q2, zu_ne (by omega)]
    · intro q hq
      rw [i3 q (by omega), zu_ne (by omega)]
theorem zu_id {α : Type} (A : Nat → α) (k : Nat) : qf_up A k (A k) = A := by
  funext j
  unfold qf_up
  by_cases h : j = k
  · rw [if_pos h, h]
  · rw [if_neg h]
theorem zx_rem {kept : Nat} (hk : kept ≤ 10) {J : Nat → Int32} (h0 : J 0 = nI kept) (B : Nat → Nat → Int32) : ∃ M', f_X8_remember J B = some (upd J 0 (nI (if kept < 10 then kept + 1 else 10)), qf_up B 2 M') ∧ (∀ j, j < 250 → M' ((if kept < 10 then kept else 9) * 250 + j) = B 0 j) ∧ ∀ k, k < (if kept < 10 then kept else 9) → ∀ j, j < 250 → M' (k * 250 + j) = B 2 ((if kept < 10 then k else k + 1) * 250 + j) := by
  unfold f_X8_remember
  by_cases c : kept < 10
  · obtain ⟨M', i1, i2, i3⟩ := zx_rem_l (B := B) (by omega : kept ≤ 9) h0 250 0 100000 (B 2) (by omega) (by omega)
    rw [zu_id] at i1
    rw [if_pos c, if_pos c]
    refine ⟨M', ?_, fun j hj => i2 j (by omega) hj, fun k hk j hj => ?_⟩
    · rw [h0, if_neg (by rw [zl_10, nI_eq (by omega) (by omega)]; omega)]
      exact i1
    · rw [if_pos c, i3 _ (by omega)]
  · have hk10 : kept = 10 := by omega
    subst hk10
    obtain ⟨M1, i1, i2, _⟩ := zx_shift_l h0 (B := B) 2250 250 100000 (B 2) (by omega) (by omega) (by omega)
    rw [zu_id] at i1
    obtain ⟨M', j1, j2, j3⟩ := zx_rem_l (J := upd J 0 (nI 9)) (B := B) (by omega : 9 ≤ 9) rfl 250 0 100000 M1 (by omega) (by omega)
    rw [if_neg c, if_neg c]
    refine ⟨M', ?_, fun j hj => j2 j (by omega) hj, fun k hk j hj => ?_⟩
    · rw [h0, if_pos (show nI 10 = (10 : Int32) from rfl), zl_250]
      refine i1.trans (j1.trans ?_)
      have : upd (upd J 0 (nI 9)) 0 (nI (9 + 1)) = upd J 0 (nI 10) := by
        funext q
        unfold upd
        by_cases hq : q = 0
        · rw [if_pos hq, if_pos hq]
        · rw [if_neg hq, if_neg hq, if_neg hq]
      rw [this]
    · rw [if_neg c, j3 _ (by omega), i2 _ (by omega) (by omega), show k * 250 + j + 250 = (k + 1) * 250 + j by omega]
section ZK
variable {I : Nat → Int32} {A : Nat → Nat → Int32} {G : Nat → Int32 × (Nat → Nat → Int32)} {T : Nat} {J : Nat → Int32} {B : Nat → Nat → Int32} {w : Int64} {ng nk nh ns kept next : Nat}
theorem zx_keep7 (hn : next < 10) (hk : kept ≤ 10) (h9 : I 9 = nI next) (h10 : I 10 = nI kept) : f_X1_keep_r43 A I G = some (upd (upd I 9 (nI ((next + 1) % 10))) 10 (nI (if kept < 10 then kept + 1 else 10)), qf_up G next (I 20, zCp A (G next).2)) := by
  unfold f_X1_keep_r43
  rw [h9, zb_st hn (by omega), zx_become7, zb_bd, zb_let]
  have e : nI next + (1 : Int32) - (nI next + 1) / 10 * 10 = nI ((next + 1) % 10) := by
    rw [nI_1]
    exact pk_rem (a := next + 1) (d := 10) (by omega) (by omega) (by omega)
  rw [e, zu_ne (by omega), h10, nI_1, zb_let, zb_let, zl_10]
  by_cases c : kept < 10
  · rw [if_neg (nI_nlt (by omega) (by omega)), if_pos c]
  · rw [if_pos (nI_lt (by omega) (by omega)), if_neg c]
/-- a change begins: both sides keep the state -/
theorem zx_keep (hJ : zJ I A G J B ng nk nh ns kept next) : ∃ (I' : Nat → Int32) (G' : Nat → Int32 × (Nat → Nat → Int32)) (J' M' : Nat → Int32) (kept' next' : Nat), f_X1_keep_r43 A I G = some (I', G') ∧ f_X8_remember J B = some (J', qf_up B 2 M') ∧ zJ I' A G' J' (qf_up B 2 M') ng nk nh ns kept' next' ∧ (∀ i, i ≠ 9 → i ≠ 10 → I' i = I i) ∧ (∀ j, j ≠ 0 → J' j = J j) := by
  obtain ⟨hP, hV, hR, h20, hO, ⟨hk, hn, hH⟩, h10, hj0, h9⟩ := id hJ
  have hb := zp_b hJ
  obtain ⟨M', m1, m2, m3⟩ := zx_rem hk hj0 B
  refine ⟨_, _, _, M', (if kept < 10 then kept + 1 else 10), (next + 1) % 10, zx_keep7 hn hk h9 h10, m1, ⟨?_, ?_, ?_, ?_, ?_, ⟨?_, ?_, ?_⟩, ?_, ?_, ?_⟩, ?_, ?_⟩
  · exact hP
  · exact hV
  · exact hR
  · exact h20
  · exact hO
  · split <;> omega
  · omega
  · rw [zu_up, zu_upn (by omega)]
    intro k hkk
    by_cases hl : k = (if kept < 10 then kept else 9)
    · have hix : ((next + 1) % 10 + 10 - (if kept < 10 then kept + 1 else 10) + k) % 10 = next := by
        rw [hl]
        split <;> omega
      rw [hix, zu_up]
      have em : ∀ i, i < 250 → zblk M' k i = B 0 i := fun i hi => by rw [hl]; exact m2 i hi
      exact ⟨zR_congr (zCp_R hR) em, by rw [em 249 (by omega)]; exact h20, zO_congr hb.1 hO em⟩
    · have hlt : k < (if kept < 10 then kept else 9) := by
        revert hl hkk
        split <;> omega
      have hix : ((next + 1) % 10 + 10 - (if kept < 10 then kept + 1 else 10) + k) % 10 = (next + 10 - kept + (if kept < 10 then k else k + 1)) % 10 := by
        revert hlt
        split <;> omega
      have hix2 : (next + 10 - kept + (if kept < 10 then k else k + 1)) % 10 ≠ next := by
        revert hlt
        split <;> omega
      rw [hix, zu_upn hix2]
      have em : ∀ i, i < 250 → zblk M' k i = zblk (B 2) (if kept < 10 then k else k + 1) i := fun i hi => m3 k hlt i hi
      obtain ⟨q1, q2, q3⟩ := hH (if kept < 10 then k else k + 1) (by revert hlt; split <;> omega)
      exact ⟨zR_congr q1 em, by rw [em 249 (by omega)]; exact q2, zO_congr hb.1 q3 em⟩
  · exact zu_same _ _ _
  · exact zu_same _ _ _
  · rw [zu_ne (by omega), zu_same]
  · intro i i9 i10
    rw [zu_ne i10, zu_ne i9]
  · intro j hj
    exact zu_ne hj
/-- after the change of the state -/
theorem zJ_set (hJ : zJ I A G J B ng nk nh ns kept next) {I' : Nat → Int32} {A' B' : Nat → Nat → Int32} (hR : zR (fun a => A' (33 + a)) (B' 0)) (hO : zO (B 3) (B' 0) ng nh) (h20 : I' 20 = B' 0 249) (hi : ∀ i, i ≠ 20 → I' i = I i) (ha : ∀ a, a < 33 → A' a = A a) (hb : ∀ b, b ≠ 0 → B' b = B b) : zJ I' A' G J B' ng nk nh ns kept next := by
  obtain ⟨hP, hV, _, _, _, hH, h10, hj0, h9⟩ := id hJ
  have e1 : (fun i => I' (12 + i)) 0 = I (12 + 0) := hi _ (by omega)
  have e2 : (fun i => I' (12 + i)) 1 = I (12 + 1) := hi _ (by omega)
  have e3 : (fun i => I' (12 + i)) 2 = I (12 + 2) := hi _ (by omega)
  have e4 : (fun i => I' (12 + i)) 3 = I (12 + 3) := hi _ (by omega)
  have eP : ∀ a, a < 22 → (fun a => A' (11 + a)) a = (fun a => A (11 + a)) a := fun a h => ha _ (by omega)
  refine ⟨?_, ?_, hR, h20, ?_, ?_, ?_, hj0, ?_⟩
  · rw [hb 3 (by omega)]
    refine ⟨hP.1, hP.2.1, ⟨e1.trans hP.2.2.1.1, e2.trans hP.2.2.1.2.1, e3.trans hP.2.2.1.2.2.1, e4.trans hP.2.2.1.2.2.2⟩, ?_, ?_, ?_, ?_⟩
    · intro g hg
      rw [eP 0 (by omega), eP 4 (by omega), eP 5 (by omega), eP 6 (by omega), eP 7 (by omega)]
      exact hP.2.2.2.1 g hg
    · intro g hg
      rw [eP 1 (by omega), eP 8 (by omega), eP 9 (by omega), eP 10 (by omega)]
      exact hP.2.2.2.2.1 g hg
    · intro g hg
      rw [eP 2 (by omega)]
      exact hP.2.2.2.2.2.1 g hg
    · intro g hg
      rw [eP 3 (by omega)]
      exact hP.2.2.2.2.2.2 g hg
  · rw [hb 3 (by omega)]; exact hV
  · rw [hb 3 (by omega)]; exact hO
  · rw [hb 3 (by omega), hb 2 (by omega)]; exact hH
  · rw [hi 10 (by omega)]; exact h10
  · rw [hi 9 (by omega)]; exact h9
theorem zF_go {I' : Nat → Int32} {A' : Nat → Nat → Int32} {J' : Nat → Int32} {B' : Nat → Nat → Int32} (h : zF I A J B) (h0 : I' 0 = I 0) (h1 : I' 1 = I 1) (ha : A' 0 = A 0) (h2 : J' 2 = J 2) (h9 : J' 9 = J 9) (hb : B' 5 = B 5) : zF I' A' J' B' := by
  obtain ⟨fed, f1, f2, f3, f4, f5⟩ := h
  exact ⟨fed, f1, by rw [h0, f2], by rw [h2, f3], by rw [ha, hb]; exact f4, by rw [h1, h9, f5]⟩
end ZK
/-! undo -/
theorem zx_undo_l {K : Nat} (hK : K ≤ 9) {J : Nat → Int32} (h0 : J 0 = nI K) {B : Nat → Nat → Int32} : ∀ (d i fu : Nat) (M : Nat → Int32), i + d = 250 → d < fu → ∃ M', f_X8_undo_l26 fu J (qf_up B 0 M) (nI i) = some (nI K, J, qf_up B 0 M') ∧ (∀ j, i ≤ j → j < 250 → M' j = B 2 (K * 250 + j)) ∧ ∀ q, q < i → M' q = M q := by
  intro d
  induction d with
  | zero =>
    intro i fu M h h1
    obtain ⟨a, rfl⟩ : ∃ a, fu = a + 1 := ⟨fu - 1, by omega⟩
    refine ⟨M, ?_, fun j h1 h2 => by omega, fun _ _ => rfl⟩
    simp (disch := omega) only [zl_0, zl_1, zl_2, zl_3, zl_4, zl_5, zl_6, zl_7, zl_8, zl_9, zl_10, zl_11, zl_12, zl_13, zl_14, zl_15, zl_16, zl_20, zl_24, zl_26, zl_31, zl_32, zl_38, zl_44, zl_48, zl_50, zl_56, zl_57, zl_59, zl_62, zl_96, zl_97, zl_99, zl_100, zl_122, zl_133, zl_139, zl_145, zl_169, zl_185, zl_189, zl_213, zl_237, zl_241, zl_245, zl_249, zl_250, zl_255, zl_400, zl_401, zl_800, zl_999, zl_1000, zl_2406, zl_2500, zl_2807, zl_9999, zl_99999, zl_100000, zl_1000000000, zl_100000000, zb_let, zb_bd, zb_bd2, zb_bd3, zb_bd4, zb_bd5, zb_ck, zb_ckT, zb_ld, zb_st, not_false_eq_true, zc_m1, zc_m2, zc_m3, zc_m4, zc_m5, zc_m6, zc_lt_t, zc_lt_f, zc_le_t, zc_le_f, zc_eq_t, zc_eq_f, nI_add, pk_mul, z0a, Nat.zero_add, Nat.add_zero, Nat.reduceAdd, ↓reduceIte, f_X8_undo_l26, h0]
  | succ d ih =>
    intro i fu M h h1
    obtain ⟨a, rfl⟩ : ∃ a, fu = a + 1 := ⟨fu - 1, by omega⟩
    obtain ⟨M', i1, i2, i3⟩ := ih (i + 1) a (upd M i (B 2 (K * 250 + i))) (by omega) (by omega)
    refine ⟨M', ?_, ?_, ?_⟩
    · simp (disch := omega) only [zl_0, zl_1, zl_2, zl_3, zl_4, zl_5, zl_6, zl_7, zl_8, zl_9, zl_10, zl_11, zl_12, zl_13, zl_14, zl_15, zl_16, zl_20, zl_24, zl_26, zl_31, zl_32, zl_38, zl_44, zl_48, zl_50, zl_56, zl_57, zl_59, zl_62, zl_96, zl_97, zl_99, zl_100, zl_122, zl_133, zl_139, zl_145, zl_169, zl_185, zl_189, zl_213, zl_237, zl_241, zl_245, zl_249, zl_250, zl_255, zl_400, zl_401, zl_800, zl_999, zl_1000, zl_2406, zl_2500, zl_2807, zl_9999, zl_99999, zl_100000, zl_1000000000, zl_100000000, zb_let, zb_bd, zb_bd2, zb_bd3, zb_bd4, zb_bd5, zb_ck, zb_ckT, zb_ld, zb_st, not_false_eq_true, zc_m1, zc_m2, zc_m3, zc_m4, zc_m5, zc_m6, zc_lt_t, zc_lt_f, zc_le_t, zc_le_f, zc_eq_t, zc_eq_f, nI_add, pk_mul, z0a, Nat.zero_add, Nat.add_zero, Nat.reduceAdd, ↓reduceIte, f_X8_undo_l26, h0, zu_up, zu_upn, zu_upup]
      exact i1
    · intro j j1 j2
      rcases (show j = i ∨ i + 1 ≤ j by omega) with rfl | hj
      · rw [i3 _ (by omega), zu_same]
      · exact i2 j hj j2
    · intro q hq
      rw [i3 q (by omega), zu_ne (by omega)]
theorem ze_undo : QE_undo zI := by
  intro ad I A G T J B w hI
  obtain ⟨⟨ng, nk, nh, ns, kept, next, hJ⟩, hF⟩ := id hI
  have hb := zp_b hJ
  obtain ⟨hP, hV, hR, h20, hO, ⟨hk, hn, hH⟩, h10, hj0, h9⟩ := id hJ
  have j0 : upd J 1 (0 : Int32) 0 = nI kept := by rw [zu_ne (by omega), hj0]
  by_cases c : kept = 0
  · have i10 : I 10 = (0 : Int32) := by rw [h10, c]; rfl
    refine ⟨-1, I, A, ?_, -1, upd J 1 0, B, ?_, rfl, zI_J 0 hI⟩
    · unfold f_X7_undo
      rw [if_pos i10]
    · unfold f_X8_undo
      rw [zb_let, j0, c, if_pos nI_0]
  · have e9 : (nI next + (10 : Int32) - 1) - (nI next + 10 - 1) / 10 * 10 = nI ((next + 9) % 10) := by
      rw [zl_10, nI_add, zl_1, pk_sub (by omega), show next + 10 - 1 = next + 9 by omega]
      exact pk_rem (by omega) (by omega) (by omega)
    obtain ⟨q1, q2, q3⟩ := hH (kept - 1) (by omega)
    rw [show (next + 10 - kept + (kept - 1)) % 10 = (next + 9) % 10 by omega] at q1 q2
    obtain ⟨M', u1, u2, _⟩ := zx_undo_l (B := B) (by omega : kept - 1 ≤ 9) (J := upd (upd J 1 (0 : Int32)) 0 (nI (kept - 1))) rfl 250 0 100000 (B 0) (by omega) (by omega)
    rw [zu_id] at u1
    have em : ∀ i, i < 250 → M' i = zblk (B 2) (kept - 1) i := fun i hi => u2 i (by omega) hi
    refine ⟨nI (kept - 1), upd (upd (upd I 9 (nI ((next + 9) % 10))) 20 (G ((next + 9) % 10)).1) 10 (nI (kept - 1)), zCq A (G ((next + 9) % 10)).2, ?_, nI (kept - 1), upd (upd J 1 (0 : Int32)) 0 (nI (kept - 1)), qf_up B 0 M', ?_, rfl, ⟨ng, nk, nh, ns, kept - 1, (next + 9) % 10, ?_, ?_, ?_, ?_, ?_, ⟨?_, ?_, ?_⟩, ?_, ?_, ?_⟩, ?_⟩
    · unfold f_X7_undo f_X1_bringBack_r43
      have e10 : upd (upd I 9 (nI ((next + 9) % 10))) 20 (G ((next + 9) % 10)).1 10 = nI kept := by
        rw [zu_ne (by omega), zu_ne (by omega), h10]
      rw [if_neg (by rw [h10]; exact nI_ne0 (by omega) (by omega)), h9, zb_let, e9, zu_same, zb_st (by omega) (by omega), zx_become8, zb_bd2, e10, zl_1, pk_sub (by omega), zb_let, zb_let, if_neg (nI_pos (by omega)), zb_bd2, zu_same]
    · unfold f_X8_undo
      rw [zb_let, j0, if_neg (nI_ne0 (by omega) (by omega)), zl_1, pk_sub (by omega), zb_let]
      exact u1
    · refine ⟨hP.1, hP.2.1, hP.2.2.1, ?_, ?_, ?_, ?_⟩
      · intro g hg
        exact hP.2.2.2.1 g hg
      · intro g hg
        exact hP.2.2.2.2.1 g hg
      · intro g hg
        exact hP.2.2.2.2.2.1 g hg
      · intro g hg
        exact hP.2.2.2.2.2.2 g hg
    · exact hV
    · exact zR_congr (zCq_R q1) em
    · show _ = M' 249
      rw [zu_ne (by omega), zu_same, em 249 (by omega), q2]
    · exact zO_congr hb.1 q3 em
    · omega
    · omega
    · intro k hkk
      rw [show ((next + 9) % 10 + 10 - (kept - 1) + k) % 10 = (next + 10 - kept + k) % 10 by omega]
      exact hH k (by omega)
    · exact zu_same _ _ _
    · exact zu_same _ _ _
    · rw [zu_ne (by omega), zu_ne (by omega), zu_same]
    · exact zF_go hF rfl rfl (zCq_low _ _ (by omega)) rfl rfl rfl
