/-! a byte of a number, on both sides -/
theorem zy_and (a b : BitVec 32) (h : ∀ i, i < 8 → a.getLsbD i = b.getLsbD i) : a &&& 255#32 = b &&& 255#32 := by
  apply BitVec.eq_of_getLsbD_eq
  intro i hi
  rw [BitVec.getLsbD_and, BitVec.getLsbD_and]
  by_cases c : i < 8
  · rw [h i c]
  · have t : ∀ i, i < 32 → (i < 8 ∨ (255#32).getLsbD i = false) := by decide +kernel
    rcases t i hi with t | t
    · exact absurd t c
    · rw [t, Bool.and_false, Bool.and_false]
theorem zy_nar (y : Int32) : vp_nar .byte y = y.toInt8.toInt32 := rfl
theorem zy_byte (x s : Int32) (k : Nat) (hk : k ≤ 24) (h1 : ((s.toUInt32 &&& Int32.toUInt32 (nI 31)).toBitVec % 32).toNat = k) (h2 : ((s &&& nI 31).toBitVec.smod 32).toNat = k) : (x.toUInt32 >>> (s.toUInt32 &&& Int32.toUInt32 (nI 31))).toInt32 &&& nI 255 = vp_nar .byte ((x >>> (s &&& nI 31)).toInt8.toInt32) &&& nI 255 := by
  apply Int32.toBitVec_inj.mp
  rw [Int32.toBitVec_and, Int32.toBitVec_and]
  have e1 : (x.toUInt32 >>> (s.toUInt32 &&& Int32.toUInt32 (nI 31))).toInt32.toBitVec = x.toBitVec >>> k := by
    rw [← h1]
    exact UInt32.toBitVec_shiftRight _ _
  have e2 : (vp_nar .byte ((x >>> (s &&& nI 31)).toInt8.toInt32)).toBitVec = (((((x.toBitVec.sshiftRight k).signExtend 8).signExtend 32).signExtend 8).signExtend 32) := by
    rw [← h2]
    rfl
  rw [e1, e2]
  refine zy_and _ _ (fun i hi => ?_)
  rw [BitVec.getLsbD_ushiftRight, BitVec.getLsbD_signExtend, if_pos hi, BitVec.getLsbD_signExtend, if_pos (by omega), BitVec.getLsbD_signExtend, if_pos hi, BitVec.getLsbD_signExtend, if_pos (by omega), BitVec.getLsbD_sshiftRight, if_pos (by omega), decide_eq_true (show i < 32 by omega), decide_eq_true hi, decide_eq_false (show ¬ 32 ≤ i by omega)]
  simp
theorem zy_24 (x : Int32) : (x.toUInt32 >>> ((nI 24).toUInt32 &&& Int32.toUInt32 (nI 31))).toInt32 &&& nI 255 = vp_nar .byte ((x >>> (nI 24 &&& nI 31)).toInt8.toInt32) &&& nI 255 := zy_byte x (nI 24) 24 (by omega) (by decide) (by decide)
theorem zy_16 (x : Int32) : (x.toUInt32 >>> ((nI 16).toUInt32 &&& Int32.toUInt32 (nI 31))).toInt32 &&& nI 255 = vp_nar .byte ((x >>> (nI 16 &&& nI 31)).toInt8.toInt32) &&& nI 255 := zy_byte x (nI 16) 16 (by omega) (by decide) (by decide)
theorem zy_8 (x : Int32) : (x.toUInt32 >>> ((nI 8).toUInt32 &&& Int32.toUInt32 (nI 31))).toInt32 &&& nI 255 = vp_nar .byte ((x >>> (nI 8 &&& nI 31)).toInt8.toInt32) &&& nI 255 := zy_byte x (nI 8) 8 (by omega) (by decide) (by decide)
theorem zy_0 (x : Int32) : (x.toUInt32 >>> ((nI 0).toUInt32 &&& Int32.toUInt32 (nI 31))).toInt32 &&& nI 255 = vp_nar .byte ((x >>> (nI 0 &&& nI 31)).toInt8.toInt32) &&& nI 255 := zy_byte x (nI 0) 0 (by omega) (by decide) (by decide)
theorem zy_s24 : nI 24 + -nI 8 = nI 16 := by decide
theorem zy_s16 : nI 16 + -nI 8 = nI 8 := by decide
theorem zy_s8 : nI 8 + -nI 8 = nI 0 := by decide
theorem zy_s0 : nI 0 + -nI 8 = -nI 8 := by decide
theorem zy_neg : (-nI 8 < nI 0) = True := eq_true (by decide)
theorem zu_updu (f : Nat → Int32) (k : Nat) (x y : Int32) : upd (upd f k x) k y = upd f k y := by
  funext j
  unfold upd
  by_cases h : j = k
  · rw [if_pos h, if_pos h]
  · rw [if_neg h, if_neg h, if_neg h]
/-- four bytes, one at a time -/
theorem zx_app1 {n : Nat} (hn : n + 1 ≤ 800) {I : Nat → Int32} {A : Nat → Nat → Int32} {J : Nat → Int32} {B : Nat → Nat → Int32} (h1 : I 0 = nI n) (h2 : J 2 = nI n) (h3 : ∀ i, i < n → A 0 i = B 5 i &&& nI 255) (p s s2 : Int32) (hs : ¬ s < nI 0) (hs2 : s + -nI 8 = s2) (he : (p.toUInt32 >>> (s.toUInt32 &&& Int32.toUInt32 (nI 31))).toInt32 &&& nI 255 = vp_nar .byte ((p >>> (s &&& nI 31)).toInt8.toInt32) &&& nI 255) : ∃ f g : Nat → Int32, (∀ k, f_X7_append_l3 p (k + 1) I A s = f_X7_append_l3 p k (upd I 0 (nI (n + 1))) (qf_up A 0 f) s2) ∧ (∀ k, f_X8_append_l3 p (k + 1) J B s = f_X8_append_l3 p k (upd J 2 (nI (n + 1))) (qf_up B 5 g) s2) ∧ ∀ i, i < n + 1 → f i = g i &&& nI 255 := by
  refine ⟨upd (A 0) n ((p.toUInt32 >>> (s.toUInt32 &&& Int32.toUInt32 (nI 31))).toInt32 &&& nI 255), upd (B 5) n (vp_nar .byte ((p >>> (s &&& nI 31)).toInt8.toInt32)), fun k => ?_, fun k => ?_, fun i hi => ?_⟩
  · rw [f_X7_append_l3]
    simp (disch := omega) only [zl_0, zl_1, zl_2, zl_3, zl_4, zl_5, zl_6, zl_7, zl_8, zl_9, zl_10, zl_11, zl_12, zl_13, zl_14, zl_15, zl_16, zl_20, zl_24, zl_26, zl_31, zl_32, zl_38, zl_44, zl_48, zl_50, zl_56, zl_57, zl_59, zl_62, zl_96, zl_97, zl_99, zl_100, zl_122, zl_133, zl_139, zl_145, zl_169, zl_185, zl_189, zl_213, zl_237, zl_241, zl_245, zl_249, zl_250, zl_255, zl_400, zl_401, zl_800, zl_999, zl_1000, zl_2406, zl_2500, zl_2807, zl_9999, zl_99999, zl_100000, zl_1000000000, zl_100000000, zb_let, zb_bd, zb_bd2, zb_bd3, zb_bd4, zb_bd5, zb_ck, zb_ckT, zb_ld, zb_st, not_false_eq_true, zc_m1, zc_m2, zc_m3, zc_m4, zc_m5, zc_m6, zc_lt_t, zc_lt_f, zc_le_t, zc_le_f, zc_eq_t, zc_eq_f, nI_add, pk_mul, z0a, Nat.zero_add, Nat.add_zero, Nat.reduceAdd, ↓reduceIte, zl_8, hs, h1, hs2]
  · rw [f_X8_append_l3]
    simp (disch := omega) only [zl_0, zl_1, zl_2, zl_3, zl_4, zl_5, zl_6, zl_7, zl_8, zl_9, zl_10, zl_11, zl_12, zl_13, zl_14, zl_15, zl_16, zl_20, zl_24, zl_26, zl_31, zl_32, zl_38, zl_44, zl_48, zl_50, zl_56, zl_57, zl_59, zl_62, zl_96, zl_97, zl_99, zl_100, zl_122, zl_133, zl_139, zl_145, zl_169, zl_185, zl_189, zl_213, zl_237, zl_241, zl_245, zl_249, zl_250, zl_255, zl_400, zl_401, zl_800, zl_999, zl_1000, zl_2406, zl_2500, zl_2807, zl_9999, zl_99999, zl_100000, zl_1000000000, zl_100000000, zb_let, zb_bd, zb_bd2, zb_bd3, zb_bd4, zb_bd5, zb_ck, zb_ckT, zb_ld, zb_st, not_false_eq_true, zc_m1, zc_m2, zc_m3, zc_m4, zc_m5, zc_m6, zc_lt_t, zc_lt_f, zc_le_t, zc_le_f, zc_eq_t, zc_eq_f, nI_add, pk_mul, z0a, Nat.zero_add, Nat.add_zero, Nat.reduceAdd, ↓reduceIte, zl_8, hs, h2, hs2]
  · by_cases c : i = n
    · rw [c, zu_same, zu_same, he]
    · rw [zu_ne c, zu_ne c, h3 i (by omega)]
theorem zx_app {n : Nat} (hn : n + 4 ≤ 800) {I : Nat → Int32} {A : Nat → Nat → Int32} {J : Nat → Int32} {B : Nat → Nat → Int32} (h1 : I 0 = nI n) (h2 : J 2 = nI n) (h3 : ∀ i, i < n → A 0 i = B 5 i &&& nI 255) (p : Int32) : ∃ f g : Nat → Int32, f_X7_append I A p = some (upd I 0 (nI (n + 4)), qf_up A 0 f) ∧ f_X8_append J B p = some (upd J 2 (nI (n + 4)), qf_up B 5 g) ∧ ∀ i, i < n + 4 → f i = g i &&& nI 255 := by
  obtain ⟨f1, g1, a1, b1, c1⟩ := zx_app1 (by omega : n + 1 ≤ 800) h1 h2 h3 p (nI 24) (nI 16) (by decide) zy_s24 (zy_24 p)
  obtain ⟨f2, g2, a2, b2, c2⟩ := zx_app1 (by omega : n + 1 + 1 ≤ 800) (I := upd I 0 (nI (n + 1))) (A := qf_up A 0 f1) (J := upd J 2 (nI (n + 1))) (B := qf_up B 5 g1) rfl rfl c1 p (nI 16) (nI 8) (by decide) zy_s16 (zy_16 p)
  obtain ⟨f3, g3, a3, b3, c3⟩ := zx_app1 (by omega : n + 1 + 1 + 1 ≤ 800) (I := upd (upd I 0 (nI (n + 1))) 0 (nI (n + 1 + 1))) (A := qf_up (qf_up A 0 f1) 0 f2) (J := upd (upd J 2 (nI (n + 1))) 2 (nI (n + 1 + 1))) (B := qf_up (qf_up B 5 g1) 5 g2) rfl rfl c2 p (nI 8) (nI 0) (by decide) zy_s8 (zy_8 p)
  obtain ⟨f4, g4, a4, b4, c4⟩ := zx_app1 (by omega : n + 1 + 1 + 1 + 1 ≤ 800) (I := upd (upd (upd I 0 (nI (n + 1))) 0 (nI (n + 1 + 1))) 0 (nI (n + 1 + 1 + 1))) (A := qf_up (qf_up (qf_up A 0 f1) 0 f2) 0 f3) (J := upd (upd (upd J 2 (nI (n + 1))) 2 (nI (n + 1 + 1))) 2 (nI (n + 1 + 1 + 1))) (B := qf_up (qf_up (qf_up B 5 g1) 5 g2) 5 g3) rfl rfl c3 p (nI 0) (-nI 8) (by decide) zy_s0 (zy_0 p)
  simp only [zu_updu, zu_upup] at a2 a3 a4 b2 b3 b4
  refine ⟨f4, g4, ?_, ?_, c4⟩
  · show f_X7_append_l3 p (99995 + 1 + 1 + 1 + 1 + 1) I A (nI 24) = _
    rw [a1, a2, a3, a4, f_X7_append_l3, zl_0, if_pos (by decide)]
  · show f_X8_append_l3 p (99995 + 1 + 1 + 1 + 1 + 1) J B (nI 24) = _
    rw [b1, b2, b3, b4, f_X8_append_l3, zl_0, if_pos (by decide)]
theorem zJ_fr {I I' : Nat → Int32} {A A' : Nat → Nat → Int32} {G : Nat → Int32 × (Nat → Nat → Int32)} {J J' : Nat → Int32} {B B' : Nat → Nat → Int32} {ng nk nh ns kept next : Nat} (h : zJ I A G J B ng nk nh ns kept next) (hi : ∀ i, 9 ≤ i → i ≠ 11 → I' i = I i) (ha : ∀ a, 11 ≤ a → A' a = A a) (hj : J' 0 = J 0) (h0 : B' 0 = B 0) (h2 : B' 2 = B 2) (h3 : B' 3 = B 3) : zJ I' A' G J' B' ng nk nh ns kept next := by
  obtain ⟨hP, hV, hR, h20, hO, hH, h10, hj0, h9⟩ := h
  have e1 : (fun i => I' (12 + i)) 0 = I (12 + 0) := hi _ (by omega) (by omega)
  have e2 : (fun i => I' (12 + i)) 1 = I (12 + 1) := hi _ (by omega) (by omega)
  have e3 : (fun i => I' (12 + i)) 2 = I (12 + 2) := hi _ (by omega) (by omega)
  have e4 : (fun i => I' (12 + i)) 3 = I (12 + 3) := hi _ (by omega) (by omega)
  have eP : (fun a => A' (11 + a)) = fun a => A (11 + a) := funext fun a => ha _ (by omega)
  have eS : (fun a => A' (33 + a)) = fun a => A (33 + a) := funext fun a => ha _ (by omega)
  refine ⟨?_, ?_, ?_, ?_, ?_, ?_, ?_, ?_, ?_⟩
  · rw [eP, h3]
    exact ⟨hP.1, hP.2.1, ⟨e1.trans hP.2.2.1.1, e2.trans hP.2.2.1.2.1, e3.trans hP.2.2.1.2.2.1, e4.trans hP.2.2.1.2.2.2⟩, hP.2.2.2⟩
  · rw [h3]; exact hV
  · rw [eS, h0]; exact hR
  · rw [hi 20 (by omega) (by omega), h0]; exact h20
  · rw [h3, h0]; exact hO
  · rw [h3, h2]; exact hH
  · rw [hi 10 (by omega) (by omega)]; exact h10
  · rw [hj]; exact hj0
  · rw [hi 9 (by omega) (by omega)]; exact h9
theorem ze_feed : QE_feed zI := by
  intro ad I A G T J B w p1 p2 p3 p4 p5 hI
  obtain ⟨⟨ng, nk, nh, ns, kept, next, hJ⟩, fed, q1, q2, q3, q4, q5⟩ := id hI
  by_cases c : fed + 20 ≤ 800
  · obtain ⟨f1, g1, a1, b1, c1⟩ := zx_app (by omega : fed + 4 ≤ 800) q2 (J := upd J 1 (nI 0)) (by rw [zu_ne (by omega), q3]) q4 p1
    obtain ⟨f2, g2, a2, b2, c2⟩ := zx_app (by omega : fed + 4 + 4 ≤ 800) (I := upd I 0 (nI (fed + 4))) (A := qf_up A 0 f1) (J := upd (upd J 1 (nI 0)) 2 (nI (fed + 4))) (B := qf_up B 5 g1) rfl rfl c1 p2
    obtain ⟨f3, g3, a3, b3, c3⟩ := zx_app (by omega : fed + 4 + 4 + 4 ≤ 800) (I := upd (upd I 0 (nI (fed + 4))) 0 (nI (fed + 4 + 4))) (A := qf_up (qf_up A 0 f1) 0 f2) (J := upd (upd (upd J 1 (nI 0)) 2 (nI (fed + 4))) 2 (nI (fed + 4 + 4))) (B := qf_up (qf_up B 5 g1) 5 g2) rfl rfl c2 p3
    obtain ⟨f4, g4, a4, b4, c4⟩ := zx_app (by omega : fed + 4 + 4 + 4 + 4 ≤ 800) (I := upd (upd (upd I 0 (nI (fed + 4))) 0 (nI (fed + 4 + 4))) 0 (nI (fed + 4 + 4 + 4))) (A := qf_up (qf_up (qf_up A 0 f1) 0 f2) 0 f3) (J := upd (upd (upd (upd J 1 (nI 0)) 2 (nI (fed + 4))) 2 (nI (fed + 4 + 4))) 2 (nI (fed + 4 + 4 + 4))) (B := qf_up (qf_up (qf_up B 5 g1) 5 g2) 5 g3) rfl rfl c3 p4
    obtain ⟨f5, g5, a5, b5, c5⟩ := zx_app (by omega : fed + 4 + 4 + 4 + 4 + 4 ≤ 800) (I := upd (upd (upd (upd I 0 (nI (fed + 4))) 0 (nI (fed + 4 + 4))) 0 (nI (fed + 4 + 4 + 4))) 0 (nI (fed + 4 + 4 + 4 + 4))) (A := qf_up (qf_up (qf_up (qf_up A 0 f1) 0 f2) 0 f3) 0 f4) (J := upd (upd (upd (upd (upd J 1 (nI 0)) 2 (nI (fed + 4))) 2 (nI (fed + 4 + 4))) 2 (nI (fed + 4 + 4 + 4))) 2 (nI (fed + 4 + 4 + 4 + 4))) (B := qf_up (qf_up (qf_up (qf_up B 5 g1) 5 g2) 5 g3) 5 g4) rfl rfl c4 p5
    simp only [zu_updu, zu_upup] at a2 a3 a4 a5 b2 b3 b4 b5
    have e0 : I 0 + 20 ≤ 800 := by
      rw [q2, zl_20, nI_add, zl_800]
      exact nI_le c (by omega)
    have e1 : upd J 1 (0 : Int32) 2 + 20 ≤ 800 := by
      rw [zu_ne (by omega), q3, zl_20, nI_add, zl_800]
      exact nI_le c (by omega)
    refine ⟨nI (fed + 20), upd I 0 (nI (fed + 20)), qf_up A 0 f5, ?_, nI (fed + 20), upd (upd J 1 (nI 0)) 2 (nI (fed + 20)), qf_up B 5 g5, ?_, rfl, ⟨ng, nk, nh, ns, kept, next, ?_⟩, fed + 20, c, ?_, ?_, ?_, ?_⟩
    · unfold f_X7_feed
      rw [if_pos e0, a1, zb_bd2, a2, zb_bd2, a3, zb_bd2, a4, zb_bd2, a5, zb_bd2, zu_same]
    · unfold f_X8_feed
      rw [zb_let, if_pos e1, zl_0, b1, zb_bd2, b2, zb_bd2, b3, zb_bd2, b4, zb_bd2, b5, zb_bd2, zu_same]
    · exact zJ_fr hJ (fun i h1 _ => zu_ne (by omega)) (fun a ha => zu_upn (by omega)) (by rw [zu_ne (by omega), zu_ne (by omega)]) (zu_upn (by omega)) (zu_upn (by omega)) (zu_upn (by omega))
    · exact zu_same _ _ _
    · exact zu_same _ _ _
    · exact c5
    · exact q5
  · have e0 : ¬ I 0 + 20 ≤ 800 := by
      rw [q2, zl_20, nI_add, zl_800]
      exact nI_ge (by omega) (by omega)
    have e1 : ¬ upd J 1 (0 : Int32) 2 + 20 ≤ 800 := by
      rw [zu_ne (by omega), q3, zl_20, nI_add, zl_800]
      exact nI_ge (by omega) (by omega)
    refine ⟨-3, I, A, ?_, -3, upd J 1 0, B, ?_, rfl, zI_J 0 hI⟩
    · unfold f_X7_feed
      rw [if_neg e0]
    · unfold f_X8_feed
      rw [zb_let, if_neg e1]
