theorem zt_sum {x a : Nat} (ha : a < 6) : (if 0 = a then x else 0) + (if 1 = a then x else 0) + (if 2 = a then x else 0) + (if 3 = a then x else 0) + (if 4 = a then x else 0) + (if 5 = a then x else 0) = x := by
  rcases (show a = 0 ∨ a = 1 ∨ a = 2 ∨ a = 3 ∨ a = 4 ∨ a = 5 by omega) with rfl | rfl | rfl | rfl | rfl | rfl <;> simp
section ZT
variable {I I' : Nat → Int32} {A A' : Nat → Nat → Int32} {G G' : Nat → Int32 × (Nat → Nat → Int32)} {T : Nat} {J J' : Nat → Int32} {B B' : Nat → Nat → Int32} {w : Int64} {ng nk nh ns kept next : Nat}
theorem zx_mv (hJ : zJ I A G J B ng nk nh ns kept next) {a b g m : Nat} (ha : a < 6) (hb6 : b < 6) (hbn : b < nh) (hab : a ≠ b) (hg : g < 4) (hm : m < 2147483648) : zJ I (qf_up A 36 (zMv 5 (A 36) ((a * 4 + g) * 5) ((b * 4 + g) * 5) (nI m))) G J (qf_up B 0 (zMv 5 (B 0) (13 + (a * 4 + g) * 5) (13 + (b * 4 + g) * 5) (nI m))) ng nk nh ns kept next := by
  have hb := zp_b hJ
  have hO := zp_O hJ
  have hu := hO.2.2.2.1
  have hdis : ∀ h g' p q : Nat, g' < 4 → p < 5 → q < 5 → (h ≠ a ∨ g' ≠ g) → (h * 4 + g') * 5 + p ≠ (a * 4 + g) * 5 + q := fun h g' p q h1 h2 h3 h4 => by omega
  refine zJ_set hJ ?_ ?_ ?_ (fun _ _ => rfl) (fun b hb => zu_upn (by omega)) (fun b hb => zu_upn hb)
  · rw [zu_up]
    refine zR_row (zp_R hJ) 3 _ (by omega) rfl (fun i hi => ?_) (fun j hj => ?_)
    · exact zMv_rel 5 _ _ (A 36) (B 0) _ (fun i hi => zr_3 (zp_R hJ) hi) (by omega) (by omega) i hi
    · have hj : j < 13 ∨ 13 + 120 ≤ j := hj
      exact zMv_out _ _ _ _ _ _ (by omega) (by omega)
  · rw [zu_up]
    obtain ⟨x, hx⟩ := zMv_n 5 (B 0) (13 + (a * 4 + g) * 5) (13 + (b * 4 + g) * 5) m (fun j => zU (B 0) ((a * 4 + g) * 5 + j)) (fun j => zU (B 0) ((b * 4 + g) * 5 + j)) (by omega) (fun j hj => ⟨by rw [Nat.add_assoc]; exact hu _ (by omega), zO_le hO ha hg hj, by rw [Nat.add_assoc]; exact hu _ (by omega), zO_le hO hb6 hg hj⟩) hm
    generalize hD : zMv 5 (B 0) (13 + (a * 4 + g) * 5) (13 + (b * 4 + g) * 5) (nI m) = D' at hx
    have hout : ∀ j, (j < 13 + (a * 4 + g) * 5 ∨ 13 + (a * 4 + g) * 5 + 5 ≤ j) → (j < 13 + (b * 4 + g) * 5 ∨ 13 + (b * 4 + g) * 5 + 5 ≤ j) → D' j = B 0 j := fun j h1 h2 => by rw [← hD]; exact zMv_out _ _ _ _ _ _ h1 h2
    have key : ∀ h g' p, h < 6 → g' < 4 → p < 5 → D' (13 + ((h * 4 + g') * 5 + p)) = nI (zU D' ((h * 4 + g') * 5 + p)) ∧ zU D' ((h * 4 + g') * 5 + p) + (if g' = g then (if h = a then x p else 0) else 0) = zU (B 0) ((h * 4 + g') * 5 + p) + (if g' = g then (if h = b then x p else 0) else 0) := by
      intro h g' p hh hg' hp
      by_cases c : g' = g
      · subst c
        rw [if_pos rfl, if_pos rfl]
        obtain ⟨x1, x2, x3⟩ := hx p hp
        rw [Nat.add_assoc] at x2 x3
        by_cases c1 : h = a
        · subst c1
          have hle := zO_le hO hh hg' hp
          have e : zU D' ((h * 4 + g') * 5 + p) = zU (B 0) ((h * 4 + g') * 5 + p) - x p := by
            show (D' (13 + ((h * 4 + g') * 5 + p))).toNatClampNeg = _
            rw [x2, nI_clamp (by omega)]
          refine ⟨by rw [e, x2], ?_⟩
          rw [e, if_pos rfl, if_neg hab]
          omega
        · by_cases c2 : h = b
          · subst c2
            have hle := zO_le hO hh hg' hp
            have hle2 := zO_le hO ha hg' hp
            have e : zU D' ((h * 4 + g') * 5 + p) = zU (B 0) ((h * 4 + g') * 5 + p) + x p := by
              show (D' (13 + ((h * 4 + g') * 5 + p))).toNatClampNeg = _
              rw [x3, nI_clamp (by omega)]
            refine ⟨by rw [e, x3], ?_⟩
            rw [e, if_neg c1, if_pos rfl, Nat.add_zero]
          · have e := hout (13 + ((h * 4 + g') * 5 + p)) (by omega) (by omega)
            have e2 : zU D' ((h * 4 + g') * 5 + p) = zU (B 0) ((h * 4 + g') * 5 + p) := by unfold zU; rw [e]
            refine ⟨by rw [e2, e]; exact hu _ (by omega), ?_⟩
            rw [e2, if_neg c1, if_neg c2]
      · have e := hout (13 + ((h * 4 + g') * 5 + p)) (by omega) (by omega)
        have e2 : zU D' ((h * 4 + g') * 5 + p) = zU (B 0) ((h * 4 + g') * 5 + p) := by unfold zU; rw [e]
        refine ⟨by rw [e2, e]; exact hu _ (by omega), ?_⟩
        rw [e2, if_neg c, if_neg c]
    have hother : ∀ j, (j < 13 ∨ 133 ≤ j) → D' j = B 0 j := fun j hj => hout j (by omega) (by omega)
    refine zO_mk hb.1 hO (Or.inl fun i hi => hother _ (by omega)) (fun g hg => Or.inl (hother _ (by omega))) (fun h hh => Or.inl (hother _ (by omega))) (Or.inr ⟨fun i hi => ?_, ?_, ?_, ?_⟩) (fun h hh => ⟨Or.inl (hother _ (by omega)), Or.inl (hother _ (by omega))⟩) (fun i hi => Or.inl (hother _ (by omega)))
    · have hk := (key (i / 20) (i / 5 % 4) (i % 5) (by omega) (by omega) (by omega)).1
      rw [show (i / 20 * 4 + i / 5 % 4) * 5 + i % 5 = i by omega] at hk
      exact hk
    · intro g' p hg' hp
      have hs := hO.2.2.2.2.1 g' p hg' hp
      have k0 := (key 0 g' p (by omega) hg' hp).2
      have k1 := (key 1 g' p (by omega) hg' hp).2
      have k2 := (key 2 g' p (by omega) hg' hp).2
      have k3 := (key 3 g' p (by omega) hg' hp).2
      have k4 := (key 4 g' p (by omega) hg' hp).2
      have k5 := (key 5 g' p (by omega) hg' hp).2
      rw [show (0 * 4 + g') * 5 + p = g' * 5 + p by omega] at k0
      rw [show (1 * 4 + g') * 5 + p = (4 + g') * 5 + p by omega] at k1
      rw [show (2 * 4 + g') * 5 + p = (8 + g') * 5 + p by omega] at k2
      rw [show (3 * 4 + g') * 5 + p = (12 + g') * 5 + p by omega] at k3
      rw [show (4 * 4 + g') * 5 + p = (16 + g') * 5 + p by omega] at k4
      rw [show (5 * 4 + g') * 5 + p = (20 + g') * 5 + p by omega] at k5
      have ta := zt_sum (x := x p) ha
      have tb := zt_sum (x := x p) hb6
      by_cases c : g' = g
      · rw [if_pos c, if_pos c] at k0 k1 k2 k3 k4 k5
        omega
      · rw [if_neg c, if_neg c] at k0 k1 k2 k3 k4 k5
        omega
    · intro g' h p hg' hh hp hl
      have hz := hO.2.2.2.2.2.1 g' h p hg' hh hp hl
      have hk := (key h g' p hh (by omega) hp).2
      by_cases c : g' = g
      · rw [if_pos c, if_pos c, hz] at hk
        have hza := hO.2.2.2.2.2.1 g' a p hg' ha hp hl
        have hx0 := (hx p hp).1
        have hx0 : x p ≤ zU (B 0) ((a * 4 + g) * 5 + p) := hx0
        rw [← c, hza] at hx0
        by_cases c1 : h = a
        · rw [if_pos c1, if_neg (by omega)] at hk; omega
        · by_cases c2 : h = b
          · rw [if_neg c1, if_pos c2] at hk; omega
          · rw [if_neg c1, if_neg c2] at hk; omega
      · rw [if_neg c, if_neg c, hz] at hk
        omega
    · intro h g' p hl hh hg' hp
      have hz := (hO.2.2.2.2.2.2.2.2 h hl hh).2.2 g' p hg' hp
      have hk := (key h g' p hh hg' hp).2
      rw [hz] at hk
      by_cases c : g' = g
      · rw [if_pos c, if_pos c, if_neg (by omega : ¬ h = b)] at hk
        omega
      · rw [if_neg c, if_neg c] at hk
        omega
  · rw [zu_up, zMv_out _ _ _ _ _ _ (by omega) (by omega)]
    exact hJ.2.2.2.1
theorem zx_move_l {b q : Nat} (hb : b + 5 ≤ 120) (hq : q + 5 ≤ 120) : ∀ (d i fu : Nat) (f : Nat → Int32) (c : Int32), i + d = 5 → d < fu → f_X4_move_l6 120 (nI b) (nI q) fu f c (nI i) = some (zMv d f (b + i) (q + i) c) := by
  intro d
  induction d with
  | zero =>
    intro i fu f c h h1
    obtain ⟨a, rfl⟩ : ∃ a, fu = a + 1 := ⟨fu - 1, by omega⟩
    simp (disch := omega) only [zl_0, zl_1, zl_2, zl_3, zl_4, zl_5, zl_6, zl_7, zl_8, zl_9, zl_10, zl_11, zl_12, zl_13, zl_14, zl_15, zl_16, zl_20, zl_24, zl_26, zl_31, zl_32, zl_38, zl_44, zl_48, zl_50, zl_56, zl_57, zl_59, zl_62, zl_96, zl_97, zl_99, zl_100, zl_122, zl_133, zl_139, zl_145, zl_169, zl_185, zl_189, zl_213, zl_237, zl_241, zl_245, zl_249, zl_250, zl_255, zl_400, zl_401, zl_800, zl_999, zl_1000, zl_2406, zl_2500, zl_2807, zl_9999, zl_99999, zl_100000, zl_1000000000, zl_100000000, zb_let, zb_bd, zb_bd2, zb_bd3, zb_bd4, zb_bd5, zb_ck, zb_ckT, zb_ld, zb_st, not_false_eq_true, zc_m1, zc_m2, zc_m3, zc_m4, zc_m5, zc_m6, zc_lt_t, zc_lt_f, zc_le_t, zc_le_f, zc_eq_t, zc_eq_f, nI_add, pk_mul, z0a, Nat.zero_add, Nat.add_zero, Nat.reduceAdd, ↓reduceIte, f_X4_move_l6, zMv]
  | succ d ih =>
    intro i fu f c h h1
    obtain ⟨a, rfl⟩ : ∃ a, fu = a + 1 := ⟨fu - 1, by omega⟩
    have i1 := ih (i + 1) a (upd (upd f (b + i) (f (b + i) - (if f (b + i) < c then f (b + i) else c))) (q + i) (upd f (b + i) (f (b + i) - (if f (b + i) < c then f (b + i) else c)) (q + i) + (if f (b + i) < c then f (b + i) else c))) (c - (if f (b + i) < c then f (b + i) else c)) (by omega) (by omega)
    simp (disch := omega) only [zl_0, zl_1, zl_2, zl_3, zl_4, zl_5, zl_6, zl_7, zl_8, zl_9, zl_10, zl_11, zl_12, zl_13, zl_14, zl_15, zl_16, zl_20, zl_24, zl_26, zl_31, zl_32, zl_38, zl_44, zl_48, zl_50, zl_56, zl_57, zl_59, zl_62, zl_96, zl_97, zl_99, zl_100, zl_122, zl_133, zl_139, zl_145, zl_169, zl_185, zl_189, zl_213, zl_237, zl_241, zl_245, zl_249, zl_250, zl_255, zl_400, zl_401, zl_800, zl_999, zl_1000, zl_2406, zl_2500, zl_2807, zl_9999, zl_99999, zl_100000, zl_1000000000, zl_100000000, zb_let, zb_bd, zb_bd2, zb_bd3, zb_bd4, zb_bd5, zb_ck, zb_ckT, zb_ld, zb_st, not_false_eq_true, zc_le_f, nI_add, ↓reduceIte, f_X4_move_l6, i1, zMv, Nat.add_assoc]
theorem zx_move7 (f : Nat → Int32) {a b g : Nat} (ha : a < 6) (hb : b < 6) (hg : g < 4) (c : Int32) : f_X4_move 120 f (nI ((a * 4 + g) * 5)) (nI ((b * 4 + g) * 5)) c = some (zMv 5 f ((a * 4 + g) * 5) ((b * 4 + g) * 5) c) := by
  have e := zx_move_l (b := (a * 4 + g) * 5) (q := (b * 4 + g) * 5) (by omega) (by omega) 5 0 100000 f c (by omega) (by omega)
  rw [Nat.add_zero, Nat.add_zero] at e
  exact e
theorem zx_tmv_l {a b g : Nat} (ha : a < 6) (hb : b < 6) (hg : g < 4) : ∀ (d i fu : Nat) (B : Nat → Nat → Int32) (c : Int32), i + d = 5 → d < fu → f_X8_takeCoupons_l6 (nI a) (nI g) (nI b) fu B c (nI i) = some (qf_up B 0 (zMv d (B 0) (13 + ((a * 4 + g) * 5 + i)) (13 + ((b * 4 + g) * 5 + i)) c)) := by
  intro d
  induction d with
  | zero =>
    intro i fu B c h h1
    obtain ⟨a, rfl⟩ : ∃ a, fu = a + 1 := ⟨fu - 1, by omega⟩
    simp (disch := omega) only [zl_0, zl_1, zl_2, zl_3, zl_4, zl_5, zl_6, zl_7, zl_8, zl_9, zl_10, zl_11, zl_12, zl_13, zl_14, zl_15, zl_16, zl_20, zl_24, zl_26, zl_31, zl_32, zl_38, zl_44, zl_48, zl_50, zl_56, zl_57, zl_59, zl_62, zl_96, zl_97, zl_99, zl_100, zl_122, zl_133, zl_139, zl_145, zl_169, zl_185, zl_189, zl_213, zl_237, zl_241, zl_245, zl_249, zl_250, zl_255, zl_400, zl_401, zl_800, zl_999, zl_1000, zl_2406, zl_2500, zl_2807, zl_9999, zl_99999, zl_100000, zl_1000000000, zl_100000000, zb_let, zb_bd, zb_bd2, zb_bd3, zb_bd4, zb_bd5, zb_ck, zb_ckT, zb_ld, zb_st, not_false_eq_true, zc_m1, zc_m2, zc_m3, zc_m4, zc_m5, zc_m6, zc_lt_t, zc_lt_f, zc_le_t, zc_le_f, zc_eq_t, zc_eq_f, nI_add, pk_mul, z0a, Nat.zero_add, Nat.add_zero, Nat.reduceAdd, ↓reduceIte, f_X8_takeCoupons_l6, zMv, zu_id]
  | succ d ih =>
    intro i fu B c hd h1
    obtain ⟨k, rfl⟩ : ∃ a, fu = a + 1 := ⟨fu - 1, by omega⟩
    obtain ⟨m, hm⟩ : ∃ m, m = (if B 0 (13 + ((a * 4 + g) * 5 + i)) < c then B 0 (13 + ((a * 4 + g) * 5 + i)) else c) := ⟨_, rfl⟩
    have i1 := ih (i + 1) k (qf_up B 0 (upd (upd (B 0) (13 + ((a * 4 + g) * 5 + i)) (B 0 (13 + ((a * 4 + g) * 5 + i)) - m)) (13 + ((b * 4 + g) * 5 + i)) (upd (B 0) (13 + ((a * 4 + g) * 5 + i)) (B 0 (13 + ((a * 4 + g) * 5 + i)) - m) (13 + ((b * 4 + g) * 5 + i)) + m))) (c - m) (by omega) (by omega)
    have hl : f_X8_lesser (B 0 (13 + ((a * 4 + g) * 5 + i))) c = some m := by rw [zx_lesser, zmin_comm, hm]
    rw [f_X8_takeCoupons_l6]
    simp (disch := omega) only [zl_0, zl_1, zl_2, zl_3, zl_4, zl_5, zl_6, zl_7, zl_8, zl_9, zl_10, zl_11, zl_12, zl_13, zl_14, zl_15, zl_16, zl_20, zl_24, zl_26, zl_31, zl_32, zl_38, zl_44, zl_48, zl_50, zl_56, zl_57, zl_59, zl_62, zl_96, zl_97, zl_99, zl_100, zl_122, zl_133, zl_139, zl_145, zl_169, zl_185, zl_189, zl_213, zl_237, zl_241, zl_245, zl_249, zl_250, zl_255, zl_400, zl_401, zl_800, zl_999, zl_1000, zl_2406, zl_2500, zl_2807, zl_9999, zl_99999, zl_100000, zl_1000000000, zl_100000000, zb_let, zb_bd, zb_bd2, zb_bd3, zb_bd4, zb_bd5, zb_ck, zb_ckT, zb_ld, zb_st, not_false_eq_true, zc_le_f, zc_lt_f, nI_add, ↓reduceIte, f_X8_takeCoupons_j74, zx_at, hl, Nat.add_assoc, zu_up, zu_upup]
    rw [i1]
    simp only [zu_up, zu_upup, zMv, Nat.add_assoc, ← hm]
theorem zx_tmv8 (B : Nat → Nat → Int32) {a b g : Nat} (ha : a < 6) (hb : b < 6) (hg : g < 4) (c : Int32) : f_X8_takeCoupons B (nI a) (nI g) c (nI b) = some (qf_up B 0 (zMv 5 (B 0) (13 + (a * 4 + g) * 5) (13 + (b * 4 + g) * 5) c)) := zx_tmv_l ha hb hg 5 0 100000 B c (by omega) (by omega)
theorem zp_giv (hJ : zJ I A G J B ng nk nh ns kept next) {h c : Nat} (hh : h < 6) (hc : c ≤ zG1 (B 0) h) (h1 : 1 ≤ c) : ∃ n, n + c ≤ 999 ∧ B 0 (133 + h) = nI n := by
  obtain ⟨⟨⟨a, a1, a2⟩, _, _⟩, _, _, _, _, _, hq, _⟩ := zp_O hJ
  obtain ⟨⟨n, n1, n2⟩, _⟩ := hq h hh
  unfold zG1 at hc
  rw [a2, n2, nI_clamp (by omega), nI_clamp (by omega)] at hc
  exact ⟨n, by omega, n2⟩
theorem zp_tak (hJ : zJ I A G J B ng nk nh ns kept next) {h c : Nat} (hh : h < 6) (hc : c ≤ zG2 (B 0) h) (h1 : 1 ≤ c) : ∃ n, n + c ≤ 999 ∧ B 0 (139 + h) = nI n := by
  obtain ⟨⟨_, ⟨a, a1, a2⟩, _⟩, _, _, _, _, _, hq, _⟩ := zp_O hJ
  obtain ⟨_, ⟨n, n1, n2⟩⟩ := hq h hh
  unfold zG2 at hc
  rw [a2, n2, nI_clamp (by omega), nI_clamp (by omega)] at hc
  exact ⟨n, by omega, n2⟩
end ZT
theorem ze_trade : QE_trade zI := by
  intro ad I A G T J B w p1 p2 p3 p4 hI
  obtain ⟨⟨ng, nk, nh, ns, kept, next, hJ⟩, hF⟩ := id hI
  have hb := zp_b hJ
  have hR := zp_R hJ
  rcases zg_house hJ p1 with ⟨x, hx, rfl, e1, e2⟩ | ⟨e1, e2⟩
  case inr => exact zq_ref (-1) hI (by unfold f_X7_trade; rw [e1]; rfl) (by unfold f_X8_trade; rw [zb_let, e2]; rfl)
  rcases zg_house hJ p2 with ⟨y, hy, rfl, e3, e4⟩ | ⟨e3, e4⟩
  case inr => exact zq_ref (-1) hI (by unfold f_X7_trade; rw [e1, zb_bd, if_neg (by decide), e3]; rfl) (by unfold f_X8_trade; rw [zb_let, e2, zb_bd, if_neg (by decide), e4]; rfl)
  rcases zg_group hJ p3 with ⟨z, hz, rfl, e5, e6⟩ | ⟨e5, e6⟩
  case inr => exact zq_ref (-nI 1) hI (by simp (disch := omega) only [zl_0, zl_1, zl_2, zl_3, zl_4, zl_5, zl_6, zl_7, zl_8, zl_9, zl_10, zl_11, zl_12, zl_13, zl_14, zl_15, zl_16, zl_20, zl_24, zl_26, zl_31, zl_32, zl_38, zl_44, zl_48, zl_50, zl_56, zl_57, zl_59, zl_62, zl_96, zl_97, zl_99, zl_100, zl_122, zl_133, zl_139, zl_145, zl_169, zl_185, zl_189, zl_213, zl_237, zl_241, zl_245, zl_249, zl_250, zl_255, zl_400, zl_401, zl_800, zl_999, zl_1000, zl_2406, zl_2500, zl_2807, zl_9999, zl_99999, zl_100000, zl_1000000000, zl_100000000, zb_let, zb_bd, zb_bd2, zb_bd3, zb_bd4, zb_bd5, zb_ck, zb_ckT, zb_ld, zb_st, not_false_eq_true, zc_m1, zc_m2, zc_m3, zc_m4, zc_m5, zc_m6, zc_lt_t, zc_lt_f, zc_le_t, zc_le_f, zc_eq_t, zc_eq_f, nI_add, pk_mul, z0a, Nat.zero_add, Nat.add_zero, Nat.reduceAdd, ↓reduceIte, f_X7_trade, e1, e3, e5]) (by simp (disch := omega) only [zl_0, zl_1, zl_2, zl_3, zl_4, zl_5, zl_6, zl_7, zl_8, zl_9, zl_10, zl_11, zl_12, zl_13, zl_14, zl_15, zl_16, zl_20, zl_24, zl_26, zl_31, zl_32, zl_38, zl_44, zl_48, zl_50, zl_56, zl_57, zl_59, zl_62, zl_96, zl_97, zl_99, zl_100, zl_122, zl_133, zl_139, zl_145, zl_169, zl_185, zl_189, zl_213, zl_237, zl_241, zl_245, zl_249, zl_250, zl_255, zl_400, zl_401, zl_800, zl_999, zl_1000, zl_2406, zl_2500, zl_2807, zl_9999, zl_99999, zl_100000, zl_1000000000, zl_100000000, zb_let, zb_bd, zb_bd2, zb_bd3, zb_bd4, zb_bd5, zb_ck, zb_ckT, zb_ld, zb_st, not_false_eq_true, zc_m1, zc_m2, zc_m3, zc_m4, zc_m5, zc_m6, zc_lt_t, zc_lt_f, zc_le_t, zc_le_f, zc_eq_t, zc_eq_f, nI_add, pk_mul, z0a, Nat.zero_add, Nat.add_zero, Nat.reduceAdd, ↓reduceIte, f_X8_trade, e2, e4, e6])
  by_cases hxy : x = y
  · exact zq_ref (-nI 1) hI (by simp (disch := omega) only [zl_0, zl_1, zl_2, zl_3, zl_4, zl_5, zl_6, zl_7, zl_8, zl_9, zl_10, zl_11, zl_12, zl_13, zl_14, zl_15, zl_16, zl_20, zl_24, zl_26, zl_31, zl_32, zl_38, zl_44, zl_48, zl_50, zl_56, zl_57, zl_59, zl_62, zl_96, zl_97, zl_99, zl_100, zl_122, zl_133, zl_139, zl_145, zl_169, zl_185, zl_189, zl_213, zl_237, zl_241, zl_245, zl_249, zl_250, zl_255, zl_400, zl_401, zl_800, zl_999, zl_1000, zl_2406, zl_2500, zl_2807, zl_9999, zl_99999, zl_100000, zl_1000000000, zl_100000000, zb_let, zb_bd, zb_bd2, zb_bd3, zb_bd4, zb_bd5, zb_ck, zb_ckT, zb_ld, zb_st, not_false_eq_true, zc_m1, zc_m2, zc_m3, zc_m4, zc_m5, zc_m6, zc_lt_t, zc_lt_f, zc_le_t, zc_le_f, zc_eq_t, zc_eq_f, nI_add, pk_mul, z0a, Nat.zero_add, Nat.add_zero, Nat.reduceAdd, ↓reduceIte, f_X7_trade, e1, e3, e5]) (by simp (disch := omega) only [zl_0, zl_1, zl_2, zl_3, zl_4, zl_5, zl_6, zl_7, zl_8, zl_9, zl_10, zl_11, zl_12, zl_13, zl_14, zl_15, zl_16, zl_20, zl_24, zl_26, zl_31, zl_32, zl_38, zl_44, zl_48, zl_50, zl_56, zl_57, zl_59, zl_62, zl_96, zl_97, zl_99, zl_100, zl_122, zl_133, zl_139, zl_145, zl_169, zl_185, zl_189, zl_213, zl_237, zl_241, zl_245, zl_249, zl_250, zl_255, zl_400, zl_401, zl_800, zl_999, zl_1000, zl_2406, zl_2500, zl_2807, zl_9999, zl_99999, zl_100000, zl_1000000000, zl_100000000, zb_let, zb_bd, zb_bd2, zb_bd3, zb_bd4, zb_bd5, zb_ck, zb_ckT, zb_ld, zb_st, not_false_eq_true, zc_m1, zc_m2, zc_m3, zc_m4, zc_m5, zc_m6, zc_lt_t, zc_lt_f, zc_le_t, zc_le_f, zc_eq_t, zc_eq_f, nI_add, pk_mul, z0a, Nat.zero_add, Nat.add_zero, Nat.reduceAdd, ↓reduceIte, f_X8_trade, e2, e4, e6])
  by_cases h1 : p4 < nI 1
  · exact zq_ref (-nI 2) hI (by simp (disch := omega) only [zl_0, zl_1, zl_2, zl_3, zl_4, zl_5, zl_6, zl_7, zl_8, zl_9, zl_10, zl_11, zl_12, zl_13, zl_14, zl_15, zl_16, zl_20, zl_24, zl_26, zl_31, zl_32, zl_38, zl_44, zl_48, zl_50, zl_56, zl_57, zl_59, zl_62, zl_96, zl_97, zl_99, zl_100, zl_122, zl_133, zl_139, zl_145, zl_169, zl_185, zl_189, zl_213, zl_237, zl_241, zl_245, zl_249, zl_250, zl_255, zl_400, zl_401, zl_800, zl_999, zl_1000, zl_2406, zl_2500, zl_2807, zl_9999, zl_99999, zl_100000, zl_1000000000, zl_100000000, zb_let, zb_bd, zb_bd2, zb_bd3, zb_bd4, zb_bd5, zb_ck, zb_ckT, zb_ld, zb_st, not_false_eq_true, zc_m1, zc_m2, zc_m3, zc_m4, zc_m5, zc_m6, zc_lt_t, zc_lt_f, zc_le_t, zc_le_f, zc_eq_t, zc_eq_f, nI_add, pk_mul, z0a, Nat.zero_add, Nat.add_zero, Nat.reduceAdd, ↓reduceIte, f_X7_trade, e1, e3, e5, h1]) (by simp (disch := omega) only [zl_0, zl_1, zl_2, zl_3, zl_4, zl_5, zl_6, zl_7, zl_8, zl_9, zl_10, zl_11, zl_12, zl_13, zl_14, zl_15, zl_16, zl_20, zl_24, zl_26, zl_31, zl_32, zl_38, zl_44, zl_48, zl_50, zl_56, zl_57, zl_59, zl_62, zl_96, zl_97, zl_99, zl_100, zl_122, zl_133, zl_139, zl_145, zl_169, zl_185, zl_189, zl_213, zl_237, zl_241, zl_245, zl_249, zl_250, zl_255, zl_400, zl_401, zl_800, zl_999, zl_1000, zl_2406, zl_2500, zl_2807, zl_9999, zl_99999, zl_100000, zl_1000000000, zl_100000000, zb_let, zb_bd, zb_bd2, zb_bd3, zb_bd4, zb_bd5, zb_ck, zb_ckT, zb_ld, zb_st, not_false_eq_true, zc_m1, zc_m2, zc_m3, zc_m4, zc_m5, zc_m6, zc_lt_t, zc_lt_f, zc_le_t, zc_le_f, zc_eq_t, zc_eq_f, nI_add, pk_mul, z0a, Nat.zero_add, Nat.add_zero, Nat.reduceAdd, ↓reduceIte, f_X8_trade, e2, e4, e6, zf_r, h1])
  by_cases h2 : nI 999 < p4
  · have h3 : ¬ p4 ≤ nI 999 := Int32.not_le.mpr h2
    exact zq_ref (-nI 2) hI (by simp (disch := omega) only [zl_0, zl_1, zl_2, zl_3, zl_4, zl_5, zl_6, zl_7, zl_8, zl_9, zl_10, zl_11, zl_12, zl_13, zl_14, zl_15, zl_16, zl_20, zl_24, zl_26, zl_31, zl_32, zl_38, zl_44, zl_48, zl_50, zl_56, zl_57, zl_59, zl_62, zl_96, zl_97, zl_99, zl_100, zl_122, zl_133, zl_139, zl_145, zl_169, zl_185, zl_189, zl_213, zl_237, zl_241, zl_245, zl_249, zl_250, zl_255, zl_400, zl_401, zl_800, zl_999, zl_1000, zl_2406, zl_2500, zl_2807, zl_9999, zl_99999, zl_100000, zl_1000000000, zl_100000000, zb_let, zb_bd, zb_bd2, zb_bd3, zb_bd4, zb_bd5, zb_ck, zb_ckT, zb_ld, zb_st, not_false_eq_true, zc_m1, zc_m2, zc_m3, zc_m4, zc_m5, zc_m6, zc_lt_t, zc_lt_f, zc_le_t, zc_le_f, zc_eq_t, zc_eq_f, nI_add, pk_mul, z0a, Nat.zero_add, Nat.add_zero, Nat.reduceAdd, ↓reduceIte, f_X7_trade, e1, e3, e5, h1, h3]) (by simp (disch := omega) only [zl_0, zl_1, zl_2, zl_3, zl_4, zl_5, zl_6, zl_7, zl_8, zl_9, zl_10, zl_11, zl_12, zl_13, zl_14, zl_15, zl_16, zl_20, zl_24, zl_26, zl_31, zl_32, zl_38, zl_44, zl_48, zl_50, zl_56, zl_57, zl_59, zl_62, zl_96, zl_97, zl_99, zl_100, zl_122, zl_133, zl_139, zl_145, zl_169, zl_185, zl_189, zl_213, zl_237, zl_241, zl_245, zl_249, zl_250, zl_255, zl_400, zl_401, zl_800, zl_999, zl_1000, zl_2406, zl_2500, zl_2807, zl_9999, zl_99999, zl_100000, zl_1000000000, zl_100000000, zb_let, zb_bd, zb_bd2, zb_bd3, zb_bd4, zb_bd5, zb_ck, zb_ckT, zb_ld, zb_st, not_false_eq_true, zc_m1, zc_m2, zc_m3, zc_m4, zc_m5, zc_m6, zc_lt_t, zc_lt_f, zc_le_t, zc_le_f, zc_eq_t, zc_eq_f, nI_add, pk_mul, z0a, Nat.zero_add, Nat.add_zero, Nat.reduceAdd, ↓reduceIte, f_X8_trade, e2, e4, e6, zf_r, h1, h2])
  obtain ⟨c, c1, c2, rfl⟩ : ∃ j, 1 ≤ j ∧ j ≤ 999 ∧ p4 = nI j := by
    have h0 : ¬ p4 < 0 := fun h0 => h1 (Int32.lt_trans h0 (by decide))
    obtain ⟨j, hj, rfl⟩ := nI_of h0
    rw [nI_ltI (by omega) (by omega)] at h1 h2
    exact ⟨j, by omega, by omega, rfl⟩
  have h7 := zx_h7 hJ (by omega : x < 6) (by omega : z < 4)
  have h8 := zx_h8 hJ (by omega : x < 6) (by omega : z < 4)
  have ht := zx_hle hJ (by omega : x < 6) (by omega : z < 4)
  obtain ⟨g7, gle⟩ := zx_g7 hJ (by omega : x < 6)
  have g8 := zx_g8r hJ (by omega : x < 6)
  obtain ⟨t7, tle⟩ := zx_t7 hJ (by omega : y < 6)
  have t8 := zx_t8 hJ (by omega : y < 6)
  by_cases d1 : zTn (B 0) ((x * 4 + z) * 5) < c
  · exact zq_ref (-nI 5) hI (by simp (disch := omega) only [zl_0, zl_1, zl_2, zl_3, zl_4, zl_5, zl_6, zl_7, zl_8, zl_9, zl_10, zl_11, zl_12, zl_13, zl_14, zl_15, zl_16, zl_20, zl_24, zl_26, zl_31, zl_32, zl_38, zl_44, zl_48, zl_50, zl_56, zl_57, zl_59, zl_62, zl_96, zl_97, zl_99, zl_100, zl_122, zl_133, zl_139, zl_145, zl_169, zl_185, zl_189, zl_213, zl_237, zl_241, zl_245, zl_249, zl_250, zl_255, zl_400, zl_401, zl_800, zl_999, zl_1000, zl_2406, zl_2500, zl_2807, zl_9999, zl_99999, zl_100000, zl_1000000000, zl_100000000, zb_let, zb_bd, zb_bd2, zb_bd3, zb_bd4, zb_bd5, zb_ck, zb_ckT, zb_ld, zb_st, not_false_eq_true, zc_m1, zc_m2, zc_m3, zc_m4, zc_m5, zc_m6, zc_lt_t, zc_lt_f, zc_le_t, zc_le_f, zc_eq_t, zc_eq_f, nI_add, pk_mul, z0a, Nat.zero_add, Nat.add_zero, Nat.reduceAdd, ↓reduceIte, f_X7_trade, e1, e3, e5, h7]) (by simp (disch := omega) only [zl_0, zl_1, zl_2, zl_3, zl_4, zl_5, zl_6, zl_7, zl_8, zl_9, zl_10, zl_11, zl_12, zl_13, zl_14, zl_15, zl_16, zl_20, zl_24, zl_26, zl_31, zl_32, zl_38, zl_44, zl_48, zl_50, zl_56, zl_57, zl_59, zl_62, zl_96, zl_97, zl_99, zl_100, zl_122, zl_133, zl_139, zl_145, zl_169, zl_185, zl_189, zl_213, zl_237, zl_241, zl_245, zl_249, zl_250, zl_255, zl_400, zl_401, zl_800, zl_999, zl_1000, zl_2406, zl_2500, zl_2807, zl_9999, zl_99999, zl_100000, zl_1000000000, zl_100000000, zb_let, zb_bd, zb_bd2, zb_bd3, zb_bd4, zb_bd5, zb_ck, zb_ckT, zb_ld, zb_st, not_false_eq_true, zc_m1, zc_m2, zc_m3, zc_m4, zc_m5, zc_m6, zc_lt_t, zc_lt_f, zc_le_t, zc_le_f, zc_eq_t, zc_eq_f, nI_add, pk_mul, z0a, Nat.zero_add, Nat.add_zero, Nat.reduceAdd, ↓reduceIte, f_X8_trade, e2, e4, e6, zf_r, h8])
  by_cases d2 : zG1 (B 0) x < c
  · exact zq_ref (-nI 6) hI (by simp (disch := omega) only [zl_0, zl_1, zl_2, zl_3, zl_4, zl_5, zl_6, zl_7, zl_8, zl_9, zl_10, zl_11, zl_12, zl_13, zl_14, zl_15, zl_16, zl_20, zl_24, zl_26, zl_31, zl_32, zl_38, zl_44, zl_48, zl_50, zl_56, zl_57, zl_59, zl_62, zl_96, zl_97, zl_99, zl_100, zl_122, zl_133, zl_139, zl_145, zl_169, zl_185, zl_189, zl_213, zl_237, zl_241, zl_245, zl_249, zl_250, zl_255, zl_400, zl_401, zl_800, zl_999, zl_1000, zl_2406, zl_2500, zl_2807, zl_9999, zl_99999, zl_100000, zl_1000000000, zl_100000000, zb_let, zb_bd, zb_bd2, zb_bd3, zb_bd4, zb_bd5, zb_ck, zb_ckT, zb_ld, zb_st, not_false_eq_true, zc_m1, zc_m2, zc_m3, zc_m4, zc_m5, zc_m6, zc_lt_t, zc_lt_f, zc_le_t, zc_le_f, zc_eq_t, zc_eq_f, nI_add, pk_mul, z0a, Nat.zero_add, Nat.add_zero, Nat.reduceAdd, ↓reduceIte, f_X7_trade, e1, e3, e5, h7, g7]) (by simp (disch := omega) only [zl_0, zl_1, zl_2, zl_3, zl_4, zl_5, zl_6, zl_7, zl_8, zl_9, zl_10, zl_11, zl_12, zl_13, zl_14, zl_15, zl_16, zl_20, zl_24, zl_26, zl_31, zl_32, zl_38, zl_44, zl_48, zl_50, zl_56, zl_57, zl_59, zl_62, zl_96, zl_97, zl_99, zl_100, zl_122, zl_133, zl_139, zl_145, zl_169, zl_185, zl_189, zl_213, zl_237, zl_241, zl_245, zl_249, zl_250, zl_255, zl_400, zl_401, zl_800, zl_999, zl_1000, zl_2406, zl_2500, zl_2807, zl_9999, zl_99999, zl_100000, zl_1000000000, zl_100000000, zb_let, zb_bd, zb_bd2, zb_bd3, zb_bd4, zb_bd5, zb_ck, zb_ckT, zb_ld, zb_st, not_false_eq_true, zc_m1, zc_m2, zc_m3, zc_m4, zc_m5, zc_m6, zc_lt_t, zc_lt_f, zc_le_t, zc_le_f, zc_eq_t, zc_eq_f, nI_add, pk_mul, z0a, Nat.zero_add, Nat.add_zero, Nat.reduceAdd, ↓reduceIte, f_X8_trade, e2, e4, e6, zf_r, h8, g8])
  by_cases d3 : zG2 (B 0) y < c
  · exact zq_ref (-nI 6) hI (by simp (disch := omega) only [zl_0, zl_1, zl_2, zl_3, zl_4, zl_5, zl_6, zl_7, zl_8, zl_9, zl_10, zl_11, zl_12, zl_13, zl_14, zl_15, zl_16, zl_20, zl_24, zl_26, zl_31, zl_32, zl_38, zl_44, zl_48, zl_50, zl_56, zl_57, zl_59, zl_62, zl_96, zl_97, zl_99, zl_100, zl_122, zl_133, zl_139, zl_145, zl_169, zl_185, zl_189, zl_213, zl_237, zl_241, zl_245, zl_249, zl_250, zl_255, zl_400, zl_401, zl_800, zl_999, zl_1000, zl_2406, zl_2500, zl_2807, zl_9999, zl_99999, zl_100000, zl_1000000000, zl_100000000, zb_let, zb_bd, zb_bd2, zb_bd3, zb_bd4, zb_bd5, zb_ck, zb_ckT, zb_ld, zb_st, not_false_eq_true, zc_m1, zc_m2, zc_m3, zc_m4, zc_m5, zc_m6, zc_lt_t, zc_lt_f, zc_le_t, zc_le_f, zc_eq_t, zc_eq_f, nI_add, pk_mul, z0a, Nat.zero_add, Nat.add_zero, Nat.reduceAdd, ↓reduceIte, f_X7_trade, e1, e3, e5, h7, g7, t7]) (by simp (disch := omega) only [zl_0, zl_1, zl_2, zl_3, zl_4, zl_5, zl_6, zl_7, zl_8, zl_9, zl_10, zl_11, zl_12, zl_13, zl_14, zl_15, zl_16, zl_20, zl_24, zl_26, zl_31, zl_32, zl_38, zl_44, zl_48, zl_50, zl_56, zl_57, zl_59, zl_62, zl_96, zl_97, zl_99, zl_100, zl_122, zl_133, zl_139, zl_145, zl_169, zl_185, zl_189, zl_213, zl_237, zl_241, zl_245, zl_249, zl_250, zl_255, zl_400, zl_401, zl_800, zl_999, zl_1000, zl_2406, zl_2500, zl_2807, zl_9999, zl_99999, zl_100000, zl_1000000000, zl_100000000, zb_let, zb_bd, zb_bd2, zb_bd3, zb_bd4, zb_bd5, zb_ck, zb_ckT, zb_ld, zb_st, not_false_eq_true, zc_m1, zc_m2, zc_m3, zc_m4, zc_m5, zc_m6, zc_lt_t, zc_lt_f, zc_le_t, zc_le_f, zc_eq_t, zc_eq_f, nI_add, pk_mul, z0a, Nat.zero_add, Nat.add_zero, Nat.reduceAdd, ↓reduceIte, f_X8_trade, e2, e4, e6, zf_r, h8, g8, t8])
  obtain ⟨I', G', J', M', kk, mm, b1, b2, b3, b4, b5, b6, b7, _⟩ := zx_beg hJ
  obtain ⟨n1, n2, n3⟩ := zp_giv hJ (by omega : x < 6) (by omega) c1
  obtain ⟨n4, n5, n6⟩ := zp_tak hJ (by omega : y < 6) (by omega) c1
  have s1 := zx_mv b3 (a := x) (b := y) (g := z) (m := c) (by omega) (by omega) hy hxy (by omega) (by omega)
  have s2 := zx_set1 s1 4 x (nI (n1 + c)) (k := 37) (o := 133 + x) (by omega) (show x < 6 by omega) rfl rfl (zO_mk hb.1 (zp_O s1) (Or.inl fun i hi => zu_ne (by omega)) (fun g hg => Or.inl (zu_ne (by omega))) (fun h hh => Or.inl (zu_ne (by omega))) (Or.inl fun i hi => zu_ne (by omega)) (fun h hh => ⟨by
    by_cases c : h = x
    · subst c; exact Or.inr ⟨hx, _, n2, zu_same _ _ _⟩
    · exact Or.inl (zu_ne (by omega)), Or.inl (zu_ne (by omega))⟩) (fun i hi => Or.inl (zu_ne (by omega))))
  have s3 := zx_set1 s2 5 y (nI (n4 + c)) (k := 38) (o := 139 + y) (by omega) (show y < 6 by omega) rfl rfl (zO_mk hb.1 (zp_O s2) (Or.inl fun i hi => zu_ne (by omega)) (fun g hg => Or.inl (zu_ne (by omega))) (fun h hh => Or.inl (zu_ne (by omega))) (Or.inl fun i hi => zu_ne (by omega)) (fun h hh => ⟨Or.inl (zu_ne (by omega)), by
    by_cases c : h = y
    · subst c; exact Or.inr ⟨hy, _, n5, zu_same _ _ _⟩
    · exact Or.inl (zu_ne (by omega))⟩) (fun i hi => Or.inl (zu_ne (by omega))))
  simp (disch := omega) only [zu_up, zu_upn, zu_upup] at s3
  have f7 := zx_h7 s3 (by omega : x < 6) (by omega : z < 4)
  have f8 := zx_h8 s3 (by omega : x < 6) (by omega : z < 4)
  have m7 := zx_move7 (A 36) (by omega : x < 6) (by omega : y < 6) (by omega : z < 4) (nI c)
  have m8 := zx_tmv8 (qf_up B 2 M') (by omega : x < 6) (by omega : y < 6) (by omega : z < 4) (nI c)
  simp (disch := omega) only [zu_upn] at m8
  rw [n3] at g8
  have a37 : A 37 x = nI n1 := by rw [zr_4 hR (by omega), n3]
  have a38 : A 38 y = nI n4 := by rw [zr_5 hR (by omega), n6]
  refine zq_chg (nI (zTn (qf_up (qf_up B 2 M') 0 (upd (upd (zMv 5 (B 0) (13 + (x * 4 + z) * 5) (13 + (y * 4 + z) * 5) (nI c)) (133 + x) (nI (n1 + c))) (139 + y) (nI (n4 + c))) 0) ((x * 4 + z) * 5))) s3 hF b4 b5 rfl b6 b7 rfl ?_ ?_
  · simp (disch := omega) only [zl_0, zl_1, zl_2, zl_3, zl_4, zl_5, zl_6, zl_7, zl_8, zl_9, zl_10, zl_11, zl_12, zl_13, zl_14, zl_15, zl_16, zl_20, zl_24, zl_26, zl_31, zl_32, zl_38, zl_44, zl_48, zl_50, zl_56, zl_57, zl_59, zl_62, zl_96, zl_97, zl_99, zl_100, zl_122, zl_133, zl_139, zl_145, zl_169, zl_185, zl_189, zl_213, zl_237, zl_241, zl_245, zl_249, zl_250, zl_255, zl_400, zl_401, zl_800, zl_999, zl_1000, zl_2406, zl_2500, zl_2807, zl_9999, zl_99999, zl_100000, zl_1000000000, zl_100000000, zb_let, zb_bd, zb_bd2, zb_bd3, zb_bd4, zb_bd5, zb_ck, zb_ckT, zb_ld, zb_st, not_false_eq_true, zc_m1, zc_m2, zc_m3, zc_m4, zc_m5, zc_m6, zc_lt_t, zc_lt_f, zc_le_t, zc_le_f, zc_eq_t, zc_eq_f, nI_add, pk_mul, z0a, Nat.zero_add, Nat.add_zero, Nat.reduceAdd, ↓reduceIte, f_X7_trade, e1, e3, e5, h7, g7, t7, b1, zx_purse, m7, a37, a38, zu_up, zu_upn, f7]
  · simp (disch := omega) only [zl_0, zl_1, zl_2, zl_3, zl_4, zl_5, zl_6, zl_7, zl_8, zl_9, zl_10, zl_11, zl_12, zl_13, zl_14, zl_15, zl_16, zl_20, zl_24, zl_26, zl_31, zl_32, zl_38, zl_44, zl_48, zl_50, zl_56, zl_57, zl_59, zl_62, zl_96, zl_97, zl_99, zl_100, zl_122, zl_133, zl_139, zl_145, zl_169, zl_185, zl_189, zl_213, zl_237, zl_241, zl_245, zl_249, zl_250, zl_255, zl_400, zl_401, zl_800, zl_999, zl_1000, zl_2406, zl_2500, zl_2807, zl_9999, zl_99999, zl_100000, zl_1000000000, zl_100000000, zb_let, zb_bd, zb_bd2, zb_bd3, zb_bd4, zb_bd5, zb_ck, zb_ckT, zb_ld, zb_st, not_false_eq_true, zc_m1, zc_m2, zc_m3, zc_m4, zc_m5, zc_m6, zc_lt_t, zc_lt_f, zc_le_t, zc_le_f, zc_eq_t, zc_eq_f, nI_add, pk_mul, z0a, Nat.zero_add, Nat.add_zero, Nat.reduceAdd, ↓reduceIte, f_X8_trade, e2, e4, e6, zf_r, h8, g8, t8, b2, m8, zu_up, zu_upup, zMv_out, zu_ne, n3, n6, f8]
