theorem zu_comm {f : Nat → Int32} {i j : Nat} {x y : Int32} (h : i ≠ j) : upd (upd f i x) j y = upd (upd f j y) i x := by
  funext k
  unfold upd
  by_cases c1 : k = j
  · rw [if_pos c1, if_neg (by omega), if_pos c1]
  · rw [if_neg c1, if_neg c1]
theorem zSp_upd : ∀ (n : Nat) (f : Nat → Int32) (o j : Nat) (c x : Int32), (j < o ∨ o + n ≤ j) → zSp n (upd f j x) o c = upd (zSp n f o c) j x := by
  intro n
  induction n with
  | zero => intro f o j c x _; rfl
  | succ n ih =>
    intro f o j c x hj
    unfold zSp
    rw [zu_ne (by omega : o ≠ j), zu_comm (by omega), ih _ _ _ _ _ (by omega)]
theorem zu_c3 {f : Nat → Int32} {a b c s : Nat} {x y z v : Int32} (ha : a ≠ s) (hb : b ≠ s) (hc : c ≠ s) : upd (upd (upd (upd f a x) b y) c z) s v = upd (upd (upd (upd f s v) a x) b y) c z := by
  rw [zu_comm hc, zu_comm hb, zu_comm ha]
theorem zSp_c3 {n : Nat} {f : Nat → Int32} {a b c o : Nat} {x y z k : Int32} (ha : a < o ∨ o + n ≤ a) (hb : b < o ∨ o + n ≤ b) (hc : c < o ∨ o + n ≤ c) : zSp n (upd (upd (upd f a x) b y) c z) o k = upd (upd (upd (zSp n f o k) a x) b y) c z := by
  rw [zSp_upd _ _ _ _ _ _ hc, zSp_upd _ _ _ _ _ _ hb, zSp_upd _ _ _ _ _ _ ha]
section ZY2
variable {I I' : Nat → Int32} {A A' : Nat → Nat → Int32} {G G' : Nat → Int32 × (Nat → Nat → Int32)} {T : Nat} {J J' : Nat → Int32} {B B' : Nat → Nat → Int32} {w : Int64} {ng nk nh ns kept next : Nat}
/-- the state after the first part of a purchase, in the order of the class -/
theorem zx_buy1 (hJ : zJ I A G J B ng nk nh ns kept next) {h g s k n u c : Nat} {x2 x3 x4 : Int32} (hh : h < 6) (hg : g < 4) (hs : s < 4) (hk : k < 6) (hn : n ≤ 99999) (hc : c < 2147483648) : zJ I (qf_up (qf_up (qf_up (qf_up (qf_up A 39 (upd (A 39) (s * 6 + k) (nI (n - u)))) 42 (upd (A 42) (s * 6 + k) x2)) 40 (upd (A 40) (s * 4 + g) x3)) 36 (zSp 5 (A 36) ((h * 4 + g) * 5) (nI c))) 45 (upd (A 45) g x4)) G J (qf_up B 0 (upd (upd (upd (upd (zSp 5 (B 0) (13 + (h * 4 + g) * 5) (nI c)) (241 + g) x4) (145 + (s * 6 + k)) (nI (n - u))) (189 + (s * 6 + k)) x2) (169 + (s * 4 + g)) x3)) ng nk nh ns kept next := by
  have hb := zp_b hJ
  have s1 := zx_set1 hJ 6 (s * 6 + k) (nI (n - u)) (k := 39) (o := 145 + (s * 6 + k)) (by omega) (show s * 6 + k < 24 by omega) rfl rfl (zO_mk hb.1 (zp_O hJ) (Or.inl fun i hi => zu_ne (by omega)) (fun g hg => Or.inl (zu_ne (by omega))) (fun h hh => Or.inl (zu_ne (by omega))) (Or.inl fun i hi => zu_ne (by omega)) (fun h hh => ⟨Or.inl (zu_ne (by omega)), Or.inl (zu_ne (by omega))⟩) (fun i hi => by
    by_cases c : i = s * 6 + k
    · subst c; exact Or.inr ⟨n - u, by omega, zu_same _ _ _⟩
    · exact Or.inl (zu_ne (by omega))))
  have s2 := zx_set1 s1 9 (s * 6 + k) x2 (k := 42) (o := 189 + (s * 6 + k)) (by omega) (show s * 6 + k < 24 by omega) rfl rfl (zO_mk hb.1 (zp_O s1) (Or.inl fun i hi => zu_ne (by omega)) (fun g hg => Or.inl (zu_ne (by omega))) (fun h hh => Or.inl (zu_ne (by omega))) (Or.inl fun i hi => zu_ne (by omega)) (fun h hh => ⟨Or.inl (zu_ne (by omega)), Or.inl (zu_ne (by omega))⟩) (fun i hi => Or.inl (zu_ne (by omega))))
  have s3 := zx_set1 s2 7 (s * 4 + g) x3 (k := 40) (o := 169 + (s * 4 + g)) (by omega) (show s * 4 + g < 16 by omega) rfl rfl (zO_mk hb.1 (zp_O s2) (Or.inl fun i hi => zu_ne (by omega)) (fun g hg => Or.inl (zu_ne (by omega))) (fun h hh => Or.inl (zu_ne (by omega))) (Or.inl fun i hi => zu_ne (by omega)) (fun h hh => ⟨Or.inl (zu_ne (by omega)), Or.inl (zu_ne (by omega))⟩) (fun i hi => Or.inl (zu_ne (by omega))))
  have s4 := zx_sp s3 (h := h) (g := g) (m := c) hh hg hc
  have s5 := zx_set1 s4 12 g x4 (k := 45) (o := 241 + g) (by omega) (show g < 4 by omega) rfl rfl (zO_mk hb.1 (zp_O s4) (Or.inl fun i hi => zu_ne (by omega)) (fun g hg => Or.inl (zu_ne (by omega))) (fun h hh => Or.inl (zu_ne (by omega))) (Or.inl fun i hi => zu_ne (by omega)) (fun h hh => ⟨Or.inl (zu_ne (by omega)), Or.inl (zu_ne (by omega))⟩) (fun i hi => Or.inl (zu_ne (by omega))))
  simp (disch := omega) only [zu_up, zu_upn, zu_upup] at s5
  rw [zSp_c3 (by omega) (by omega) (by omega), zu_c3 (by omega) (by omega) (by omega)] at s5
  exact s5
/-- the substitute's part -/
theorem zx_buy2 {D : Nat → Int32} {a b c : Nat} {x y z : Int32} (hJ : zJ I A G J (qf_up B 0 (upd (upd (upd D a x) b y) c z)) ng nk nh ns kept next) {h g v : Nat} {x4 : Int32} (hh : h < 6) (hg : g < 4) (ha : 145 ≤ a ∧ a < 213) (hb2 : 145 ≤ b ∧ b < 213) (hc : 145 ≤ c ∧ c < 213) (hv : v < 2147483648) : zJ I (qf_up (qf_up A 36 (zSp 5 (A 36) ((h * 4 + g) * 5) (nI v))) 45 (upd (A 45) g x4)) G J (qf_up B 0 (upd (upd (upd (upd (zSp 5 D (13 + (h * 4 + g) * 5) (nI v)) (241 + g) x4) a x) b y) c z)) ng nk nh ns kept next := by
  have hb := zp_b hJ
  have s4 := zx_sp hJ (h := h) (g := g) (m := v) hh hg hv
  have s5 := zx_set1 s4 12 g x4 (k := 45) (o := 241 + g) (by omega) (show g < 4 by omega) rfl rfl (zO_mk hb.1 (zp_O s4) (Or.inl fun i hi => zu_ne (by omega)) (fun g hg => Or.inl (zu_ne (by omega))) (fun h hh => Or.inl (zu_ne (by omega))) (Or.inl fun i hi => zu_ne (by omega)) (fun h hh => ⟨Or.inl (zu_ne (by omega)), Or.inl (zu_ne (by omega))⟩) (fun i hi => Or.inl (zu_ne (by omega))))
  simp (disch := omega) only [zu_up, zu_upn, zu_upup] at s5
  rw [zSp_c3 (by omega) (by omega) (by omega), zu_c3 (by omega) (by omega) (by omega)] at s5
  exact s5
theorem zx_spend0 (hJ : zJ I A G J B ng nk nh ns kept next) {h g : Nat} (hh : h < 6) (hg : g < 4) : f_X7_spend A (nI h) (nI g) (nI 0) = some A := by
  have hu := (zp_O hJ).2.2.2.1
  have e1 : A 45 g + nI 0 = A 45 g := Int32.add_zero _
  have e2 : upd (A 45) g (A 45 g) = A 45 := by
    funext j
    unfold upd
    by_cases c : j = g
    · rw [if_pos c, c]
    · rw [if_neg c]
  rw [zx_spend7 A hh hg, e1, e2, zSp_0 _ _ _ (fun j hj => ⟨zU (B 0) ((h * 4 + g) * 5 + j), by rw [zr_3 (zp_R hJ) (by omega)]; exact hu _ (by omega), zu_lt _⟩), zu_id, zu_id]
theorem zx_j198 {B1 : Nat → Nat → Int32} {D : Nat → Int32} {h s k g : Nat} {st : Int32} (hh : h < 6) (hs : s < 4) (hk : k < 6) (hg : g < 4) (u c : Int32) (hx : D (145 + (s * 6 + k)) - u = st) (h0 : B1 0 = D) : f_X8_buy_j198 J B1 (nI h) (nI s) (nI k) u (nI g) c = qf_bd (f_X8_couponsOf (qf_up B1 0 (upd (upd (upd D (145 + (s * 6 + k)) st) (189 + (s * 6 + k)) (D (189 + (s * 6 + k)) + u)) (169 + (s * 4 + g)) (D (169 + (s * 4 + g)) + c))) (nI h) (nI g)) fun r => some (r, J, qf_up B1 0 (upd (upd (upd D (145 + (s * 6 + k)) st) (189 + (s * 6 + k)) (D (189 + (s * 6 + k)) + u)) (169 + (s * 4 + g)) (D (169 + (s * 4 + g)) + c))) := by
  unfold f_X8_buy_j198
  subst hx h0
  simp (disch := omega) only [zl_0, zl_1, zl_2, zl_3, zl_4, zl_5, zl_6, zl_7, zl_8, zl_9, zl_10, zl_11, zl_12, zl_13, zl_14, zl_15, zl_16, zl_20, zl_24, zl_26, zl_31, zl_32, zl_38, zl_44, zl_48, zl_50, zl_56, zl_57, zl_59, zl_62, zl_96, zl_97, zl_99, zl_100, zl_122, zl_133, zl_139, zl_145, zl_169, zl_185, zl_189, zl_213, zl_237, zl_241, zl_245, zl_249, zl_250, zl_255, zl_400, zl_401, zl_800, zl_999, zl_1000, zl_2406, zl_2500, zl_2807, zl_9999, zl_99999, zl_100000, zl_1000000000, zl_100000000, zb_let, zb_bd, zb_bd2, zb_bd3, zb_bd4, zb_bd5, zb_ck, zb_ckT, zb_ld, zb_st, not_false_eq_true, nI_add, pk_mul, zn_4, zn_6, Nat.add_assoc, zu_up, zu_upup, zu_ne]
end ZY2
theorem ze_buy : QE_buy zI := by
  intro ad I A G T J B w p1 p2 p3 p4 hI
  obtain ⟨⟨ng, nk, nh, ns, kept, next, hJ⟩, hF⟩ := id hI
  have hb := zp_b hJ
  have hR := zp_R hJ
  rcases zg_house hJ p1 with ⟨x, hx, rfl, e1, e2⟩ | ⟨e1, e2⟩
  case inr => exact zq_ref (-nI 1) hI (by simp (disch := omega) only [zl_0, zl_1, zl_2, zl_3, zl_4, zl_5, zl_6, zl_7, zl_8, zl_9, zl_10, zl_11, zl_12, zl_13, zl_14, zl_15, zl_16, zl_20, zl_24, zl_26, zl_31, zl_32, zl_38, zl_44, zl_48, zl_50, zl_56, zl_57, zl_59, zl_62, zl_96, zl_97, zl_99, zl_100, zl_122, zl_133, zl_139, zl_145, zl_169, zl_185, zl_189, zl_213, zl_237, zl_241, zl_245, zl_249, zl_250, zl_255, zl_400, zl_401, zl_800, zl_999, zl_1000, zl_2406, zl_2500, zl_2807, zl_9999, zl_99999, zl_100000, zl_1000000000, zl_100000000, zb_let, zb_bd, zb_bd2, zb_bd3, zb_bd4, zb_bd5, zb_ck, zb_ckT, zb_ld, zb_st, not_false_eq_true, zc_m1, zc_m2, zc_m3, zc_m4, zc_m5, zc_m6, zc_lt_t, zc_lt_f, zc_le_t, zc_le_f, zc_eq_t, zc_eq_f, nI_add, pk_mul, z0a, Nat.zero_add, Nat.add_zero, Nat.reduceAdd, ↓reduceIte, f_X7_buy, e1]) (by simp (disch := omega) only [zl_0, zl_1, zl_2, zl_3, zl_4, zl_5, zl_6, zl_7, zl_8, zl_9, zl_10, zl_11, zl_12, zl_13, zl_14, zl_15, zl_16, zl_20, zl_24, zl_26, zl_31, zl_32, zl_38, zl_44, zl_48, zl_50, zl_56, zl_57, zl_59, zl_62, zl_96, zl_97, zl_99, zl_100, zl_122, zl_133, zl_139, zl_145, zl_169, zl_185, zl_189, zl_213, zl_237, zl_241, zl_245, zl_249, zl_250, zl_255, zl_400, zl_401, zl_800, zl_999, zl_1000, zl_2406, zl_2500, zl_2807, zl_9999, zl_99999, zl_100000, zl_1000000000, zl_100000000, zb_let, zb_bd, zb_bd2, zb_bd3, zb_bd4, zb_bd5, zb_ck, zb_ckT, zb_ld, zb_st, not_false_eq_true, zc_m1, zc_m2, zc_m3, zc_m4, zc_m5, zc_m6, zc_lt_t, zc_lt_f, zc_le_t, zc_le_f, zc_eq_t, zc_eq_f, nI_add, pk_mul, z0a, Nat.zero_add, Nat.add_zero, Nat.reduceAdd, ↓reduceIte, f_X8_buy, e2])
  rcases zg_shop hJ p2 with ⟨y, hy, rfl, e3, e4⟩ | ⟨e3, e4⟩
  case inr => exact zq_ref (-nI 1) hI (by simp (disch := omega) only [zl_0, zl_1, zl_2, zl_3, zl_4, zl_5, zl_6, zl_7, zl_8, zl_9, zl_10, zl_11, zl_12, zl_13, zl_14, zl_15, zl_16, zl_20, zl_24, zl_26, zl_31, zl_32, zl_38, zl_44, zl_48, zl_50, zl_56, zl_57, zl_59, zl_62, zl_96, zl_97, zl_99, zl_100, zl_122, zl_133, zl_139, zl_145, zl_169, zl_185, zl_189, zl_213, zl_237, zl_241, zl_245, zl_249, zl_250, zl_255, zl_400, zl_401, zl_800, zl_999, zl_1000, zl_2406, zl_2500, zl_2807, zl_9999, zl_99999, zl_100000, zl_1000000000, zl_100000000, zb_let, zb_bd, zb_bd2, zb_bd3, zb_bd4, zb_bd5, zb_ck, zb_ckT, zb_ld, zb_st, not_false_eq_true, zc_m1, zc_m2, zc_m3, zc_m4, zc_m5, zc_m6, zc_lt_t, zc_lt_f, zc_le_t, zc_le_f, zc_eq_t, zc_eq_f, nI_add, pk_mul, z0a, Nat.zero_add, Nat.add_zero, Nat.reduceAdd, ↓reduceIte, f_X7_buy, e1, e3]) (by simp (disch := omega) only [zl_0, zl_1, zl_2, zl_3, zl_4, zl_5, zl_6, zl_7, zl_8, zl_9, zl_10, zl_11, zl_12, zl_13, zl_14, zl_15, zl_16, zl_20, zl_24, zl_26, zl_31, zl_32, zl_38, zl_44, zl_48, zl_50, zl_56, zl_57, zl_59, zl_62, zl_96, zl_97, zl_99, zl_100, zl_122, zl_133, zl_139, zl_145, zl_169, zl_185, zl_189, zl_213, zl_237, zl_241, zl_245, zl_249, zl_250, zl_255, zl_400, zl_401, zl_800, zl_999, zl_1000, zl_2406, zl_2500, zl_2807, zl_9999, zl_99999, zl_100000, zl_1000000000, zl_100000000, zb_let, zb_bd, zb_bd2, zb_bd3, zb_bd4, zb_bd5, zb_ck, zb_ckT, zb_ld, zb_st, not_false_eq_true, zc_m1, zc_m2, zc_m3, zc_m4, zc_m5, zc_m6, zc_lt_t, zc_lt_f, zc_le_t, zc_le_f, zc_eq_t, zc_eq_f, nI_add, pk_mul, z0a, Nat.zero_add, Nat.add_zero, Nat.reduceAdd, ↓reduceIte, f_X8_buy, e2, e4])
  rcases zg_good hJ p3 with ⟨z, hz, rfl, e5, e6⟩ | ⟨e5, e6⟩
  case inr => exact zq_ref (-nI 1) hI (by simp (disch := omega) only [zl_0, zl_1, zl_2, zl_3, zl_4, zl_5, zl_6, zl_7, zl_8, zl_9, zl_10, zl_11, zl_12, zl_13, zl_14, zl_15, zl_16, zl_20, zl_24, zl_26, zl_31, zl_32, zl_38, zl_44, zl_48, zl_50, zl_56, zl_57, zl_59, zl_62, zl_96, zl_97, zl_99, zl_100, zl_122, zl_133, zl_139, zl_145, zl_169, zl_185, zl_189, zl_213, zl_237, zl_241, zl_245, zl_249, zl_250, zl_255, zl_400, zl_401, zl_800, zl_999, zl_1000, zl_2406, zl_2500, zl_2807, zl_9999, zl_99999, zl_100000, zl_1000000000, zl_100000000, zb_let, zb_bd, zb_bd2, zb_bd3, zb_bd4, zb_bd5, zb_ck, zb_ckT, zb_ld, zb_st, not_false_eq_true, zc_m1, zc_m2, zc_m3, zc_m4, zc_m5, zc_m6, zc_lt_t, zc_lt_f, zc_le_t, zc_le_f, zc_eq_t, zc_eq_f, nI_add, pk_mul, z0a, Nat.zero_add, Nat.add_zero, Nat.reduceAdd, ↓reduceIte, f_X7_buy, e1, e3, e5]) (by simp (disch := omega) only [zl_0, zl_1, zl_2, zl_3, zl_4, zl_5, zl_6, zl_7, zl_8, zl_9, zl_10, zl_11, zl_12, zl_13, zl_14, zl_15, zl_16, zl_20, zl_24, zl_26, zl_31, zl_32, zl_38, zl_44, zl_48, zl_50, zl_56, zl_57, zl_59, zl_62, zl_96, zl_97, zl_99, zl_100, zl_122, zl_133, zl_139, zl_145, zl_169, zl_185, zl_189, zl_213, zl_237, zl_241, zl_245, zl_249, zl_250, zl_255, zl_400, zl_401, zl_800, zl_999, zl_1000, zl_2406, zl_2500, zl_2807, zl_9999, zl_99999, zl_100000, zl_1000000000, zl_100000000, zb_let, zb_bd, zb_bd2, zb_bd3, zb_bd4, zb_bd5, zb_ck, zb_ckT, zb_ld, zb_st, not_false_eq_true, zc_m1, zc_m2, zc_m3, zc_m4, zc_m5, zc_m6, zc_lt_t, zc_lt_f, zc_le_t, zc_le_f, zc_eq_t, zc_eq_f, nI_add, pk_mul, z0a, Nat.zero_add, Nat.add_zero, Nat.reduceAdd, ↓reduceIte, f_X8_buy, e2, e4, e6])
  rcases zx_units p4 with ⟨u, u1, u2, rfl, e7, e8⟩ | ⟨e7, e8⟩
  case inr => exact zq_ref (-nI 2) hI (by simp (disch := omega) only [zl_0, zl_1, zl_2, zl_3, zl_4, zl_5, zl_6, zl_7, zl_8, zl_9, zl_10, zl_11, zl_12, zl_13, zl_14, zl_15, zl_16, zl_20, zl_24, zl_26, zl_31, zl_32, zl_38, zl_44, zl_48, zl_50, zl_56, zl_57, zl_59, zl_62, zl_96, zl_97, zl_99, zl_100, zl_122, zl_133, zl_139, zl_145, zl_169, zl_185, zl_189, zl_213, zl_237, zl_241, zl_245, zl_249, zl_250, zl_255, zl_400, zl_401, zl_800, zl_999, zl_1000, zl_2406, zl_2500, zl_2807, zl_9999, zl_99999, zl_100000, zl_1000000000, zl_100000000, zb_let, zb_bd, zb_bd2, zb_bd3, zb_bd4, zb_bd5, zb_ck, zb_ckT, zb_ld, zb_st, not_false_eq_true, zc_m1, zc_m2, zc_m3, zc_m4, zc_m5, zc_m6, zc_lt_t, zc_lt_f, zc_le_t, zc_le_f, zc_eq_t, zc_eq_f, nI_add, pk_mul, z0a, Nat.zero_add, Nat.add_zero, Nat.reduceAdd, ↓reduceIte, f_X7_buy, e1, e3, e5, e7]) (by simp (disch := omega) only [zl_0, zl_1, zl_2, zl_3, zl_4, zl_5, zl_6, zl_7, zl_8, zl_9, zl_10, zl_11, zl_12, zl_13, zl_14, zl_15, zl_16, zl_20, zl_24, zl_26, zl_31, zl_32, zl_38, zl_44, zl_48, zl_50, zl_56, zl_57, zl_59, zl_62, zl_96, zl_97, zl_99, zl_100, zl_122, zl_133, zl_139, zl_145, zl_169, zl_185, zl_189, zl_213, zl_237, zl_241, zl_245, zl_249, zl_250, zl_255, zl_400, zl_401, zl_800, zl_999, zl_1000, zl_2406, zl_2500, zl_2807, zl_9999, zl_99999, zl_100000, zl_1000000000, zl_100000000, zb_let, zb_bd, zb_bd2, zb_bd3, zb_bd4, zb_bd5, zb_ck, zb_ckT, zb_ld, zb_st, not_false_eq_true, zc_m1, zc_m2, zc_m3, zc_m4, zc_m5, zc_m6, zc_lt_t, zc_lt_f, zc_le_t, zc_le_f, zc_eq_t, zc_eq_f, nI_add, pk_mul, z0a, Nat.zero_add, Nat.add_zero, Nat.reduceAdd, ↓reduceIte, f_X8_buy, e2, e4, e6, e8])
  obtain ⟨g, r, hg, r1, r2, v1, v2, v3, v4⟩ := zx_good hJ hz
  obtain ⟨n, n1, n2, n3⟩ := zp_stock hJ (by omega : y < 4) (by omega : z < 6)
  obtain ⟨a1, a2⟩ := zx_why hJ hx hy hz hg r2 u2 v1 v2 v3 v4 n1 n2 n3
  rcases zC_01 (B 0) y with hc | hc
  case inr =>
    have wv : zWhy (zC (B 0) y) n u (zRep (u * r) (zTn (B 0) ((x * 4 + g) * 5)) (zSb B x g)).isSome = nI 1 := by unfold zWhy; rw [hc, if_neg (by decide)]
    rw [wv] at a1 a2
    exact zq_ref (-nI 6) hI (by simp (disch := omega) only [zl_0, zl_1, zl_2, zl_3, zl_4, zl_5, zl_6, zl_7, zl_8, zl_9, zl_10, zl_11, zl_12, zl_13, zl_14, zl_15, zl_16, zl_20, zl_24, zl_26, zl_31, zl_32, zl_38, zl_44, zl_48, zl_50, zl_56, zl_57, zl_59, zl_62, zl_96, zl_97, zl_99, zl_100, zl_122, zl_133, zl_139, zl_145, zl_169, zl_185, zl_189, zl_213, zl_237, zl_241, zl_245, zl_249, zl_250, zl_255, zl_400, zl_401, zl_800, zl_999, zl_1000, zl_2406, zl_2500, zl_2807, zl_9999, zl_99999, zl_100000, zl_1000000000, zl_100000000, zb_let, zb_bd, zb_bd2, zb_bd3, zb_bd4, zb_bd5, zb_ck, zb_ckT, zb_ld, zb_st, not_false_eq_true, zc_m1, zc_m2, zc_m3, zc_m4, zc_m5, zc_m6, zc_lt_t, zc_lt_f, zc_le_t, zc_le_f, zc_eq_t, zc_eq_f, nI_add, pk_mul, z0a, Nat.zero_add, Nat.add_zero, Nat.reduceAdd, ↓reduceIte, f_X7_buy, e1, e3, e5, e7, a1]) (by simp (disch := omega) only [zl_0, zl_1, zl_2, zl_3, zl_4, zl_5, zl_6, zl_7, zl_8, zl_9, zl_10, zl_11, zl_12, zl_13, zl_14, zl_15, zl_16, zl_20, zl_24, zl_26, zl_31, zl_32, zl_38, zl_44, zl_48, zl_50, zl_56, zl_57, zl_59, zl_62, zl_96, zl_97, zl_99, zl_100, zl_122, zl_133, zl_139, zl_145, zl_169, zl_185, zl_189, zl_213, zl_237, zl_241, zl_245, zl_249, zl_250, zl_255, zl_400, zl_401, zl_800, zl_999, zl_1000, zl_2406, zl_2500, zl_2807, zl_9999, zl_99999, zl_100000, zl_1000000000, zl_100000000, zb_let, zb_bd, zb_bd2, zb_bd3, zb_bd4, zb_bd5, zb_ck, zb_ckT, zb_ld, zb_st, not_false_eq_true, zc_m1, zc_m2, zc_m3, zc_m4, zc_m5, zc_m6, zc_lt_t, zc_lt_f, zc_le_t, zc_le_f, zc_eq_t, zc_eq_f, nI_add, pk_mul, z0a, Nat.zero_add, Nat.add_zero, Nat.reduceAdd, ↓reduceIte, f_X8_buy, e2, e4, e6, e8, a2])
  by_cases hun : u ≤ n
  case neg =>
    have wv : zWhy (zC (B 0) y) n u (zRep (u * r) (zTn (B 0) ((x * 4 + g) * 5)) (zSb B x g)).isSome = nI 2 := by unfold zWhy; rw [hc, if_pos rfl, if_neg hun]
    rw [wv] at a1 a2
    exact zq_ref (-nI 6) hI (by simp (disch := omega) only [zl_0, zl_1, zl_2, zl_3, zl_4, zl_5, zl_6, zl_7, zl_8, zl_9, zl_10, zl_11, zl_12, zl_13, zl_14, zl_15, zl_16, zl_20, zl_24, zl_26, zl_31, zl_32, zl_38, zl_44, zl_48, zl_50, zl_56, zl_57, zl_59, zl_62, zl_96, zl_97, zl_99, zl_100, zl_122, zl_133, zl_139, zl_145, zl_169, zl_185, zl_189, zl_213, zl_237, zl_241, zl_245, zl_249, zl_250, zl_255, zl_400, zl_401, zl_800, zl_999, zl_1000, zl_2406, zl_2500, zl_2807, zl_9999, zl_99999, zl_100000, zl_1000000000, zl_100000000, zb_let, zb_bd, zb_bd2, zb_bd3, zb_bd4, zb_bd5, zb_ck, zb_ckT, zb_ld, zb_st, not_false_eq_true, zc_m1, zc_m2, zc_m3, zc_m4, zc_m5, zc_m6, zc_lt_t, zc_lt_f, zc_le_t, zc_le_f, zc_eq_t, zc_eq_f, nI_add, pk_mul, z0a, Nat.zero_add, Nat.add_zero, Nat.reduceAdd, ↓reduceIte, f_X7_buy, e1, e3, e5, e7, a1]) (by simp (disch := omega) only [zl_0, zl_1, zl_2, zl_3, zl_4, zl_5, zl_6, zl_7, zl_8, zl_9, zl_10, zl_11, zl_12, zl_13, zl_14, zl_15, zl_16, zl_20, zl_24, zl_26, zl_31, zl_32, zl_38, zl_44, zl_48, zl_50, zl_56, zl_57, zl_59, zl_62, zl_96, zl_97, zl_99, zl_100, zl_122, zl_133, zl_139, zl_145, zl_169, zl_185, zl_189, zl_213, zl_237, zl_241, zl_245, zl_249, zl_250, zl_255, zl_400, zl_401, zl_800, zl_999, zl_1000, zl_2406, zl_2500, zl_2807, zl_9999, zl_99999, zl_100000, zl_1000000000, zl_100000000, zb_let, zb_bd, zb_bd2, zb_bd3, zb_bd4, zb_bd5, zb_ck, zb_ckT, zb_ld, zb_st, not_false_eq_true, zc_m1, zc_m2, zc_m3, zc_m4, zc_m5, zc_m6, zc_lt_t, zc_lt_f, zc_le_t, zc_le_f, zc_eq_t, zc_eq_f, nI_add, pk_mul, z0a, Nat.zero_add, Nat.add_zero, Nat.reduceAdd, ↓reduceIte, f_X8_buy, e2, e4, e6, e8, a2])
  cases hrep : zRep (u * r) (zTn (B 0) ((x * 4 + g) * 5)) (zSb B x g) with
  | none =>
    have wv : zWhy (zC (B 0) y) n u (zRep (u * r) (zTn (B 0) ((x * 4 + g) * 5)) (zSb B x g)).isSome = nI 3 := by unfold zWhy; rw [hc, if_pos rfl, if_pos hun, hrep]; rfl
    rw [wv] at a1 a2
    exact zq_ref (-nI 5) hI (by simp (disch := omega) only [zl_0, zl_1, zl_2, zl_3, zl_4, zl_5, zl_6, zl_7, zl_8, zl_9, zl_10, zl_11, zl_12, zl_13, zl_14, zl_15, zl_16, zl_20, zl_24, zl_26, zl_31, zl_32, zl_38, zl_44, zl_48, zl_50, zl_56, zl_57, zl_59, zl_62, zl_96, zl_97, zl_99, zl_100, zl_122, zl_133, zl_139, zl_145, zl_169, zl_185, zl_189, zl_213, zl_237, zl_241, zl_245, zl_249, zl_250, zl_255, zl_400, zl_401, zl_800, zl_999, zl_1000, zl_2406, zl_2500, zl_2807, zl_9999, zl_99999, zl_100000, zl_1000000000, zl_100000000, zb_let, zb_bd, zb_bd2, zb_bd3, zb_bd4, zb_bd5, zb_ck, zb_ckT, zb_ld, zb_st, not_false_eq_true, zc_m1, zc_m2, zc_m3, zc_m4, zc_m5, zc_m6, zc_lt_t, zc_lt_f, zc_le_t, zc_le_f, zc_eq_t, zc_eq_f, nI_add, pk_mul, z0a, Nat.zero_add, Nat.add_zero, Nat.reduceAdd, ↓reduceIte, f_X7_buy, e1, e3, e5, e7, a1]) (by simp (disch := omega) only [zl_0, zl_1, zl_2, zl_3, zl_4, zl_5, zl_6, zl_7, zl_8, zl_9, zl_10, zl_11, zl_12, zl_13, zl_14, zl_15, zl_16, zl_20, zl_24, zl_26, zl_31, zl_32, zl_38, zl_44, zl_48, zl_50, zl_56, zl_57, zl_59, zl_62, zl_96, zl_97, zl_99, zl_100, zl_122, zl_133, zl_139, zl_145, zl_169, zl_185, zl_189, zl_213, zl_237, zl_241, zl_245, zl_249, zl_250, zl_255, zl_400, zl_401, zl_800, zl_999, zl_1000, zl_2406, zl_2500, zl_2807, zl_9999, zl_99999, zl_100000, zl_1000000000, zl_100000000, zb_let, zb_bd, zb_bd2, zb_bd3, zb_bd4, zb_bd5, zb_ck, zb_ckT, zb_ld, zb_st, not_false_eq_true, zc_m1, zc_m2, zc_m3, zc_m4, zc_m5, zc_m6, zc_lt_t, zc_lt_f, zc_le_t, zc_le_f, zc_eq_t, zc_eq_f, nI_add, pk_mul, z0a, Nat.zero_add, Nat.add_zero, Nat.reduceAdd, ↓reduceIte, f_X8_buy, e2, e4, e6, e8, a2])
  | some v =>
    have wv : zWhy (zC (B 0) y) n u (zRep (u * r) (zTn (B 0) ((x * 4 + g) * 5)) (zSb B x g)).isSome = nI 0 := by unfold zWhy; rw [hc, if_pos rfl, if_pos hun, hrep]; rfl
    rw [wv] at a1 a2
    obtain ⟨I', G', J', M', kk, mm, b1, b2, b3, b4, b5, b6, b7, _⟩ := zx_beg hJ
    have z0 : qf_up B 2 M' 0 = B 0 := zu_upn (by decide)
    have z3 : qf_up B 2 M' 3 = B 3 := zu_upn (by decide)
    have zsb : zSb (qf_up B 2 M') x g = zSb B x g := by unfold zSb; rw [z0, z3]
    obtain ⟨_, p8, _⟩ := zx_pay b3 hx hz hg r2 u2 v1 v2 (by rw [z3]; exact v3) (by rw [z3]; exact v4)
    rw [z0, zsb, hrep] at p8
    obtain ⟨_, _, p9⟩ := zx_pay hJ hx hz hg r2 u2 v1 v2 v3 v4
    have p9 := p9 v hrep
    have p8 : f_X8_replaced (qf_up B 2 M') (nI x) (nI z) (nI u) = some (nI v) := p8
    have h7 := zx_h7 hJ (by omega : x < 6) (by omega : g < 4)
    have h8 := zx_h8 b3 (by omega : x < 6) (by omega : g < 4)
    rw [z0] at h8
    have ht := zx_hle hJ (by omega : x < 6) (by omega : g < 4)
    have hcost : u * r ≤ 9999 * 20 := Nat.mul_le_mul u2 r2
    have hvb : v ≤ 26730 := by
      unfold zRep at hrep
      by_cases h1 : u * r ≤ zTn (B 0) ((x * 4 + g) * 5)
      · rw [if_pos h1] at hrep
        have := Option.some.inj hrep
        omega
      · rw [if_neg h1] at hrep
        cases hsb : zSb B x g with
        | none => rw [hsb] at hrep; cases hrep
        | some p =>
          obtain ⟨ts, f⟩ := p
          have hf := zSb_f hJ (by omega : x < 6) hg ts f hsb
          rw [hsb] at hrep
          have e : (if (u * r - zTn (B 0) ((x * 4 + g) * 5)) * f ≤ ts then some ((u * r - zTn (B 0) ((x * 4 + g) * 5)) * f) else none) = some v := hrep
          by_cases h2 : (u * r - zTn (B 0) ((x * 4 + g) * 5)) * f ≤ ts
          · rw [if_pos h2] at e
            have := Option.some.inj e
            omega
          · rw [if_neg h2] at e; cases e
    have hv0 : zSb B x g = none → v = 0 := by
      intro hsb
      rw [hsb] at hrep
      unfold zRep at hrep
      by_cases h1 : u * r ≤ zTn (B 0) ((x * 4 + g) * 5)
      · rw [if_pos h1] at hrep
        exact (Option.some.inj hrep).symm
      · rw [if_neg h1] at hrep; cases hrep
    generalize zTn (B 0) ((x * 4 + g) * 5) = t at h7 h8 ht
    obtain ⟨own, hown⟩ : ∃ own, own = (if u * r < t then u * r else t) := ⟨_, rfl⟩
    have ownb : own ≤ 26730 := by rw [hown]; split <;> omega
    have hl : f_X8_lesser (nI (u * r)) (nI t) = some (nI own) := by rw [zx_lesser, zmin_comm, zmin_n (by omega) (by omega), hown]
    have hl7 : (if nI (u * r) < nI t then nI (u * r) else nI t) = nI own := by rw [zmin_n (by omega) (by omega), hown]
    have s5 := zx_buy1 b3 (h := x) (g := g) (s := y) (k := z) (n := n) (u := u) (c := own) (x2 := B 0 (189 + (y * 6 + z)) + nI u) (x3 := B 0 (169 + (y * 4 + g)) + nI (u * r)) (x4 := B 0 (241 + g) + nI own) (by omega) (by omega) (by omega) (by omega) n1 (by omega)
    rw [z0] at s5
    have kst : nI n - nI u = nI (n - u) := pk_sub hun
    have r12 : A 45 g = B 0 (241 + g) := zr_12 hR (by omega)
    have rfs : f_X7_fromSubstitute (qf_up (qf_up (qf_up A 39 (upd (A 39) (y * 6 + z) (nI (n - u)))) 42 (upd (A 42) (y * 6 + z) (B 0 (189 + (y * 6 + z)) + nI u))) 40 (upd (A 40) (y * 4 + g) (B 0 (169 + (y * 4 + g)) + nI (u * r)))) (nI x) (nI z) (nI u) = some (nI v) := by
      rw [← p9]
      unfold f_X7_fromSubstitute f_X7_holding
      simp (disch := omega) only [zu_upn]
    have rh : f_X7_holding (qf_up (qf_up (qf_up A 39 (upd (A 39) (y * 6 + z) (nI (n - u)))) 42 (upd (A 42) (y * 6 + z) (B 0 (189 + (y * 6 + z)) + nI u))) 40 (upd (A 40) (y * 4 + g) (B 0 (169 + (y * 4 + g)) + nI (u * r)))) (nI x) (nI g) = some (nI t) := by
      rw [← h7]
      unfold f_X7_holding
      simp (disch := omega) only [zu_upn]
    have rs1 := zx_spend7 (qf_up (qf_up (qf_up A 39 (upd (A 39) (y * 6 + z) (nI (n - u)))) 42 (upd (A 42) (y * 6 + z) (B 0 (189 + (y * 6 + z)) + nI u))) 40 (upd (A 40) (y * 4 + g) (B 0 (169 + (y * 4 + g)) + nI (u * r)))) (by omega : x < 6) (by omega : g < 4) (nI own)
    simp (disch := omega) only [zu_upn, r12] at rs1
    have t8 := zx_take8 (qf_up B 2 M') (by omega : x < 6) (by omega : g < 4) (nI own)
    rw [z0] at t8
    obtain ⟨E, hE⟩ : ∃ E, E = upd (zSp 5 (B 0) (13 + (x * 4 + g) * 5) (nI own)) (241 + g) (B 0 (241 + g) + nI own) := ⟨_, rfl⟩
    have E1 : E (145 + (y * 6 + z)) = nI n := by rw [hE, zu_ne (by omega), zSp_out _ _ _ _ _ (by omega), n2]
    have E2 : E (189 + (y * 6 + z)) = B 0 (189 + (y * 6 + z)) := by rw [hE, zu_ne (by omega), zSp_out _ _ _ _ _ (by omega)]
    have E3 : E (169 + (y * 4 + g)) = B 0 (169 + (y * 4 + g)) := by rw [hE, zu_ne (by omega), zSp_out _ _ _ _ _ (by omega)]
    rw [← hE] at s5
    by_cases hvz : v = 0
    · subst hvz
      have f7 := zx_h7 s5 (by omega : x < 6) (by omega : g < 4)
      have f8 := zx_h8 s5 (by omega : x < 6) (by omega : g < 4)
      have j8 := zx_j198 (J := J') (B1 := qf_up (qf_up B 2 M') 0 E) (by omega : x < 6) (by omega : y < 4) (by omega : z < 6) (by omega : g < 4) (nI u) (nI (u * r)) (st := nI (n - u)) (by rw [E1, kst]) (zu_up _ _ _)
      rw [E2, E3, zu_upup, f8, zb_bd] at j8
      rw [zu_up] at f7 j8
      have m8 : f_X8_buy J B (nI x) (nI y) (nI z) (nI u) = some (nI (zTn (upd (upd (upd E (145 + (y * 6 + z)) (nI (n - u))) (189 + (y * 6 + z)) (B 0 (189 + (y * 6 + z)) + nI u)) (169 + (y * 4 + g)) (B 0 (169 + (y * 4 + g)) + nI (u * r))) ((x * 4 + g) * 5)), J', qf_up (qf_up B 2 M') 0 (upd (upd (upd E (145 + (y * 6 + z)) (nI (n - u))) (189 + (y * 6 + z)) (B 0 (189 + (y * 6 + z)) + nI u)) (169 + (y * 4 + g)) (B 0 (169 + (y * 4 + g)) + nI (u * r)))) := by
        simp (disch := omega) only [zl_0, zl_1, zl_2, zl_3, zl_4, zl_5, zl_6, zl_7, zl_8, zl_9, zl_10, zl_11, zl_12, zl_13, zl_14, zl_15, zl_16, zl_20, zl_24, zl_26, zl_31, zl_32, zl_38, zl_44, zl_48, zl_50, zl_56, zl_57, zl_59, zl_62, zl_96, zl_97, zl_99, zl_100, zl_122, zl_133, zl_139, zl_145, zl_169, zl_185, zl_189, zl_213, zl_237, zl_241, zl_245, zl_249, zl_250, zl_255, zl_400, zl_401, zl_800, zl_999, zl_1000, zl_2406, zl_2500, zl_2807, zl_9999, zl_99999, zl_100000, zl_1000000000, zl_100000000, zb_let, zb_bd, zb_bd2, zb_bd3, zb_bd4, zb_bd5, zb_ck, zb_ckT, zb_ld, zb_st, not_false_eq_true, zc_m1, zc_m2, zc_m3, zc_m4, zc_m5, zc_m6, zc_lt_t, zc_lt_f, zc_le_t, zc_le_f, zc_eq_t, zc_eq_f, nI_add, pk_mul, z0a, Nat.zero_add, Nat.add_zero, Nat.reduceAdd, ↓reduceIte, f_X8_buy, e2, e4, e6, e8, a2, b2, z3, v3, v4, p8, h8, hl, t8, zu_up, zu_upn, zu_upup, zSp_out, ← hE, j8]
      rcases zx_sb hJ x hg with ⟨q1, q2, q3⟩ | ⟨s, f, q0, qf1, qf2, q1, _, q2, _, _⟩
      · refine zq_chg _ s5 hF b4 b5 rfl b6 b7 rfl ?_ m8
        simp (disch := omega) only [zl_0, zl_1, zl_2, zl_3, zl_4, zl_5, zl_6, zl_7, zl_8, zl_9, zl_10, zl_11, zl_12, zl_13, zl_14, zl_15, zl_16, zl_20, zl_24, zl_26, zl_31, zl_32, zl_38, zl_44, zl_48, zl_50, zl_56, zl_57, zl_59, zl_62, zl_96, zl_97, zl_99, zl_100, zl_122, zl_133, zl_139, zl_145, zl_169, zl_185, zl_189, zl_213, zl_237, zl_241, zl_245, zl_249, zl_250, zl_255, zl_400, zl_401, zl_800, zl_999, zl_1000, zl_2406, zl_2500, zl_2807, zl_9999, zl_99999, zl_100000, zl_1000000000, zl_100000000, zb_let, zb_bd, zb_bd2, zb_bd3, zb_bd4, zb_bd5, zb_ck, zb_ckT, zb_ld, zb_st, not_false_eq_true, zc_m1, zc_m2, zc_m3, zc_m4, zc_m5, zc_m6, zc_lt_t, zc_lt_f, zc_le_t, zc_le_f, zc_eq_t, zc_eq_f, nI_add, pk_mul, z0a, Nat.zero_add, Nat.add_zero, Nat.reduceAdd, ↓reduceIte, f_X7_buy, f_X7_pay, f_X5_shelf, f_X5_entry, e1, e3, e5, e7, a1, b1, n3, kst, zu_up, zu_upn, v1, v2, zr_9 hR, zr_7 hR, q2, rfs, rh, hl7, rs1, f7]
      · have rs2 := zx_spend0 s5 (h := x) (g := s) (by omega) (by omega)
        refine zq_chg _ s5 hF b4 b5 rfl b6 b7 rfl ?_ m8
        simp (disch := omega) only [zl_0, zl_1, zl_2, zl_3, zl_4, zl_5, zl_6, zl_7, zl_8, zl_9, zl_10, zl_11, zl_12, zl_13, zl_14, zl_15, zl_16, zl_20, zl_24, zl_26, zl_31, zl_32, zl_38, zl_44, zl_48, zl_50, zl_56, zl_57, zl_59, zl_62, zl_96, zl_97, zl_99, zl_100, zl_122, zl_133, zl_139, zl_145, zl_169, zl_185, zl_189, zl_213, zl_237, zl_241, zl_245, zl_249, zl_250, zl_255, zl_400, zl_401, zl_800, zl_999, zl_1000, zl_2406, zl_2500, zl_2807, zl_9999, zl_99999, zl_100000, zl_1000000000, zl_100000000, zb_let, zb_bd, zb_bd2, zb_bd3, zb_bd4, zb_bd5, zb_ck, zb_ckT, zb_ld, zb_st, not_false_eq_true, zc_m1, zc_m2, zc_m3, zc_m4, zc_m5, zc_m6, zc_lt_t, zc_lt_f, zc_le_t, zc_le_f, zc_eq_t, zc_eq_f, nI_add, pk_mul, z0a, Nat.zero_add, Nat.add_zero, Nat.reduceAdd, ↓reduceIte, f_X7_buy, f_X7_pay, f_X5_shelf, f_X5_entry, e1, e3, e5, e7, a1, b1, n3, kst, zu_up, zu_upn, v1, v2, zr_9 hR, zr_7 hR, q2, rfs, rh, hl7, rs1, rs2, f7]
    · rcases zx_sb hJ x hg with ⟨q1, q2, q3⟩ | ⟨s, f, q0, qf1, qf2, q1, _, q2, _, _⟩
      · exact absurd (hv0 q3) hvz
      · have E4 : upd (A 45) g (B 0 (241 + g) + nI own) s = E (241 + s) := by
          rw [hE]
          by_cases c : s = g
          · rw [c, zu_same, zu_same]
          · rw [zu_ne c, zu_ne (by omega), zSp_out _ _ _ _ _ (by omega), zr_12 hR (by omega)]
        have z7 := zx_buy2 (x4 := E (241 + s) + nI v) s5 (h := x) (g := s) (v := v) (by omega) (by omega) (by omega) (by omega) (by omega) (by omega)
        simp (disch := omega) only [zu_up, zu_upn, zu_upup] at z7
        have f7 := zx_h7 z7 (by omega : x < 6) (by omega : g < 4)
        have f8 := zx_h8 z7 (by omega : x < 6) (by omega : g < 4)
        have j8 := zx_j198 (J := J') (B1 := qf_up (qf_up B 2 M') 0 (upd (zSp 5 E (13 + (x * 4 + s) * 5) (nI v)) (241 + s) (E (241 + s) + nI v))) (by omega : x < 6) (by omega : y < 4) (by omega : z < 6) (by omega : g < 4) (nI u) (nI (u * r)) (st := nI (n - u)) (by rw [zu_ne (by omega), zSp_out _ _ _ _ _ (by omega), E1, kst]) (zu_up _ _ _)
        have E5 : (upd (zSp 5 E (13 + (x * 4 + s) * 5) (nI v)) (241 + s) (E (241 + s) + nI v)) (189 + (y * 6 + z)) = B 0 (189 + (y * 6 + z)) := by rw [zu_ne (by omega), zSp_out _ _ _ _ _ (by omega), E2]
        have E6 : (upd (zSp 5 E (13 + (x * 4 + s) * 5) (nI v)) (241 + s) (E (241 + s) + nI v)) (169 + (y * 4 + g)) = B 0 (169 + (y * 4 + g)) := by rw [zu_ne (by omega), zSp_out _ _ _ _ _ (by omega), E3]
        rw [E5, E6, zu_upup, f8, zb_bd] at j8
        simp only [zu_up] at f7 j8
        have t9 := zx_take8 (qf_up (qf_up B 2 M') 0 E) (by omega : x < 6) (by omega : s < 4) (nI v)
        rw [zu_up, zu_upup] at t9
        have rs2 := zx_spend7 (qf_up (qf_up (qf_up (qf_up (qf_up A 39 (upd (A 39) (y * 6 + z) (nI (n - u)))) 42 (upd (A 42) (y * 6 + z) (B 0 (189 + (y * 6 + z)) + nI u))) 40 (upd (A 40) (y * 4 + g) (B 0 (169 + (y * 4 + g)) + nI (u * r)))) 36 (zSp 5 (A 36) ((x * 4 + g) * 5) (nI own))) 45 (upd (A 45) g (B 0 (241 + g) + nI own))) (by omega : x < 6) (by omega : s < 4) (nI v)
        have rs3 : (qf_up (qf_up (qf_up (qf_up (qf_up A 39 (upd (A 39) (y * 6 + z) (nI (n - u)))) 42 (upd (A 42) (y * 6 + z) (B 0 (189 + (y * 6 + z)) + nI u))) 40 (upd (A 40) (y * 4 + g) (B 0 (169 + (y * 4 + g)) + nI (u * r)))) 36 (zSp 5 (A 36) ((x * 4 + g) * 5) (nI own))) 45 (upd (A 45) g (B 0 (241 + g) + nI own))) 45 s = E (241 + s) := by rw [zu_up, E4]
        rw [rs3] at rs2
        refine zq_chg (nI (zTn (upd (upd (upd (upd (zSp 5 E (13 + (x * 4 + s) * 5) (nI v)) (241 + s) (E (241 + s) + nI v)) (145 + (y * 6 + z)) (nI (n - u))) (189 + (y * 6 + z)) (B 0 (189 + (y * 6 + z)) + nI u)) (169 + (y * 4 + g)) (B 0 (169 + (y * 4 + g)) + nI (u * r))) ((x * 4 + g) * 5))) z7 hF b4 b5 rfl b6 b7 rfl ?_ ?_
        · simp (disch := omega) only [zl_0, zl_1, zl_2, zl_3, zl_4, zl_5, zl_6, zl_7, zl_8, zl_9, zl_10, zl_11, zl_12, zl_13, zl_14, zl_15, zl_16, zl_20, zl_24, zl_26, zl_31, zl_32, zl_38, zl_44, zl_48, zl_50, zl_56, zl_57, zl_59, zl_62, zl_96, zl_97, zl_99, zl_100, zl_122, zl_133, zl_139, zl_145, zl_169, zl_185, zl_189, zl_213, zl_237, zl_241, zl_245, zl_249, zl_250, zl_255, zl_400, zl_401, zl_800, zl_999, zl_1000, zl_2406, zl_2500, zl_2807, zl_9999, zl_99999, zl_100000, zl_1000000000, zl_100000000, zb_let, zb_bd, zb_bd2, zb_bd3, zb_bd4, zb_bd5, zb_ck, zb_ckT, zb_ld, zb_st, not_false_eq_true, zc_m1, zc_m2, zc_m3, zc_m4, zc_m5, zc_m6, zc_lt_t, zc_lt_f, zc_le_t, zc_le_f, zc_eq_t, zc_eq_f, nI_add, pk_mul, z0a, Nat.zero_add, Nat.add_zero, Nat.reduceAdd, ↓reduceIte, f_X7_buy, f_X7_pay, f_X5_shelf, f_X5_entry, e1, e3, e5, e7, a1, b1, n3, kst, zu_up, zu_upn, v1, v2, zr_9 hR, zr_7 hR, q2, rfs, rh, hl7, rs1, rs2, E4, f7]
        · simp (disch := omega) only [zl_0, zl_1, zl_2, zl_3, zl_4, zl_5, zl_6, zl_7, zl_8, zl_9, zl_10, zl_11, zl_12, zl_13, zl_14, zl_15, zl_16, zl_20, zl_24, zl_26, zl_31, zl_32, zl_38, zl_44, zl_48, zl_50, zl_56, zl_57, zl_59, zl_62, zl_96, zl_97, zl_99, zl_100, zl_122, zl_133, zl_139, zl_145, zl_169, zl_185, zl_189, zl_213, zl_237, zl_241, zl_245, zl_249, zl_250, zl_255, zl_400, zl_401, zl_800, zl_999, zl_1000, zl_2406, zl_2500, zl_2807, zl_9999, zl_99999, zl_100000, zl_1000000000, zl_100000000, zb_let, zb_bd, zb_bd2, zb_bd3, zb_bd4, zb_bd5, zb_ck, zb_ckT, zb_ld, zb_st, not_false_eq_true, zc_m1, zc_m2, zc_m3, zc_m4, zc_m5, zc_m6, zc_lt_t, zc_lt_f, zc_le_t, zc_le_f, zc_eq_t, zc_eq_f, nI_add, pk_mul, z0a, Nat.zero_add, Nat.add_zero, Nat.reduceAdd, ↓reduceIte, f_X8_buy, e2, e4, e6, e8, a2, b2, z3, v3, v4, q1, p8, h8, hl, t8, t9, zu_up, zu_upn, zu_upup, zSp_out, ← hE, j8]
