/-! spending and moving coupons -/
def zSp : Nat → (Nat → Int32) → Nat → Int32 → (Nat → Int32)
  | 0, f, _, _ => f
  | n + 1, f, o, c => zSp n (upd f o (f o - (if f o < c then f o else c))) (o + 1) (c - (if f o < c then f o else c))
def zMv : Nat → (Nat → Int32) → Nat → Nat → Int32 → (Nat → Int32)
  | 0, f, _, _, _ => f
  | n + 1, f, o, q, c => zMv n (upd (upd f o (f o - (if f o < c then f o else c))) q (upd f o (f o - (if f o < c then f o else c)) q + (if f o < c then f o else c))) (o + 1) (q + 1) (c - (if f o < c then f o else c))
theorem zSp_out : ∀ (n : Nat) (f : Nat → Int32) (o : Nat) (c : Int32) (j : Nat), (j < o ∨ o + n ≤ j) → zSp n f o c j = f j := by
  intro n
  induction n with
  | zero => intro f o c j _; rfl
  | succ n ih =>
    intro f o c j hj
    unfold zSp
    rw [ih _ _ _ _ (by omega), zu_ne (by omega)]
theorem zMv_out : ∀ (n : Nat) (f : Nat → Int32) (o q : Nat) (c : Int32) (j : Nat), (j < o ∨ o + n ≤ j) → (j < q ∨ q + n ≤ j) → zMv n f o q c j = f j := by
  intro n
  induction n with
  | zero => intro f o q c j _ _; rfl
  | succ n ih =>
    intro f o q c j hj hq
    unfold zMv
    rw [ih _ _ _ _ _ (by omega) (by omega), zu_ne (by omega), zu_ne (by omega)]
theorem zSp_rel : ∀ (n b : Nat) (f D : Nat → Int32) (c : Int32), (∀ i, i < 120 → f i = D (13 + i)) → b + n ≤ 120 → ∀ i, i < 120 → zSp n f b c i = zSp n D (13 + b) c (13 + i) := by
  intro n
  induction n with
  | zero => intro b f D c h _ i hi; exact h i hi
  | succ n ih =>
    intro b f D c h hb i hi
    unfold zSp
    rw [h b (by omega)]
    refine ih (b + 1) _ _ _ (fun j hj => ?_) (by omega) i hi
    by_cases c2 : j = b
    · rw [c2, zu_same, zu_same]
    · rw [zu_ne c2, zu_ne (by omega), h j hj]
theorem zMv_rel : ∀ (n b q : Nat) (f D : Nat → Int32) (c : Int32), (∀ i, i < 120 → f i = D (13 + i)) → b + n ≤ 120 → q + n ≤ 120 → ∀ i, i < 120 → zMv n f b q c i = zMv n D (13 + b) (13 + q) c (13 + i) := by
  intro n
  induction n with
  | zero => intro b q f D c h _ _ i hi; exact h i hi
  | succ n ih =>
    intro b q f D c h hb hq i hi
    unfold zMv
    have h2 : ∀ j, j < 120 → upd f b (f b - (if f b < c then f b else c)) j = upd D (13 + b) (D (13 + b) - (if D (13 + b) < c then D (13 + b) else c)) (13 + j) := by
      intro j hj
      rw [h b (by omega)]
      by_cases c2 : j = b
      · rw [c2, zu_same, zu_same]
      · rw [zu_ne c2, zu_ne (by omega), h j hj]
    rw [h2 q (by omega), h b (by omega)]
    refine ih (b + 1) (q + 1) _ _ _ (fun j hj => ?_) (by omega) (by omega) i hi
    by_cases c2 : j = q
    · rw [c2, zu_same, zu_same]
    · rw [zu_ne c2]
      refine Eq.trans ?_ (zu_ne (by omega)).symm
      have h3 := h2 j hj
      rw [h b (by omega)] at h3
      exact h3
theorem zSp_n : ∀ (n : Nat) (f : Nat → Int32) (o m : Nat) (u : Nat → Nat), (∀ j, j < n → f (o + j) = nI (u j) ∧ u j < 2147483648) → m < 2147483648 → ∀ j, j < n → ∃ v, v ≤ u j ∧ zSp n f o (nI m) (o + j) = nI v := by
  intro n
  induction n with
  | zero => intro f o m u _ _ j hj; omega
  | succ n ih =>
    intro f o m u hf hm j hj
    obtain ⟨f0, f1⟩ := hf 0 (by omega)
    rw [Nat.add_zero] at f0
    have hmin : (if f o < nI m then f o else nI m) = nI (if u 0 < m then u 0 else m) := by rw [f0, zmin_n f1 hm]
    have hle : (if u 0 < m then u 0 else m) ≤ u 0 ∧ (if u 0 < m then u 0 else m) ≤ m := by split <;> omega
    unfold zSp
    rw [hmin]
    generalize (if u 0 < m then u 0 else m) = x at hle
    rw [f0, pk_sub hle.1, pk_sub hle.2]
    cases j with
    | zero => exact ⟨u 0 - x, by omega, by rw [zSp_out _ _ _ _ _ (Or.inl (by omega)), Nat.add_zero, zu_same]⟩
    | succ j =>
      obtain ⟨v, v1, v2⟩ := ih (upd f o (nI (u 0 - x))) (o + 1) (m - x) (fun j => u (j + 1)) (fun i hi => by
        obtain ⟨a1, a2⟩ := hf (i + 1) (by omega)
        exact ⟨by rw [zu_ne (by omega), show o + 1 + i = o + (i + 1) by omega, a1], a2⟩) (by omega) j (by omega)
      exact ⟨v, v1, by rw [show o + (j + 1) = o + 1 + j by omega]; exact v2⟩
theorem zSp_0 : ∀ (n : Nat) (f : Nat → Int32) (o : Nat), (∀ j, j < n → ∃ u, f (o + j) = nI u ∧ u < 2147483648) → zSp n f o (nI 0) = f := by
  intro n
  induction n with
  | zero => intro f o _; rfl
  | succ n ih =>
    intro f o hf
    obtain ⟨u, f0, f1⟩ := hf 0 (by omega)
    rw [Nat.add_zero] at f0
    unfold zSp
    have hmin : (if f o < nI 0 then f o else nI 0) = nI 0 := by rw [f0, if_neg (nI_nlt (by omega) (by omega))]
    have e1 : f o - nI 0 = f o := Int32.sub_zero _
    have e2 : nI 0 - nI 0 = nI 0 := by decide
    have e3 : upd f o (f o) = f := by
      funext j
      unfold upd
      by_cases c : j = o
      · rw [if_pos c, c]
      · rw [if_neg c]
    rw [hmin, e1, e2, e3]
    exact ih f (o + 1) (fun j hj => by
      obtain ⟨u, a1, a2⟩ := hf (j + 1) (by omega)
      exact ⟨u, by rw [show o + 1 + j = o + (j + 1) by omega, a1], a2⟩)
theorem zMv_n : ∀ (n : Nat) (f : Nat → Int32) (o q m : Nat) (u w : Nat → Nat), (o + n ≤ q ∨ q + n ≤ o) → (∀ j, j < n → f (o + j) = nI (u j) ∧ u j ≤ 5346 ∧ f (q + j) = nI (w j) ∧ w j ≤ 5346) → m < 2147483648 → ∃ x : Nat → Nat, ∀ j, j < n → x j ≤ u j ∧ zMv n f o q (nI m) (o + j) = nI (u j - x j) ∧ zMv n f o q (nI m) (q + j) = nI (w j + x j) := by
  intro n
  induction n with
  | zero => intro f o q m u w _ _ _; exact ⟨fun _ => 0, fun j hj => by omega⟩
  | succ n ih =>
    intro f o q m u w hd hf hm
    obtain ⟨f0, f1, g0, g1⟩ := hf 0 (by omega)
    rw [Nat.add_zero] at f0 g0
    have hmin : (if f o < nI m then f o else nI m) = nI (if u 0 < m then u 0 else m) := by rw [f0, zmin_n (by omega) hm]
    have hle : (if u 0 < m then u 0 else m) ≤ u 0 ∧ (if u 0 < m then u 0 else m) ≤ m := by split <;> omega
    unfold zMv
    rw [hmin]
    generalize (if u 0 < m then u 0 else m) = x at hle
    rw [f0, pk_sub hle.1, pk_sub hle.2, zu_ne (by omega : q ≠ o), g0, nI_add]
    obtain ⟨y, hy⟩ := ih (upd (upd f o (nI (u 0 - x))) q (nI (w 0 + x))) (o + 1) (q + 1) (m - x) (fun j => u (j + 1)) (fun j => w (j + 1)) (by omega) (fun i hi => by
      obtain ⟨a1, a2, a3, a4⟩ := hf (i + 1) (by omega)
      exact ⟨by rw [zu_ne (by omega), zu_ne (by omega), show o + 1 + i = o + (i + 1) by omega, a1], a2, by rw [zu_ne (by omega), zu_ne (by omega), show q + 1 + i = q + (i + 1) by omega, a3], a4⟩) (by omega)
    refine ⟨fun j => if j = 0 then x else y (j - 1), fun j hj => ?_⟩
    cases j with
    | zero =>
      refine ⟨hle.1, ?_, ?_⟩
      · rw [zMv_out _ _ _ _ _ _ (Or.inl (by omega)) (by omega), Nat.add_zero, zu_ne (by omega), zu_same]
        rfl
      · rw [zMv_out _ _ _ _ _ _ (by omega) (Or.inl (by omega)), Nat.add_zero, zu_same]
        rfl
    | succ j =>
      obtain ⟨y1, y2, y3⟩ := hy j (by omega)
      show (if j + 1 = 0 then x else y (j + 1 - 1)) ≤ _ ∧ _ = nI (u (j + 1) - (if j + 1 = 0 then x else y (j + 1 - 1))) ∧ _ = nI (w (j + 1) + (if j + 1 = 0 then x else y (j + 1 - 1)))
      rw [if_neg (by omega), Nat.add_sub_cancel]
      exact ⟨y1, by rw [show o + (j + 1) = o + 1 + j by omega]; exact y2, by rw [show q + (j + 1) = q + 1 + j by omega]; exact y3⟩
theorem zu_lt (x : Int32) : x.toNatClampNeg < 2147483648 := by
  have := Int32.toInt_lt x
  have h : x.toNatClampNeg = x.toInt.toNat := rfl
  omega
theorem zR_row {A : Nat → Nat → Int32} {D D' : Nat → Int32} (h : zR (fun a => A (33 + a)) D) (a : Nat) (f : Nat → Int32) {k : Nat} (ha : a < 14) (hk : k = 33 + a) (hf : ∀ i, i < zlen a → f i = D' (zoff a + i)) (ho : ∀ j, (j < zoff a ∨ zoff a + zlen a ≤ j) → D' j = D j) : zR (fun b => qf_up A k f (33 + b)) D' := by
  subst hk
  intro b j hb hj
  show qf_up A (33 + a) f (33 + b) j = D' (zoff b + j)
  by_cases c : b = a
  · subst c
    rw [zu_up]
    exact hf j hj
  · have := zoff_apart b hb a ha c
    rw [zu_upn (by omega), ho _ (by omega)]
    exact h b j hb hj
/-- fewer coupons -/
theorem zO_dec {F D D' : Nat → Int32} {ng nh : Nat} (hng : ng ≤ 4) (h : zO F D ng nh) (hd : ∀ i, i < 120 → ∃ v, v ≤ zU D i ∧ D' (13 + i) = nI v) (ho : ∀ j, (j < 13 ∨ 133 ≤ j) → D' j = D j) : zO F D' ng nh := by
  have hu : ∀ i, i < 120 → zU D' i ≤ zU D i ∧ D' (13 + i) = nI (zU D' i) := by
    intro i hi
    obtain ⟨v, v1, v2⟩ := hd i hi
    have hl : zU D i < 2147483648 := zu_lt _
    have e : zU D' i = v := by
      show (D' (13 + i)).toNatClampNeg = v
      rw [v2, nI_clamp (by omega)]
    exact ⟨by omega, by rw [e, v2]⟩
  refine zO_mk hng h (Or.inl fun i hi => ho _ (by omega)) (fun g hg => Or.inl (ho _ (by omega))) (fun h hh => Or.inl (ho _ (by omega))) (Or.inr ⟨fun i hi => (hu i hi).2, ?_, ?_, ?_⟩) (fun h hh => ⟨Or.inl (ho _ (by omega)), Or.inl (ho _ (by omega))⟩) (fun i hi => Or.inl (ho _ (by omega)))
  · intro g p hg hp
    have hs := h.2.2.2.2.1 g p hg hp
    have a0 := (hu (g * 5 + p) (by omega)).1
    have a1 := (hu ((4 + g) * 5 + p) (by omega)).1
    have a2 := (hu ((8 + g) * 5 + p) (by omega)).1
    have a3 := (hu ((12 + g) * 5 + p) (by omega)).1
    have a4 := (hu ((16 + g) * 5 + p) (by omega)).1
    have a5 := (hu ((20 + g) * 5 + p) (by omega)).1
    omega
  · intro g h' p hg hh hp hl
    have hz := h.2.2.2.2.2.1 g h' p hg hh hp hl
    have := (hu ((h' * 4 + g) * 5 + p) (by omega)).1
    omega
  · intro h' g p hl hh hg hp
    have hz := (h.2.2.2.2.2.2.2.2 h' hl hh).2.2 g p hg hp
    have := (hu ((h' * 4 + g) * 5 + p) (by omega)).1
    omega
section ZB
variable {I I' : Nat → Int32} {A A' : Nat → Nat → Int32} {G G' : Nat → Int32 × (Nat → Nat → Int32)} {T : Nat} {J J' : Nat → Int32} {B B' : Nat → Nat → Int32} {w : Int64} {ng nk nh ns kept next : Nat}
theorem zx_sp (hJ : zJ I A G J B ng nk nh ns kept next) {h g m : Nat} (hh : h < 6) (hg : g < 4) (hm : m < 2147483648) : zJ I (qf_up A 36 (zSp 5 (A 36) ((h * 4 + g) * 5) (nI m))) G J (qf_up B 0 (zSp 5 (B 0) (13 + (h * 4 + g) * 5) (nI m))) ng nk nh ns kept next := by
  have hb := zp_b hJ
  have hu := (zp_O hJ).2.2.2.1
  refine zJ_set hJ ?_ ?_ ?_ (fun _ _ => rfl) (fun b hb => zu_upn (by omega)) (fun b hb => zu_upn hb)
  · rw [zu_up]
    refine zR_row (zp_R hJ) 3 _ (by omega) rfl (fun i hi => ?_) (fun j hj => ?_)
    · exact zSp_rel 5 _ (A 36) (B 0) _ (fun i hi => zr_3 (zp_R hJ) hi) (by omega) i hi
    · have hj : j < 13 ∨ 13 + 120 ≤ j := hj
      exact zSp_out _ _ _ _ _ (by omega)
  · rw [zu_up]
    refine zO_dec hb.1 (zp_O hJ) (fun i hi => ?_) (fun j hj => zSp_out _ _ _ _ _ (by omega))
    by_cases c : (h * 4 + g) * 5 ≤ i ∧ i < (h * 4 + g) * 5 + 5
    · obtain ⟨v, v1, v2⟩ := zSp_n 5 (B 0) (13 + (h * 4 + g) * 5) m (fun j => zU (B 0) ((h * 4 + g) * 5 + j)) (fun j hj => ⟨by rw [Nat.add_assoc]; exact hu _ (by omega), zu_lt _⟩) hm (i - (h * 4 + g) * 5) (by omega)
      have e : (h * 4 + g) * 5 + (i - (h * 4 + g) * 5) = i := by omega
      have v1 : v ≤ zU (B 0) ((h * 4 + g) * 5 + (i - (h * 4 + g) * 5)) := v1
      rw [Nat.add_assoc, e] at v2
      rw [e] at v1
      exact ⟨v, v1, v2⟩
    · exact ⟨zU (B 0) i, Nat.le_refl _, by rw [zSp_out _ _ _ _ _ (by omega)]; exact hu i hi⟩
  · rw [zu_up, zSp_out _ _ _ _ _ (by omega)]
    exact hJ.2.2.2.1
theorem zx_spend_l {N b : Nat} (hb : b + 5 ≤ N) (hN : N < 2147483648) : ∀ (d i fu : Nat) (f : Nat → Int32) (c : Int32), i + d = 5 → d < fu → f_X4_spend_l5 N (nI b) fu f c (nI i) = some (zSp d f (b + i) c) := by
  intro d
  induction d with
  | zero =>
    intro i fu f c h h1
    obtain ⟨a, rfl⟩ : ∃ a, fu = a + 1 := ⟨fu - 1, by omega⟩
    simp (disch := omega) only [zl_0, zl_1, zl_2, zl_3, zl_4, zl_5, zl_6, zl_7, zl_8, zl_9, zl_10, zl_11, zl_12, zl_13, zl_14, zl_15, zl_16, zl_20, zl_24, zl_26, zl_31, zl_32, zl_38, zl_44, zl_48, zl_50, zl_56, zl_57, zl_59, zl_62, zl_96, zl_97, zl_99, zl_100, zl_122, zl_133, zl_139, zl_145, zl_169, zl_185, zl_189, zl_213, zl_237, zl_241, zl_245, zl_249, zl_250, zl_255, zl_400, zl_401, zl_800, zl_999, zl_1000, zl_2406, zl_2500, zl_2807, zl_9999, zl_99999, zl_100000, zl_1000000000, zl_100000000, zb_let, zb_bd, zb_bd2, zb_bd3, zb_bd4, zb_bd5, zb_ck, zb_ckT, zb_ld, zb_st, not_false_eq_true, zc_m1, zc_m2, zc_m3, zc_m4, zc_m5, zc_m6, zc_lt_t, zc_lt_f, zc_le_t, zc_le_f, zc_eq_t, zc_eq_f, nI_add, pk_mul, z0a, Nat.zero_add, Nat.add_zero, Nat.reduceAdd, ↓reduceIte, f_X4_spend_l5, zSp]
  | succ d ih =>
    intro i fu f c h h1
    obtain ⟨a, rfl⟩ : ∃ a, fu = a + 1 := ⟨fu - 1, by omega⟩
    have i1 := ih (i + 1) a (upd f (b + i) (f (b + i) - (if f (b + i) < c then f (b + i) else c))) (c - (if f (b + i) < c then f (b + i) else c)) (by omega) (by omega)
    simp (disch := omega) only [zl_0, zl_1, zl_2, zl_3, zl_4, zl_5, zl_6, zl_7, zl_8, zl_9, zl_10, zl_11, zl_12, zl_13, zl_14, zl_15, zl_16, zl_20, zl_24, zl_26, zl_31, zl_32, zl_38, zl_44, zl_48, zl_50, zl_56, zl_57, zl_59, zl_62, zl_96, zl_97, zl_99, zl_100, zl_122, zl_133, zl_139, zl_145, zl_169, zl_185, zl_189, zl_213, zl_237, zl_241, zl_245, zl_249, zl_250, zl_255, zl_400, zl_401, zl_800, zl_999, zl_1000, zl_2406, zl_2500, zl_2807, zl_9999, zl_99999, zl_100000, zl_1000000000, zl_100000000, zb_let, zb_bd, zb_bd2, zb_bd3, zb_bd4, zb_bd5, zb_ck, zb_ckT, zb_ld, zb_st, not_false_eq_true, zc_le_f, nI_add, ↓reduceIte, f_X4_spend_l5, i1, zSp, Nat.add_assoc]
theorem zx_spend7 (A : Nat → Nat → Int32) {h g : Nat} (hh : h < 6) (hg : g < 4) (c : Int32) : f_X7_spend A (nI h) (nI g) c = some (qf_up (qf_up A 36 (zSp 5 (A 36) ((h * 4 + g) * 5) c)) 45 (upd (A 45) g (A 45 g + c))) := by
  have e := zx_spend_l (N := 120) (b := (h * 4 + g) * 5) (by omega) (by omega) 5 0 100000 (A 36) c (by omega) (by omega)
  rw [Nat.add_zero] at e
  have e : f_X4_spend 120 (A 36) (nI ((h * 4 + g) * 5)) c = _ := e
  unfold f_X7_spend
  simp (disch := omega) only [zb_let, zb_bd, zb_bd2, zb_bd3, zb_bd4, zb_bd5, zb_ck, zb_ckT, zb_ld, zb_st, not_false_eq_true, zx_purse, e, zu_upn]
theorem zx_take_l {h g : Nat} (hh : h < 6) (hg : g < 4) : ∀ (d i fu : Nat) (B : Nat → Nat → Int32) (c : Int32), i + d = 5 → d < fu → f_X8_takeCoupons_l6 (nI h) (nI g) (-nI 1) fu B c (nI i) = some (qf_up B 0 (zSp d (B 0) (13 + ((h * 4 + g) * 5 + i)) c)) := by
  intro d
  induction d with
  | zero =>
    intro i fu B c h h1
    obtain ⟨a, rfl⟩ : ∃ a, fu = a + 1 := ⟨fu - 1, by omega⟩
    simp (disch := omega) only [zl_0, zl_1, zl_2, zl_3, zl_4, zl_5, zl_6, zl_7, zl_8, zl_9, zl_10, zl_11, zl_12, zl_13, zl_14, zl_15, zl_16, zl_20, zl_24, zl_26, zl_31, zl_32, zl_38, zl_44, zl_48, zl_50, zl_56, zl_57, zl_59, zl_62, zl_96, zl_97, zl_99, zl_100, zl_122, zl_133, zl_139, zl_145, zl_169, zl_185, zl_189, zl_213, zl_237, zl_241, zl_245, zl_249, zl_250, zl_255, zl_400, zl_401, zl_800, zl_999, zl_1000, zl_2406, zl_2500, zl_2807, zl_9999, zl_99999, zl_100000, zl_1000000000, zl_100000000, zb_let, zb_bd, zb_bd2, zb_bd3, zb_bd4, zb_bd5, zb_ck, zb_ckT, zb_ld, zb_st, not_false_eq_true, zc_m1, zc_m2, zc_m3, zc_m4, zc_m5, zc_m6, zc_lt_t, zc_lt_f, zc_le_t, zc_le_f, zc_eq_t, zc_eq_f, nI_add, pk_mul, z0a, Nat.zero_add, Nat.add_zero, Nat.reduceAdd, ↓reduceIte, f_X8_takeCoupons_l6, zSp, zu_id]
  | succ d ih =>
    intro i fu B c hd h1
    obtain ⟨a, rfl⟩ : ∃ a, fu = a + 1 := ⟨fu - 1, by omega⟩
    have i1 := ih (i + 1) a (qf_up B 0 (upd (B 0) (13 + ((h * 4 + g) * 5 + i)) (B 0 (13 + ((h * 4 + g) * 5 + i)) - (if B 0 (13 + ((h * 4 + g) * 5 + i)) < c then B 0 (13 + ((h * 4 + g) * 5 + i)) else c)))) (c - (if B 0 (13 + ((h * 4 + g) * 5 + i)) < c then B 0 (13 + ((h * 4 + g) * 5 + i)) else c)) (by omega) (by omega)
    rw [f_X8_takeCoupons_l6]
    simp (disch := omega) only [zl_0, zl_1, zl_2, zl_3, zl_4, zl_5, zl_6, zl_7, zl_8, zl_9, zl_10, zl_11, zl_12, zl_13, zl_14, zl_15, zl_16, zl_20, zl_24, zl_26, zl_31, zl_32, zl_38, zl_44, zl_48, zl_50, zl_56, zl_57, zl_59, zl_62, zl_96, zl_97, zl_99, zl_100, zl_122, zl_133, zl_139, zl_145, zl_169, zl_185, zl_189, zl_213, zl_237, zl_241, zl_245, zl_249, zl_250, zl_255, zl_400, zl_401, zl_800, zl_999, zl_1000, zl_2406, zl_2500, zl_2807, zl_9999, zl_99999, zl_100000, zl_1000000000, zl_100000000, zb_let, zb_bd, zb_bd2, zb_bd3, zb_bd4, zb_bd5, zb_ck, zb_ckT, zb_ld, zb_st, not_false_eq_true, zc_le_f, zc_m1, nI_add, ↓reduceIte, f_X8_takeCoupons_j74, zx_at, zx_lesser, Nat.add_assoc]
    rw [zmin_comm]
    rw [i1]
    simp only [zu_up, zu_upup, zSp, Nat.add_assoc]
theorem zx_take8 (B : Nat → Nat → Int32) {h g : Nat} (hh : h < 6) (hg : g < 4) (c : Int32) : f_X8_takeCoupons B (nI h) (nI g) c (-nI 1) = some (qf_up B 0 (zSp 5 (B 0) (13 + (h * 4 + g) * 5) c)) := zx_take_l hh hg 5 0 100000 B c (by omega) (by omega)
end ZB
