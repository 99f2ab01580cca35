/-! load -/
theorem zLE.zO {F D : Nat → Int32} {ng nh : Nat} (hng : ng ≤ 4) (h : zLE D nh) : zO F D ng nh := by
  obtain ⟨x1, x2, x3, x4, x5⟩ := h
  have hz : ∀ i, i < 120 → D (13 + i) = nI 0 := fun i hi => x4 i (by omega)
  have hu : ∀ i, i < 120 → zU D i = 0 := fun i hi => by
    unfold zU
    rw [hz i hi]
    rfl
  refine ⟨x1, x2, x3, fun i hi => by rw [hz i hi, hu i hi], fun g p hg hp => by rw [hu _ (by omega), hu _ (by omega), hu _ (by omega), hu _ (by omega), hu _ (by omega), hu _ (by omega)]; omega, fun g h p hg hh hp _ => ?_, fun h hh => ⟨⟨0, by omega, by have := x4 (120 + h) (by omega); rw [show 13 + (120 + h) = 133 + h by omega] at this; exact this⟩, ⟨0, by omega, by have := x4 (126 + h) (by omega); rw [show 13 + (126 + h) = 139 + h by omega] at this; exact this⟩⟩, x5, fun h hh h6 => ⟨by have := x4 (120 + h) (by omega); rw [show 13 + (120 + h) = 133 + h by omega] at this; exact this, by have := x4 (126 + h) (by omega); rw [show 13 + (126 + h) = 139 + h by omega] at this; exact this, fun g p hg hp => hu _ (by omega)⟩⟩
  exact hu _ (by omega)
theorem zx_cp62 : ∀ (d i fu : Nat) (J : Nat → Int32) (B : Nat → Nat → Int32) (w : Int64), i + d = 62 → d < fu → ∃ B', f_X8_load_l168 fu J B w (nI i) = (qf_let (upd J 0 (0 : Int32)) fun I27 => qf_bd (f_X8_issue B') fun A28 => some (I27 11, I27, A28, w)) ∧ (∀ b, b ≠ 3 → B' b = B b) ∧ (∀ j, i ≤ j → j < 62 → B' 3 j = B 4 j) ∧ ∀ j, j < i → B' 3 j = B 3 j := by
  intro d
  induction d with
  | zero =>
    intro i fu J B w h h1
    obtain ⟨a, rfl⟩ : ∃ a, fu = a + 1 := ⟨fu - 1, by omega⟩
    have e : i = 62 := by omega
    subst e
    refine ⟨B, ?_, fun _ _ => rfl, fun j a b => by omega, fun _ _ => rfl⟩
    rw [f_X8_load_l168, zl_62, if_pos (nI_le (Nat.le_refl 62) (by omega))]
  | succ d ih =>
    intro i fu J B w h h1
    obtain ⟨a, rfl⟩ : ∃ a, fu = a + 1 := ⟨fu - 1, by omega⟩
    obtain ⟨B', i1, i2, i3, i4⟩ := ih (i + 1) a J (qf_up B 3 (upd (B 3) i (B 4 i))) w (by omega) (by omega)
    refine ⟨B', ?_, fun b hb => by rw [i2 b hb, zu_upn hb], fun j a b => ?_, fun j a => ?_⟩
    · rw [f_X8_load_l168, if_neg (show ¬ (62 : Int32) ≤ nI i from nI_ge (b := 62) (by omega) (by omega)), zb_ld (by omega) (by omega), zb_st (by omega) (by omega), zb_let, nI_1, zb_let]
      exact i1
    · by_cases z : j = i
      · rw [i4 j (by omega), zu_up, z, zu_same]
      · rw [i3 j (by omega) b, zu_upn (by omega)]
    · rw [i4 j (by omega), zu_up, zu_ne (by omega)]
theorem zx_cp250 : ∀ (d i fu : Nat) (J : Nat → Int32) (B : Nat → Nat → Int32) (w : Int64), i + d = 250 → d < fu → ∃ B', f_X8_load_l141 fu J B w (nI i) = f_X8_load_l168 100000 J B' w (0 : Int32) ∧ (∀ b, b ≠ 0 → B' b = B b) ∧ (∀ j, i ≤ j → j < 250 → B' 0 j = B 1 j) ∧ ∀ j, j < i → B' 0 j = B 0 j := by
  intro d
  induction d with
  | zero =>
    intro i fu J B w h h1
    obtain ⟨a, rfl⟩ : ∃ a, fu = a + 1 := ⟨fu - 1, by omega⟩
    have e : i = 250 := by omega
    subst e
    refine ⟨B, ?_, fun _ _ => rfl, fun j a b => by omega, fun _ _ => rfl⟩
    rw [f_X8_load_l141, zl_250, if_pos (nI_le (Nat.le_refl 250) (by omega))]
  | succ d ih =>
    intro i fu J B w h h1
    obtain ⟨a, rfl⟩ : ∃ a, fu = a + 1 := ⟨fu - 1, by omega⟩
    obtain ⟨B', i1, i2, i3, i4⟩ := ih (i + 1) a J (qf_up B 0 (upd (B 0) i (B 1 i))) w (by omega) (by omega)
    refine ⟨B', ?_, fun b hb => by rw [i2 b hb, zu_upn hb], fun j a b => ?_, fun j a => ?_⟩
    · rw [f_X8_load_l141, if_neg (show ¬ (250 : Int32) ≤ nI i from nI_ge (b := 250) (by omega) (by omega)), zb_ld (by omega) (by omega), zb_st (by omega) (by omega), zb_let, nI_1, zb_let]
      exact i1
    · by_cases z : j = i
      · rw [i4 j (by omega), zu_up, z, zu_same]
      · rw [i3 j (by omega) b, zu_upn (by omega)]
    · rw [i4 j (by omega), zu_up, zu_ne (by omega)]
