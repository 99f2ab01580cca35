/-! whole numbers, on both sides -/
theorem zy_int7l {A : Nat → Nat → Int32} {I : Nat → Int32} {τ : Nat → Nat} {len e : Nat} (hx : zTx A τ len) (he : e ≤ len) (h6 : I 6 = nI e) : ∀ (d p fu : Nat) (y : Int32), p + d = e → d < fu → ∃ v, f_X6_integer_l7 I A 1 fu y (nI p) = some v ∧ ∀ s n, p = s + n → y = nI (min (zIv τ s n) 100000) → (∀ i, i < n + d → 48 ≤ τ (s + i) ∧ τ (s + i) ≤ 57) → v = nI (min (zIv τ s (n + d)) 100000) := by
  have hl := hx.1
  have ht := hx.2
  intro d
  induction d with
  | zero =>
    intro p fu y h h1
    obtain ⟨a, rfl⟩ : ∃ a, fu = a + 1 := ⟨fu - 1, by omega⟩
    refine ⟨y, ?_, fun s n hp hy _ => hy⟩
    rw [f_X6_integer_l7, h6, if_pos (nI_le (by omega) (by omega))]
  | succ d ih =>
    intro p fu y h h1
    obtain ⟨a, rfl⟩ : ∃ a, fu = a + 1 := ⟨fu - 1, by omega⟩
    obtain ⟨v, i1, i2⟩ := ih (p + 1) a (if (100000 : Int32) < (((y * (10 : Int32)) + nI (τ p)) - (48 : Int32)) then (100000 : Int32) else (((y * (10 : Int32)) + nI (τ p)) - (48 : Int32))) (by omega) (by omega)
    refine ⟨v, ?_, fun s n hp hy hd => ?_⟩
    · rw [f_X6_integer_l7, h6, if_neg (nI_ge (by omega) (by omega)), zb_ck rfl, zb_ld (by omega) (by omega), (ht p (by omega)).1, zb_let, nI_1, zb_let]
      exact i1
    · have hdn := hd n (by omega)
      have hz := zIv_le τ s n (fun i hi => (hd i (by omega)).2)
      have ez : zIv τ s (n + 1) = if 100000000 < zIv τ s n then 1000000000 else 10 * zIv τ s n + (τ (s + n) - 48) := rfl
      have := i2 s (n + 1) (by omega) (by
        rw [hy, hp, zl_10, zl_48, pk_mul, nI_add, pk_sub (by omega), zl_100000]
        by_cases c : 100000 < min (zIv τ s n) 100000 * 10 + τ (s + n) - 48
        · rw [if_pos (nI_lt c (by omega)), ez]
          have : min (if 100000000 < zIv τ s n then 1000000000 else 10 * zIv τ s n + (τ (s + n) - 48)) 100000 = 100000 := by
            split <;> omega
          rw [this]
        · rw [if_neg (nI_nlt (by omega) (by omega)), ez, if_neg (by omega)]
          have : min (10 * zIv τ s n + (τ (s + n) - 48)) 100000 = min (zIv τ s n) 100000 * 10 + τ (s + n) - 48 := by omega
          rw [this]) (fun i hi => hd i (by omega))
      rw [this, show n + 1 + d = n + (d + 1) by omega]
section ZINT
variable {τ : Nat → Nat} {len s e k : Nat} {I : Nat → Int32} {A : Nat → Nat → Int32} {J : Nat → Int32} {B : Nat → Nat → Int32} {w : Int64}
theorem zy_int7 (h : zTR τ len s e k I A J B w) : ∃ v, f_X6_integer I A 1 = some v ∧ (k = 2 → v = nI (min (zIv τ s (e - s)) 100000)) := by
  obtain ⟨hx, hy, ⟨i5, i7, i6, i8⟩, ⟨j3, j5, j4, j6⟩, he, ⟨s1, s2, s3, s4⟩, hw, hn⟩ := h
  have hl := hx.1
  obtain ⟨v, a1, a2⟩ := zy_int7l hx s2 i6 (e - s) s 100000 (0 : Int32) (by omega) (by omega)
  refine ⟨v, ?_, fun z => ?_⟩
  · unfold f_X6_integer
    rw [i7, zb_let]
    exact a1
  · have := a2 s 0 rfl rfl (fun i hi => (hn z).1 i (by omega))
    rw [this, Nat.zero_add]
/-- the end of a reading on the class's side -/
theorem zy_fin (h : zTR τ len s e k I A J B w) (v : Int32) : ∃ s' e' k' I' J' w', f_X2_readInteger_j41 A 1 I v = some ((if I 3 = 0 then v else 0), I') ∧ f_X8_advanceIfGood B J w = some (J', w') ∧ zTR τ len s' e' k' I' A J' B w' ∧ zFI I I' ∧ zFJ J J' ∧ I' 3 = I 3 ∧ (I 3 = 0 → e ≤ s') := by
  obtain ⟨s', e', k', I', J', w', a1, a2, a3⟩ := zy_aig h
  refine ⟨s', e', k', I', J', w', ?_, a2, a3⟩
  unfold f_X2_readInteger_j41
  by_cases z : I 3 = 0
  · rw [if_pos z] at a1
    rw [if_pos z, if_pos z, a1]
    rfl
  · rw [if_neg z] at a1
    rw [if_neg z, if_neg z]
    exact congrArg (fun x => x.map fun y => ((0 : Int32), y)) a1
/-- a whole number from lo to hi -/
theorem zy_int (h : zTR τ len s e k I A J B w) (lo hi : Nat) (hh : hi ≤ 9999) (hlo : lo ≤ hi) : ∃ s' e' k' I' J' w' v v', f_X2_readInteger A 1 I (nI lo) (nI hi) = some (v, I') ∧ f_X8_readInteger B J w (nI lo) (nI hi) = some (v', J', w') ∧ zTR τ len s' e' k' I' A J' B w' ∧ zFI I I' ∧ zFJ J J' ∧ (I' 3 = 0 → I 3 = 0 ∧ e ≤ s' ∧ ∃ n, lo ≤ n ∧ n ≤ hi ∧ v = nI n ∧ v' = nI n) := by
  obtain ⟨i5, i7, i6, i8⟩ := h.2.2.1
  obtain ⟨j3, j5, j4, j6⟩ := h.2.2.2.1
  have hk : k ≤ 4 := h.2.2.2.2.2.1.2.2.1
  have hn := h.2.2.2.2.2.2.2
  unfold f_X2_readInteger f_X8_readInteger f_X2_readInteger_j17 f_X2_readInteger_j35 f_X8_readInteger_j14
  rw [i8, j6]
  by_cases z : k = 2
  · rw [if_pos (by rw [z]; rfl), if_pos (by rw [z]; rfl), zl_1, zy_chk1, zb_bd]
    obtain ⟨v, a1, a2⟩ := zy_int7 h
    have a2 := a2 z
    obtain ⟨nd, nj⟩ := hn z
    have hz := zIv_le τ s (e - s) (fun i hi => (nd i hi).2)
    generalize zIv τ s (e - s) = m at *
    rw [a1, zb_bd, a2, nj, zf_r, zb_bd]
    by_cases c : lo ≤ m ∧ m ≤ hi
    · have em : min m 100000 = m := by omega
      rw [em, if_neg (nI_nlt c.1 (by omega)), if_pos (nI_le c.2 (by omega)), if_neg (nI_nlt c.1 (by omega)), if_neg (nI_nlt c.2 (by omega)), zy_chk1, zb_bd, zb_let]
      obtain ⟨s', e', k', I', J', w', b1, b2, b3, b4, b5, b6, b7⟩ := zy_fin h (nI m)
      refine ⟨s', e', k', I', J', w', _, _, b1, by rw [b2, zb_bd2], b3, b4, b5, fun q => ?_⟩
      have q2 : I 3 = 0 := b6 ▸ q
      exact ⟨q2, b7 q2, m, c.1, c.2, if_pos q2, nj⟩
    · obtain ⟨I1, J1, f1, f2, f3, f4, f5, f6⟩ := zy_fail h (-12 : Int32) (by decide)
      obtain ⟨s', e', k', I', J', w', b1, b2, b3, b4, b5, b6, b7⟩ := zy_fin f3 (nI (min m 100000))
      rw [if_neg f6] at b1
      refine ⟨s', e', k', I', J', w', 0, J1 7, ?_, ?_, b3, f4.tr b4, f5.tr b5, fun q => absurd (b6 ▸ q) f6⟩
      · rw [f1, zb_bd]
        by_cases c1 : m < lo
        · rw [if_pos (nI_lt (by omega) (by omega))]
          exact b1
        · rw [if_neg (nI_nlt (by omega) (by omega)), if_neg (nI_ge (by omega) (by omega))]
          exact b1
      · have : (if nI m < nI lo then nI 0 else if nI hi < nI m then nI 0 else nI 1) = nI 0 := by
          by_cases c1 : m < lo
          · rw [if_pos (nI_lt (by omega) (by omega))]
          · rw [if_neg (nI_nlt (by omega) (by omega)), if_pos (nI_lt (by omega) (by omega))]
        rw [this, f2, zb_bd, zb_let, b2, zb_bd2]
  · have z1 : ¬ nI k = (2 : Int32) := fun y => z ((nI_eq (b := 2) (by omega) (by omega)).mp y)
    rw [if_neg z1, if_neg z1]
    obtain ⟨I1, J1, f1, f2, f3, f4, f5, f6⟩ := zy_fail h (-11 : Int32) (by decide)
    obtain ⟨v, a1, -⟩ := zy_int7 f3
    obtain ⟨I2, J2, g1, g2, g3, g4, g5, g6⟩ := zy_fail f3 (-12 : Int32) (by decide)
    have eI : I2 = I1 := by
      unfold f_X2_fail at g1
      rw [if_neg f6] at g1
      exact (Option.some.inj g1).symm
    have eJ : ∀ r, f_X8_check J1 r (-12 : Int32) = some J1 := fun r => by
      unfold f_X8_check
      rw [if_neg (show ¬ J1 8 = 0 from f3.2.2.2.2.1.1 ▸ f6), ite_self]
    obtain ⟨s', e', k', I', J', w', b1, b2, b3, b4, b5, b6, b7⟩ := zy_fin f3 v
    have fin7 : f_X2_readInteger_j41 A 1 I1 v = some (0, I') := by rw [b1, if_neg f6]
    refine ⟨s', e', k', I', J', w', 0, J1 7, ?_, ?_, b3, f4.tr b4, f5.tr b5, fun q => absurd (b6 ▸ q) f6⟩
    · rw [f1, zb_bd, a1, zb_bd, g1, zb_bd, eI, fin7, ite_self, ite_self]
    · rw [zl_0, f2, zb_bd, zf_r, zb_bd, eJ, zb_bd, zb_let, b2, zb_bd2]
end ZINT
