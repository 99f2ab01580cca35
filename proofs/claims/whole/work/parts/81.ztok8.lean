/-! the reference's tokens -/
def zTy (B : Nat → Nat → Int32) (τ : Nat → Nat) (len : Nat) : Prop := len ≤ 800 ∧ ∀ i, i < len → B 5 i &&& nI 255 = nI (τ i) ∧ τ i < 256
def zPv (τ : Nat → Nat) (len p : Nat) : Int32 := if p < len then nI (τ p) else -nI 1
theorem zy_peek {J : Nat → Int32} {B : Nat → Nat → Int32} {τ : Nat → Nat} {len p : Nat} (hx : zTy B τ len) (h3 : J 3 = nI len) (h4 : J 4 = nI p) (hp : p ≤ len) : f_X8_peek J B = some (zPv τ len p) := by
  obtain ⟨hl, ht⟩ := hx
  unfold f_X8_peek zPv
  rw [h3, h4]
  by_cases c : p < len
  · rw [if_neg (nI_ge c (by omega)), zb_ld (by omega) (by omega), zl_255, (ht p c).1, if_pos c]
  · rw [if_pos (nI_le (by omega) (by omega)), if_neg c]
    rfl
theorem zPv_r (τ : Nat → Nat) (len p a b : Nat) (h : p < len → τ p < 256) (ha : a < 256) (hb : b < 256) : f_X8_inRange (zPv τ len p) (nI a) (nI b) = some (if p < len ∧ a ≤ τ p ∧ τ p ≤ b then nI 1 else nI 0) := by
  rw [zf_r]
  unfold zPv
  by_cases c : p < len
  · have := h c
    rw [if_pos c]
    by_cases c1 : a ≤ τ p
    · rw [if_neg (nI_nlt c1 (by omega))]
      by_cases c2 : τ p ≤ b
      · rw [if_neg (nI_nlt c2 (by omega)), if_pos ⟨c, c1, c2⟩]
      · rw [if_pos (nI_lt (by omega) (by omega)), if_neg (fun z => c2 z.2.2)]
    · rw [if_pos (nI_lt (by omega) (by omega)), if_neg (fun z => c1 z.2.1)]
  · rw [if_neg c, if_pos (of_eq_true (zc_m1 (by omega))), if_neg (fun z => c z.1)]
theorem zPv_eq (τ : Nat → Nat) (len p a : Nat) (h : p < len → τ p < 256) (ha : a < 256) : (zPv τ len p = nI a) ↔ (p < len ∧ τ p = a) := by
  unfold zPv
  by_cases c : p < len
  · have := h c
    rw [if_pos c, nI_eq (by omega) (by omega)]
    exact ⟨fun z => ⟨c, z⟩, fun z => z.2⟩
  · rw [if_neg c]
    exact ⟨fun z => absurd z (of_eq_false (zc_m4 (by omega))), fun z => absurd z.1 c⟩
theorem zPv_0 (τ : Nat → Nat) (len p : Nat) (h : p < len → τ p < 256) : (0 ≤ zPv τ len p) ↔ p < len := by
  unfold zPv
  by_cases c : p < len
  · have := h c
    rw [if_pos c]
    exact ⟨fun _ => c, fun _ => nI_pos' (by omega)⟩
  · rw [if_neg c]
    exact ⟨fun z => absurd z (by decide), fun z => absurd z c⟩
theorem zy_skip8 {B : Nat → Nat → Int32} {w : Int64} {τ : Nat → Nat} {len : Nat} (hx : zTy B τ len) : ∀ (d i fu : Nat) (J : Nat → Int32), J 3 = nI len → J 4 = nI i → i + d = len → d < fu → ∃ fu', 0 < fu' ∧ f_X8_advance_l0 B w fu J = f_X8_advance_l0 B w fu' (upd J 4 (nI (zSkp τ len d i))) := by
  have hl := hx.1
  have ht := hx.2
  intro d
  induction d with
  | zero =>
    intro i fu J h3 h4 h h1
    refine ⟨fu, h1, ?_⟩
    have : upd J 4 (nI (zSkp τ len 0 i)) = J := by
      show upd J 4 (nI i) = J
      rw [← h4]
      funext j
      unfold upd
      by_cases c : j = 4
      · rw [if_pos c, c]
      · rw [if_neg c]
    rw [this]
  | succ d ih =>
    intro i fu J h3 h4 h h1
    obtain ⟨a, rfl⟩ : ∃ a, fu = a + 1 := ⟨fu - 1, by omega⟩
    have hp := zy_peek hx h3 h4 (by omega)
    have hτ : i < len → τ i < 256 := fun z => (ht i z).2
    unfold zSkp
    by_cases c : i < len ∧ (τ i = 32 ∨ τ i = 10)
    · rw [if_pos c]
      obtain ⟨fu', k1, k2⟩ := ih (i + 1) a (upd J 4 (nI (i + 1))) (by rw [zu_ne (by omega), h3]) (zu_same _ _ _) (by omega) (by omega)
      rw [zu_updu] at k2
      refine ⟨fu', k1, ?_⟩
      refine Eq.trans ?_ k2
      rw [f_X8_advance_l0, hp, zb_bd, zb_bd, zl_32, zl_10]
      unfold f_X8_advance_j18
      rw [h4, nI_1, zb_let]
      by_cases c1 : τ i = 32
      · rw [if_pos ((zPv_eq τ len i 32 hτ (by omega)).mpr ⟨c.1, c1⟩)]
      · rw [if_neg (fun z => c1 ((zPv_eq τ len i 32 hτ (by omega)).mp z).2), if_pos ((zPv_eq τ len i 10 hτ (by omega)).mpr ⟨c.1, by omega⟩)]
    · rw [if_neg c]
      refine ⟨a + 1, by omega, ?_⟩
      have : upd J 4 (nI i) = J := by
        rw [← h4]
        funext j
        unfold upd
        by_cases c : j = 4
        · rw [if_pos c, c]
        · rw [if_neg c]
      rw [this]
/-! words as numbers -/
theorem zPack_lt {c : Nat → Nat} : ∀ n, (∀ i, i < n → c i < 32) → zPack c n < 32 ^ n := by
  intro n
  induction n with
  | zero => intro _; exact Nat.one_pos
  | succ n ih =>
    intro h
    have h1 := ih (fun i hi => h i (by omega))
    have h2 := h n (by omega)
    show zPack c n * 32 + c n < 32 ^ (n + 1)
    rw [Nat.pow_succ]
    omega
theorem zPack_inj {a b : Nat → Nat} : ∀ n m, (∀ i, i < n → 1 ≤ a i ∧ a i < 32) → (∀ i, i < m → 1 ≤ b i ∧ b i < 32) → (zPack a n = zPack b m ↔ n = m ∧ ∀ i, i < n → a i = b i) := by
  intro n
  induction n with
  | zero =>
    intro m _ hb
    cases m with
    | zero => exact ⟨fun _ => ⟨rfl, fun i hi => by omega⟩, fun _ => rfl⟩
    | succ m =>
      have := hb m (by omega)
      constructor
      · intro h
        have h : 0 = zPack b m * 32 + b m := h
        omega
      · intro h; omega
  | succ n ih =>
    intro m ha hb
    have h1 := ha n (by omega)
    cases m with
    | zero =>
      constructor
      · intro h
        have h : zPack a n * 32 + a n = 0 := h
        omega
      · intro h; omega
    | succ m =>
      have h2 := hb m (by omega)
      have hi := ih m (fun i hi => ha i (by omega)) (fun i hi => hb i (by omega))
      show zPack a n * 32 + a n = zPack b m * 32 + b m ↔ _
      constructor
      · intro h
        have e1 : zPack a n = zPack b m := by omega
        have e2 : a n = b m := by omega
        obtain ⟨e3, e4⟩ := hi.mp e1
        refine ⟨by omega, fun i hi => ?_⟩
        by_cases c : i = n
        · rw [c, e2, e3]
        · exact e4 i (by omega)
      · rintro ⟨e1, e2⟩
        have e3 : n = m := by omega
        subst e3
        rw [hi.mpr ⟨rfl, fun i hi => e2 i (by omega)⟩, e2 n (by omega)]
theorem zy_tn {a : Nat} (ha : a < 2 ^ 64) : (lN a).toBitVec.toNat = a := Nat.mod_eq_of_lt ha
theorem zy_sh {a x : Nat} (ha : a < 2 ^ 58) (hx : x < 32) : (lN a <<< ((nI 5).toInt64 &&& 63)) ||| lN x = lN (a * 32 + x) := by
  apply Int64.toBitVec_inj.mp
  apply BitVec.eq_of_toNat_eq
  have hs : (((nI 5).toInt64 &&& 63).toBitVec.smod 64).toNat = 5 := by decide
  have e1 : (lN a <<< ((nI 5).toInt64 &&& 63)).toBitVec.toNat = a * 32 := by
    show ((lN a).toBitVec <<< (((nI 5).toInt64 &&& 63).toBitVec.smod 64).toNat).toNat = _
    rw [hs, BitVec.toNat_shiftLeft, zy_tn (by omega), Nat.shiftLeft_eq]
    exact Nat.mod_eq_of_lt (by omega)
  rw [Int64.toBitVec_or, BitVec.toNat_or, e1, zy_tn (by omega), zy_tn (by omega)]
  have := Nat.shiftLeft_add_eq_or_of_lt (show x < 2 ^ 5 by omega) a
  rw [Nat.shiftLeft_eq] at this
  exact this.symm
theorem zy_word8 {B : Nat → Nat → Int32} {τ : Nat → Nat} {len s : Nat} (hx : zTy B τ len) : ∀ (d n fu : Nat) (J : Nat → Int32), J 3 = nI len → J 4 = nI (s + n) → J 5 = nI s → s + n + d = len → d < fu → (∀ i, i < n → 97 ≤ τ (s + i) ∧ τ (s + i) ≤ 122) → ∃ J', f_X8_advance_l82 B fu J (zWv τ s n) = some (J', zWv τ s (zRun τ len 1 d (s + n) - s)) ∧ J' 4 = nI (zRun τ len 1 d (s + n)) ∧ ∀ j, j ≠ 4 → J' j = J j := by
  have hl := hx.1
  have ht := hx.2
  intro d
  induction d with
  | zero =>
    intro n fu J h3 h4 h5 h h1 hL
    obtain ⟨a, rfl⟩ : ∃ a, fu = a + 1 := ⟨fu - 1, by omega⟩
    have hp := zy_peek hx h3 h4 (by omega)
    have hr := zPv_r τ len (s + n) 97 122 (fun z => (ht _ z).2) (by omega) (by omega)
    rw [if_neg (fun z => by omega)] at hr
    have e : zRun τ len 1 0 (s + n) = s + n := rfl
    rw [e, show s + n - s = n by omega]
    refine ⟨J, ?_, h4, fun _ _ => rfl⟩
    rw [f_X8_advance_l82, hp, zb_bd, zl_97, zl_122, hr, zb_bd, if_pos nI_0, h4, h5, pk_sub (by omega), show s + n - s = n by omega, zl_12]
    by_cases c : n ≤ 12
    · rw [if_pos (nI_le c (by omega))]
    · rw [if_neg (nI_ge (by omega) (by omega))]
      unfold zWv
      rw [if_neg c]
  | succ d ih =>
    intro n fu J h3 h4 h5 h h1 hL
    obtain ⟨a, rfl⟩ : ∃ a, fu = a + 1 := ⟨fu - 1, by omega⟩
    have hp := zy_peek hx h3 h4 (by omega)
    have hr := zPv_r τ len (s + n) 97 122 (fun z => (ht _ z).2) (by omega) (by omega)
    have hk := (zKd_cases τ len (s + n)).2.2.2.1
    unfold zRun
    by_cases c : zKd τ len (s + n) = 1
    · have c1 := hk.mp c
      rw [if_pos c]
      rw [if_pos c1] at hr
      have hL2 : ∀ i, i < n + 1 → 97 ≤ τ (s + i) ∧ τ (s + i) ≤ 122 := fun i hi => by
        by_cases z : i = n
        · rw [z]; exact c1.2
        · exact hL i (by omega)
      obtain ⟨J', i1, i2, i3⟩ := ih (n + 1) a (upd J 4 (nI (s + (n + 1)))) (by rw [zu_ne (by omega), h3]) (zu_same _ _ _) (by rw [zu_ne (by omega), h5]) (by omega) (by omega) hL2
      refine ⟨J', ?_, i2, fun j hj => by rw [i3 j hj, zu_ne hj]⟩
      refine Eq.trans ?_ i1
      rw [f_X8_advance_l82, hp, zb_bd, zl_97, zl_122, hr, zb_bd, if_neg (by decide), h4, h5, pk_sub (by omega), show s + n - s = n by omega, zl_12, zb_bd, zb_let]
      unfold f_X8_advance_j130
      rw [h4, nI_1, zb_let, zb_let]
      by_cases c12 : 12 ≤ n
      · rw [if_pos (nI_le c12 (by omega)), show zWv τ s (n + 1) = 0 from if_neg (by omega)]
        rfl
      · rw [if_neg (nI_ge (by omega) (by omega))]
        have hv : zPv τ len (s + n) = nI (τ (s + n)) := if_pos c1.1
        have hb : zPack (fun i => τ (s + i) - 96) n < 2 ^ 58 := by
          have h1 := zPack_lt n (c := fun i => τ (s + i) - 96) (fun i hi => by have := hL i hi; show τ (s + i) - 96 < 32; omega)
          have h2 : 32 ^ n ≤ 32 ^ 11 := Nat.pow_le_pow_right (by omega) (by omega)
          have h3 : 32 ^ 11 < 2 ^ 58 := by decide
          omega
        have hw : (zWv τ s n <<< ((5 : Int32).toInt64 &&& 63)) ||| (zPv τ len (s + n) - (96 : Int32)).toInt64 = zWv τ s (n + 1) := by
          unfold zWv
          rw [if_pos (by omega), if_pos (by omega), hv, zl_96, pk_sub (by omega), nI_l (by omega), zl_5, zy_sh hb (by omega)]
          rfl
        rw [hw]
        rfl
    · rw [if_neg c]
      rw [if_neg (fun z => c (hk.mpr z))] at hr
      rw [show s + n - s = n by omega]
      refine ⟨J, ?_, h4, fun _ _ => rfl⟩
      rw [f_X8_advance_l82, hp, zb_bd, zl_97, zl_122, hr, zb_bd, if_pos nI_0, h4, h5, pk_sub (by omega), show s + n - s = n by omega, zl_12]
      by_cases c : n ≤ 12
      · rw [if_pos (nI_le c (by omega))]
      · rw [if_neg (nI_ge (by omega) (by omega))]
        unfold zWv
        rw [if_neg c]
theorem zIv_le (τ : Nat → Nat) (s : Nat) : ∀ n, (∀ i, i < n → τ (s + i) ≤ 57) → zIv τ s n ≤ 1000000009 := by
  intro n
  induction n with
  | zero => intro _; exact Nat.zero_le _
  | succ n ih =>
    intro h
    have h1 := ih (fun i hi => h i (by omega))
    have h2 := h n (by omega)
    unfold zIv
    split <;> omega
theorem zy_num8 {B : Nat → Nat → Int32} {w : Int64} {τ : Nat → Nat} {len s : Nat} (hx : zTy B τ len) : ∀ (d n fu : Nat) (J : Nat → Int32), J 3 = nI len → J 4 = nI (s + n) → J 7 = nI (zIv τ s n) → s + n + d = len → d < fu → (∀ i, i < n → 48 ≤ τ (s + i) ∧ τ (s + i) ≤ 57) → ∃ J', f_X8_advance_l184 B fu J w = some (J', w) ∧ J' 4 = nI (zRun τ len 2 d (s + n)) ∧ J' 7 = nI (zIv τ s (zRun τ len 2 d (s + n) - s)) ∧ ∀ j, j ≠ 4 → j ≠ 7 → J' j = J j := by
  have hl := hx.1
  have ht := hx.2
  intro d
  induction d with
  | zero =>
    intro n fu J h3 h4 h7 h h1 hL
    obtain ⟨a, rfl⟩ : ∃ a, fu = a + 1 := ⟨fu - 1, by omega⟩
    have hp := zy_peek hx h3 h4 (by omega)
    have hr := zPv_r τ len (s + n) 48 57 (fun z => (ht _ z).2) (by omega) (by omega)
    rw [if_neg (fun z => by omega)] at hr
    have e : zRun τ len 2 0 (s + n) = s + n := rfl
    rw [e, show s + n - s = n by omega]
    refine ⟨J, ?_, h4, h7, fun _ _ _ => rfl⟩
    rw [f_X8_advance_l184, hp, zb_bd, zl_48, zl_57, hr, zb_bd, if_pos nI_0]
  | succ d ih =>
    intro n fu J h3 h4 h7 h h1 hL
    obtain ⟨a, rfl⟩ : ∃ a, fu = a + 1 := ⟨fu - 1, by omega⟩
    have hp := zy_peek hx h3 h4 (by omega)
    have hr := zPv_r τ len (s + n) 48 57 (fun z => (ht _ z).2) (by omega) (by omega)
    have hk := (zKd_cases τ len (s + n)).2.2.2.2.1
    have hb := zIv_le τ s n (fun i hi => (hL i hi).2)
    unfold zRun
    by_cases c : zKd τ len (s + n) = 2
    · have c1 := hk.mp c
      rw [if_pos c]
      rw [if_pos c1] at hr
      have hL2 : ∀ i, i < n + 1 → 48 ≤ τ (s + i) ∧ τ (s + i) ≤ 57 := fun i hi => by
        by_cases z : i = n
        · rw [z]; exact c1.2
        · exact hL i (by omega)
      obtain ⟨J', i1, i2, i3, i4⟩ := ih (n + 1) a (upd (upd J 7 (nI (zIv τ s (n + 1)))) 4 (nI (s + (n + 1)))) (by rw [zu_ne (by omega), zu_ne (by omega), h3]) (zu_same _ _ _) (by rw [zu_ne (by omega), zu_same]) (by omega) (by omega) hL2
      refine ⟨J', ?_, i2, i3, fun j j1 j2 => by rw [i4 j j1 j2, zu_ne j1, zu_ne j2]⟩
      refine Eq.trans ?_ i1
      rw [f_X8_advance_l184, hp, zb_bd, zl_48, zl_57, hr, zb_bd, if_neg (by decide), h7, zb_bd]
      unfold f_X8_advance_j228
      have hv : zPv τ len (s + n) = nI (τ (s + n)) := if_pos c1.1
      rw [zb_let, zb_let, zu_ne (by omega), h4, nI_1, zb_let, zb_let, zu_ne (by omega), h4, nI_1, hv]
      have ez : zIv τ s (n + 1) = if 100000000 < zIv τ s n then 1000000000 else 10 * zIv τ s n + (τ (s + n) - 48) := rfl
      by_cases c8 : zIv τ s n ≤ 100000000
      · have e : ((10 : Int32) * nI (zIv τ s n)) + nI (τ (s + n)) - nI 48 = nI (zIv τ s (n + 1)) := by
          rw [ez, zl_10, pk_mul, nI_add, pk_sub (by omega), if_neg (by omega), show 10 * zIv τ s n + τ (s + n) - 48 = 10 * zIv τ s n + (τ (s + n) - 48) by omega]
        rw [if_pos (show nI (zIv τ s n) ≤ (100000000 : Int32) from nI_le (b := 100000000) c8 (by omega)), e]
        rfl
      · have e : (1000000000 : Int32) = nI (zIv τ s (n + 1)) := by
          rw [ez, if_pos (by omega)]
          rfl
        rw [if_neg (show ¬ nI (zIv τ s n) ≤ (100000000 : Int32) from nI_ge (a := 100000000) (by omega) (by omega)), e]
        rfl
    · rw [if_neg c]
      rw [if_neg (fun z => c (hk.mpr z))] at hr
      rw [show s + n - s = n by omega]
      refine ⟨J, ?_, h4, h7, fun _ _ _ => rfl⟩
      rw [f_X8_advance_l184, hp, zb_bd, zl_48, zl_57, hr, zb_bd, if_pos nI_0]
