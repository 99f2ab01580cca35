/-! tokens: kinds, runs, words, numbers -/
def zKd (τ : Nat → Nat) (len p : Nat) : Nat := if p < len then (if 97 ≤ τ p ∧ τ p ≤ 122 then 1 else if 48 ≤ τ p ∧ τ p ≤ 57 then 2 else if τ p = 59 then 3 else 4) else 0
def zSkp (τ : Nat → Nat) (len : Nat) : Nat → Nat → Nat
  | 0, i => i
  | d + 1, i => if i < len ∧ (τ i = 32 ∨ τ i = 10) then zSkp τ len d (i + 1) else i
def zRun (τ : Nat → Nat) (len k : Nat) : Nat → Nat → Nat
  | 0, i => i
  | d + 1, i => if zKd τ len i = k then zRun τ len k d (i + 1) else i
def zPack (c : Nat → Nat) : Nat → Nat
  | 0 => 0
  | n + 1 => zPack c n * 32 + c n
def zWv (τ : Nat → Nat) (s n : Nat) : Int64 := if n ≤ 12 then lN (zPack (fun i => τ (s + i) - 96) n) else 0
def zIv (τ : Nat → Nat) (s : Nat) : Nat → Nat
  | 0 => 0
  | n + 1 => if 100000000 < zIv τ s n then 1000000000 else 10 * zIv τ s n + (τ (s + n) - 48)
theorem zKd_cases (τ : Nat → Nat) (len p : Nat) : zKd τ len p ≤ 4 ∧ (zKd τ len p ≠ 0 → p < len) ∧ (len ≤ p → zKd τ len p = 0) ∧ (zKd τ len p = 1 ↔ p < len ∧ 97 ≤ τ p ∧ τ p ≤ 122) ∧ (zKd τ len p = 2 ↔ p < len ∧ 48 ≤ τ p ∧ τ p ≤ 57) ∧ (zKd τ len p = 3 ↔ p < len ∧ τ p = 59) ∧ (zKd τ len p = 4 ↔ p < len ∧ ¬ (97 ≤ τ p ∧ τ p ≤ 122) ∧ ¬ (48 ≤ τ p ∧ τ p ≤ 57) ∧ τ p ≠ 59) := by
  unfold zKd
  by_cases c : p < len
  · rw [if_pos c]
    by_cases c1 : 97 ≤ τ p ∧ τ p ≤ 122
    · rw [if_pos c1]; omega
    · rw [if_neg c1]
      by_cases c2 : 48 ≤ τ p ∧ τ p ≤ 57
      · rw [if_pos c2]; omega
      · rw [if_neg c2]
        by_cases c3 : τ p = 59
        · rw [if_pos c3]; omega
        · rw [if_neg c3]; omega
  · rw [if_neg c]; omega
theorem zSkp_spec (τ : Nat → Nat) (len : Nat) : ∀ d i, i + d = len → i ≤ zSkp τ len d i ∧ zSkp τ len d i ≤ len ∧ ¬ (zSkp τ len d i < len ∧ (τ (zSkp τ len d i) = 32 ∨ τ (zSkp τ len d i) = 10)) := by
  intro d
  induction d with
  | zero =>
    intro i h
    show i ≤ i ∧ i ≤ len ∧ ¬ (i < len ∧ (τ i = 32 ∨ τ i = 10))
    omega
  | succ d ih =>
    intro i h
    unfold zSkp
    by_cases c : i < len ∧ (τ i = 32 ∨ τ i = 10)
    · rw [if_pos c]
      have := ih (i + 1) (by omega)
      omega
    · rw [if_neg c]
      omega
theorem zRun_spec (τ : Nat → Nat) (len k : Nat) (hk : k ≠ 0) : ∀ d i, i + d = len → i ≤ zRun τ len k d i ∧ zRun τ len k d i ≤ len ∧ (∀ j, i ≤ j → j < zRun τ len k d i → zKd τ len j = k) ∧ zKd τ len (zRun τ len k d i) ≠ k := by
  intro d
  induction d with
  | zero =>
    intro i h
    refine ⟨Nat.le_refl _, by show i ≤ len; omega, fun j h1 h2 => by (have h2 : j < i := h2); omega, ?_⟩
    show zKd τ len i ≠ k
    rw [(zKd_cases τ len i).2.2.1 (by omega)]
    omega
  | succ d ih =>
    intro i h
    unfold zRun
    by_cases c : zKd τ len i = k
    · rw [if_pos c]
      obtain ⟨a1, a2, a3, a4⟩ := ih (i + 1) (by omega)
      refine ⟨by omega, a2, fun j h1 h2 => ?_, a4⟩
      by_cases z : j = i
      · rw [z]; exact c
      · exact a3 j (by omega) h2
    · rw [if_neg c]
      exact ⟨Nat.le_refl _, by omega, fun j h1 h2 => by omega, c⟩
/-! the class -/
def zTx (A : Nat → Nat → Int32) (τ : Nat → Nat) (len : Nat) : Prop := len ≤ 800 ∧ ∀ i, i < len → A 0 i = nI (τ i) ∧ τ i < 256
theorem zy_kind {I : Nat → Int32} {A : Nat → Nat → Int32} {τ : Nat → Nat} {len p : Nat} (hx : zTx A τ len) (h5 : I 5 = nI len) (hp : p ≤ 800) : f_X6_kindAt I A 1 (nI p) = some (nI (zKd τ len p)) := by
  obtain ⟨hl, ht⟩ := hx
  unfold f_X6_kindAt f_X6_kindAt_j31 f_X6_kindAt_j45 zKd
  rw [h5]
  by_cases c : p < len
  · obtain ⟨t1, t2⟩ := ht p c
    rw [if_pos (nI_lt c (by omega)), zb_ck rfl, zb_ld (by omega) (by omega), t1, if_pos c, zl_97, zl_48, zl_57, zl_122, zl_59]
    by_cases c1 : 97 ≤ τ p
    · rw [if_neg (nI_nlt c1 (by omega))]
      by_cases c2 : τ p ≤ 122
      · rw [if_neg (nI_nlt c2 (by omega)), if_pos ⟨c1, c2⟩]; rfl
      · rw [if_pos (nI_lt (by omega) (by omega)), if_neg (nI_nlt (by omega) (by omega)), if_pos (nI_lt (by omega) (by omega)), if_neg (by rw [nI_eq (by omega) (by omega)]; omega), if_neg (by omega), if_neg (by omega), if_neg (by omega)]; rfl
    · rw [if_pos (nI_lt (by omega) (by omega)), if_neg (show ¬ (97 ≤ τ p ∧ τ p ≤ 122) by omega)]
      by_cases c2 : 48 ≤ τ p
      · rw [if_neg (nI_nlt c2 (by omega))]
        by_cases c3 : τ p ≤ 57
        · rw [if_neg (nI_nlt c3 (by omega)), if_pos (show 48 ≤ τ p ∧ τ p ≤ 57 from ⟨c2, c3⟩)]; rfl
        · rw [if_pos (nI_lt (by omega) (by omega)), if_neg (show ¬ (48 ≤ τ p ∧ τ p ≤ 57) by omega)]
          by_cases c4 : τ p = 59
          · rw [if_pos (show nI (τ p) = nI 59 from congrArg nI c4), if_pos c4]; rfl
          · rw [if_neg (show ¬ nI (τ p) = nI 59 from fun z => c4 ((nI_eq (by omega) (by omega)).mp z)), if_neg c4]; rfl
      · have c4 : ¬ τ p = 59 := by omega
        rw [if_pos (nI_lt (by omega) (by omega)), if_neg (show ¬ (48 ≤ τ p ∧ τ p ≤ 57) by omega), if_neg (show ¬ nI (τ p) = nI 59 from fun z => c4 ((nI_eq (by omega) (by omega)).mp z)), if_neg c4]; rfl
  · rw [if_neg (nI_nlt (by omega) (by omega)), if_neg c]; rfl
theorem zy_skip7 {I : Nat → Int32} {A : Nat → Nat → Int32} {τ : Nat → Nat} {len : Nat} (hx : zTx A τ len) (h5 : I 5 = nI len) : ∀ (d i fu : Nat), i + d = len → d < fu → f_X6_advance_l5 I A 1 fu (nI i) = f_X6_advance_j41 I A 1 (nI (zSkp τ len d i)) := by
  obtain ⟨hl, ht⟩ := id hx
  intro d
  induction d with
  | zero =>
    intro i fu h h1
    obtain ⟨a, rfl⟩ : ∃ a, fu = a + 1 := ⟨fu - 1, by omega⟩
    rw [f_X6_advance_l5, h5, if_pos (nI_le (by omega) (by omega))]
    rfl
  | succ d ih =>
    intro i fu h h1
    obtain ⟨a, rfl⟩ : ∃ a, fu = a + 1 := ⟨fu - 1, by omega⟩
    obtain ⟨t1, t2⟩ := ht i (by omega)
    have i1 := ih (i + 1) a (by omega) (by omega)
    rw [f_X6_advance_l5, h5, if_neg (nI_ge (by omega) (by omega)), zb_ck rfl, zb_ld (by omega) (by omega), t1, zb_ck rfl, zb_ld (by omega) (by omega), t1, zl_32, zl_10]
    unfold f_X6_advance_j35 zSkp
    rw [zb_let, nI_1]
    by_cases c : τ i = 32
    · rw [if_pos (congrArg nI c), if_pos ⟨by omega, Or.inl c⟩]
      exact i1
    · rw [if_neg (fun z => c ((nI_eq (by omega) (by omega)).mp z))]
      by_cases c2 : τ i = 10
      · rw [if_pos (congrArg nI c2), if_pos ⟨by omega, Or.inr c2⟩]
        exact i1
      · rw [if_neg (fun z => c2 ((nI_eq (by omega) (by omega)).mp z)), if_neg (fun z => z.2.elim c c2)]
theorem zy_run7 {I : Nat → Int32} {A : Nat → Nat → Int32} {τ : Nat → Nat} {len k : Nat} (hx : zTx A τ len) (h5 : I 5 = nI len) (h8 : I 8 = nI k) (hk : k ≤ 4) : ∀ (d i fu : Nat), i + d = len → d < fu → f_X6_advance_l88 A 1 (nI 1) fu I (nI i) = some (upd I 6 (nI (zRun τ len k d i))) := by
  have hl := hx.1
  intro d
  induction d with
  | zero =>
    intro i fu h h1
    obtain ⟨a, rfl⟩ : ∃ a, fu = a + 1 := ⟨fu - 1, by omega⟩
    rw [f_X6_advance_l88, if_neg (by decide), h5, if_pos (nI_le (by omega) (by omega))]
    rfl
  | succ d ih =>
    intro i fu h h1
    obtain ⟨a, rfl⟩ : ∃ a, fu = a + 1 := ⟨fu - 1, by omega⟩
    have kc := (zKd_cases τ len i).1
    rw [f_X6_advance_l88, if_neg (by decide), h5, if_neg (nI_ge (by omega) (by omega)), zy_kind hx h5 (by omega), zb_bd, h8]
    unfold zRun
    by_cases c : zKd τ len i = k
    · rw [if_pos (congrArg nI c), if_pos c, zb_let, nI_1]
      exact ih (i + 1) a (by omega) (by omega)
    · rw [if_neg (fun z => c ((nI_eq (by omega) (by omega)).mp z)), if_neg c]
      rfl
/-- where the token ends -/
def zEn (τ : Nat → Nat) (len s : Nat) : Nat := if zKd τ len s = 0 then s else if zKd τ len s = 1 ∨ zKd τ len s = 2 then zRun τ len (zKd τ len s) (len - (s + 1)) (s + 1) else s + 1
theorem zy_adv7 {I : Nat → Int32} {A : Nat → Nat → Int32} {τ : Nat → Nat} {len f : Nat} (hx : zTx A τ len) (h5 : I 5 = nI len) (h6 : I 6 = nI f) (hf : f ≤ len) : f_X6_advance A 1 I = some (upd (upd (upd I 7 (nI (zSkp τ len (len - f) f))) 8 (nI (zKd τ len (zSkp τ len (len - f) f)))) 6 (nI (zEn τ len (zSkp τ len (len - f) f)))) := by
  have hl := hx.1
  obtain ⟨s1, s2, s3⟩ := zSkp_spec τ len (len - f) f (by omega)
  unfold f_X6_advance
  rw [zb_let, h6, zy_skip7 hx h5 (len - f) f 100000 (by omega) (by omega)]
  generalize zSkp τ len (len - f) f = s at s1 s2 s3
  obtain ⟨k1, k2, k3, k4, k5, _⟩ := zKd_cases τ len s
  have h5a : upd I 7 (nI s) 5 = nI len := by rw [zu_ne (by omega), h5]
  unfold f_X6_advance_j41 f_X6_advance_j82 f_X6_advance_j87
  rw [zb_let, zy_kind hx h5a (by omega), zb_bd, zb_let, zu_ne (by omega), h5a, nI_1, zu_same]
  unfold zEn
  by_cases c0 : zKd τ len s = 0
  · have : ¬ s < len := by
      intro z
      have := (zKd_cases τ len s)
      omega
    have hs : s = len := by omega
    rw [c0, if_pos rfl, if_pos (nI_lt (by omega) (by omega)), zb_let, if_neg (by decide), if_neg (by decide), show (100000 : Nat) = 99999 + 1 from rfl, f_X6_advance_l88, if_pos rfl, hs]
    rfl
  · have hs := k2 c0
    have hm : (if nI len < nI (s + 1) then nI len else nI (s + 1)) = nI (s + 1) := if_neg (nI_nlt (by omega) (by omega))
    rw [hm, zb_let, if_neg c0]
    by_cases c1 : zKd τ len s = 1
    · rw [if_pos (show nI (zKd τ len s) = (1 : Int32) from congrArg nI c1), if_pos (Or.inl c1), zl_1, zy_run7 hx (k := zKd τ len s) (by rw [zu_ne (by omega), h5a]) (zu_same _ _ _) k1 (len - (s + 1)) (s + 1) 100000 (by omega) (by omega)]
    · rw [if_neg (show ¬ nI (zKd τ len s) = (1 : Int32) from fun z => c1 ((nI_eq (b := 1) (by omega) (by omega)).mp z))]
      by_cases c2 : zKd τ len s = 2
      · rw [if_pos (show nI (zKd τ len s) = (2 : Int32) from congrArg nI c2), if_pos (Or.inr c2), zl_1, zy_run7 hx (k := zKd τ len s) (by rw [zu_ne (by omega), h5a]) (zu_same _ _ _) k1 (len - (s + 1)) (s + 1) 100000 (by omega) (by omega)]
      · rw [if_neg (show ¬ nI (zKd τ len s) = (2 : Int32) from fun z => c2 ((nI_eq (b := 2) (by omega) (by omega)).mp z)), if_neg (show ¬ (zKd τ len s = 1 ∨ zKd τ len s = 2) by omega), show (100000 : Nat) = 99999 + 1 from rfl, f_X6_advance_l88, if_pos rfl]
        rfl
