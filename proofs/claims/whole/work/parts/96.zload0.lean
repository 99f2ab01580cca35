/-! load: the start -/
theorem zx_rst : ∀ (d i fu : Nat) (f : Nat → Int32), i + d = 250 → d < fu → ∃ f', f_X8_reset_l2 250 fu f (nI i) = some f' ∧ (f' 0 = nI 20 ∧ f' 1 = nI 20 ∧ f' 2 = nI 10) ∧ (∀ j, 3 ≤ j → i ≤ j → j < 250 → f' j = nI 0) ∧ ∀ j, 3 ≤ j → j < i → f' j = f j := by
  intro d
  induction d with
  | zero =>
    intro i fu f h h1
    obtain ⟨a, rfl⟩ : ∃ a, fu = a + 1 := ⟨fu - 1, by omega⟩
    have e : i = 250 := by omega
    subst e
    refine ⟨upd (upd (upd f 0 (nI 20)) 1 (nI 20)) 2 (nI 10), ?_, ⟨?_, ?_, ?_⟩, fun j a b c => by omega, fun j a b => ?_⟩
    · rw [f_X8_reset_l2, zl_250, if_pos (nI_le (Nat.le_refl 250) (by omega)), zl_0, zb_st (by omega) (by omega), zb_let, zl_1, zb_st (by omega) (by omega), zb_let, zl_2, zb_st (by omega) (by omega), zb_let, zl_20, zl_10]
    · rw [zu_ne (by omega), zu_ne (by omega), zu_same]
    · rw [zu_ne (by omega), zu_same]
    · rw [zu_same]
    · rw [zu_ne (by omega), zu_ne (by omega), zu_ne (by omega)]
  | succ d ih =>
    intro i fu f h h1
    obtain ⟨a, rfl⟩ : ∃ a, fu = a + 1 := ⟨fu - 1, by omega⟩
    obtain ⟨f', i1, i2, i3, i4⟩ := ih (i + 1) a (upd f i (nI 0)) (by omega) (by omega)
    refine ⟨f', ?_, i2, fun j a b c => ?_, fun j a b => ?_⟩
    · rw [f_X8_reset_l2, zl_250, if_neg (nI_ge (by omega) (by omega)), zb_st (by omega) (by omega), zb_let, nI_1, zb_let]
      exact i1
    · by_cases z : j = i
      · rw [i4 j a (by omega), z, zu_same]
      · exact i3 j a (by omega) c
    · rw [i4 j a (by omega), zu_ne (by omega)]
theorem zx_clr2 : ∀ (d i fu : Nat) (f : Nat → Int32), i + d = 4 → d < fu → ∃ f', f_X8_clear_l20 62 fu f (nI i) = some f' ∧ (∀ j, i ≤ j → j < 4 → f' (12 + j) = -nI 1) ∧ ∀ j, (j < 12 + i ∨ 16 ≤ j) → f' j = f j := by
  intro d
  induction d with
  | zero =>
    intro i fu f h h1
    obtain ⟨a, rfl⟩ : ∃ a, fu = a + 1 := ⟨fu - 1, by omega⟩
    refine ⟨f, ?_, fun j a b => by omega, fun j a => rfl⟩
    rw [f_X8_clear_l20, if_pos (show (4 : Int32) ≤ nI i from nI_le (a := 4) (by omega) (by omega))]
  | succ d ih =>
    intro i fu f h h1
    obtain ⟨a, rfl⟩ : ∃ a, fu = a + 1 := ⟨fu - 1, by omega⟩
    obtain ⟨f', i1, i2, i3⟩ := ih (i + 1) a (upd f (12 + i) (-nI 1)) (by omega) (by omega)
    refine ⟨f', ?_, fun j a b => ?_, fun j a => ?_⟩
    · rw [f_X8_clear_l20, if_neg (show ¬ (4 : Int32) ≤ nI i from nI_ge (b := 4) (by omega) (by omega)), zl_12, nI_add, zb_st (by omega) (by omega), zb_let, nI_1, zb_let]
      exact i1
    · by_cases z : j = i
      · rw [i3 (12 + j) (by omega), z, zu_same]
      · exact i2 j (by omega) b
    · rw [i3 j (by omega), zu_ne (by omega)]
theorem zx_clr : ∀ (d i fu : Nat) (f : Nat → Int32), i + d = 62 → d < fu → ∃ f', f_X8_clear_l2 62 fu f (nI i) = some f' ∧ (∀ j, j < 4 → f' (12 + j) = -nI 1) ∧ (∀ j, i ≤ j → j < 62 → (j < 12 ∨ 16 ≤ j) → f' j = nI 0) ∧ ∀ j, j < i → (j < 12 ∨ 16 ≤ j) → f' j = f j := by
  intro d
  induction d with
  | zero =>
    intro i fu f h h1
    obtain ⟨a, rfl⟩ : ∃ a, fu = a + 1 := ⟨fu - 1, by omega⟩
    have e : i = 62 := by omega
    subst e
    obtain ⟨f', i1, i2, i3⟩ := zx_clr2 4 0 100000 f (by omega) (by omega)
    refine ⟨f', ?_, fun j a => i2 j (by omega) a, fun j a b c => by omega, fun j a b => i3 j (by omega)⟩
    rw [f_X8_clear_l2, zl_62, if_pos (nI_le (Nat.le_refl 62) (by omega))]
    exact i1
  | succ d ih =>
    intro i fu f h h1
    obtain ⟨a, rfl⟩ : ∃ a, fu = a + 1 := ⟨fu - 1, by omega⟩
    obtain ⟨f', i1, i2, i3, i4⟩ := ih (i + 1) a (upd f i (nI 0)) (by omega) (by omega)
    refine ⟨f', ?_, i2, fun j a b c => ?_, fun j a b => ?_⟩
    · rw [f_X8_clear_l2, zl_62, if_neg (nI_ge (by omega) (by omega)), zb_st (by omega) (by omega), zb_let, nI_1, zb_let]
      exact i1
    · by_cases z : j = i
      · rw [i4 j (by omega) c, z, zu_same]
      · exact i3 j (by omega) b c
    · rw [i4 j (by omega) b, zu_ne (by omega)]
def zZero (a i : Nat) : Int32 := if a = 2 then (([20, 20, 10] : List Int32).getD i (nI 0)) else nI 0
theorem zx_clear (I : Nat → Int32) (A : Nat → Nat → Int32) : ∃ A', f_X5_clear_t58 I A = some (upd I 21 (nI 0), A') ∧ (∀ a i, a < 14 → i < zlen a → A' (47 + a) i = zZero a i) ∧ zSA A A' := by
  unfold f_X5_clear_t58
  rw [zl_0, zb_let]
  obtain ⟨f47, p47, q47, -⟩ := zx_fill (n := 4) (by omega) (A 47) (nI 0)
  rw [p47, zb_bd, zb_let]
  obtain ⟨A47, h47⟩ : ∃ X, X = qf_up A 47 f47 := ⟨_, rfl⟩
  rw [← h47]
  obtain ⟨f48, p48, q48, -⟩ := zx_fill (n := 6) (by omega) (A47 48) (nI 0)
  rw [p48, zb_bd, zb_let]
  obtain ⟨A48, h48⟩ : ∃ X, X = qf_up A47 48 f48 := ⟨_, rfl⟩
  rw [← h48]
  rw [zx_copy (by omega), zb_bd, zb_let]
  obtain ⟨A49, h49⟩ : ∃ X, X = qf_up A48 49 (va_cpy (fun j => ([20, 20, 10] : List Int32).getD j (nI 0)) (A48 49) 0 0 3) := ⟨_, rfl⟩
  rw [← h49]
  obtain ⟨f50, p50, q50, -⟩ := zx_fill (n := 120) (by omega) (A49 50) (nI 0)
  rw [p50, zb_bd, zb_let]
  obtain ⟨A50, h50⟩ : ∃ X, X = qf_up A49 50 f50 := ⟨_, rfl⟩
  rw [← h50]
  obtain ⟨f51, p51, q51, -⟩ := zx_fill (n := 6) (by omega) (A50 51) (nI 0)
  rw [p51, zb_bd, zb_let]
  obtain ⟨A51, h51⟩ : ∃ X, X = qf_up A50 51 f51 := ⟨_, rfl⟩
  rw [← h51]
  obtain ⟨f52, p52, q52, -⟩ := zx_fill (n := 6) (by omega) (A51 52) (nI 0)
  rw [p52, zb_bd, zb_let]
  obtain ⟨A52, h52⟩ : ∃ X, X = qf_up A51 52 f52 := ⟨_, rfl⟩
  rw [← h52]
  obtain ⟨f53, p53, q53, -⟩ := zx_fill (n := 24) (by omega) (A52 53) (nI 0)
  rw [p53, zb_bd, zb_let]
  obtain ⟨A53, h53⟩ : ∃ X, X = qf_up A52 53 f53 := ⟨_, rfl⟩
  rw [← h53]
  obtain ⟨f54, p54, q54, -⟩ := zx_fill (n := 16) (by omega) (A53 54) (nI 0)
  rw [p54, zb_bd, zb_let]
  obtain ⟨A54, h54⟩ : ∃ X, X = qf_up A53 54 f54 := ⟨_, rfl⟩
  rw [← h54]
  obtain ⟨f55, p55, q55, -⟩ := zx_fill (n := 4) (by omega) (A54 55) (nI 0)
  rw [p55, zb_bd, zb_let]
  obtain ⟨A55, h55⟩ : ∃ X, X = qf_up A54 55 f55 := ⟨_, rfl⟩
  rw [← h55]
  obtain ⟨f56, p56, q56, -⟩ := zx_fill (n := 24) (by omega) (A55 56) (nI 0)
  rw [p56, zb_bd, zb_let]
  obtain ⟨A56, h56⟩ : ∃ X, X = qf_up A55 56 f56 := ⟨_, rfl⟩
  rw [← h56]
  obtain ⟨f57, p57, q57, -⟩ := zx_fill (n := 24) (by omega) (A56 57) (nI 0)
  rw [p57, zb_bd, zb_let]
  obtain ⟨A57, h57⟩ : ∃ X, X = qf_up A56 57 f57 := ⟨_, rfl⟩
  rw [← h57]
  obtain ⟨f58, p58, q58, -⟩ := zx_fill (n := 4) (by omega) (A57 58) (nI 0)
  rw [p58, zb_bd, zb_let]
  obtain ⟨A58, h58⟩ : ∃ X, X = qf_up A57 58 f58 := ⟨_, rfl⟩
  rw [← h58]
  obtain ⟨f59, p59, q59, -⟩ := zx_fill (n := 4) (by omega) (A58 59) (nI 0)
  rw [p59, zb_bd, zb_let]
  obtain ⟨A59, h59⟩ : ∃ X, X = qf_up A58 59 f59 := ⟨_, rfl⟩
  rw [← h59]
  obtain ⟨f60, p60, q60, -⟩ := zx_fill (n := 4) (by omega) (A59 60) (nI 0)
  rw [p60, zb_bd, zb_let]
  obtain ⟨A60, h60⟩ : ∃ X, X = qf_up A59 60 f60 := ⟨_, rfl⟩
  rw [← h60]
  have e47 : A60 47 = f47 := by rw [h60, zu_upn (by omega), h59, zu_upn (by omega), h58, zu_upn (by omega), h57, zu_upn (by omega), h56, zu_upn (by omega), h55, zu_upn (by omega), h54, zu_upn (by omega), h53, zu_upn (by omega), h52, zu_upn (by omega), h51, zu_upn (by omega), h50, zu_upn (by omega), h49, zu_upn (by omega), h48, zu_upn (by omega), h47, zu_up]
  have e48 : A60 48 = f48 := by rw [h60, zu_upn (by omega), h59, zu_upn (by omega), h58, zu_upn (by omega), h57, zu_upn (by omega), h56, zu_upn (by omega), h55, zu_upn (by omega), h54, zu_upn (by omega), h53, zu_upn (by omega), h52, zu_upn (by omega), h51, zu_upn (by omega), h50, zu_upn (by omega), h49, zu_upn (by omega), h48, zu_up]
  have e49 : A60 49 = va_cpy (fun j => ([20, 20, 10] : List Int32).getD j (nI 0)) (A48 49) 0 0 3 := by rw [h60, zu_upn (by omega), h59, zu_upn (by omega), h58, zu_upn (by omega), h57, zu_upn (by omega), h56, zu_upn (by omega), h55, zu_upn (by omega), h54, zu_upn (by omega), h53, zu_upn (by omega), h52, zu_upn (by omega), h51, zu_upn (by omega), h50, zu_upn (by omega), h49, zu_up]
  have e50 : A60 50 = f50 := by rw [h60, zu_upn (by omega), h59, zu_upn (by omega), h58, zu_upn (by omega), h57, zu_upn (by omega), h56, zu_upn (by omega), h55, zu_upn (by omega), h54, zu_upn (by omega), h53, zu_upn (by omega), h52, zu_upn (by omega), h51, zu_upn (by omega), h50, zu_up]
  have e51 : A60 51 = f51 := by rw [h60, zu_upn (by omega), h59, zu_upn (by omega), h58, zu_upn (by omega), h57, zu_upn (by omega), h56, zu_upn (by omega), h55, zu_upn (by omega), h54, zu_upn (by omega), h53, zu_upn (by omega), h52, zu_upn (by omega), h51, zu_up]
  have e52 : A60 52 = f52 := by rw [h60, zu_upn (by omega), h59, zu_upn (by omega), h58, zu_upn (by omega), h57, zu_upn (by omega), h56, zu_upn (by omega), h55, zu_upn (by omega), h54, zu_upn (by omega), h53, zu_upn (by omega), h52, zu_up]
  have e53 : A60 53 = f53 := by rw [h60, zu_upn (by omega), h59, zu_upn (by omega), h58, zu_upn (by omega), h57, zu_upn (by omega), h56, zu_upn (by omega), h55, zu_upn (by omega), h54, zu_upn (by omega), h53, zu_up]
  have e54 : A60 54 = f54 := by rw [h60, zu_upn (by omega), h59, zu_upn (by omega), h58, zu_upn (by omega), h57, zu_upn (by omega), h56, zu_upn (by omega), h55, zu_upn (by omega), h54, zu_up]
  have e55 : A60 55 = f55 := by rw [h60, zu_upn (by omega), h59, zu_upn (by omega), h58, zu_upn (by omega), h57, zu_upn (by omega), h56, zu_upn (by omega), h55, zu_up]
  have e56 : A60 56 = f56 := by rw [h60, zu_upn (by omega), h59, zu_upn (by omega), h58, zu_upn (by omega), h57, zu_upn (by omega), h56, zu_up]
  have e57 : A60 57 = f57 := by rw [h60, zu_upn (by omega), h59, zu_upn (by omega), h58, zu_upn (by omega), h57, zu_up]
  have e58 : A60 58 = f58 := by rw [h60, zu_upn (by omega), h59, zu_upn (by omega), h58, zu_up]
  have e59 : A60 59 = f59 := by rw [h60, zu_upn (by omega), h59, zu_up]
  have e60 : A60 60 = f60 := by rw [h60, zu_up]
  refine ⟨A60, rfl, fun a i ha hi => ?_, fun a ha => ?_⟩
  · rcases (show a = 0 ∨ a = 1 ∨ a = 2 ∨ a = 3 ∨ a = 4 ∨ a = 5 ∨ a = 6 ∨ a = 7 ∨ a = 8 ∨ a = 9 ∨ a = 10 ∨ a = 11 ∨ a = 12 ∨ a = 13 by omega) with rfl | rfl | rfl | rfl | rfl | rfl | rfl | rfl | rfl | rfl | rfl | rfl | rfl | rfl
    · rw [show 47 + 0 = 47 from rfl, e47, q47 i hi]
      rfl
    · rw [show 47 + 1 = 48 from rfl, e48, q48 i hi]
      rfl
    · rw [show 47 + 2 = 49 from rfl, e49, zx_cpy (n := 3) hi]
      rfl
    · rw [show 47 + 3 = 50 from rfl, e50, q50 i hi]
      rfl
    · rw [show 47 + 4 = 51 from rfl, e51, q51 i hi]
      rfl
    · rw [show 47 + 5 = 52 from rfl, e52, q52 i hi]
      rfl
    · rw [show 47 + 6 = 53 from rfl, e53, q53 i hi]
      rfl
    · rw [show 47 + 7 = 54 from rfl, e54, q54 i hi]
      rfl
    · rw [show 47 + 8 = 55 from rfl, e55, q55 i hi]
      rfl
    · rw [show 47 + 9 = 56 from rfl, e56, q56 i hi]
      rfl
    · rw [show 47 + 10 = 57 from rfl, e57, q57 i hi]
      rfl
    · rw [show 47 + 11 = 58 from rfl, e58, q58 i hi]
      rfl
    · rw [show 47 + 12 = 59 from rfl, e59, q59 i hi]
      rfl
    · rw [show 47 + 13 = 60 from rfl, e60, q60 i hi]
      rfl
  · rw [h60, zu_upn (by omega), h59, zu_upn (by omega), h58, zu_upn (by omega), h57, zu_upn (by omega), h56, zu_upn (by omega), h55, zu_upn (by omega), h54, zu_upn (by omega), h53, zu_upn (by omega), h52, zu_upn (by omega), h51, zu_upn (by omega), h50, zu_upn (by omega), h49, zu_upn (by omega), h48, zu_upn (by omega), h47, zu_upn (by omega)]
