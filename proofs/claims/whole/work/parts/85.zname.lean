/-! names, on both sides -/
theorem zn_group : (7945904 : Int64) = lN 7945904 := z_eq rfl
theorem zn_swap : (646192 : Int64) = lN 646192 := z_eq rfl
theorem zn_good : (245220 : Int64) = lN 245220 := z_eq rfl
theorem zn_house : (8902245 : Int64) = lN 8902245 := z_eq rfl
theorem zn_shop : (631280 : Int64) = lN 631280 := z_eq rfl
theorem zn_set : (19636 : Int64) = lN 19636 := z_eq rfl
theorem zn_give : (239301 : Int64) = lN 239301 := z_eq rfl
theorem zn_take : (656741 : Int64) = lN 656741 := z_eq rfl
theorem zn_toler : (22518700226661 : Int64) = lN 22518700226661 := z_eq rfl
theorem zc_yes {β : Type} {x : Option Int32} {p : Prop} {K L : Option β} (h : ∃ r, x = some r ∧ (r ≠ 0 ↔ p)) (c : p) : (qf_bd x fun r => if r = 0 then K else L) = L := by
  obtain ⟨r, rfl, h2⟩ := h
  rw [zb_bd, if_neg (h2.mpr c)]
theorem zc_no {β : Type} {x : Option Int32} {p : Prop} {K L : Option β} (h : ∃ r, x = some r ∧ (r ≠ 0 ↔ p)) (c : ¬ p) : (qf_bd x fun r => if r = 0 then K else L) = K := by
  obtain ⟨r, rfl, h2⟩ := h
  by_cases z : r = 0
  · rw [zb_bd, if_pos z]
  · exact absurd (h2.mp z) c
/-- a letter's code in the token, nothing beyond it -/
def zLc (τ : Nat → Nat) (s e i : Nat) : Nat := if i < e - s then τ (s + i) - 96 else 0
theorem zy_sh5 {a x : Nat} (ha : a < 2 ^ 25) (hx : x < 32) : (nI a <<< ((5 : Int32) &&& 31)) ||| nI x = nI (a * 32 + x) := by
  rw [pk_shlN ((5 : Int32) &&& 31) 5 (by decide) (by omega)]
  apply Int32.toBitVec_inj.mp
  apply BitVec.eq_of_toNat_eq
  rw [Int32.toBitVec_or, BitVec.toNat_or, pk_tn (by omega), pk_tn (by omega), pk_tn (by omega)]
  have := Nat.shiftLeft_add_eq_or_of_lt (show x < 2 ^ 5 by omega) a
  rw [Nat.shiftLeft_eq] at this
  exact this.symm
theorem zLc_lt {τ : Nat → Nat} {s e : Nat} (hd : ∀ i, i < e - s → 97 ≤ τ (s + i) ∧ τ (s + i) ≤ 122) : ∀ i, i ≤ 6 → zPack (zLc τ s e) i < 32 ^ i ∧ 32 ^ i ≤ 2 ^ 30 := fun i hi => ⟨zPack_lt i (fun j hj => by
  unfold zLc
  by_cases z : j < e - s
  · have := hd j z
    rw [if_pos z]
    omega
  · rw [if_neg z]
    omega), Nat.le_trans (Nat.pow_le_pow_right (by omega) hi) (by omega)⟩
theorem zy_let7 {A : Nat → Nat → Int32} {I : Nat → Int32} {τ : Nat → Nat} {len s e : Nat} (hx : zTx A τ len) (hs : s ≤ e) (he : e ≤ len) (h6 : I 6 = nI e) (h7 : I 7 = nI s) : ∀ (d i fu : Nat) (y : Int32), i + d = 6 → d < fu → ∃ v, f_X6_letters_l4 I A 1 fu y (nI i) = some v ∧ ((∀ j, j < e - s → 97 ≤ τ (s + j) ∧ τ (s + j) ≤ 122) → y = nI (zPack (zLc τ s e) i) → v = nI (zPack (zLc τ s e) 6)) := by
  have hl := hx.1
  have ht := hx.2
  intro d
  induction d with
  | zero =>
    intro i fu y h h1
    obtain ⟨a, rfl⟩ : ∃ a, fu = a + 1 := ⟨fu - 1, by omega⟩
    have : i = 6 := by omega
    subst this
    refine ⟨y, ?_, fun _ z => z⟩
    rw [f_X6_letters_l4, if_pos (show (6 : Int32) ≤ nI 6 from nI_le (a := 6) (by omega) (by omega))]
  | succ d ih =>
    intro i fu y h h1
    obtain ⟨a, rfl⟩ : ∃ a, fu = a + 1 := ⟨fu - 1, by omega⟩
    have n6 : ¬ (6 : Int32) ≤ nI i := nI_ge (b := 6) (by omega) (by omega)
    by_cases c : e ≤ s + i
    · obtain ⟨v, i1, i2⟩ := ih (i + 1) a ((y <<< ((5 : Int32) &&& 31)) ||| (0 : Int32)) (by omega) (by omega)
      refine ⟨v, ?_, fun hd hy => i2 hd ?_⟩
      · rw [f_X6_letters_l4, if_neg n6, h6, h7, nI_add, if_pos (nI_le c (by omega))]
        unfold f_X6_letters_j46
        rw [zb_let, nI_1, zb_let]
        exact i1
      · obtain ⟨b1, b2⟩ := zLc_lt hd (i + 1) (by omega)
        have e1 : zPack (zLc τ s e) (i + 1) = zPack (zLc τ s e) i * 32 + zLc τ s e i := rfl
        have e2 : zLc τ s e i = 0 := if_neg (by omega)
        rw [hy, zl_0, zy_sh5 (by omega) (by omega), e1, e2]
    · obtain ⟨v, i1, i2⟩ := ih (i + 1) a ((y <<< ((5 : Int32) &&& 31)) ||| ((nI (τ (s + i)) - (97 : Int32)) + (1 : Int32))) (by omega) (by omega)
      refine ⟨v, ?_, fun hd hy => i2 hd ?_⟩
      · rw [f_X6_letters_l4, if_neg n6, h6, h7, nI_add, if_neg (nI_ge (by omega) (by omega)), zb_ck rfl, zb_ld (by omega) (by omega), (ht (s + i) (by omega)).1]
        unfold f_X6_letters_j46
        rw [zb_let, nI_1, zb_let]
        exact i1
      · obtain ⟨b1, b2⟩ := zLc_lt hd (i + 1) (by omega)
        have hdi := hd i (by omega)
        have e1 : zPack (zLc τ s e) (i + 1) = zPack (zLc τ s e) i * 32 + zLc τ s e i := rfl
        have e2 : zLc τ s e i = τ (s + i) - 96 := if_pos (by omega)
        rw [hy, zl_97, pk_sub (by omega), nI_1, show τ (s + i) - 97 + 1 = τ (s + i) - 96 by omega, zy_sh5 (by omega) (by omega), e1, e2]
theorem zy_let8 {J : Nat → Int32} {w : Int64} {τ : Nat → Nat} {s e : Nat} (hd : ∀ j, j < e - s → 97 ≤ τ (s + j) ∧ τ (s + j) ≤ 122) : ∀ (d i fu : Nat), i + d = 6 → e - s ≤ i → d < fu → f_X8_lettersHere_l56 w fu J (nI (zPack (zLc τ s e) i)) (nI i) = some (nI (zPack (zLc τ s e) 6), J) := by
  intro d
  induction d with
  | zero =>
    intro i fu h he h1
    obtain ⟨a, rfl⟩ : ∃ a, fu = a + 1 := ⟨fu - 1, by omega⟩
    have : i = 6 := by omega
    subst this
    rw [f_X8_lettersHere_l56, if_pos (show (6 : Int32) ≤ nI 6 from nI_le (a := 6) (by omega) (by omega))]
  | succ d ih =>
    intro i fu h he h1
    obtain ⟨a, rfl⟩ : ∃ a, fu = a + 1 := ⟨fu - 1, by omega⟩
    obtain ⟨b1, b2⟩ := zLc_lt hd (i + 1) (by omega)
    have e1 : zPack (zLc τ s e) (i + 1) = zPack (zLc τ s e) i * 32 + zLc τ s e i := rfl
    have e2 : zLc τ s e i = 0 := if_neg (by omega)
    rw [f_X8_lettersHere_l56, if_neg (show ¬ (6 : Int32) ≤ nI i from nI_ge (b := 6) (by omega) (by omega)), pk_shlN ((5 : Int32) &&& 31) 5 (by decide) (by omega), zb_let, nI_1, zb_let, show zPack (zLc τ s e) i * 2 ^ 5 = zPack (zLc τ s e) (i + 1) by omega]
    exact ih (i + 1) a (by omega) (by omega) (by omega)
theorem zy_let8s {J : Nat → Int32} {w : Int64} : ∀ (d i fu : Nat) (y : Int32), 6 ≤ i + d → i ≤ 800 → d < fu → ∃ v, f_X8_lettersHere_l56 w fu J y (nI i) = some (v, J) := by
  intro d
  induction d with
  | zero =>
    intro i fu y h h2 h1
    obtain ⟨a, rfl⟩ : ∃ a, fu = a + 1 := ⟨fu - 1, by omega⟩
    rw [f_X8_lettersHere_l56, if_pos (show (6 : Int32) ≤ nI i from nI_le (a := 6) (by omega) (by omega))]
    exact ⟨_, rfl⟩
  | succ d ih =>
    intro i fu y h h2 h1
    obtain ⟨a, rfl⟩ : ∃ a, fu = a + 1 := ⟨fu - 1, by omega⟩
    rw [f_X8_lettersHere_l56]
    by_cases c : 6 ≤ i
    · rw [if_pos (show (6 : Int32) ≤ nI i from nI_le (a := 6) (by omega) (by omega))]
      exact ⟨_, rfl⟩
    · rw [if_neg (show ¬ (6 : Int32) ≤ nI i from nI_ge (b := 6) (by omega) (by omega)), zb_let, nI_1, zb_let]
      exact ih (i + 1) a _ (by omega) (by omega) (by omega)
/-- the token is a name -/
def zKey (τ : Nat → Nat) (s e k : Nat) : Prop := zWrd τ s e k zl_group ∨ zWrd τ s e k zl_swap ∨ zWrd τ s e k zl_good ∨ zWrd τ s e k zl_house ∨ zWrd τ s e k zl_shop ∨ zWrd τ s e k zl_set ∨ zWrd τ s e k zl_give ∨ zWrd τ s e k zl_take
def zNm (τ : Nat → Nat) (s e k : Nat) : Prop := k = 1 ∧ e - s ≤ 6 ∧ ¬ zKey τ s e k
section ZNAME
variable {τ : Nat → Nat} {len s e k : Nat} {I : Nat → Int32} {A : Nat → Nat → Int32} {J : Nat → Int32} {B : Nat → Nat → Int32} {w : Int64} {n : Nat → Nat}
theorem zy_isN (h : zTR τ len s e k I A J B w) : ∃ r, f_X6_isName I A 1 = some r ∧ (r ≠ 0 ↔ zNm τ s e k) := by
  obtain ⟨i5, i7, i6, i8⟩ := h.2.2.1
  obtain ⟨s1, s2, s3, s4⟩ := h.2.2.2.2.2.1
  have hl := h.1.1
  have hno : ∀ {p : Prop}, (zNm τ s e k → ¬ p) → p → ∃ r, (some (0 : Int32) : Option Int32) = some r ∧ (r ≠ 0 ↔ zNm τ s e k) := fun q q2 => ⟨0, rfl, fun z => absurd rfl z, fun z => absurd q2 (q z)⟩
  unfold f_X6_isName
  rw [i8]
  by_cases z : k = 1
  · rw [if_pos (by rw [z]; rfl), i6, i7, pk_sub s1]
    by_cases c : e - s ≤ 6
    · rw [if_neg (show ¬ (6 : Int32) < nI (e - s) from nI_nlt (a := 6) c (by omega))]
      by_cases c1 : zWrd τ s e k zl_group
      · rw [zc_yes (zy_isW h zw_group) c1]
        exact hno (fun q q2 => q.2.2 (Or.inl q2)) c1
      rw [zc_no (zy_isW h zw_group) c1]
      by_cases c2 : zWrd τ s e k zl_swap
      · rw [zc_yes (zy_isW h zw_swap) c2]
        exact hno (fun q q2 => q.2.2 (Or.inr (Or.inl q2))) c2
      rw [zc_no (zy_isW h zw_swap) c2]
      by_cases c3 : zWrd τ s e k zl_good
      · rw [zc_yes (zy_isW h zw_good) c3]
        exact hno (fun q q2 => q.2.2 (Or.inr (Or.inr (Or.inl q2)))) c3
      rw [zc_no (zy_isW h zw_good) c3]
      by_cases c4 : zWrd τ s e k zl_house
      · rw [zc_yes (zy_isW h zw_house) c4]
        exact hno (fun q q2 => q.2.2 (Or.inr (Or.inr (Or.inr (Or.inl q2))))) c4
      rw [zc_no (zy_isW h zw_house) c4]
      by_cases c5 : zWrd τ s e k zl_shop
      · rw [zc_yes (zy_isW h zw_shop) c5]
        exact hno (fun q q2 => q.2.2 (Or.inr (Or.inr (Or.inr (Or.inr (Or.inl q2)))))) c5
      rw [zc_no (zy_isW h zw_shop) c5]
      by_cases c6 : zWrd τ s e k zl_set
      · rw [zc_yes (zy_isW h zw_set) c6]
        exact hno (fun q q2 => q.2.2 (Or.inr (Or.inr (Or.inr (Or.inr (Or.inr (Or.inl q2))))))) c6
      rw [zc_no (zy_isW h zw_set) c6]
      by_cases c7 : zWrd τ s e k zl_give
      · rw [zc_yes (zy_isW h zw_give) c7]
        exact hno (fun q q2 => q.2.2 (Or.inr (Or.inr (Or.inr (Or.inr (Or.inr (Or.inr (Or.inl q2)))))))) c7
      rw [zc_no (zy_isW h zw_give) c7]
      by_cases c8 : zWrd τ s e k zl_take
      · rw [zc_yes (zy_isW h zw_take) c8]
        exact hno (fun q q2 => q.2.2 (Or.inr (Or.inr (Or.inr (Or.inr (Or.inr (Or.inr (Or.inr q2)))))))) c8
      rw [zc_no (zy_isW h zw_take) c8, zc_no (zy_isW h zw_toler) (fun q => by have h9 : e - s = 9 := q.2.1; omega)]
      refine ⟨1, rfl, fun _ => ⟨z, c, ?_⟩, fun _ => by decide⟩
      rintro (q | q | q | q | q | q | q | q)
      · exact c1 q
      · exact c2 q
      · exact c3 q
      · exact c4 q
      · exact c5 q
      · exact c6 q
      · exact c7 q
      · exact c8 q
    · rw [if_pos (show (6 : Int32) < nI (e - s) from nI_lt (a := 6) (by omega) (by omega))]
      exact hno (p := ¬ e - s ≤ 6) (fun q q2 => q2 q.2.1) c
  · rw [if_neg (show ¬ nI k = (1 : Int32) from fun q => z ((nI_eq (b := 1) (by omega) (by omega)).mp q))]
    exact hno (p := ¬ k = 1) (fun q q2 => q2 q.1) z
theorem zy_isK8 (h : zTR τ len s e k I A J B w) (hk : k = 1) : ∃ r, f_X8_isKeyword w = some r ∧ (r ≠ 0 ↔ zKey τ s e k) := by
  have one : ∀ {l : List Nat} {c : Nat} {bs : List Int32}, zFact bs l c → ((lg_cmp w (lN c) = 0) ↔ zWrd τ s e k l) := fun hF => (zc_cmp _ _).trans (zWrd_code h hF hk)
  have yes : ∀ {p : Prop}, p → (p → zKey τ s e k) → ∃ r, f_X8_isKeyword_j88 w = some r ∧ (r ≠ 0 ↔ zKey τ s e k) := fun q q2 => ⟨1, rfl, fun _ => q2 q, fun _ => by decide⟩
  unfold f_X8_isKeyword
  rw [zn_group, zn_swap, zn_good, zn_house, zn_shop, zn_set, zn_give, zn_take]
  by_cases c1 : zWrd τ s e k zl_group
  · rw [if_pos ((one zw_group).mpr c1)]
    exact yes c1 Or.inl
  rw [if_neg (fun q => c1 ((one zw_group).mp q))]
  by_cases c2 : zWrd τ s e k zl_swap
  · rw [if_pos ((one zw_swap).mpr c2)]
    exact yes c2 (fun q => Or.inr (Or.inl q))
  rw [if_neg (fun q => c2 ((one zw_swap).mp q))]
  by_cases c3 : zWrd τ s e k zl_good
  · rw [if_pos ((one zw_good).mpr c3)]
    exact yes c3 (fun q => Or.inr (Or.inr (Or.inl q)))
  rw [if_neg (fun q => c3 ((one zw_good).mp q))]
  by_cases c4 : zWrd τ s e k zl_house
  · rw [if_pos ((one zw_house).mpr c4)]
    exact yes c4 (fun q => Or.inr (Or.inr (Or.inr (Or.inl q))))
  rw [if_neg (fun q => c4 ((one zw_house).mp q))]
  by_cases c5 : zWrd τ s e k zl_shop
  · rw [if_pos ((one zw_shop).mpr c5)]
    exact yes c5 (fun q => Or.inr (Or.inr (Or.inr (Or.inr (Or.inl q)))))
  rw [if_neg (fun q => c5 ((one zw_shop).mp q))]
  by_cases c6 : zWrd τ s e k zl_set
  · rw [if_pos ((one zw_set).mpr c6)]
    exact yes c6 (fun q => Or.inr (Or.inr (Or.inr (Or.inr (Or.inr (Or.inl q))))))
  rw [if_neg (fun q => c6 ((one zw_set).mp q))]
  by_cases c7 : zWrd τ s e k zl_give
  · rw [if_pos ((one zw_give).mpr c7)]
    exact yes c7 (fun q => Or.inr (Or.inr (Or.inr (Or.inr (Or.inr (Or.inr (Or.inl q)))))))
  rw [if_neg (fun q => c7 ((one zw_give).mp q))]
  by_cases c8 : zWrd τ s e k zl_take
  · rw [if_pos ((one zw_take).mpr c8)]
    exact yes c8 (fun q => Or.inr (Or.inr (Or.inr (Or.inr (Or.inr (Or.inr (Or.inr q)))))))
  rw [if_neg (fun q => c8 ((one zw_take).mp q))]
  refine ⟨0, rfl, fun q => absurd rfl q, ?_⟩
  rintro (q | q | q | q | q | q | q | q)
  · exact absurd q c1
  · exact absurd q c2
  · exact absurd q c3
  · exact absurd q c4
  · exact absurd q c5
  · exact absurd q c6
  · exact absurd q c7
  · exact absurd q c8
end ZNAME
