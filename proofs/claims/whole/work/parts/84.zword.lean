/-! words, on both sides -/
theorem zc_cmp (x y : Int64) : (lg_cmp x y = 0) ↔ x = y := by
  unfold lg_cmp
  by_cases c : x = y
  · rw [if_neg (fun z => by rw [c] at z; exact Int64.lt_irrefl z), if_pos c]
    exact ⟨fun _ => c, fun _ => rfl⟩
  · rw [if_neg c]
    split
    · exact ⟨fun z => absurd z (by decide), fun z => absurd z c⟩
    · exact ⟨fun z => absurd z (by decide), fun z => absurd z c⟩
def zBt (l : List Nat) (i : Nat) : Nat := l.getD i 0
def zFact (bs : List Int32) (l : List Nat) (c : Nat) : Prop := bs.length = l.length ∧ qs_len bs = nI l.length ∧ (∀ i, i < l.length → qs_chr bs (nI i) = nI (zBt l i)) ∧ (0 < l.length ∧ l.length ≤ 12) ∧ (∀ i, i < l.length → 97 ≤ zBt l i ∧ zBt l i ≤ 122) ∧ c = zPack (fun i => zBt l i - 96) l.length
def zl_group : List Nat := [103, 114, 111, 117, 112]
def zl_swap : List Nat := [115, 119, 97, 112]
def zl_good : List Nat := [103, 111, 111, 100]
def zl_house : List Nat := [104, 111, 117, 115, 101]
def zl_shop : List Nat := [115, 104, 111, 112]
def zl_set : List Nat := [115, 101, 116]
def zl_give : List Nat := [103, 105, 118, 101]
def zl_take : List Nat := [116, 97, 107, 101]
def zl_toler : List Nat := [116, 111, 108, 101, 114, 97, 110, 99, 101]
theorem zw_group : zFact qb_group zl_group 7945904 := by unfold zFact; decide +kernel
theorem zw_swap : zFact qb_swap zl_swap 646192 := by unfold zFact; decide +kernel
theorem zw_good : zFact qb_good zl_good 245220 := by unfold zFact; decide +kernel
theorem zw_house : zFact qb_house zl_house 8902245 := by unfold zFact; decide +kernel
theorem zw_shop : zFact qb_shop zl_shop 631280 := by unfold zFact; decide +kernel
theorem zw_set : zFact qb_set zl_set 19636 := by unfold zFact; decide +kernel
theorem zw_give : zFact qb_give zl_give 239301 := by unfold zFact; decide +kernel
theorem zw_take : zFact qb_take zl_take 656741 := by unfold zFact; decide +kernel
theorem zw_toler : zFact qb_tolerance zl_toler 22518700226661 := by unfold zFact; decide +kernel
/-- the token is this word -/
def zWrd (τ : Nat → Nat) (s e k : Nat) (l : List Nat) : Prop := k = 1 ∧ e - s = l.length ∧ ∀ i, i < l.length → τ (s + i) = zBt l i
theorem zy_isWl {A : Nat → Nat → Int32} {I : Nat → Int32} {τ : Nat → Nat} {len s : Nat} {bs : List Int32} {l : List Nat} {c : Nat} (hF : zFact bs l c) (hx : zTx A τ len) (h7 : I 7 = nI s) (hs : s + l.length ≤ len) : ∀ (d i fu : Nat), i + d = l.length → d < fu → (∀ j, j < i → τ (s + j) = zBt l j) → ∃ r, f_X6_isWord_l28 bs I A 1 fu (nI i) = some r ∧ (r ≠ 0 ↔ ∀ j, j < l.length → τ (s + j) = zBt l j) := by
  have hl := hx.1
  have ht := hx.2
  obtain ⟨w1, w2, w3, w4, w5, w6⟩ := hF
  intro d
  induction d with
  | zero =>
    intro i fu h h1 hj
    obtain ⟨a, rfl⟩ : ∃ a, fu = a + 1 := ⟨fu - 1, by omega⟩
    refine ⟨1, ?_, fun _ j h => hj j (by omega), fun _ => by decide⟩
    rw [f_X6_isWord_l28, w2, if_pos (nI_le (by omega) (by omega))]
  | succ d ih =>
    intro i fu h h1 hj
    obtain ⟨a, rfl⟩ : ∃ a, fu = a + 1 := ⟨fu - 1, by omega⟩
    have hlo := w5 i (by omega)
    rw [f_X6_isWord_l28, w2, if_neg (nI_ge (by omega) (by omega)), zb_ck rfl, h7, nI_add, zb_ld (by omega) (by omega), (ht (s + i) (by omega)).1, zb_ck ⟨nI_pos' (by omega), by rw [w1]; exact nI_lt (by omega) (by omega)⟩, w3 i (by omega)]
    by_cases c : τ (s + i) = zBt l i
    · rw [if_pos (by rw [c]), zb_let, nI_1]
      refine ih (i + 1) a (by omega) (by omega) (fun j hj2 => ?_)
      by_cases z : j = i
      · rw [z]; exact c
      · exact hj j (by omega)
    · rw [if_neg (fun z => c ((nI_eq (by have := (ht (s + i) (by omega)).2; omega) (by omega)).mp z))]
      exact ⟨0, rfl, fun z => absurd rfl z, fun z => absurd (z i (by omega)) c⟩
section ZWORD
variable {τ : Nat → Nat} {len s e k : Nat} {I : Nat → Int32} {A : Nat → Nat → Int32} {J : Nat → Int32} {B : Nat → Nat → Int32} {w : Int64} {bs : List Int32} {l : List Nat} {c : Nat}
theorem zy_isW (h : zTR τ len s e k I A J B w) (hF : zFact bs l c) : ∃ r, f_X6_isWord I A 1 bs = some r ∧ (r ≠ 0 ↔ zWrd τ s e k l) := by
  obtain ⟨hx, hy, ⟨i5, i7, i6, i8⟩, ⟨j3, j5, j4, j6⟩, he, ⟨s1, s2, s3, s4⟩, hw, hn⟩ := h
  have hl := hx.1
  have hF2 := id hF
  obtain ⟨w1, w2, w3, w4, w5, w6⟩ := hF
  unfold f_X6_isWord
  rw [i8]
  by_cases z : k = 1
  · rw [if_pos (by rw [z]; rfl), i6, i7, pk_sub s1, w2]
    by_cases c2 : e - s = l.length
    · rw [if_pos (by rw [c2])]
      obtain ⟨r, a1, a2⟩ := zy_isWl hF2 hx i7 (by omega) l.length 0 100000 (by omega) (by omega) (fun j hj => by omega)
      exact ⟨r, a1, a2.trans ⟨fun q => ⟨z, c2, q⟩, fun q => q.2.2⟩⟩
    · rw [if_neg (fun q => c2 ((nI_eq (by omega) (by omega)).mp q))]
      exact ⟨0, rfl, fun q => absurd rfl q, fun q => absurd q.2.1 c2⟩
  · rw [if_neg (show ¬ nI k = (1 : Int32) from fun q => z ((nI_eq (b := 1) (by omega) (by omega)).mp q))]
    exact ⟨0, rfl, fun q => absurd rfl q, fun q => absurd q.1 z⟩
theorem zWrd_code (h : zTR τ len s e k I A J B w) (hF : zFact bs l c) (hk : k = 1) : w = lN c ↔ zWrd τ s e k l := by
  obtain ⟨hx, hy, ⟨i5, i7, i6, i8⟩, ⟨j3, j5, j4, j6⟩, he, ⟨s1, s2, s3, s4⟩, hw, hn⟩ := h
  obtain ⟨w1, w2, w3, w4, w5, w6⟩ := hF
  obtain ⟨t1, t2⟩ := hw hk
  have hq := zPack_inj (a := fun i => τ (s + i) - 96) (b := fun i => zBt l i - 96) (e - s) l.length (fun i hi => by have := t1 i hi; show 1 ≤ τ (s + i) - 96 ∧ τ (s + i) - 96 < 32; omega) (fun i hi => by have := w5 i hi; show 1 ≤ zBt l i - 96 ∧ zBt l i - 96 < 32; omega)
  have hp2 := zPack_lt (c := fun i => zBt l i - 96) l.length (fun i hi => by have := w5 i hi; show zBt l i - 96 < 32; omega)
  have hb2 : 32 ^ l.length ≤ 32 ^ 12 := Nat.pow_le_pow_right (by omega) w4.2
  have hc : c < 2 ^ 63 := by rw [w6]; omega
  have hc0 : c ≠ 0 := by
    rw [w6]
    have h5 := w5 (l.length - 1) (by omega)
    obtain ⟨m, hm⟩ : ∃ m, l.length = m + 1 := ⟨l.length - 1, by omega⟩
    rw [hm] at h5 ⊢
    have h5 : 97 ≤ zBt l m ∧ zBt l m ≤ 122 := h5
    show zPack (fun i => zBt l i - 96) m * 32 + (zBt l m - 96) ≠ 0
    omega
  have goal2 : zWrd τ s e k l ↔ (e - s = l.length ∧ ∀ i, i < e - s → τ (s + i) - 96 = zBt l i - 96) := by
    constructor
    · intro q
      refine ⟨q.2.1, fun i hi => by rw [q.2.2 i (by have := q.2.1; omega)]⟩
    · intro q
      refine ⟨hk, q.1, fun i hi => ?_⟩
      have := q.2 i (by have := q.1; omega)
      have := t1 i (by have := q.1; omega)
      have := w5 i hi
      omega
  rw [goal2, ← hq, t2]
  unfold zWv
  by_cases c12 : e - s ≤ 12
  · have hp1 := zPack_lt (c := fun i => τ (s + i) - 96) (e - s) (fun i hi => by have := t1 i hi; show τ (s + i) - 96 < 32; omega)
    have hb1 : 32 ^ (e - s) ≤ 32 ^ 12 := Nat.pow_le_pow_right (by omega) c12
    rw [if_pos c12, pk_lEQ (by omega) hc, w6]
  · rw [if_neg c12]
    constructor
    · intro q
      exact absurd ((pk_lEQ (a := 0) (by omega) hc).mp q) (by omega)
    · intro q
      have := (hq.mp q).1
      omega
theorem zy_isW8 (h : zTR τ len s e k I A J B w) (hg : I 3 = 0) (hF : zFact bs l c) : ∃ r, f_X8_isWord J w (lN c) = some r ∧ (r ≠ 0 ↔ zWrd τ s e k l) := by
  have j6 := h.2.2.2.1.2.2.2
  have hk : k ≤ 4 := h.2.2.2.2.2.1.2.2.1
  unfold f_X8_isWord
  rw [if_pos (h.2.2.2.2.1.1 ▸ hg), j6]
  by_cases z : k = 1
  · rw [if_pos (by rw [z]; rfl)]
    have e1 := zWrd_code h hF z
    by_cases c2 : lg_cmp w (lN c) = 0
    · rw [if_pos c2]
      exact ⟨1, rfl, fun _ => e1.mp ((zc_cmp _ _).mp c2), fun _ => by decide⟩
    · rw [if_neg c2]
      exact ⟨0, rfl, fun q => absurd rfl q, fun q => absurd ((zc_cmp _ _).mpr (e1.mpr q)) c2⟩
  · rw [if_neg (show ¬ nI k = (1 : Int32) from fun q => z ((nI_eq (b := 1) (by omega) (by omega)).mp q))]
    exact ⟨0, rfl, fun q => absurd rfl q, fun q => absurd q.1 z⟩
end ZWORD
