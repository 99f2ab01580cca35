/-- not a row by 'rfl': its uses leave a proof, and the kernel unfolds nothing -/
theorem z_eq {α : Type} {a b : α} (h : a = b) : a = b := h
theorem zl_0 : (0 : Int32) = nI 0 := z_eq rfl
theorem zl_1 : (1 : Int32) = nI 1 := z_eq rfl
theorem zl_2 : (2 : Int32) = nI 2 := z_eq rfl
theorem zl_3 : (3 : Int32) = nI 3 := z_eq rfl
theorem zl_4 : (4 : Int32) = nI 4 := z_eq rfl
theorem zl_5 : (5 : Int32) = nI 5 := z_eq rfl
theorem zl_6 : (6 : Int32) = nI 6 := z_eq rfl
theorem zl_7 : (7 : Int32) = nI 7 := z_eq rfl
theorem zl_8 : (8 : Int32) = nI 8 := z_eq rfl
theorem zl_9 : (9 : Int32) = nI 9 := z_eq rfl
theorem zl_10 : (10 : Int32) = nI 10 := z_eq rfl
theorem zl_11 : (11 : Int32) = nI 11 := z_eq rfl
theorem zl_12 : (12 : Int32) = nI 12 := z_eq rfl
theorem zl_13 : (13 : Int32) = nI 13 := z_eq rfl
theorem zl_14 : (14 : Int32) = nI 14 := z_eq rfl
theorem zl_15 : (15 : Int32) = nI 15 := z_eq rfl
theorem zl_16 : (16 : Int32) = nI 16 := z_eq rfl
theorem zl_20 : (20 : Int32) = nI 20 := z_eq rfl
theorem zl_24 : (24 : Int32) = nI 24 := z_eq rfl
theorem zl_26 : (26 : Int32) = nI 26 := z_eq rfl
theorem zl_31 : (31 : Int32) = nI 31 := z_eq rfl
theorem zl_32 : (32 : Int32) = nI 32 := z_eq rfl
theorem zl_38 : (38 : Int32) = nI 38 := z_eq rfl
theorem zl_44 : (44 : Int32) = nI 44 := z_eq rfl
theorem zl_48 : (48 : Int32) = nI 48 := z_eq rfl
theorem zl_50 : (50 : Int32) = nI 50 := z_eq rfl
theorem zl_56 : (56 : Int32) = nI 56 := z_eq rfl
theorem zl_57 : (57 : Int32) = nI 57 := z_eq rfl
theorem zl_59 : (59 : Int32) = nI 59 := z_eq rfl
theorem zl_62 : (62 : Int32) = nI 62 := z_eq rfl
theorem zl_96 : (96 : Int32) = nI 96 := z_eq rfl
theorem zl_97 : (97 : Int32) = nI 97 := z_eq rfl
theorem zl_99 : (99 : Int32) = nI 99 := z_eq rfl
theorem zl_100 : (100 : Int32) = nI 100 := z_eq rfl
theorem zl_122 : (122 : Int32) = nI 122 := z_eq rfl
theorem zl_133 : (133 : Int32) = nI 133 := z_eq rfl
theorem zl_139 : (139 : Int32) = nI 139 := z_eq rfl
theorem zl_145 : (145 : Int32) = nI 145 := z_eq rfl
theorem zl_169 : (169 : Int32) = nI 169 := z_eq rfl
theorem zl_185 : (185 : Int32) = nI 185 := z_eq rfl
theorem zl_189 : (189 : Int32) = nI 189 := z_eq rfl
theorem zl_213 : (213 : Int32) = nI 213 := z_eq rfl
theorem zl_237 : (237 : Int32) = nI 237 := z_eq rfl
theorem zl_241 : (241 : Int32) = nI 241 := z_eq rfl
theorem zl_245 : (245 : Int32) = nI 245 := z_eq rfl
theorem zl_249 : (249 : Int32) = nI 249 := z_eq rfl
theorem zl_250 : (250 : Int32) = nI 250 := z_eq rfl
theorem zl_255 : (255 : Int32) = nI 255 := z_eq rfl
theorem zl_400 : (400 : Int32) = nI 400 := z_eq rfl
theorem zl_401 : (401 : Int32) = nI 401 := z_eq rfl
theorem zl_800 : (800 : Int32) = nI 800 := z_eq rfl
theorem zl_999 : (999 : Int32) = nI 999 := z_eq rfl
theorem zl_1000 : (1000 : Int32) = nI 1000 := z_eq rfl
theorem zl_2406 : (2406 : Int32) = nI 2406 := z_eq rfl
theorem zl_2500 : (2500 : Int32) = nI 2500 := z_eq rfl
theorem zl_2807 : (2807 : Int32) = nI 2807 := z_eq rfl
theorem zl_9999 : (9999 : Int32) = nI 9999 := z_eq rfl
theorem zl_99999 : (99999 : Int32) = nI 99999 := z_eq rfl
theorem zl_100000 : (100000 : Int32) = nI 100000 := z_eq rfl
theorem zl_1000000000 : (1000000000 : Int32) = nI 1000000000 := z_eq rfl
theorem zl_100000000 : (100000000 : Int32) = nI 100000000 := z_eq rfl
theorem zb_let {α β : Type} (x : α) (K : α → β) : qf_let x K = K x := z_eq rfl
theorem zb_bd {α β : Type} (x : α) (K : α → Option β) : qf_bd (some x) K = K x := z_eq rfl
theorem zb_bd2 {α β γ : Type} (a : α) (b : β) (K : α → β → Option γ) : qf_bd2 (some (a, b)) K = K a b := z_eq rfl
theorem zb_bd3 {α β γ δ : Type} (a : α) (b : β) (c : γ) (K : α → β → γ → Option δ) : qf_bd3 (some (a, b, c)) K = K a b c := z_eq rfl
theorem zb_bd4 {α β γ δ ε : Type} (a : α) (b : β) (c : γ) (d : δ) (K : α → β → γ → δ → Option ε) : qf_bd4 (some (a, b, c, d)) K = K a b c d := z_eq rfl
theorem zb_bd5 {α β γ δ ε ζ : Type} (a : α) (b : β) (c : γ) (d : δ) (e : ε) (K : α → β → γ → δ → ε → Option ζ) : qf_bd5 (some (a, b, c, d, e)) K = K a b c d e := z_eq rfl
theorem zb_ck {β : Type} {c : Prop} [Decidable c] {K : Option β} (h : c) : qf_ck c K = K := if_pos h
theorem zb_ckT {β : Type} {i : Decidable True} {K : Option β} : @qf_ck β True i K = K := if_pos trivial
theorem zb_ld {β : Type} {n k : Nat} {f : Nat → Int32} {K : Int32 → Option β} (hk : k < n) (hn : n < 2147483648) : qf_ld n f (nI k) K = K (f k) := by
  unfold qf_ld
  rw [if_neg (nI_in hk (by omega)), nI_clamp (by omega)]
theorem zb_st {β : Type} {n k : Nat} {K : Nat → Option β} (hk : k < n) (hn : n < 2147483648) : qf_st n (nI k) K = K k := by
  unfold qf_st
  rw [if_neg (nI_in hk (by omega)), nI_clamp (by omega)]
theorem zc_lt_t {a b : Nat} (h : a < b) (hb : b < 2147483648) : (nI a < nI b) = True := eq_true (nI_lt h (by omega))
theorem zc_lt_f {a b : Nat} (h : b ≤ a) (ha : a < 2147483648) : (nI a < nI b) = False := eq_false (nI_nlt h (by omega))
theorem zc_le_t {a b : Nat} (h : a ≤ b) (hb : b < 2147483648) : (nI a ≤ nI b) = True := eq_true (nI_le h (by omega))
theorem zc_le_f {a b : Nat} (h : b < a) (ha : a < 2147483648) : (nI a ≤ nI b) = False := eq_false (nI_ge h (by omega))
theorem zc_eq_t {a b : Nat} (h : a = b) : (nI a = nI b) = True := eq_true (congrArg nI h)
theorem zc_eq_f {a b : Nat} (h : a ≠ b) (ha : a < 2147483648) (hb : b < 2147483648) : (nI a = nI b) = False := eq_false (fun e => h ((nI_eq (by omega) (by omega)).mp e))
theorem zc_neg1 : (-nI 1).toInt = -1 := by decide
theorem zc_m1 {n : Nat} (h : n < 2147483648) : (-nI 1 < nI n) = True := eq_true (by
  rw [Int32.lt_iff_toInt_lt, nI_toInt (by omega), zc_neg1]
  omega)
theorem zc_m2 {n : Nat} (h : n < 2147483648) : (nI n < -nI 1) = False := eq_false (by
  rw [Int32.lt_iff_toInt_lt, nI_toInt (by omega), zc_neg1]
  omega)
theorem zc_m3 {n : Nat} (h : n < 2147483648) : (nI n ≤ -nI 1) = False := eq_false (by
  rw [Int32.le_iff_toInt_le, nI_toInt (by omega), zc_neg1]
  omega)
theorem zc_m4 {n : Nat} (h : n < 2147483648) : (-nI 1 = nI n) = False := eq_false (by
  rw [← Int32.toInt_inj, nI_toInt (by omega), zc_neg1]
  omega)
theorem zc_m5 {n : Nat} (h : n < 2147483648) : (nI n = -nI 1) = False := eq_false (by
  rw [← Int32.toInt_inj, nI_toInt (by omega), zc_neg1]
  omega)
theorem zc_m6 {n : Nat} (h : n < 2147483648) : (-nI 1 ≤ nI n) = True := eq_true (by
  rw [Int32.le_iff_toInt_le, nI_toInt (by omega), zc_neg1]
  omega)
theorem z0a (x : Int32) : nI 0 + x = x := Int32.zero_add x
theorem zn_4 (s : Nat) : 4 * s = s * 4 := Nat.mul_comm _ _
theorem zn_5 (s : Nat) : 5 * s = s * 5 := Nat.mul_comm _ _
theorem zn_6 (s : Nat) : 6 * s = s * 6 := Nat.mul_comm _ _
theorem zu_upup {α : Type} (A : Nat → α) (k : Nat) (f g : α) : qf_up (qf_up A k f) k g = qf_up A k g := by
  funext j
  unfold qf_up
  by_cases h : j = k
  · rw [if_pos h, if_pos h]
  · rw [if_neg h, if_neg h, if_neg h]
/-! the offsets and lengths of the fourteen rows of a state -/
def zoff (a : Nat) : Nat := [3, 7, 0, 13, 133, 139, 145, 169, 185, 189, 213, 237, 241, 245].getD a 0
def zlen (a : Nat) : Nat := [4, 6, 3, 120, 6, 6, 24, 16, 4, 24, 24, 4, 4, 4].getD a 0
theorem zoff_apart : ∀ a, a < 14 → ∀ b, b < 14 → a ≠ b → zoff a + zlen a ≤ zoff b ∨ zoff b + zlen b ≤ zoff a := by decide +kernel
theorem zoff_top : ∀ a, a < 14 → zoff a + zlen a ≤ 249 := by decide +kernel
/-- the rows S are those of the state D -/
def zR (S : Nat → Nat → Int32) (D : Nat → Int32) : Prop := ∀ a i : Nat, a < 14 → i < zlen a → S a i = D (zoff a + i)
/-- the plan's counts c and rows P are those of F -/
def zP (c : Nat → Int32) (P : Nat → Nat → Int32) (F : Nat → Int32) (ng nk nh ns : Nat) : Prop :=
  (ng ≤ 4 ∧ nk ≤ 6 ∧ nh ≤ 6 ∧ ns ≤ 4) ∧ (F 0 = nI ng ∧ F 1 = nI nk ∧ F 2 = nI nh ∧ F 3 = nI ns) ∧ (c 0 = nI ng ∧ c 1 = nI nk ∧ c 2 = nI nh ∧ c 3 = nI ns) ∧
  (∀ g, g < ng → P 0 g = F (38 + g) ∧ P 4 g = F (4 + g) ∧ P 5 g = F (8 + g) ∧ P 6 g = F (12 + g) ∧ P 7 g = F (16 + g)) ∧
  (∀ k, k < nk → P 1 k = F (44 + k) ∧ P 8 k = F (20 + k) ∧ P 9 k = F (26 + k) ∧ P 10 k = F (32 + k)) ∧
  (∀ h, h < nh → P 2 h = F (50 + h)) ∧ (∀ s, s < ns → P 3 s = F (56 + s))
/-- the plan F is within the document's ranges -/
def zV (F : Nat → Int32) (ng nk : Nat) : Prop :=
  (∀ g, g < ng → (∃ l, 1 ≤ l ∧ l ≤ 4 ∧ F (4 + g) = nI l) ∧ (∃ c, c ≤ 100 ∧ F (8 + g) = nI c) ∧ (F (12 + g) = -nI 1 ∨ ∃ s, s < ng ∧ F (12 + g) = nI s ∧ ∃ f, 1 ≤ f ∧ f ≤ 9 ∧ F (16 + g) = nI f)) ∧
  (∀ k, k < nk → (∃ g, g < ng ∧ F (20 + k) = nI g) ∧ (∃ r, 1 ≤ r ∧ r ≤ 20 ∧ F (26 + k) = nI r) ∧ (∃ v, v ≤ 99 ∧ F (32 + k) = nI v))
def zU (D : Nat → Int32) (i : Nat) : Nat := (D (13 + i)).toNatClampNeg
/-- the state D is within its ranges -/
def zO (F D : Nat → Int32) (ng nh : Nat) : Prop :=
  ((∃ a, a ≤ 999 ∧ D 0 = nI a) ∧ (∃ a, a ≤ 999 ∧ D 1 = nI a) ∧ (∃ a, a ≤ 9999 ∧ D 2 = nI a)) ∧
  (∀ g, g < 4 → ∃ r, r ≤ 99 ∧ D (3 + g) = nI r) ∧ (∀ h, h < 6 → ∃ z, z ≤ 9 ∧ D (7 + h) = nI z ∧ (h < nh → 1 ≤ z)) ∧
  (∀ i, i < 120 → D (13 + i) = nI (zU D i)) ∧
  (∀ g p, g < 4 → p < 5 → zU D (g * 5 + p) + zU D ((4 + g) * 5 + p) + zU D ((8 + g) * 5 + p) + zU D ((12 + g) * 5 + p) + zU D ((16 + g) * 5 + p) + zU D ((20 + g) * 5 + p) ≤ 5346) ∧
  (∀ g h p, g < ng → h < 6 → p < 5 → F (4 + g) < nI p → zU D ((h * 4 + g) * 5 + p) = 0) ∧
  (∀ h, h < 6 → (∃ n, n ≤ 999 ∧ D (133 + h) = nI n) ∧ (∃ n, n ≤ 999 ∧ D (139 + h) = nI n)) ∧
  (∀ i, i < 24 → ∃ n, n ≤ 99999 ∧ D (145 + i) = nI n) ∧ (∀ h, nh ≤ h → h < 6 → D (133 + h) = nI 0 ∧ D (139 + h) = nI 0 ∧ ∀ g p, g < 4 → p < 5 → zU D ((h * 4 + g) * 5 + p) = 0)
def zblk (M : Nat → Int32) (k : Nat) : Nat → Int32 := fun i => M (k * 250 + i)
/-- what is kept for undo: the ring G, the blocks of M -/
def zH (F : Nat → Int32) (ng nh : Nat) (G : Nat → Int32 × (Nat → Nat → Int32)) (M : Nat → Int32) (kept next : Nat) : Prop :=
  kept ≤ 10 ∧ next < 10 ∧ ∀ k, k < kept → zR (G ((next + 10 - kept + k) % 10)).2 (zblk M k) ∧ (G ((next + 10 - kept + k) % 10)).1 = zblk M k 249 ∧ zO F (zblk M k) ng nh
/-- all but the input: the numbers that stay while the counts ng .. are known -/
def zJ (I : Nat → Int32) (A : Nat → Nat → Int32) (G : Nat → Int32 × (Nat → Nat → Int32)) (J : Nat → Int32) (B : Nat → Nat → Int32) (ng nk nh ns kept next : Nat) : Prop :=
  zP (fun i => I (12 + i)) (fun a => A (11 + a)) (B 3) ng nk nh ns ∧ zV (B 3) ng nk ∧ zR (fun a => A (33 + a)) (B 0) ∧ I 20 = B 0 249 ∧ zO (B 3) (B 0) ng nh ∧ zH (B 3) ng nh G (B 2) kept next ∧ I 10 = nI kept ∧ J 0 = nI kept ∧ I 9 = nI next
def zF (I : Nat → Int32) (A : Nat → Nat → Int32) (J : Nat → Int32) (B : Nat → Nat → Int32) : Prop := ∃ fed : Nat, fed ≤ 800 ∧ I 0 = nI fed ∧ J 2 = nI fed ∧ (∀ i, i < fed → A 0 i = B 5 i &&& 255) ∧ I 1 = J 9
def zI (I : Nat → Int32) (A : Nat → Nat → Int32) (G : Nat → Int32 × (Nat → Nat → Int32)) (_T : Nat) (J : Nat → Int32) (B : Nat → Nat → Int32) (_w : Int64) : Prop :=
  (∃ ng nk nh ns kept next : Nat, zJ I A G J B ng nk nh ns kept next) ∧ zF I A J B
theorem zJ_go {I I' : Nat → Int32} {A A' : Nat → Nat → Int32} {G : Nat → Int32 × (Nat → Nat → Int32)} {J J' : Nat → Int32} {B B' : Nat → Nat → Int32} {ng nk nh ns kept next : Nat} (h : zJ I A G J B ng nk nh ns kept next) (hi : ∀ i, i ≠ 11 → I' i = I i) (ha : ∀ a, (a = 0 ∨ 11 ≤ a) → A' a = A a) (hj : ∀ j, j ≠ 1 → J' j = J j) (hb : ∀ b, b < 6 → B' b = B b) : zJ I' A' G J' B' ng nk nh ns kept next := by
  obtain ⟨hP, hV, hR, h20, hO, hH, h10, hj0, h9⟩ := h
  have e1 : (fun i => I' (12 + i)) 0 = I (12 + 0) := hi _ (by omega)
  have e2 : (fun i => I' (12 + i)) 1 = I (12 + 1) := hi _ (by omega)
  have e3 : (fun i => I' (12 + i)) 2 = I (12 + 2) := hi _ (by omega)
  have e4 : (fun i => I' (12 + i)) 3 = I (12 + 3) := hi _ (by omega)
  have eP : (fun a => A' (11 + a)) = fun a => A (11 + a) := funext fun a => ha _ (by omega)
  have eS : (fun a => A' (33 + a)) = fun a => A (33 + a) := funext fun a => ha _ (by omega)
  refine ⟨?_, ?_, ?_, ?_, ?_, ?_, ?_, ?_, ?_⟩
  · rw [eP, hb 3 (by omega)]
    exact ⟨hP.1, hP.2.1, ⟨e1.trans hP.2.2.1.1, e2.trans hP.2.2.1.2.1, e3.trans hP.2.2.1.2.2.1, e4.trans hP.2.2.1.2.2.2⟩, hP.2.2.2⟩
  · rw [hb 3 (by omega)]; exact hV
  · rw [eS, hb 0 (by omega)]; exact hR
  · rw [hi 20 (by omega), hb 0 (by omega)]; exact h20
  · rw [hb 3 (by omega), hb 0 (by omega)]; exact hO
  · rw [hb 3 (by omega), hb 2 (by omega)]; exact hH
  · rw [hi 10 (by omega)]; exact h10
  · rw [hj 0 (by omega)]; exact hj0
  · rw [hi 9 (by omega)]; exact h9
theorem zI_go {I I' : Nat → Int32} {A A' : Nat → Nat → Int32} {G : Nat → Int32 × (Nat → Nat → Int32)} {T T' : Nat} {J J' : Nat → Int32} {B B' : Nat → Nat → Int32} {w w' : Int64} (h : zI I A G T J B w) (hi : ∀ i, i ≠ 11 → I' i = I i) (ha : ∀ a, (a = 0 ∨ 11 ≤ a) → A' a = A a) (hj : ∀ j, j ≠ 1 → J' j = J j) (hb : ∀ b, b < 6 → B' b = B b) : zI I' A' G T' J' B' w' := by
  obtain ⟨⟨ng, nk, nh, ns, kept, next, hJ⟩, fed, f1, f2, f3, f4, f5⟩ := h
  refine ⟨⟨ng, nk, nh, ns, kept, next, zJ_go hJ hi ha hj hb⟩, fed, f1, ?_, ?_, ?_, ?_⟩
  · rw [hi 0 (by omega)]; exact f2
  · rw [hj 2 (by omega)]; exact f3
  · rw [ha 0 (by omega), hb 5 (by omega)]; exact f4
  · rw [hi 1 (by omega), hj 9 (by omega)]; exact f5
theorem zI_J {I : Nat → Int32} {A : Nat → Nat → Int32} {G : Nat → Int32 × (Nat → Nat → Int32)} {T : Nat} {J : Nat → Int32} {B : Nat → Nat → Int32} {w : Int64} (x : Int32) (h : zI I A G T J B w) : zI I A G T (upd J 1 x) B w := zI_go h (fun _ _ => rfl) (fun _ _ => rfl) (fun j hj => by unfold upd; rw [if_neg hj]) (fun _ _ => rfl)
theorem zu_same (f : Nat → Int32) (k : Nat) (x : Int32) : upd f k x k = x := by unfold upd; rw [if_pos rfl]
theorem zu_ne {f : Nat → Int32} {k j : Nat} {x : Int32} (h : j ≠ k) : upd f k x j = f j := by unfold upd; rw [if_neg h]
theorem zu_up {α : Type} (A : Nat → α) (k : Nat) (f : α) : qf_up A k f k = f := by unfold qf_up; rw [if_pos rfl]
theorem zu_upn {α : Type} {A : Nat → α} {k j : Nat} {f : α} (h : j ≠ k) : qf_up A k f j = A j := by unfold qf_up; rw [if_neg h]
theorem zr_0 {A : Nat → Nat → Int32} {D : Nat → Int32} (hR : zR (fun a => A (33 + a)) D) {i : Nat} (h : i < 4) : A 33 i = D (3 + i) := hR 0 i (by omega) h
theorem zr_1 {A : Nat → Nat → Int32} {D : Nat → Int32} (hR : zR (fun a => A (33 + a)) D) {i : Nat} (h : i < 6) : A 34 i = D (7 + i) := hR 1 i (by omega) h
theorem zr_2 {A : Nat → Nat → Int32} {D : Nat → Int32} (hR : zR (fun a => A (33 + a)) D) {i : Nat} (h : i < 3) : A 35 i = D i := by
  have e : A 35 i = D (0 + i) := hR 2 i (by omega) h
  rw [e, Nat.zero_add]
theorem zr_3 {A : Nat → Nat → Int32} {D : Nat → Int32} (hR : zR (fun a => A (33 + a)) D) {i : Nat} (h : i < 120) : A 36 i = D (13 + i) := hR 3 i (by omega) h
theorem zr_4 {A : Nat → Nat → Int32} {D : Nat → Int32} (hR : zR (fun a => A (33 + a)) D) {i : Nat} (h : i < 6) : A 37 i = D (133 + i) := hR 4 i (by omega) h
theorem zr_5 {A : Nat → Nat → Int32} {D : Nat → Int32} (hR : zR (fun a => A (33 + a)) D) {i : Nat} (h : i < 6) : A 38 i = D (139 + i) := hR 5 i (by omega) h
theorem zr_6 {A : Nat → Nat → Int32} {D : Nat → Int32} (hR : zR (fun a => A (33 + a)) D) {i : Nat} (h : i < 24) : A 39 i = D (145 + i) := hR 6 i (by omega) h
theorem zr_7 {A : Nat → Nat → Int32} {D : Nat → Int32} (hR : zR (fun a => A (33 + a)) D) {i : Nat} (h : i < 16) : A 40 i = D (169 + i) := hR 7 i (by omega) h
theorem zr_8 {A : Nat → Nat → Int32} {D : Nat → Int32} (hR : zR (fun a => A (33 + a)) D) {i : Nat} (h : i < 4) : A 41 i = D (185 + i) := hR 8 i (by omega) h
theorem zr_9 {A : Nat → Nat → Int32} {D : Nat → Int32} (hR : zR (fun a => A (33 + a)) D) {i : Nat} (h : i < 24) : A 42 i = D (189 + i) := hR 9 i (by omega) h
theorem zr_10 {A : Nat → Nat → Int32} {D : Nat → Int32} (hR : zR (fun a => A (33 + a)) D) {i : Nat} (h : i < 24) : A 43 i = D (213 + i) := hR 10 i (by omega) h
theorem zr_11 {A : Nat → Nat → Int32} {D : Nat → Int32} (hR : zR (fun a => A (33 + a)) D) {i : Nat} (h : i < 4) : A 44 i = D (237 + i) := hR 11 i (by omega) h
theorem zr_12 {A : Nat → Nat → Int32} {D : Nat → Int32} (hR : zR (fun a => A (33 + a)) D) {i : Nat} (h : i < 4) : A 45 i = D (241 + i) := hR 12 i (by omega) h
theorem zr_13 {A : Nat → Nat → Int32} {D : Nat → Int32} (hR : zR (fun a => A (33 + a)) D) {i : Nat} (h : i < 4) : A 46 i = D (245 + i) := hR 13 i (by omega) h
/-! the ends of the queries -/
section ZQ
variable {I : Nat → Int32} {A : Nat → Nat → Int32} {G : Nat → Int32 × (Nat → Nat → Int32)} {T : Nat} {J : Nat → Int32} {B : Nat → Nat → Int32} {w : Int64}
theorem zq_ok {x7 : Option (Option Int32)} {x8 : Option (Int32 × (Nat → Int32))} (v : Int32) (hI : zI I A G T J B w) (h7 : x7 = some (some v)) (h8 : x8 = some (v, upd J 1 0)) : ∃ (ro : Option Int32), x7 = some ro ∧ ∃ (rb : Int32) (J9 : Nat → Int32), x8 = some (rb, J9) ∧ (ro = none → J9 1 = 1 ∧ zI I A G T J9 B w) ∧ (∀ v9, ro = some v9 → J9 1 = 0 ∧ v9 = rb ∧ zI I A G T J9 B w) :=
  ⟨_, h7, _, _, h8, fun h => by (cases h), fun v9 hv => ⟨zu_same _ _ _, (Option.some.inj hv).symm, zI_J 0 hI⟩⟩
theorem zq_no {x7 : Option (Option Int32)} {x8 : Option (Int32 × (Nat → Int32))} (hI : zI I A G T J B w) (h7 : x7 = some none) (h8 : x8 = some (0, upd J 1 1)) : ∃ (ro : Option Int32), x7 = some ro ∧ ∃ (rb : Int32) (J9 : Nat → Int32), x8 = some (rb, J9) ∧ (ro = none → J9 1 = 1 ∧ zI I A G T J9 B w) ∧ (∀ v9, ro = some v9 → J9 1 = 0 ∧ v9 = rb ∧ zI I A G T J9 B w) :=
  ⟨_, h7, _, _, h8, fun _ => ⟨zu_same _ _ _, zI_J 1 hI⟩, fun v9 hv => by (cases hv)⟩
end ZQ
