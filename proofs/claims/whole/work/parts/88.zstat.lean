/-! a statement at the loader: what holds before and after -/
def zLE (D : Nat → Int32) (nh : Nat) : Prop :=
  ((∃ a, a ≤ 999 ∧ D 0 = nI a) ∧ (∃ a, a ≤ 999 ∧ D 1 = nI a) ∧ (∃ a, a ≤ 9999 ∧ D 2 = nI a)) ∧
  (∀ g, g < 4 → ∃ r, r ≤ 99 ∧ D (3 + g) = nI r) ∧ (∀ h, h < 6 → ∃ z, z ≤ 9 ∧ D (7 + h) = nI z ∧ (h < nh → 1 ≤ z)) ∧
  (∀ i, i < 132 → D (13 + i) = nI 0) ∧ (∀ i, i < 24 → ∃ m, m ≤ 99999 ∧ D (145 + i) = nI m)
def zD (I : Nat → Int32) (A B : Nat → Nat → Int32) (n : Nat → Nat) : Prop :=
  zP (fun i => I (16 + i)) (fun a => A (22 + a)) (B 4) (n 0) (n 1) (n 2) (n 3) ∧ zV (B 4) (n 0) (n 1) ∧ zR (fun a => A (47 + a)) (B 1) ∧ I 21 = B 1 249 ∧ zLE (B 1) (n 2) ∧ (∀ g, n 0 ≤ g → g < 4 → B 4 (12 + g) = -nI 1 ∧ B 4 (16 + g) = nI 0)
def zGs (I J : Nat → Int32) : Prop := ∃ M, M < 8 ∧ I 2 = nI M ∧ J 10 = nI M
def zSI (I I' : Nat → Int32) : Prop := ∀ i, (i ≤ 1 ∨ (9 ≤ i ∧ i ≤ 15) ∨ 20 ≤ i) → I' i = I i
def zSJ (J J' : Nat → Int32) : Prop := ∀ j, (j ≤ 3 ∨ 11 ≤ j) → J' j = J j
def zSA (A A' : Nat → Nat → Int32) : Prop := ∀ a, (a < 22 ∨ (33 ≤ a ∧ a < 47) ∨ 61 ≤ a) → A' a = A a
def zSB (B B' : Nat → Nat → Int32) : Prop := ∀ b, b ≠ 1 → b ≠ 4 → B' b = B b
def zEnds (τ : Nat → Nat) (len s : Nat) (I : Nat → Int32) (A : Nat → Nat → Int32) (J : Nat → Int32) (B : Nat → Nat → Int32) (x : Option ((Nat → Int32) × (Nat → Nat → Int32))) (y : Option ((Nat → Int32) × (Nat → Nat → Int32) × Int64)) : Prop := ∃ (s' e' k' : Nat) (I' : Nat → Int32) (A' : Nat → Nat → Int32) (J' : Nat → Int32) (B' : Nat → Nat → Int32) (w' : Int64), x = some (I', A') ∧ y = some (J', B', w') ∧ zTR τ len s' e' k' I' A' J' B' w' ∧ zSI I I' ∧ zSJ J J' ∧ zSA A A' ∧ zSB B B' ∧ (I' 3 = 0 → s < s' ∧ (∃ n', zD I' A' B' n') ∧ zGs I' J')
theorem zD.ns {I : Nat → Int32} {A B : Nat → Nat → Int32} {n : Nat → Nat} (h : zD I A B n) : zNs I A B n := by
  obtain ⟨⟨⟨p1, p2, p3, p4⟩, ⟨q1, q2, q3, q4⟩, ⟨r1, r2, r3, r4⟩, g1, g2, g3, g4⟩, -⟩ := h
  intro s hs
  rcases (show s = 0 ∨ s = 1 ∨ s = 2 ∨ s = 3 by omega) with rfl | rfl | rfl | rfl
  · exact ⟨r1, q1, p1, fun i hi => (g1 i hi).1⟩
  · exact ⟨r2, q2, p2, fun i hi => (g2 i hi).1⟩
  · exact ⟨r3, q3, p3, fun i hi => g3 i hi⟩
  · exact ⟨r4, q4, p4, fun i hi => g4 i hi⟩
section ZSTAT
variable {τ : Nat → Nat} {len s e k : Nat} {I : Nat → Int32} {A : Nat → Nat → Int32} {J : Nat → Int32} {B : Nat → Nat → Int32} {w : Int64} {n : Nat → Nat}
/-! the reference after an error: nothing more -/
theorem zm_chk (z : J 8 ≠ 0) (x c : Int32) : f_X8_check J x c = some J := by
  unfold f_X8_check
  rw [if_neg z, ite_self]
theorem zm_aig (z : J 8 ≠ 0) : f_X8_advanceIfGood B J w = some (J, w) := by
  unfold f_X8_advanceIfGood
  rw [if_neg z]
theorem zm_int (z : J 8 ≠ 0) (a b : Int32) : ∃ v, f_X8_readInteger B J w a b = some (v, J, w) := by
  unfold f_X8_readInteger f_X8_readInteger_j14
  rw [zm_chk z, zb_bd, zf_r, zb_bd, zm_chk z, zb_bd, zb_let, zm_aig z, zb_bd2, zm_chk z, zb_bd, zf_r, zb_bd, zm_chk z, zb_bd, zb_let, zm_aig z, zb_bd2, ite_self]
  exact ⟨_, rfl⟩
theorem zm_new (z : J 8 ≠ 0) (hn : zNs I A B n) : f_X8_readNewName B J w = some (0, J, w) := by
  obtain ⟨J4, a1, a2, a3⟩ := zy_l18 (w := w) hn 0 J
  have e4 : J4 = J := by
    by_cases y : zFnd B 0
    · rw [a2 y]
      exact if_neg z
    · exact a3 y
  unfold f_X8_readNewName f_X8_readNewName_j15
  rw [if_neg z, a1, e4, zm_aig z, zb_bd2]
theorem zm_old (z : J 8 ≠ 0) (p : Int32) : f_X8_readOldName B w J p = some ((-1 : Int32), J) := by
  unfold f_X8_readOldName f_X8_readOldName_j23 f_X8_readOldName_j34
  rw [if_neg z, zm_chk z, zb_bd, if_pos (by decide)]
/-- one more of its kind -/
theorem zy_begin (h : zTR τ len s e k I A J B w) (z : I 3 = 0) (hn : zNs I A B n) {q : Nat} (hq : q ≤ 3) (hf : n q < zN6 q) : ∃ s' e' k' I1 I' J' w' v v', f_X6_advance A 1 I = some I1 ∧ f_X2_readNewName A 1 I1 = some (v, I') ∧ f_X8_begin B J w (nI q) (nI (zN6 q)) = some (v', J', w') ∧ zTR τ len s' e' k' I' A J' B w' ∧ zFI I I' ∧ zFJ J J' ∧ (I' 3 = 0 → v' = v ∧ e ≤ s') := by
  have h6 := @zNs_le q
  unfold f_X8_begin f_X8_begin_j18
  rw [zl_0, nI_add, Nat.zero_add, zb_ld (by omega) (by omega), (hn q hq).2.1, if_neg (nI_ge hf (by omega)), zl_1, zy_chk1, zb_bd]
  obtain ⟨s1, e1, k1, I1, J1, w1, a1, a2, a3, a4, a5, a6, a7⟩ := zy_adv h
  obtain ⟨s2, e2, k2, I2, J2, w2, v, v', b1, b2, b3, b4, b5, b6⟩ := zy_new a3 (hn.fI a4)
  refine ⟨s2, e2, k2, I1, I2, J2, w2, v, v', a1, b1, ?_, b3, a4.tr b4, a5.tr b5, fun y => ⟨(b6 y).2.1, ?_⟩⟩
  · unfold f_X8_advanceIfGood
    rw [if_pos (show J 8 = 0 from h.2.2.2.2.1.1 ▸ z), a2, zb_bd2, zb_bd2, b2, zb_bd3]
  · have := (b6 y).2.2
    have := a3.2.2.2.2.2.1
    omega
/-- no room for one more -/
theorem zy_full (h : zTR τ len s e k I A J B w) (hn : zNs I A B n) {q : Nat} (hq : q ≤ 3) (hf : ¬ n q < zN6 q) : ∃ I' J', f_X2_fail I (-15 : Int32) = some I' ∧ f_X8_begin B J w (nI q) (nI (zN6 q)) = some (0, J', w) ∧ zTR τ len s e k I' A J' B w ∧ zFI I I' ∧ zFJ J J' ∧ I' 3 ≠ 0 ∧ J' 8 ≠ 0 := by
  have h6 := @zNs_le q
  have hb := (hn q hq).2.2.1
  obtain ⟨I', J', f1, f2, f3, f4, f5, f6⟩ := zy_fail h (-15 : Int32) (by decide)
  have g8 : J' 8 ≠ 0 := f3.2.2.2.2.1.1 ▸ f6
  refine ⟨I', J', f1, ?_, f3, f4, f5, f6, g8⟩
  unfold f_X8_begin f_X8_begin_j18
  rw [zl_0, nI_add, Nat.zero_add, zb_ld (by omega) (by omega), (hn q hq).2.1, if_pos (nI_le (by omega) (by omega)), f2, zb_bd, zm_aig g8, zb_bd2, zm_new g8 hn, zb_bd3]
  rfl
/-- declared -/
theorem zy_dcl (z : J 8 = 0) {q m : Nat} (hq : q ≤ 3) (hm : m < 6) (hB : B 4 q = nI m) (v : Int32) : f_X8_declare J B (nI q) v = some (qf_up B 4 (upd (upd (B 4) (38 + 6 * q + m) v) q (nI (m + 1)))) := by
  unfold f_X8_declare
  rw [if_pos z, zl_0, nI_add, Nat.zero_add, zb_ld (by omega) (by omega), hB, zl_38, zl_6, pk_mul, nI_add, nI_add, zb_st (by omega) (by omega), zb_let, zb_ld (by omega) (by omega), zb_st (by omega) (by omega), zb_let, zu_upup, zu_up, zu_ne (by omega), hB, zl_1, nI_add]
theorem zy_dclE (z : J 8 ≠ 0) (q v : Int32) : f_X8_declare J B q v = some B := by
  unfold f_X8_declare
  rw [if_neg z]
end ZSTAT
