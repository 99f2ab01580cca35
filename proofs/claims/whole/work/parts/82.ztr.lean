/-! the token at hand, on both sides -/
def zTR (τ : Nat → Nat) (len s e k : Nat) (I : Nat → Int32) (A : Nat → Nat → Int32) (J : Nat → Int32) (B : Nat → Nat → Int32) (w : Int64) : Prop :=
  zTx A τ len ∧ zTy B τ len ∧ (I 5 = nI len ∧ I 7 = nI s ∧ I 6 = nI e ∧ I 8 = nI k) ∧ (J 3 = nI len ∧ J 5 = nI s ∧ J 4 = nI e ∧ J 6 = nI k) ∧ (I 3 = J 8 ∧ I 4 = J 9) ∧ (s ≤ e ∧ e ≤ len ∧ k ≤ 4 ∧ (k ≠ 0 → s < e)) ∧ (k = 1 → (∀ i, i < e - s → 97 ≤ τ (s + i) ∧ τ (s + i) ≤ 122) ∧ w = zWv τ s (e - s)) ∧ (k = 2 → (∀ i, i < e - s → 48 ≤ τ (s + i) ∧ τ (s + i) ≤ 57) ∧ J 7 = nI (zIv τ s (e - s)))
def zFI (I I' : Nat → Int32) : Prop := ∀ i, (i ≤ 2 ∨ i = 5 ∨ 9 ≤ i) → I' i = I i
def zFJ (J J' : Nat → Int32) : Prop := ∀ j, (j ≤ 3 ∨ 10 ≤ j) → J' j = J j
theorem zFI.rf (I : Nat → Int32) : zFI I I := fun _ _ => rfl
theorem zFJ.rf (I : Nat → Int32) : zFJ I I := fun _ _ => rfl
theorem zFI.tr {a b c : Nat → Int32} (h : zFI a b) (h2 : zFI b c) : zFI a c := fun i hi => (h2 i hi).trans (h i hi)
theorem zFJ.tr {a b c : Nat → Int32} (h : zFJ a b) (h2 : zFJ b c) : zFJ a c := fun i hi => (h2 i hi).trans (h i hi)
theorem zy_adv8 {J : Nat → Int32} {B : Nat → Nat → Int32} {w : Int64} {τ : Nat → Nat} {len f : Nat} (hx : zTy B τ len) (h3 : J 3 = nI len) (h4 : J 4 = nI f) (hf : f ≤ len) : ∃ J' w', f_X8_advance B J w = some (J', w') ∧ J' 4 = nI (zEn τ len (zSkp τ len (len - f) f)) ∧ J' 5 = nI (zSkp τ len (len - f) f) ∧ J' 6 = nI (zKd τ len (zSkp τ len (len - f) f)) ∧ (zKd τ len (zSkp τ len (len - f) f) = 2 → J' 7 = nI (zIv τ (zSkp τ len (len - f) f) (zEn τ len (zSkp τ len (len - f) f) - zSkp τ len (len - f) f))) ∧ (zKd τ len (zSkp τ len (len - f) f) = 1 → w' = zWv τ (zSkp τ len (len - f) f) (zEn τ len (zSkp τ len (len - f) f) - zSkp τ len (len - f) f)) ∧ ∀ j, j ≠ 4 → j ≠ 5 → j ≠ 6 → j ≠ 7 → J' j = J j := by
  have hl := hx.1
  have ht := hx.2
  obtain ⟨s1, s2, s3⟩ := zSkp_spec τ len (len - f) f (by omega)
  obtain ⟨fu, k1, k2⟩ := zy_skip8 (w := w) hx (len - f) f 100000 J h3 h4 (by omega) (by omega)
  have k2 : f_X8_advance B J w = _ := k2
  generalize zSkp τ len (len - f) f = s at s1 s2 s3 k2
  obtain ⟨a, rfl⟩ : ∃ a, fu = a + 1 := ⟨fu - 1, by omega⟩
  obtain ⟨c1, c2, c3, c4, c5, c6, c7⟩ := zKd_cases τ len s
  have hτ : s < len → τ s < 256 := fun z => (ht s z).2
  obtain ⟨J0, hJ0⟩ : ∃ J0, J0 = upd J 4 (nI s) := ⟨_, rfl⟩
  have j3 : J0 3 = nI len := by rw [hJ0, zu_ne (by omega), h3]
  have j4 : J0 4 = nI s := by rw [hJ0, zu_same]
  obtain ⟨J2, hJ2⟩ : ∃ J2, J2 = upd (upd J0 5 (nI s)) 7 (nI 0) := ⟨_, rfl⟩
  have q3 : J2 3 = nI len := by rw [hJ2, zu_ne (by omega), zu_ne (by omega), j3]
  have q4 : J2 4 = nI s := by rw [hJ2, zu_ne (by omega), zu_ne (by omega), j4]
  have q5 : J2 5 = nI s := by rw [hJ2, zu_ne (by omega), zu_same]
  have q7 : J2 7 = nI 0 := by rw [hJ2, zu_same]
  have qo : ∀ j, j ≠ 4 → j ≠ 5 → j ≠ 7 → J2 j = J j := fun j a1 a2 a3 => by rw [hJ2, zu_ne a3, zu_ne a2, hJ0, zu_ne a1]
  have hp0 := zy_peek hx j3 j4 s2
  have hp2 := zy_peek hx q3 q4 s2
  have r1 := zPv_r τ len s 97 122 hτ (by omega) (by omega)
  have r2 := zPv_r τ len s 48 57 hτ (by omega) (by omega)
  have n32 : ¬ zPv τ len s = nI 32 := fun z => by
    have := (zPv_eq τ len s 32 hτ (by omega)).mp z
    omega
  have n10 : ¬ zPv τ len s = nI 10 := fun z => by
    have := (zPv_eq τ len s 10 hτ (by omega)).mp z
    omega
  have front : f_X8_advance B J w = (if 0 ≤ zPv τ len s then (qf_bd (f_X8_inRange (zPv τ len s) (nI 97) (nI 122)) fun r6 => if r6 = 0 then (qf_bd (f_X8_inRange (zPv τ len s) (nI 48) (nI 57)) fun r7 => if r7 = 0 then (if zPv τ len s = nI 59 then (f_X8_advance_j256 B J2 (0 : Int64) (nI 3)) else (f_X8_advance_j256 B J2 (0 : Int64) (nI 4))) else (f_X8_advance_l184 B 100000 (upd J2 6 (nI 2)) (0 : Int64))) else (f_X8_advance_l82 B 100000 (upd J2 6 (nI 1)) (0 : Int64))) else (some (upd J2 6 (nI 0), (0 : Int64)))) := by
    rw [k2, ← hJ0, f_X8_advance_l0, hp0, zb_bd, zl_32, if_neg n32, zb_bd, zl_10, if_neg n10, zb_let, zb_let, j4, zl_0, ← hJ2, hp2, zb_bd, zl_97, zl_122, zl_48, zl_57, zl_59]
    rfl
  have w0 : zWv τ s 0 = 0 := rfl
  rw [front]
  unfold zEn
  by_cases z0 : zKd τ len s = 0
  · have hs : ¬ s < len := by omega
    rw [if_neg (fun z => hs ((zPv_0 τ len s hτ).mp z)), z0, if_pos rfl]
    refine ⟨_, _, rfl, ?_, ?_, zu_same _ _ _, fun z => by omega, fun z => by omega, fun j a1 a2 a3 a4 => ?_⟩
    · rw [zu_ne (by omega), q4]
    · rw [zu_ne (by omega), q5]
    · rw [zu_ne a3, qo j a1 a2 a4]
  · have hs : s < len := c2 z0
    rw [if_pos ((zPv_0 τ len s hτ).mpr hs), if_neg z0, r1, zb_bd]
    by_cases z1 : zKd τ len s = 1
    · have y1 := c4.mp z1
      rw [if_pos y1, if_neg (by decide), if_pos (Or.inl z1), z1]
      obtain ⟨J', i1, i2, i3⟩ := zy_word8 hx (len - s) 0 100000 (upd J2 6 (nI 1)) (by rw [zu_ne (by omega), q3]) (by rw [zu_ne (by omega), q4]; rfl) (by rw [zu_ne (by omega), q5]) (by omega) (by omega) (fun i hi => by omega)
      have er : zRun τ len 1 (len - s) (s + 0) = zRun τ len 1 (len - (s + 1)) (s + 1) := by
        rw [show len - s = (len - (s + 1)) + 1 by omega]
        show (if zKd τ len s = 1 then _ else _) = _
        rw [if_pos z1]
      rw [er] at i1 i2
      rw [w0] at i1
      refine ⟨J', _, i1, i2, ?_, ?_, fun z => by omega, fun _ => rfl, fun j a1 a2 a3 a4 => ?_⟩
      · rw [i3 5 (by omega), zu_ne (by omega), q5]
      · rw [i3 6 (by omega), zu_same]
      · rw [i3 j a1, zu_ne a3, qo j a1 a2 a4]
    · rw [if_neg (fun z => z1 (c4.mpr z)), if_pos nI_0, r2, zb_bd]
      by_cases z2 : zKd τ len s = 2
      · have y1 := c5.mp z2
        rw [if_pos y1, if_neg (by decide), if_pos (Or.inr z2), z2]
        obtain ⟨J', i1, i2, i3, i4⟩ := zy_num8 (w := 0) hx (len - s) 0 100000 (upd J2 6 (nI 2)) (by rw [zu_ne (by omega), q3]) (by rw [zu_ne (by omega), q4]; rfl) (by rw [zu_ne (by omega), q7]; rfl) (by omega) (by omega) (fun i hi => by omega)
        have er : zRun τ len 2 (len - s) (s + 0) = zRun τ len 2 (len - (s + 1)) (s + 1) := by
          rw [show len - s = (len - (s + 1)) + 1 by omega]
          show (if zKd τ len s = 2 then _ else _) = _
          rw [if_pos z2]
        rw [er] at i2 i3
        refine ⟨J', _, i1, i2, ?_, ?_, fun _ => i3, fun z => by omega, fun j a1 a2 a3 a4 => ?_⟩
        · rw [i4 5 (by omega) (by omega), zu_ne (by omega), q5]
        · rw [i4 6 (by omega) (by omega), zu_same]
        · rw [i4 j a1 a4, zu_ne a3, qo j a1 a2 a4]
      · rw [if_neg (fun z => z2 (c5.mpr z)), if_pos nI_0, if_neg (show ¬ (zKd τ len s = 1 ∨ zKd τ len s = 2) by omega)]
        have last : ∀ x : Nat, zKd τ len s = x → 3 ≤ x → ∃ J' w', f_X8_advance_j256 B J2 (0 : Int64) (nI x) = some (J', w') ∧ J' 4 = nI (s + 1) ∧ J' 5 = nI s ∧ J' 6 = nI (zKd τ len s) ∧ (zKd τ len s = 2 → J' 7 = nI (zIv τ s (s + 1 - s))) ∧ (zKd τ len s = 1 → w' = zWv τ s (s + 1 - s)) ∧ ∀ j, j ≠ 4 → j ≠ 5 → j ≠ 6 → j ≠ 7 → J' j = J j := by
          intro x hx1 hx2
          unfold f_X8_advance_j256
          rw [zb_let, zu_ne (by omega), q4, nI_1, zb_let]
          refine ⟨_, _, rfl, zu_same _ _ _, ?_, ?_, fun z => by omega, fun z => by omega, fun j a1 a2 a3 a4 => ?_⟩
          · rw [zu_ne (by omega), zu_ne (by omega), q5]
          · rw [zu_ne (by omega), zu_same, hx1]
          · rw [zu_ne a1, zu_ne a3, qo j a1 a2 a4]
        by_cases z3 : zKd τ len s = 3
        · rw [if_pos ((zPv_eq τ len s 59 hτ (by omega)).mpr (c6.mp z3))]
          exact last 3 z3 (by omega)
        · rw [if_neg (fun z => z3 (c6.mpr ((zPv_eq τ len s 59 hτ (by omega)).mp z)))]
          exact last 4 (by omega) (by omega)
theorem zEn_spec {τ : Nat → Nat} {len s : Nat} (hs : s ≤ len) : s ≤ zEn τ len s ∧ zEn τ len s ≤ len ∧ (zKd τ len s ≠ 0 → s < zEn τ len s) ∧ (zKd τ len s = 1 → ∀ i, i < zEn τ len s - s → 97 ≤ τ (s + i) ∧ τ (s + i) ≤ 122) ∧ (zKd τ len s = 2 → ∀ i, i < zEn τ len s - s → 48 ≤ τ (s + i) ∧ τ (s + i) ≤ 57) := by
  obtain ⟨c1, c2, c3, c4, c5, c6, c7⟩ := zKd_cases τ len s
  unfold zEn
  by_cases z0 : zKd τ len s = 0
  · rw [if_pos z0]
    exact ⟨Nat.le_refl _, hs, fun z => absurd z0 z, fun z => by omega, fun z => by omega⟩
  · have hl := c2 z0
    rw [if_neg z0]
    by_cases z1 : zKd τ len s = 1 ∨ zKd τ len s = 2
    · rw [if_pos z1]
      obtain ⟨r1, r2, r3, _⟩ := zRun_spec τ len (zKd τ len s) z0 (len - (s + 1)) (s + 1) (by omega)
      have all : ∀ i, i < zRun τ len (zKd τ len s) (len - (s + 1)) (s + 1) - s → zKd τ len (s + i) = zKd τ len s := fun i hi => by
        by_cases z : i = 0
        · rw [z]; rfl
        · exact r3 (s + i) (by omega) (by omega)
      exact ⟨by omega, r2, fun _ => by omega, fun z i hi => (((zKd_cases τ len (s + i)).2.2.2.1.mp ((all i hi).trans z))).2, fun z i hi => (((zKd_cases τ len (s + i)).2.2.2.2.1.mp ((all i hi).trans z))).2⟩
    · rw [if_neg z1]
      exact ⟨by omega, by omega, fun _ => by omega, fun z => absurd (Or.inl z) z1, fun z => absurd (Or.inr z) z1⟩
/-- both go on to the next token -/
theorem zy_adv0 {I : Nat → Int32} {A : Nat → Nat → Int32} {J : Nat → Int32} {B : Nat → Nat → Int32} {w : Int64} {τ : Nat → Nat} {len f : Nat} (hx : zTx A τ len) (hy : zTy B τ len) (h5 : I 5 = nI len) (h6 : I 6 = nI f) (h3 : J 3 = nI len) (h4 : J 4 = nI f) (hf : f ≤ len) (he : I 3 = J 8 ∧ I 4 = J 9) : ∃ s e k I' J' w', f_X6_advance A 1 I = some I' ∧ f_X8_advance B J w = some (J', w') ∧ zTR τ len s e k I' A J' B w' ∧ (∀ i, i ≠ 6 → i ≠ 7 → i ≠ 8 → I' i = I i) ∧ (∀ j, j ≠ 4 → j ≠ 5 → j ≠ 6 → j ≠ 7 → J' j = J j) ∧ f ≤ s := by
  obtain ⟨s1, s2, s3⟩ := zSkp_spec τ len (len - f) f (by omega)
  have a7 := zy_adv7 hx h5 h6 hf
  obtain ⟨J', w', b1, b2, b3, b4, b5, b6, b7⟩ := zy_adv8 (w := w) hy h3 h4 hf
  generalize zSkp τ len (len - f) f = s at *
  obtain ⟨e1, e2, e3, e4, e5⟩ := zEn_spec (τ := τ) s2
  refine ⟨s, zEn τ len s, zKd τ len s, _, J', w', a7, b1, ⟨hx, hy, ⟨?_, ?_, ?_, ?_⟩, ⟨?_, b3, b2, b4⟩, ⟨?_, ?_⟩, ⟨e1, e2, (zKd_cases τ len s).1, e3⟩, fun z => ⟨e4 z, b6 z⟩, fun z => ⟨e5 z, b5 z⟩⟩, fun i i6 i7 i8 => ?_, b7, s1⟩
  · rw [zu_ne (by omega), zu_ne (by omega), zu_ne (by omega), h5]
  · rw [zu_ne (by omega), zu_ne (by omega), zu_same]
  · rw [zu_same]
  · rw [zu_ne (by omega), zu_same]
  · rw [b7 3 (by omega) (by omega) (by omega) (by omega), h3]
  · rw [b7 8 (by omega) (by omega) (by omega) (by omega), zu_ne (by omega), zu_ne (by omega), zu_ne (by omega), he.1]
  · rw [b7 9 (by omega) (by omega) (by omega) (by omega), zu_ne (by omega), zu_ne (by omega), zu_ne (by omega), he.2]
  · rw [zu_ne i6, zu_ne i8, zu_ne i7]
section ZTR
variable {τ : Nat → Nat} {len s e k : Nat} {I : Nat → Int32} {A A' : Nat → Nat → Int32} {J : Nat → Int32} {B B' : Nat → Nat → Int32} {w : Int64}
theorem zTR.rows (h : zTR τ len s e k I A J B w) (ha : A' 0 = A 0) (hb : B' 5 = B 5) : zTR τ len s e k I A' J B' w := by
  obtain ⟨⟨x1, x2⟩, ⟨y1, y2⟩, r⟩ := h
  exact ⟨⟨x1, by rw [ha]; exact x2⟩, ⟨y1, by rw [hb]; exact y2⟩, r⟩
theorem zy_adv (h : zTR τ len s e k I A J B w) : ∃ s' e' k' I' J' w', f_X6_advance A 1 I = some I' ∧ f_X8_advance B J w = some (J', w') ∧ zTR τ len s' e' k' I' A J' B w' ∧ zFI I I' ∧ zFJ J J' ∧ I' 3 = I 3 ∧ e ≤ s' := by
  obtain ⟨hx, hy, ⟨i5, i7, i6, i8⟩, ⟨j3, j5, j4, j6⟩, he, ⟨s1, s2, s3, s4⟩, hw, hn⟩ := h
  obtain ⟨s', e', k', I', J', w', a1, a2, a3, a4, a5, a6⟩ := zy_adv0 (w := w) hx hy i5 i6 j3 j4 s2 he
  exact ⟨s', e', k', I', J', w', a1, a2, a3, fun i hi => a4 i (by omega) (by omega) (by omega), fun j hj => a5 j (by omega) (by omega) (by omega) (by omega), a4 3 (by omega) (by omega) (by omega), a6⟩
/-- an error, if it is the first -/
theorem zy_fail (h : zTR τ len s e k I A J B w) (c : Int32) (hc : c ≠ 0) : ∃ I' J', f_X2_fail I c = some I' ∧ f_X8_check J (nI 0) c = some J' ∧ zTR τ len s e k I' A J' B w ∧ zFI I I' ∧ zFJ J J' ∧ I' 3 ≠ 0 := by
  obtain ⟨hx, hy, ⟨i5, i7, i6, i8⟩, ⟨j3, j5, j4, j6⟩, ⟨he1, he2⟩, hs, hw, hn⟩ := id h
  unfold f_X2_fail f_X8_check
  by_cases z : I 3 = 0
  · refine ⟨upd (upd I 3 c) 4 (upd I 3 c 7), upd (upd J 8 c) 9 (upd J 8 c 5), ?_, ?_, ⟨hx, hy, ⟨?_, ?_, ?_, ?_⟩, ⟨?_, ?_, ?_, ?_⟩, ⟨?_, ?_⟩, hs, hw, fun y => ⟨(hn y).1, ?_⟩⟩, fun i hi => ?_, fun j hj => ?_, ?_⟩
    · rw [if_pos z]; rfl
    · rw [if_pos nI_0, if_pos (he1 ▸ z)]; rfl
    · rw [zu_ne (by omega), zu_ne (by omega), i5]
    · rw [zu_ne (by omega), zu_ne (by omega), i7]
    · rw [zu_ne (by omega), zu_ne (by omega), i6]
    · rw [zu_ne (by omega), zu_ne (by omega), i8]
    · rw [zu_ne (by omega), zu_ne (by omega), j3]
    · rw [zu_ne (by omega), zu_ne (by omega), j5]
    · rw [zu_ne (by omega), zu_ne (by omega), j4]
    · rw [zu_ne (by omega), zu_ne (by omega), j6]
    · rw [zu_ne (show 3 ≠ 4 by omega), zu_same, zu_ne (show 8 ≠ 9 by omega), zu_same]
    · rw [zu_same, zu_same, zu_ne (by omega), zu_ne (by omega), i7, j5]
    · rw [zu_ne (by omega), zu_ne (by omega), (hn y).2]
    · rw [zu_ne (by omega), zu_ne (by omega)]
    · rw [zu_ne (by omega), zu_ne (by omega)]
    · rw [zu_ne (by omega), zu_same]
      exact hc
  · refine ⟨I, J, ?_, ?_, h, zFI.rf I, zFJ.rf J, z⟩
    · rw [if_neg z]
    · rw [if_pos nI_0, if_neg (he1 ▸ z)]
theorem zy_chk1 (J : Nat → Int32) (c : Int32) : f_X8_check J (nI 1) c = some J := by
  unfold f_X8_check
  rw [if_neg (by decide)]
/-- on to the next token, if there was no error -/
theorem zy_aig (h : zTR τ len s e k I A J B w) : ∃ s' e' k' I' J' w', (if I 3 = 0 then f_X6_advance A 1 I else some I) = some I' ∧ f_X8_advanceIfGood B J w = some (J', w') ∧ zTR τ len s' e' k' I' A J' B w' ∧ zFI I I' ∧ zFJ J J' ∧ I' 3 = I 3 ∧ (I 3 = 0 → e ≤ s') := by
  unfold f_X8_advanceIfGood
  by_cases z : I 3 = 0
  · obtain ⟨s', e', k', I', J', w', a1, a2, a3, a4, a5, a6, a7⟩ := zy_adv h
    refine ⟨s', e', k', I', J', w', ?_, ?_, a3, a4, a5, a6, fun _ => a7⟩
    · rw [if_pos z]; exact a1
    · rw [if_pos (h.2.2.2.2.1.1 ▸ z), a2]; rfl
  · refine ⟨s, e, k, I, J, w, ?_, ?_, h, zFI.rf I, zFJ.rf J, rfl, fun y => absurd y z⟩
    · rw [if_neg z]
    · rw [if_neg (h.2.2.2.2.1.1 ▸ z)]
end ZTR
