/-! new names and old names, on both sides -/
def zN6 (s : Nat) : Nat := if s = 0 ∨ s = 3 then 4 else 6
def zNs (I : Nat → Int32) (A : Nat → Nat → Int32) (B : Nat → Nat → Int32) (n : Nat → Nat) : Prop := ∀ s, s ≤ 3 → I (16 + s) = nI (n s) ∧ B 4 s = nI (n s) ∧ n s ≤ zN6 s ∧ ∀ i, i < n s → A (22 + s) i = B 4 (38 + 6 * s + i)
def zOne (I : Nat → Int32) (A : Nat → Nat → Int32) (B : Nat → Nat → Int32) (n : Nat → Nat) (s : Nat) : Prop := I (16 + s) = nI (n s) ∧ B 4 s = nI (n s) ∧ n s ≤ zN6 s ∧ ∀ i, i < n s → A (22 + s) i = B 4 (38 + 6 * s + i)
theorem zy_toI {a : Nat} (ha : a < 2 ^ 31) : (lN a).toInt32 = nI a := by
  apply Int32.toBitVec_inj.mp
  apply BitVec.eq_of_toNat_eq
  rw [pk_tn (by omega)]
  show ((lN a).toBitVec.signExtend 32).toNat = a
  rw [BitVec.signExtend_eq_setWidth_of_le _ (by omega), BitVec.toNat_setWidth, zy_tn (by omega)]
  exact Nat.mod_eq_of_lt (by omega)
section ZNEW
variable {τ : Nat → Nat} {len s e k : Nat} {I : Nat → Int32} {A : Nat → Nat → Int32} {J : Nat → Int32} {B : Nat → Nat → Int32} {w : Int64} {n : Nat → Nat}
theorem zNs.frame {I' : Nat → Int32} {A' B' : Nat → Nat → Int32} (h : zNs I A B n) (hI : zFI I I') (hA : ∀ s, s ≤ 3 → ∀ i, i < n s → A' (22 + s) i = A (22 + s) i) (hB : B' 4 = B 4) : zNs I' A' B' n := fun s hs => by
  obtain ⟨a, b, c, d⟩ := h s hs
  exact ⟨by rw [hI _ (by omega), a], by rw [hB, b], c, fun i hi => by rw [hA s hs i hi, hB, d i hi]⟩
theorem zNs.fI {I' : Nat → Int32} (h : zNs I A B n) (hI : zFI I I') : zNs I' A B n := h.frame hI (fun _ _ _ _ => rfl) rfl
theorem zNs_le {s : Nat} : zN6 s ≤ 6 := by
  unfold zN6
  split <;> omega
theorem zNs_find (h : zNs I A B n) {s N : Nat} (hs : s ≤ 3) (hN : N = zN6 s) (p : Int32) : ∃ r, f_X3_find N (A (22 + s)) (I (16 + s)) p = some r ∧ f_X8_indexOf 62 (B 4) (nI s) p = some r ∧ (r = -nI 1 ∨ ∃ j, j < n s ∧ r = nI j) := by
  obtain ⟨a, b, c, d⟩ := h s hs
  have := @zNs_le s
  rw [a, hN]
  exact zx_find p hs (by omega) c (by omega) b d
theorem zOne_find {s N : Nat} (h : zOne I A B n s) (hs : s ≤ 3) (hN : N = zN6 s) (p : Int32) : ∃ r, f_X3_find N (A (22 + s)) (I (16 + s)) p = some r ∧ f_X8_indexOf 62 (B 4) (nI s) p = some r ∧ (r = -nI 1 ∨ ∃ j, j < n s ∧ r = nI j) := by
  obtain ⟨a, b, c, d⟩ := h
  have := @zNs_le s
  rw [a, hN]
  exact zx_find p hs (by omega) c (by omega) b d
/-- a name at hand, or an error -/
theorem zy_name (h : zTR τ len s e k I A J B w) : ∃ I' J' v v', (∀ (β : Type) (K : (Nat → Int32) → Option β), (qf_bd (f_X6_isName I A 1) fun r1 => if r1 = 0 then (qf_bd (f_X2_fail I (-11 : Int32)) fun I2 => K I2) else K I) = K I') ∧ f_X6_letters I' A 1 = some v ∧ zTR τ len s e k I' A J' B w ∧ zFI I I' ∧ zFJ J J' ∧ (I 3 = 0 → f_X8_lettersHere w J = some (v', J')) ∧ (I 3 ≠ 0 → J' = J ∧ I' 3 ≠ 0) ∧ (I' 3 = 0 → I 3 = 0 ∧ v' = v ∧ I' = I ∧ s < e) := by
  have hN := zy_isN h
  have i8 := h.2.2.1.2.2.2
  obtain ⟨j3, j5, j4, j6⟩ := h.2.2.2.1
  obtain ⟨s1, s2, s3, s4⟩ := h.2.2.2.2.2.1
  have hl := h.1.1
  have lets : ∀ {I' : Nat → Int32} {J' : Nat → Int32}, zTR τ len s e k I' A J' B w → ∃ v, f_X6_letters I' A 1 = some v ∧ ((∀ j, j < e - s → 97 ≤ τ (s + j) ∧ τ (s + j) ≤ 122) → v = nI (zPack (zLc τ s e) 6)) := fun g => by
    obtain ⟨v, a1, a2⟩ := zy_let7 g.1 s1 s2 g.2.2.1.2.2.1 g.2.2.1.2.1 6 0 100000 (0 : Int32) (by omega) (by omega)
    exact ⟨v, a1, fun z => a2 z rfl⟩
  by_cases c : zNm τ s e k
  · obtain ⟨c1, c2, c3⟩ := id c
    obtain ⟨hd, hw⟩ := h.2.2.2.2.2.2.1 c1
    obtain ⟨v, a1, a2⟩ := lets h
    have a2 := a2 hd
    refine ⟨I, J, v, v, fun β K => zc_yes hN c, a1, h, zFI.rf I, zFJ.rf J, fun _ => ?_, fun z => ⟨rfl, z⟩, fun z => ⟨z, rfl, rfl, s4 (by omega)⟩⟩
    unfold f_X8_lettersHere f_X8_lettersHere_j35
    rw [j6, if_pos (by rw [c1]; rfl), j4, j5, pk_sub s1, if_neg (show ¬ (6 : Int32) < nI (e - s) from nI_nlt (a := 6) c2 (by omega)), zc_no (zy_isK8 h c1) c3, zl_1, zy_chk1, zb_bd, zb_let, j4, j5, pk_sub s1, zb_let]
    have ep : zPack (fun i => τ (s + i) - 96) (e - s) = zPack (zLc τ s e) (e - s) := by
      have : ∀ m, m ≤ e - s → zPack (fun i => τ (s + i) - 96) m = zPack (zLc τ s e) m := by
        intro m
        induction m with
        | zero => intro _; rfl
        | succ m ih =>
          intro hm
          show zPack (fun i => τ (s + i) - 96) m * 32 + (τ (s + m) - 96) = zPack (zLc τ s e) m * 32 + zLc τ s e m
          rw [ih (by omega)]
          unfold zLc
          rw [if_pos (by omega)]
      exact this _ (Nat.le_refl _)
    obtain ⟨b1, b2⟩ := zLc_lt hd (e - s) c2
    have ew : w.toInt32 = nI (zPack (zLc τ s e) (e - s)) := by
      rw [hw]
      unfold zWv
      rw [if_pos (by omega), ep, zy_toI (by omega)]
    rw [ew, zy_let8 hd (6 - (e - s)) (e - s) 100000 (by omega) (by omega) (by omega), a2]
  · obtain ⟨I1, J1, f1, f2, f3, f4, f5, f6⟩ := zy_fail h (-11 : Int32) (by decide)
    obtain ⟨v, a1, -⟩ := lets f3
    have j1 : f_X8_lettersHere_j34 J w = f_X8_lettersHere_l56 w 100000 J1 w.toInt32 (nI (e - s)) := by
      unfold f_X8_lettersHere_j34 f_X8_lettersHere_j35
      rw [zl_0, f2, zb_bd, zb_let, f3.2.2.2.1.2.2.1, f3.2.2.2.1.2.1, pk_sub s1, zb_let]
    obtain ⟨v', b1⟩ := zy_let8s (J := J1) (w := w) 6 (e - s) 100000 w.toInt32 (by omega) (by omega) (by omega)
    rw [b1] at j1
    refine ⟨I1, J1, v, v', fun β K => ?_, a1, f3, f4, f5, fun _ => ?_, fun z => ?_, fun z => absurd z f6⟩
    · rw [zc_no hN c, f1, zb_bd]
    · unfold f_X8_lettersHere
      rw [j6]
      by_cases c1 : k = 1
      · rw [if_pos (by rw [c1]; rfl), j4, j5, pk_sub s1]
        by_cases c2 : e - s ≤ 6
        · rw [if_neg (show ¬ (6 : Int32) < nI (e - s) from nI_nlt (a := 6) c2 (by omega))]
          by_cases c3 : zKey τ s e k
          · rw [zc_yes (zy_isK8 h c1) c3, j1]
          · exact absurd ⟨c1, c2, c3⟩ c
        · rw [if_pos (show (6 : Int32) < nI (e - s) from nI_lt (a := 6) (by omega) (by omega)), j1]
      · rw [if_neg (show ¬ nI k = (1 : Int32) from fun q => c1 ((nI_eq (b := 1) (by omega) (by omega)).mp q)), j1]
    · have : f_X8_check J (nI 0) (-11 : Int32) = some J := by
        unfold f_X8_check
        rw [if_neg (show ¬ J 8 = 0 from h.2.2.2.2.1.1 ▸ z), ite_self]
      rw [this] at f2
      exact ⟨(Option.some.inj f2).symm, f6⟩
/-- a test that may fail, then on -/
theorem zy_pass (h : zTR τ len s e k I A J B w) (x x' : Int32) (hx : I 3 = 0 → (x = 0 ↔ x' ≠ 0)) : ∃ s' e' k' I' J' w' J1, f_X2_passUnless A 1 I x = some I' ∧ f_X8_check J x' (-14 : Int32) = some J1 ∧ f_X8_advanceIfGood B J1 w = some (J', w') ∧ zTR τ len s' e' k' I' A J' B w' ∧ zFI I I' ∧ zFJ J J' ∧ zFJ J J1 ∧ J1 8 = J' 8 ∧ (I' 3 = 0 → I 3 = 0 ∧ x = 0 ∧ e ≤ s') := by
  have fin : ∀ {I1 J1 : Nat → Int32}, zTR τ len s e k I1 A J1 B w → ∃ s' e' k' I' J' w', f_X2_passUnless_j10 A 1 I1 = some I' ∧ f_X8_advanceIfGood B J1 w = some (J', w') ∧ zTR τ len s' e' k' I' A J' B w' ∧ zFI I1 I' ∧ zFJ J1 J' ∧ I' 3 = I1 3 ∧ (I1 3 = 0 → e ≤ s') := fun {I1 J1} g => by
    obtain ⟨s', e', k', I', J', w', a1, a2⟩ := zy_aig g
    refine ⟨s', e', k', I', J', w', ?_, a2⟩
    unfold f_X2_passUnless_j10
    by_cases z : I1 3 = 0
    · rw [if_pos z] at a1 ⊢
      rw [a1, zb_bd]
    · rw [if_neg z] at a1 ⊢
      exact a1
  have e8 : ∀ {I1 J1 I' J' : Nat → Int32} {a b c a' b' c' : Nat} {w' : Int64}, zTR τ len a b c I1 A J1 B w → zTR τ len a' b' c' I' A J' B w' → I' 3 = I1 3 → J1 8 = J' 8 := fun g g2 q => by rw [← g.2.2.2.2.1.1, ← g2.2.2.2.2.1.1, q]
  unfold f_X2_passUnless
  by_cases z : I 3 = 0
  · by_cases z1 : x = 0
    · obtain ⟨s', e', k', I', J', w', a1, a2, a3, a4, a5, a6, a7⟩ := fin h
      refine ⟨s', e', k', I', J', w', J, by rw [if_pos z1, a1], ?_, a2, a3, a4, a5, zFJ.rf J, e8 h a3 a6, fun _ => ⟨z, z1, a7 z⟩⟩
      unfold f_X8_check
      rw [if_neg ((hx z).mp z1)]
    · obtain ⟨I1, J1, f1, f2, f3, f4, f5, f6⟩ := zy_fail h (-14 : Int32) (by decide)
      obtain ⟨s', e', k', I', J', w', a1, a2, a3, a4, a5, a6, a7⟩ := fin f3
      have ex : x' = 0 := by
        by_cases q : x' = 0
        · exact q
        · exact absurd ((hx z).mpr q) z1
      refine ⟨s', e', k', I', J', w', J1, by rw [if_neg z1, f1, zb_bd, a1], ?_, a2, a3, f4.tr a4, f5.tr a5, f5, e8 f3 a3 a6, fun q => absurd (a6 ▸ q) f6⟩
      rw [ex]
      exact f2
  · obtain ⟨s', e', k', I', J', w', a1, a2, a3, a4, a5, a6, a7⟩ := fin h
    refine ⟨s', e', k', I', J', w', J, ?_, ?_, a2, a3, a4, a5, zFJ.rf J, e8 h a3 a6, fun q => absurd (a6 ▸ q) z⟩
    · have : f_X2_fail I (-14 : Int32) = some I := by
        unfold f_X2_fail
        rw [if_neg z]
      rw [this, zb_bd, ite_self, a1]
    · unfold f_X8_check
      rw [if_neg (show ¬ J 8 = 0 from h.2.2.2.2.1.1 ▸ z), ite_self]
end ZNEW
