/-! the statements, one after another -/
theorem zb_id2 {α β : Type} (x : Option (α × β)) : (qf_bd2 x fun a b => some (a, b)) = x := by cases x <;> rfl
theorem zb_id3 {α β γ : Type} (x : Option (α × β × γ)) : (qf_bd3 x fun a b c => some (a, b, c)) = x := by cases x <;> rfl
section ZREAD
variable {τ : Nat → Nat} {len s e k : Nat} {I : Nat → Int32} {A : Nat → Nat → Int32} {J : Nat → Int32} {B : Nat → Nat → Int32} {w : Int64} {n : Nat → Nat}
theorem zs_stat (h : zTR τ len s e k I A J B w) (z : I 3 = 0) (hD : zD I A B n) (hG : zGs I J) (hk : k ≠ 0) : zEnds τ len s I A J B (f_X2_readStatement 1 I A) (f_X8_parseStatement J B w) := by
  unfold f_X2_readStatement f_X8_parseStatement
  rw [zn_group, zn_swap, zn_good, zn_house, zn_shop, zn_set]
  by_cases c1 : zWrd τ s e k zl_group
  · rw [zc_yes (zy_isW h zw_group) c1, zc_yes (zy_isW8 h z zw_group) c1, zb_id2, zb_id3]
    exact zs_group h z hD hG hk
  rw [zc_no (zy_isW h zw_group) c1, zc_no (zy_isW8 h z zw_group) c1]
  by_cases c2 : zWrd τ s e k zl_swap
  · rw [zc_yes (zy_isW h zw_swap) c2, zc_yes (zy_isW8 h z zw_swap) c2, zb_id2, zb_id3]
    exact zs_swap h z hD hG hk
  rw [zc_no (zy_isW h zw_swap) c2, zc_no (zy_isW8 h z zw_swap) c2]
  by_cases c3 : zWrd τ s e k zl_good
  · rw [zc_yes (zy_isW h zw_good) c3, zc_yes (zy_isW8 h z zw_good) c3, zb_id2, zb_id3]
    exact zs_good h z hD hG hk
  rw [zc_no (zy_isW h zw_good) c3, zc_no (zy_isW8 h z zw_good) c3]
  by_cases c4 : zWrd τ s e k zl_house
  · rw [zc_yes (zy_isW h zw_house) c4, zc_yes (zy_isW8 h z zw_house) c4, zb_id2, zb_id3]
    exact zs_house h z hD hG hk
  rw [zc_no (zy_isW h zw_house) c4, zc_no (zy_isW8 h z zw_house) c4]
  by_cases c5 : zWrd τ s e k zl_shop
  · rw [zc_yes (zy_isW h zw_shop) c5, zc_yes (zy_isW8 h z zw_shop) c5, zb_id2, zb_id3]
    exact zs_shop h z hD hG hk
  rw [zc_no (zy_isW h zw_shop) c5, zc_no (zy_isW8 h z zw_shop) c5]
  by_cases c6 : zWrd τ s e k zl_set
  · rw [zc_yes (zy_isW h zw_set) c6, zc_yes (zy_isW8 h z zw_set) c6, zb_id2, zb_id3]
    exact zs_set h z hD hG hk
  rw [zc_no (zy_isW h zw_set) c6, zc_no (zy_isW8 h z zw_set) c6]
  obtain ⟨I1, J1, f1, f2, f3, f4, f5, f6⟩ := zy_fail h (-11 : Int32) (by decide)
  have f2 : f_X8_check J (0 : Int32) (-11 : Int32) = some J1 := by rw [zl_0]; exact f2
  rw [f1, zb_bd, f2, zb_bd]
  exact ⟨s, e, k, I1, A, J1, B, w, rfl, rfl, f3, f4.sI, f5.sJ, fun _ _ => rfl, fun _ _ _ => rfl, fun y => absurd y f6⟩
theorem zs_semi (h : zTR τ len s e k I A J B w) : ∃ (x' : Int32) (s' e' k' : Nat) (I' J1 J' : Nat → Int32) (w' : Int64), f_X2_readSemicolon A 1 I = some I' ∧ (∀ K, (if J 6 = (3 : Int32) then f_X8_load_j100 K J B w (1 : Int32) else f_X8_load_j100 K J B w (0 : Int32)) = f_X8_load_j100 K J B w x') ∧ f_X8_check J x' (-11 : Int32) = some J1 ∧ f_X8_advanceIfGood B J1 w = some (J', w') ∧ zTR τ len s' e' k' I' A J' B w' ∧ zFI I I' ∧ zFJ J J' ∧ (I' 3 = 0 → I 3 = 0 ∧ s < s') := by
  have i8 := h.2.2.1.2.2.2
  have j6 := h.2.2.2.1.2.2.2
  have hk4 : k ≤ 4 := h.2.2.2.2.2.1.2.2.1
  have fin : ∀ {I1 J1 : Nat → Int32}, zTR τ len s e k I1 A J1 B w → ∃ s' e' k' I' J' w', f_X2_readSemicolon_j17 A 1 I1 = some I' ∧ f_X8_advanceIfGood B J1 w = some (J', w') ∧ zTR τ len s' e' k' I' A J' B w' ∧ zFI I1 I' ∧ zFJ J1 J' ∧ I' 3 = I1 3 ∧ (I1 3 = 0 → e ≤ s') := fun {I1 J1} g => by
    obtain ⟨s', e', k', I', J', w', a1, a2⟩ := zy_aig g
    refine ⟨s', e', k', I', J', w', ?_, a2⟩
    unfold f_X2_readSemicolon_j17
    by_cases z : I1 3 = 0
    · rw [if_pos z] at a1 ⊢
      rw [a1, zb_bd]
    · rw [if_neg z] at a1 ⊢
      exact a1
  unfold f_X2_readSemicolon
  rw [i8, j6]
  by_cases k3 : k = 3
  · obtain ⟨s', e', k', I', J', w', a1, a2, a3, a4, a5, a6, a7⟩ := fin h
    have e3 : nI k = (3 : Int32) := by rw [k3]; rfl
    have hse := h.2.2.2.2.2.1.2.2.2 (by omega)
    refine ⟨1, s', e', k', I', J, J', w', by rw [if_pos e3, a1], fun K => by rw [if_pos e3], by rw [zl_1, zy_chk1], a2, a3, a4, a5, fun q => ⟨a6 ▸ q, ?_⟩⟩
    have := a7 (a6 ▸ q)
    omega
  · have e3 : ¬ nI k = (3 : Int32) := fun q => k3 ((nI_eq (b := 3) (by omega) (by omega)).mp q)
    obtain ⟨I1, J1, f1, f2, f3, f4, f5, f6⟩ := zy_fail h (-11 : Int32) (by decide)
    obtain ⟨s', e', k', I', J', w', a1, a2, a3, a4, a5, a6, a7⟩ := fin f3
    exact ⟨0, s', e', k', I', J1, J', w', by rw [if_neg e3, f1, zb_bd, a1], fun K => by rw [if_neg e3], by rw [zl_0]; exact f2, a2, a3, f4.tr a4, f5.tr a5, fun q => absurd (a6 ▸ q) f6⟩
end ZREAD
theorem zs_loop {τ : Nat → Nat} {len : Nat} : ∀ (d s e k c fu1 fu2 : Nat) (I : Nat → Int32) (A : Nat → Nat → Int32) (J : Nat → Int32) (B : Nat → Nat → Int32) (w : Int64), s + d = len → d + 1 < fu1 → d + 1 < fu2 → c ≤ s → zTR τ len s e k I A J B w → J 11 = nI c → (I 3 = 0 → (∃ n, zD I A B n) ∧ zGs I J) → ∃ (s' e' k' c' : Nat) (I' : Nat → Int32) (A' : Nat → Nat → Int32) (J' : Nat → Int32) (B' : Nat → Nat → Int32) (w' : Int64), f_X2_read_r1_l40 fu1 I A 1 (nI c) = some (nI c', I', A', 1) ∧ f_X8_load_l68 fu2 J B w = f_X8_load_j122 J' B' w' ∧ zTR τ len s' e' k' I' A' J' B' w' ∧ zSI I I' ∧ (∀ j, (j ≤ 3 ∨ 12 ≤ j) → J' j = J j) ∧ zSA A A' ∧ zSB B B' ∧ (I' 3 = 0 → J' 11 = nI c' ∧ ∃ n', zD I' A' B' n') := by
  intro d
  induction d using Nat.strongRecOn with
  | _ d ih =>
    intro s e k c fu1 fu2 I A J B w hd hf1 hf2 hc h h11 hg
    obtain ⟨a1, rfl⟩ : ∃ a, fu1 = a + 1 + 1 := ⟨fu1 - 2, by omega⟩
    obtain ⟨a2, rfl⟩ : ∃ a, fu2 = a + 1 + 1 := ⟨fu2 - 2, by omega⟩
    have hl := h.1.1
    have i8 := h.2.2.1.2.2.2
    have j6 := h.2.2.2.1.2.2.2
    obtain ⟨s1, s2, s3, s4⟩ := h.2.2.2.2.2.1
    have j8 : J 8 = I 3 := h.2.2.2.2.1.1.symm
    by_cases z : I 3 = 0
    · obtain ⟨⟨n, hD⟩, hG⟩ := hg z
      by_cases k0 : k = 0
      · have e1 : f_X2_read_r1_l40 (a1 + 1 + 1) I A 1 (nI c) = some (nI c, I, A, 1) := by
          rw [f_X2_read_r1_l40, if_pos z, i8, if_pos (show nI k = 0 by rw [k0]; rfl), ite_self]
        have e2 : f_X8_load_l68 (a2 + 1 + 1) J B w = f_X8_load_j122 J B w := by
          rw [f_X8_load_l68, if_pos (show J 8 = 0 by rw [j8, z]), j6, if_pos (show nI k = 0 by rw [k0]; rfl)]
        exact ⟨s, e, k, c, I, A, J, B, w, e1, e2, h, fun _ _ => rfl, fun _ _ => rfl, fun _ _ => rfl, fun _ _ _ => rfl, fun _ => ⟨h11, n, hD⟩⟩
      · have hse := s4 k0
        have k0' : ¬ nI k = 0 := fun q => k0 ((nI_eq (b := 0) (by omega) (by omega)).mp q)
        obtain ⟨t1, t2, t3, I1, A1, J1, B1, w1, x1, x2, x3, x4, x5, x6, x7, x8⟩ := zs_stat h z hD hG k0
        obtain ⟨x', s', e', k', I2, J2', J2, w2, y1, y2, y3, y4, y5, y6, y7, y8⟩ := zs_semi x3
        have e1 : f_X2_read_r1_l40 (a1 + 1 + 1) I A 1 (nI c) = f_X2_read_r1_l40 (a1 + 1) I2 A1 1 (nI (c + 1)) := by
          rw [f_X2_read_r1_l40, if_neg (show ¬ (800 : Int32) ≤ nI c from nI_ge (b := 800) (by omega) (by omega)), if_pos z, i8, if_neg k0', x1, zb_bd2, y1, zb_bd, zb_let, nI_1]
        have e2 : f_X8_load_l68 (a2 + 1 + 1) J B w = f_X8_load_l68 (a2 + 1) (upd J2 11 (nI (c + 1))) B1 w2 := by
          rw [f_X8_load_l68, if_pos (show J 8 = 0 by rw [j8, z]), j6, if_neg k0', x2, zb_bd3, y2]
          unfold f_X8_load_j100
          rw [y3, zb_bd, y4, zb_bd2, zb_let, y7 11 (by omega), x5 11 (by omega), h11, nI_1]
        have cJ : zTR τ len s' e' k' I2 A1 (upd J2 11 (nI (c + 1))) B1 w2 := y5.cI (fun _ _ _ => rfl) (fun _ _ _ => zu_ne (by omega))
        have sI : zSI I I2 := fun i hi => by rw [y6 i (by omega), x4 i hi]
        have sJ : ∀ j, (j ≤ 3 ∨ 12 ≤ j) → upd J2 11 (nI (c + 1)) j = J j := fun j hj => by rw [zu_ne (by omega), y7 j (by omega), x5 j (by omega)]
        rw [e1, e2]
        by_cases q : I2 3 = 0
        · obtain ⟨q1, q2⟩ := y8 q
          obtain ⟨q3, ⟨n', hD'⟩, q4⟩ := x8 q1
          have hs' := y5.2.2.2.2.2.1
          obtain ⟨u1, u2, u3, c', I', A', J', B', w', r1, r2, r3, r4, r5, r6, r7, r8⟩ := ih (len - s') (by omega) s' e' k' (c + 1) (a1 + 1) (a2 + 1) I2 A1 (upd J2 11 (nI (c + 1))) B1 w2 (by omega) (by omega) (by omega) (by omega) cJ (zu_same _ _ _) (fun _ => ⟨⟨n', zD_fr hD' (fun i hi => y6 i (by omega)) (fun _ _ => rfl) (fun _ _ => rfl)⟩, by
            obtain ⟨M, m1, m2, m3⟩ := q4
            exact ⟨M, m1, by rw [y6 2 (by omega), m2], by rw [zu_ne (by omega), y7 10 (by omega), m3]⟩⟩)
          exact ⟨u1, u2, u3, c', I', A', J', B', w', r1, r2, r3, fun i hi => by rw [r4 i hi, sI i hi], fun j hj => by rw [r5 j hj, sJ j hj], fun a ha => by rw [r6 a ha, x6 a ha], fun b c1 c2 => by rw [r7 b c1 c2, x7 b c1 c2], r8⟩
        · have e3 : f_X2_read_r1_l40 (a1 + 1) I2 A1 1 (nI (c + 1)) = some (nI (c + 1), I2, A1, 1) := by
            rw [f_X2_read_r1_l40, if_neg q, ite_self]
          have e4 : f_X8_load_l68 (a2 + 1) (upd J2 11 (nI (c + 1))) B1 w2 = f_X8_load_j122 (upd J2 11 (nI (c + 1))) B1 w2 := by
            rw [f_X8_load_l68, if_neg (show ¬ upd J2 11 (nI (c + 1)) 8 = 0 from cJ.2.2.2.2.1.1 ▸ q)]
          exact ⟨s', e', k', c + 1, I2, A1, upd J2 11 (nI (c + 1)), B1, w2, e3, e4, cJ, sI, sJ, x6, x7, fun y => absurd y q⟩
    · have e1 : f_X2_read_r1_l40 (a1 + 1 + 1) I A 1 (nI c) = some (nI c, I, A, 1) := by
        rw [f_X2_read_r1_l40, if_neg z, ite_self]
      have e2 : f_X8_load_l68 (a2 + 1 + 1) J B w = f_X8_load_j122 J B w := by
        rw [f_X8_load_l68, if_neg (show ¬ J 8 = 0 by rw [j8]; exact z)]
      exact ⟨s, e, k, c, I, A, J, B, w, e1, e2, h, fun _ _ => rfl, fun _ _ => rfl, fun _ _ => rfl, fun _ _ _ => rfl, fun y => absurd y z⟩
