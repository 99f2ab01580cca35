/-! load -/
theorem zD_0 {I : Nat → Int32} {A B : Nat → Nat → Int32} (hI : ∀ i, i < 4 → I (16 + i) = nI 0) (h21 : I 21 = nI 0) (hA : ∀ a i, a < 14 → i < zlen a → A (47 + a) i = zZero a i) (b1 : B 1 0 = nI 20 ∧ B 1 1 = nI 20 ∧ B 1 2 = nI 10) (b2 : ∀ j, 3 ≤ j → j < 250 → B 1 j = nI 0) (b3 : ∀ j, j < 4 → B 4 (12 + j) = -nI 1) (b4 : ∀ j, j < 62 → (j < 12 ∨ 16 ≤ j) → B 4 j = nI 0) : zD I A B (fun _ => 0) := by
  refine ⟨⟨⟨Nat.zero_le _, Nat.zero_le _, Nat.zero_le _, Nat.zero_le _⟩, ⟨b4 0 (by omega) (by omega), b4 1 (by omega) (by omega), b4 2 (by omega) (by omega), b4 3 (by omega) (by omega)⟩, ⟨hI 0 (by omega), hI 1 (by omega), hI 2 (by omega), hI 3 (by omega)⟩, fun g hg => absurd hg (Nat.not_lt_zero _), fun g hg => absurd hg (Nat.not_lt_zero _), fun g hg => absurd hg (Nat.not_lt_zero _), fun g hg => absurd hg (Nat.not_lt_zero _)⟩, ⟨fun g hg => absurd hg (Nat.not_lt_zero _), fun g hg => absurd hg (Nat.not_lt_zero _)⟩, fun a i ha hi => ?_, ?_, ⟨⟨⟨20, by omega, b1.1⟩, ⟨20, by omega, b1.2.1⟩, ⟨10, by omega, b1.2.2⟩⟩, fun g hg => ⟨0, by omega, b2 _ (by omega) (by omega)⟩, fun h hh => ⟨0, by omega, b2 _ (by omega) (by omega), fun y => absurd y (Nat.not_lt_zero _)⟩, fun i hi => b2 _ (by omega) (by omega), fun i hi => ⟨0, by omega, b2 _ (by omega) (by omega)⟩⟩, fun g hg hg4 => ⟨b3 g hg4, b4 _ (by omega) (by omega)⟩⟩
  · show A (47 + a) i = _
    rw [hA a i ha hi]
    by_cases z : a = 2
    · subst z
      have hi : i < 3 := hi
      rcases (show i = 0 ∨ i = 1 ∨ i = 2 by omega) with rfl | rfl | rfl
      · exact b1.1.symm
      · exact b1.2.1.symm
      · exact b1.2.2.symm
    · have ht := zoff_top a ha
      have h3 : 3 ≤ zoff a := by
        have := zoff_apart a ha 2 (by omega) z
        have e1 : zoff 2 = 0 := rfl
        have e2 : zlen 2 = 3 := rfl
        omega
      unfold zZero
      rw [if_neg z, b2 _ (by omega) (by omega)]
  · rw [h21, b2 249 (by omega) (by omega)]
theorem ze_load : QE_load zI := by
  intro ad I A G T J B w p1 hI
  obtain ⟨⟨ng, nk, nh, ns, kept, next, hJ⟩, fed, q1, q2, q3, q4, q5⟩ := id hI
  have eJ1 : upd J 1 (0 : Int32) 2 = nI fed := by rw [zu_ne (by omega), q3]
  by_cases c : ¬ p1 < 0 ∧ p1 ≤ nI fed
  · obtain ⟨c1, c2⟩ := c
    obtain ⟨len, hlen, rfl⟩ := nI_of c1
    have hl : len ≤ fed := (nI_leI hlen (by omega)).mp c2
    -- the class
    obtain ⟨A1, x1, x2, x3⟩ := zx_clear (upd (upd (upd (upd (upd I 0 (0 : Int32)) 16 (0 : Int32)) 17 (0 : Int32)) 18 (0 : Int32)) 19 (0 : Int32)) A
    obtain ⟨Is, hIs⟩ : ∃ X, X = upd (upd (upd (upd (upd (upd (upd (upd (upd (upd (upd I 0 (0 : Int32)) 16 (0 : Int32)) 17 (0 : Int32)) 18 (0 : Int32)) 19 (0 : Int32)) 21 (nI 0)) 2 (0 : Int32)) 3 (0 : Int32)) 4 (-1 : Int32)) 5 (nI len)) 6 (0 : Int32) := ⟨_, rfl⟩
    have s0 : Is 0 = 0 := by rw [hIs]; rfl
    have s2 : Is 2 = 0 := by rw [hIs]; rfl
    have s3 : Is 3 = 0 := by rw [hIs]; rfl
    have s4 : Is 4 = -1 := by rw [hIs]; rfl
    have s5 : Is 5 = nI len := by rw [hIs]; rfl
    have s6 : Is 6 = nI 0 := by rw [hIs]; rfl
    have s16 : ∀ i, i < 4 → Is (16 + i) = nI 0 := fun i hi => by
      rw [hIs]
      rcases (show i = 0 ∨ i = 1 ∨ i = 2 ∨ i = 3 by omega) with rfl | rfl | rfl | rfl <;> rfl
    have s21 : Is 21 = nI 0 := by rw [hIs]; rfl
    have so : ∀ i, (9 ≤ i ∧ i ≤ 15) ∨ i = 20 → Is i = I i := fun i hi => by
      rw [hIs, zu_ne (by omega), zu_ne (by omega), zu_ne (by omega), zu_ne (by omega), zu_ne (by omega), zu_ne (by omega), zu_ne (by omega), zu_ne (by omega), zu_ne (by omega), zu_ne (by omega), zu_ne (by omega)]
    -- the reference
    obtain ⟨Js, hJs⟩ : ∃ X, X = upd (upd (upd (upd (upd (upd (upd J 1 (0 : Int32)) 3 (nI len)) 4 (0 : Int32)) 8 (0 : Int32)) 9 (-1 : Int32)) 10 (0 : Int32)) 11 (0 : Int32) := ⟨_, rfl⟩
    have t3 : Js 3 = nI len := by rw [hJs]; rfl
    have t4 : Js 4 = nI 0 := by rw [hJs]; rfl
    have t8 : Js 8 = 0 := by rw [hJs]; rfl
    have t9 : Js 9 = -1 := by rw [hJs]; rfl
    have t10 : Js 10 = 0 := by rw [hJs]; rfl
    have t11 : Js 11 = nI 0 := by rw [hJs]; rfl
    have t0 : Js 0 = J 0 := by rw [hJs]; rfl
    obtain ⟨f, y1, y2, y3, -⟩ := zx_rst 250 0 100000 (B 1) (by omega) (by omega)
    have y1 : f_X8_reset 250 (B 1) = some f := y1
    obtain ⟨g, z1, z2, z3, -⟩ := zx_clr 62 0 100000 (qf_up B 1 f 4) (by omega) (by omega)
    have z1 : f_X8_clear 62 (qf_up B 1 f 4) = some g := z1
    obtain ⟨B1, hB1⟩ : ∃ X, X = qf_up (qf_up B 1 f) 4 g := ⟨_, rfl⟩
    have b1 : B1 1 = f := by rw [hB1, zu_upn (by omega), zu_up]
    have b4 : B1 4 = g := by rw [hB1, zu_up]
    have bo : ∀ b, b ≠ 1 → b ≠ 4 → B1 b = B b := fun b a1 a2 => by rw [hB1, zu_upn a2, zu_upn a1]
    -- the text
    obtain ⟨τ, hτ⟩ : ∃ τ : Nat → Nat, τ = fun i => (B 5 i).toBitVec.toNat % 2 ^ 8 := ⟨_, rfl⟩
    have hm : ∀ i, B 5 i &&& (255 : Int32) = nI (τ i) := fun i => by
      rw [hτ]
      exact pk_and (B 5 i) 8 (by decide)
    have h256 : ∀ i, τ i < 256 := fun i => by
      rw [hτ]
      exact Nat.mod_lt _ (by omega)
    have hx : zTx A1 τ len := ⟨by omega, fun i hi => ⟨by rw [x3 0 (by omega), q4 i (by omega), hm i], h256 i⟩⟩
    have hy : zTy B1 τ len := ⟨by omega, fun i hi => ⟨by rw [bo 5 (by omega) (by omega), ← hm i, zl_255], h256 i⟩⟩
    obtain ⟨s, e, k, I1, J1, w1, d1, d2, d3, d4, d5, d6⟩ := zy_adv0 (w := w) hx hy s5 s6 t3 t4 (Nat.zero_le _) ⟨by rw [s3, t8], by rw [s4, t9]⟩
    have hs := d3.2.2.2.2.2.1
    obtain ⟨s', e', k', c', I2, A2, J2, B2, w2, r1, r2, r3, r4, r5, r6, r7, r8⟩ := zs_loop (len - s) s e k 0 100000 100000 I1 A1 J1 B1 w1 (by omega) (by omega) (by omega) (by omega) d3 (by rw [d5 11 (by omega) (by omega) (by omega) (by omega), t11]) (fun _ => ⟨⟨_, zD_0 (fun i hi => by rw [d4 _ (by omega) (by omega) (by omega), s16 i hi]) (by rw [d4 21 (by omega) (by omega) (by omega), s21]) x2 (by rw [b1]; exact y2) (fun j a1 a2 => by rw [b1]; exact y3 j a1 (by omega) a2) (fun j a1 => by rw [b4]; exact z2 j a1) (fun j a1 a2 => by rw [b4]; exact z3 j (by omega) a1 a2)⟩, ⟨0, by omega, by rw [d4 2 (by omega) (by omega) (by omega), s2]; rfl, by rw [d5 10 (by omega) (by omega) (by omega) (by omega), t10]; rfl⟩⟩)
    have cl : f_X2_read_r1 (upd I 0 (0 : Int32)) A T (nI len) = some (nI c', I2, A2, 1) := by
      unfold f_X2_read_r1 f_X3_clear_t31 f_X6_open_r1
      rw [zb_let, zb_let, zb_let, zb_let, zb_bd, x1, zb_bd2, zb_let, zb_let, zb_let, zb_let, if_neg (show ¬ (800 : Int32) < nI len from nI_nlt (a := 800) (by omega) (by omega)), zb_let, zb_let, ← hIs, d1, zb_bd, zb_bd2]
      exact r1
    have mo : f_X8_load J B w (nI len) = f_X8_load_j122 J2 B2 w2 := by
      unfold f_X8_load
      have er : (if nI len < (0 : Int32) then nI 0 else if nI fed < nI len then nI 0 else nI 1) = nI 1 := by
        rw [if_neg (show ¬ nI len < 0 from nI_pos (by omega)), if_neg (nI_nlt hl (by omega))]
      rw [zb_let, eJ1, zf_r, zb_bd, er, if_neg (show ¬ nI 1 = 0 by decide), zb_let, zb_let, zb_let, zb_let, zb_let, zb_let, y1, zb_bd, zb_let, z1, zb_bd, zb_let, ← hB1, ← hJs, d2, zb_bd2]
      exact r2
    have oI : ∀ i, (9 ≤ i ∧ i ≤ 15) ∨ i = 20 → I2 i = I i := fun i hi => by rw [r4 i (by omega), d4 i (by omega) (by omega) (by omega), so i hi]
    have o0 : I2 0 = 0 := by rw [r4 0 (by omega), d4 0 (by omega) (by omega) (by omega), s0]
    have oA : ∀ a, (11 ≤ a ∧ a ≤ 21) ∨ (33 ≤ a ∧ a ≤ 46) → A2 a = A a := fun a ha => by rw [r6 a (by omega), x3 a (by omega)]
    have oB : ∀ b, b ≠ 1 → b ≠ 4 → B2 b = B b := fun b a1 a2 => by rw [r7 b a1 a2, bo b a1 a2]
    have oJ0 : J2 0 = J 0 := by rw [r5 0 (by omega), d5 0 (by omega) (by omega) (by omega) (by omega), t0]
    obtain ⟨he1, he2⟩ := r3.2.2.2.2.1
    unfold f_X7_load
    rw [if_neg c1, q2, if_pos c2, zb_let, cl, zb_bd4, zb_let, mo]
    unfold f_X8_load_j122
    rw [zb_let (upd J2 2 (0 : Int32)), zu_ne (show 8 ≠ 2 by omega), zu_ne (show 3 ≠ 1 by omega)]
    by_cases z : I2 3 = 0
    · obtain ⟨u1, n', u2⟩ := r8 z
      have hJ9 : I 9 = nI next := hJ.2.2.2.2.2.2.2.2
      have hnx : next < 10 := hJ.2.2.2.2.2.1.2.1
      have hD2 : zD (upd I2 1 (I2 4)) A2 B2 n' := zD_fr u2 (fun i hi => zu_ne (by omega)) (fun _ _ => rfl) (fun _ _ => rfl)
      obtain ⟨A', B', v1, v2, v3⟩ := zx_take (G := G) (J := upd J2 2 (0 : Int32)) (w := w2) hD2 hnx (by rw [zu_ne (by omega), oI 9 (by omega), hJ9])
      have fg : f_X1_forget (qx_I (upd I2 1 (I2 4))) = some (upd (qx_I (upd I2 1 (I2 4))) 10 (0 : Int32)) := rfl
      rw [if_pos z, if_pos (show J2 8 = 0 from he1 ▸ z), zb_ck (show qx_pi 1 = 1 by decide), zb_let, zb_let, zb_let, fg, zb_bd, v1, zb_bd, v2]
      refine ⟨_, _, _, _, _, rfl, _, _, _, _, rfl, ?_, ⟨⟨_, _, _, _, _, _, v3⟩, 0, by omega, ?_, ?_, fun i hi => absurd hi (by omega), ?_⟩, rfl⟩
      · rw [zu_ne (by omega), u1]
      · show upd I2 1 (I2 4) 0 = nI 0
        rw [zu_ne (by omega), o0]; rfl
      · rw [zu_ne (by omega), zu_same]; rfl
      · show upd I2 1 (I2 4) 1 = _
        rw [zu_same, zu_ne (by omega), zu_ne (by omega), he2]
    · rw [if_neg z, if_neg (show ¬ J2 8 = 0 from he1 ▸ z)]
      refine ⟨_, _, _, _, _, rfl, _, _, _, _, rfl, he1, ⟨⟨ng, nk, nh, ns, kept, next, zJ_fr2 hJ (fun i hi => by rw [zu_ne (by omega), oI i hi]) oA (by rw [zu_ne (by omega), oJ0]) (oB 0 (by omega) (by omega)) (oB 2 (by omega) (by omega)) (oB 3 (by omega) (by omega))⟩, 0, by omega, ?_, ?_, fun i hi => absurd hi (by omega), ?_⟩, rfl⟩
      · rw [zu_ne (by omega), o0]; rfl
      · rw [zu_same]; rfl
      · rw [zu_same, zu_ne (by omega), he2]
  · have cl : f_X7_load I A T ad p1 = some ((-2 : Int32), I, A, T, ad) := by
      unfold f_X7_load
      by_cases c1 : p1 < 0
      · rw [if_pos c1]
      · rw [if_neg c1, q2, if_neg (fun y => c ⟨c1, y⟩)]
    have mo : f_X8_load J B w p1 = some ((-2 : Int32), upd J 1 (0 : Int32), B, w) := by
      unfold f_X8_load
      have er : (if p1 < (0 : Int32) then nI 0 else if nI fed < p1 then nI 0 else nI 1) = nI 0 := by
        by_cases c1 : p1 < 0
        · rw [if_pos c1]
        · obtain ⟨j, hj, rfl⟩ := nI_of c1
          rw [if_neg c1, if_pos (nI_lt (by
            by_cases y : j ≤ fed
            · exact absurd ⟨c1, nI_le y (by omega)⟩ c
            · omega) (by omega))]
      rw [zb_let, eJ1, zf_r, zb_bd, er, if_pos nI_0]
    exact ⟨_, _, _, _, _, cl, _, _, _, _, mo, rfl, zI_J _ hI, rfl⟩
