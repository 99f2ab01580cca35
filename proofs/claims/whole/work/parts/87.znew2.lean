/-! new names and old names, on both sides, part two -/
def zCk (J : Nat → Int32) : Nat → Int32 := if J 8 = 0 then upd (upd J 8 (-14 : Int32)) 9 (upd J 8 (-14 : Int32) 5) else J
theorem zCk_chk (J : Nat → Int32) : f_X8_check J (nI 0) (-14 : Int32) = some (zCk J) := by
  unfold f_X8_check zCk
  rw [if_pos nI_0]
  by_cases z : J 8 = 0
  · rw [if_pos z, if_pos z]
    rfl
  · rw [if_neg z, if_neg z]
theorem zCk_id (J : Nat → Int32) : zCk (zCk J) = zCk J := by
  by_cases z : J 8 = 0
  · have e : zCk J 8 ≠ 0 := by
      unfold zCk
      rw [if_pos z, zu_ne (by omega), zu_same]
      decide
    show (if zCk J 8 = 0 then _ else zCk J) = zCk J
    rw [if_neg e]
  · have e : zCk J = J := if_neg z
    rw [e, e]
def zFnd (B : Nat → Nat → Int32) (v : Int32) : Prop := ∃ s, s ≤ 3 ∧ ∃ r, f_X8_indexOf 62 (B 4) (nI s) v = some r ∧ 0 ≤ r
section ZNEW2
variable {τ : Nat → Nat} {len s e k : Nat} {I : Nat → Int32} {A : Nat → Nat → Int32} {J : Nat → Int32} {B : Nat → Nat → Int32} {w : Int64} {n : Nat → Nat}
theorem zNs_sgn {s : Nat} (hn : zNs I A B n) (hs : s ≤ 3) {r : Int32} (h : r = -nI 1 ∨ ∃ j, j < n s ∧ r = nI j) : (0 ≤ r ∧ ¬ r < 0) ∨ (¬ 0 ≤ r ∧ r < 0) := by
  have := (hn s hs).2.2.1
  have := @zNs_le s
  rcases h with rfl | ⟨j, hj, rfl⟩
  · exact Or.inr (by decide)
  · exact Or.inl ⟨nI_pos' (by omega), nI_pos (by omega)⟩
theorem zy_decl (hn : zNs I A B n) (v : Int32) : ∃ r, f_X3_isDeclared_t31 I A v = some r ∧ (r ≠ 0 ↔ zFnd B v) := by
  obtain ⟨r0, a0, b0, c0⟩ := zNs_find hn (s := 0) (N := 4) (by omega) rfl v
  obtain ⟨r1, a1, b1, c1⟩ := zNs_find hn (s := 1) (N := 6) (by omega) rfl v
  obtain ⟨r2, a2, b2, c2⟩ := zNs_find hn (s := 2) (N := 6) (by omega) rfl v
  obtain ⟨r3, a3, b3, c3⟩ := zNs_find hn (s := 3) (N := 4) (by omega) rfl v
  have a0 : f_X3_find 4 (A 22) (I 16) v = some r0 := a0
  have a1 : f_X3_find 6 (A 23) (I 17) v = some r1 := a1
  have a2 : f_X3_find 6 (A 24) (I 18) v = some r2 := a2
  have a3 : f_X3_find 4 (A 25) (I 19) v = some r3 := a3
  unfold f_X3_isDeclared_t31 f_X3_isDeclared_t31_j60
  rw [a0, zb_bd]
  by_cases z0 : 0 ≤ r0
  · rw [if_pos z0]
    exact ⟨1, rfl, fun _ => ⟨0, by omega, r0, b0, z0⟩, fun _ => by decide⟩
  rw [if_neg z0, a1, zb_bd]
  by_cases z1 : 0 ≤ r1
  · rw [if_pos z1]
    exact ⟨1, rfl, fun _ => ⟨1, by omega, r1, b1, z1⟩, fun _ => by decide⟩
  rw [if_neg z1, a2, zb_bd]
  by_cases z2 : 0 ≤ r2
  · rw [if_pos z2]
    exact ⟨1, rfl, fun _ => ⟨2, by omega, r2, b2, z2⟩, fun _ => by decide⟩
  rw [if_neg z2, a3, zb_bd]
  rcases zNs_sgn hn (s := 3) (by omega) c3 with ⟨z3, z4⟩ | ⟨z3, z4⟩
  · rw [if_neg z4]
    exact ⟨1, rfl, fun _ => ⟨3, by omega, r3, b3, z3⟩, fun _ => by decide⟩
  · rw [if_pos z4]
    refine ⟨0, rfl, fun q => absurd rfl q, ?_⟩
    rintro ⟨s, hs, r, q1, q2⟩
    exfalso
    rcases (show s = 0 ∨ s = 1 ∨ s = 2 ∨ s = 3 by omega) with rfl | rfl | rfl | rfl
    · rw [b0] at q1
      exact z0 (Option.some.inj q1 ▸ q2)
    · rw [b1] at q1
      exact z1 (Option.some.inj q1 ▸ q2)
    · rw [b2] at q1
      exact z2 (Option.some.inj q1 ▸ q2)
    · rw [b3] at q1
      exact z3 (Option.some.inj q1 ▸ q2)
theorem zy_l18s {v : Int32} {s : Nat} {r : Int32} (e : f_X8_indexOf 62 (B 4) (nI s) v = some r) (hs : s ≤ 3) (fu : Nat) (J : Nat → Int32) : f_X8_readNewName_l18 B w v (fu + 1) J (nI s) = f_X8_readNewName_l18 B w v fu (if 0 ≤ r then zCk J else J) (nI (s + 1)) := by
  rw [f_X8_readNewName_l18, if_neg (show ¬ (3 : Int32) < nI s from nI_nlt (a := 3) (by omega) (by omega)), e, zb_bd]
  unfold f_X8_readNewName_j41
  by_cases z : 0 ≤ r
  · rw [if_pos z, if_pos z, zl_0, zCk_chk, zb_bd, nI_1, zb_let]
  · rw [if_neg z, if_neg z, zl_1, zy_chk1, zb_bd, show nI s + nI 1 = nI (s + 1) from nI_add s 1, zb_let]
theorem zy_l18 (hn : zNs I A B n) (v : Int32) (J : Nat → Int32) : ∃ J4, f_X8_readNewName_l18 B w v 100000 J (0 : Int32) = (qf_bd2 (f_X8_advanceIfGood B J4 w) fun I3 w4 => some (v, I3, w4)) ∧ (zFnd B v → J4 = zCk J) ∧ (¬ zFnd B v → J4 = J) := by
  obtain ⟨r0, a0, b0, c0⟩ := zNs_find hn (s := 0) (N := 4) (by omega) rfl v
  obtain ⟨r1, a1, b1, c1⟩ := zNs_find hn (s := 1) (N := 6) (by omega) rfl v
  obtain ⟨r2, a2, b2, c2⟩ := zNs_find hn (s := 2) (N := 6) (by omega) rfl v
  obtain ⟨r3, a3, b3, c3⟩ := zNs_find hn (s := 3) (N := 4) (by omega) rfl v
  have fix : ∀ r : Int32, (if 0 ≤ r then zCk (zCk J) else zCk J) = zCk J := fun r => by rw [zCk_id, ite_self]
  refine ⟨(if 0 ≤ r0 then zCk J else if 0 ≤ r1 then zCk J else if 0 ≤ r2 then zCk J else if 0 ≤ r3 then zCk J else J), ?_, ?_, ?_⟩
  · have e0 : f_X8_readNewName_l18 B w v 100000 J (0 : Int32) = f_X8_readNewName_l18 B w v 100000 J (nI 0) := by rw [zl_0]
    rw [e0, zy_l18s b0 (by omega), zy_l18s b1 (by omega), zy_l18s b2 (by omega), zy_l18s b3 (by omega)]
    have e : ∀ J5, f_X8_readNewName_l18 B w v 99996 J5 (nI 4) = (qf_bd2 (f_X8_advanceIfGood B J5 w) fun I3 w4 => some (v, I3, w4)) := fun J5 => by
      rw [f_X8_readNewName_l18, if_pos (show (3 : Int32) < nI 4 by decide)]
    rw [e]
    by_cases z0 : 0 ≤ r0
    · rw [if_pos z0, fix, fix, fix, if_pos z0]
    rw [if_neg z0, if_neg z0]
    by_cases z1 : 0 ≤ r1
    · rw [if_pos z1, fix, fix, if_pos z1]
    rw [if_neg z1, if_neg z1]
    by_cases z2 : 0 ≤ r2
    · rw [if_pos z2, fix, if_pos z2]
    rw [if_neg z2, if_neg z2]
  · rintro ⟨s, hs, r, q1, q2⟩
    by_cases z0 : 0 ≤ r0
    · rw [if_pos z0]
    rw [if_neg z0]
    by_cases z1 : 0 ≤ r1
    · rw [if_pos z1]
    rw [if_neg z1]
    by_cases z2 : 0 ≤ r2
    · rw [if_pos z2]
    rw [if_neg z2]
    by_cases z3 : 0 ≤ r3
    · rw [if_pos z3]
    exfalso
    rcases (show s = 0 ∨ s = 1 ∨ s = 2 ∨ s = 3 by omega) with rfl | rfl | rfl | rfl
    · rw [b0] at q1
      exact z0 (Option.some.inj q1 ▸ q2)
    · rw [b1] at q1
      exact z1 (Option.some.inj q1 ▸ q2)
    · rw [b2] at q1
      exact z2 (Option.some.inj q1 ▸ q2)
    · rw [b3] at q1
      exact z3 (Option.some.inj q1 ▸ q2)
  · intro q
    rw [if_neg (fun z => q ⟨0, by omega, r0, b0, z⟩), if_neg (fun z => q ⟨1, by omega, r1, b1, z⟩), if_neg (fun z => q ⟨2, by omega, r2, b2, z⟩), if_neg (fun z => q ⟨3, by omega, r3, b3, z⟩)]
theorem zy_j41n (h : zTR τ len s e k I A J B w) (v : Int32) : ∃ s' e' k' I' J' w', f_X2_readNewName_j41 A 1 I v = some ((if I 3 = 0 then v else 0), I') ∧ f_X8_advanceIfGood B J w = some (J', w') ∧ zTR τ len s' e' k' I' A J' B w' ∧ zFI I I' ∧ zFJ J J' ∧ I' 3 = I 3 ∧ (I 3 = 0 → e ≤ s') := by
  obtain ⟨s', e', k', I', J', w', a1, a2, a3⟩ := zy_aig h
  refine ⟨s', e', k', I', J', w', ?_, a2, a3⟩
  unfold f_X2_readNewName_j41
  by_cases z : I 3 = 0
  · rw [if_pos z] at a1
    rw [if_pos z, if_pos z, a1]
    rfl
  · rw [if_neg z] at a1
    rw [if_neg z, if_neg z]
    exact congrArg (fun x => x.map fun y => ((0 : Int32), y)) a1
theorem zy_new (h : zTR τ len s e k I A J B w) (hn : zNs I A B n) : ∃ s' e' k' I' J' w' v v', f_X2_readNewName A 1 I = some (v, I') ∧ f_X8_readNewName B J w = some (v', J', w') ∧ zTR τ len s' e' k' I' A J' B w' ∧ zFI I I' ∧ zFJ J J' ∧ (I' 3 = 0 → I 3 = 0 ∧ v' = v ∧ e ≤ s') := by
  obtain ⟨I1, J1, v, v', a1, a2, a3, a4, a5, a6, a7, a8⟩ := zy_name h
  have hn1 := hn.fI a4
  obtain ⟨J4, d1, d2, d3⟩ := zy_l18 (w := w) hn1 v' J1
  have cl : f_X2_readNewName A 1 I = f_X2_readNewName_j16 A 1 I1 := a1 _ (fun I2 => f_X2_readNewName_j16 A 1 I2)
  rw [cl]
  unfold f_X2_readNewName_j16
  rw [a2, zb_bd]
  by_cases z : I1 3 = 0
  · obtain ⟨c1, c2, c3, c4⟩ := a8 z
    have mo : f_X8_readNewName B J w = (qf_bd2 (f_X8_advanceIfGood B J4 w) fun I3 w4 => some (v', I3, w4)) := by
      unfold f_X8_readNewName f_X8_readNewName_j15
      rw [if_pos (show J 8 = 0 from h.2.2.2.2.1.1 ▸ c1), a6 c1, zb_bd2, d1]
    rw [mo]
    rw [c2] at d2 d3
    by_cases y : zFnd B v
    · obtain ⟨I2, J2, f1, f2, f3, f4, f5, f6⟩ := zy_fail a3 (-14 : Int32) (by decide)
      rw [zCk_chk] at f2
      have e4 : J4 = J2 := (d2 y).trans (Option.some.inj f2)
      obtain ⟨s', e', k', I', J', w', b1, b2, b3, b4, b5, b6, b7⟩ := zy_j41n f3 v
      rw [if_neg f6] at b1
      refine ⟨s', e', k', I', J', w', 0, v', ?_, by rw [e4, b2, zb_bd2], b3, (a4.tr f4).tr b4, (a5.tr f5).tr b5, fun q => absurd (b6 ▸ q) f6⟩
      rw [zc_yes (zy_decl hn1 v) y, f1, zb_bd, b1]
    · obtain ⟨s', e', k', I', J', w', b1, b2, b3, b4, b5, b6, b7⟩ := zy_j41n a3 v
      rw [if_pos z] at b1
      refine ⟨s', e', k', I', J', w', v, v', ?_, by rw [d3 y, b2, zb_bd2], b3, a4.tr b4, a5.tr b5, fun q => ⟨c1, c2, b7 z⟩⟩
      rw [zc_no (zy_decl hn1 v) y, b1]
  · have g8 : J1 8 = I1 3 := a3.2.2.2.2.1.1.symm
    have ez : zCk J1 = J1 := if_neg (by rw [g8]; exact z)
    obtain ⟨s', e', k', I', J', w', b1, b2, b3, b4, b5, b6, b7⟩ := zy_j41n a3 v
    rw [if_neg z] at b1
    have fl : f_X2_fail I1 (-14 : Int32) = some I1 := by
      unfold f_X2_fail
      rw [if_neg z]
    have clE : (qf_bd (f_X3_isDeclared_t31 I1 A v) fun r4 => if r4 = 0 then f_X2_readNewName_j41 A 1 I1 v else qf_bd (f_X2_fail I1 (-14 : Int32)) fun I5 => f_X2_readNewName_j41 A 1 I5 v) = some (0, I') := by
      obtain ⟨r, q1, q2⟩ := zy_decl hn1 v
      rw [q1, zb_bd, fl, zb_bd, b1, ite_self]
    have m4 : ∀ u, ∃ x, f_X8_readNewName_l18 B w u 100000 J1 (0 : Int32) = some (x, J', w') := fun u => by
      obtain ⟨J5, p1, p2, p3⟩ := zy_l18 (w := w) hn1 u J1
      have e5 : J5 = J1 := by
        by_cases y : zFnd B u
        · rw [p2 y, ez]
        · exact p3 y
      exact ⟨u, by rw [p1, e5, b2, zb_bd2]⟩
    by_cases y : I 3 = 0
    · obtain ⟨x, hx⟩ := m4 v'
      refine ⟨s', e', k', I', J', w', 0, x, clE, ?_, b3, a4.tr b4, a5.tr b5, fun q => absurd (b6 ▸ q) z⟩
      unfold f_X8_readNewName f_X8_readNewName_j15
      rw [if_pos (show J 8 = 0 from h.2.2.2.2.1.1 ▸ y), a6 y, zb_bd2, hx]
    · obtain ⟨x, hx⟩ := m4 0
      obtain ⟨c1, -⟩ := a7 y
      refine ⟨s', e', k', I', J', w', 0, x, clE, ?_, b3, a4.tr b4, a5.tr b5, fun q => absurd (b6 ▸ q) z⟩
      unfold f_X8_readNewName f_X8_readNewName_j15
      rw [if_neg (show ¬ J 8 = 0 from h.2.2.2.2.1.1 ▸ y), ← c1, hx]
theorem zy_old0 (h : zTR τ len s e k I A J B w) (hn : zOne I A B n 0) : ∃ I' J' v v', f_X2_seeName_r32 A 1 I (I 16) = some (v, I') ∧ f_X8_readOldName B w J (0 : Int32) = some (v', J') ∧ zTR τ len s e k I' A J' B w ∧ zFI I I' ∧ zFJ J J' ∧ ((∃ j, v = nI j ∧ j < 4) ∧ (v' < 0 ∨ ∃ j, v' = nI j ∧ j < 4)) ∧ (I' 3 = 0 → I 3 = 0 ∧ v' = v ∧ s < e ∧ ∃ j, j < n 0 ∧ v = nI j) := by
  obtain ⟨I1, J1, v, v', a1, a2, a3, a4, a5, a6, a7, a8⟩ := zy_name h
  have hn1 : zOne I1 A B n 0 := ⟨by rw [a4 _ (by omega)]; exact hn.1, hn.2⟩
  have eC : I1 16 = I 16 := a4 _ (by omega)
  obtain ⟨r, b1, b2, b3⟩ := zOne_find (N := 4) hn1 (by omega) rfl v
  obtain ⟨r', -, d2, d3⟩ := zOne_find (N := 4) hn1 (by omega) rfl v'
  have b1 : f_X3_find 4 (A 22) (I1 16) v = some r := b1
  have b2 : f_X8_indexOf 62 (B 4) (0 : Int32) v = some r := by rw [zl_0]; exact b2
  have d2 : f_X8_indexOf 62 (B 4) (0 : Int32) v' = some r' := by rw [zl_0]; exact d2
  have hb : n 0 ≤ 4 := hn.2.2.1
  have g8 : J1 8 = I1 3 := a3.2.2.2.2.1.1.symm
  unfold f_X2_seeName_r32
  have cl : (qf_bd (f_X6_isName I A 1) fun r1 => if r1 = 0 then (qf_bd (f_X2_fail I (-11 : Int32)) fun I2 => f_X2_seeName_r32_j16 A 1 I2 (I 16)) else f_X2_seeName_r32_j16 A 1 I (I 16)) = f_X2_seeName_r32_j16 A 1 I1 (I 16) := a1 _ (fun I2 => f_X2_seeName_r32_j16 A 1 I2 (I 16))
  rw [cl]
  unfold f_X2_seeName_r32_j16
  rw [a2, zb_bd, ← eC, b1, zb_bd]
  unfold f_X8_readOldName f_X8_readOldName_j23 f_X8_readOldName_j34
  by_cases z : I1 3 = 0
  · obtain ⟨c1, c2, c3, c4⟩ := a8 z
    rw [if_pos (show J 8 = 0 from h.2.2.2.2.1.1 ▸ c1), a6 c1, zb_bd2, c2, b2, zb_bd]
    rcases b3 with rfl | ⟨j, hj, rfl⟩
    · obtain ⟨I2, J2, f1, f2, f3, f4, f5, f6⟩ := zy_fail a3 (-13 : Int32) (by decide)
      refine ⟨I2, J2, 0, -nI 1, ?_, ?_, f3, a4.tr f4, a5.tr f5, ⟨⟨0, rfl, by omega⟩, Or.inl (by decide)⟩, fun q => absurd q f6⟩
      · rw [if_neg (show ¬ 0 ≤ -nI 1 by decide), f1, zb_bd]
        unfold f_X2_seeName_r32_j39
        rw [if_neg f6]
      · have f2 : f_X8_check J1 (0 : Int32) (-13 : Int32) = some J2 := by rw [zl_0]; exact f2
        rw [if_pos (show -nI 1 < 0 by decide), f2, zb_bd]
    · refine ⟨I1, J1, nI j, nI j, ?_, ?_, a3, a4, a5, ⟨⟨j, rfl, by omega⟩, Or.inr ⟨j, rfl, by omega⟩⟩, fun q => ⟨c1, rfl, c4, j, hj, rfl⟩⟩
      · rw [if_pos (show (0 : Int32) ≤ nI j from nI_pos' (by omega))]
        unfold f_X2_seeName_r32_j39
        rw [if_pos z]
      · rw [if_neg (show ¬ nI j < 0 from nI_pos (by omega)), zl_1, zy_chk1, zb_bd]
  · have ck : ∀ x, f_X8_check J1 x (-13 : Int32) = some J1 := fun x => by
      unfold f_X8_check
      rw [if_neg (show ¬ J1 8 = 0 by rw [g8]; exact z), ite_self]
    have fl : f_X2_fail I1 (-13 : Int32) = some I1 := by
      unfold f_X2_fail
      rw [if_neg z]
    have cls : ∀ y, f_X2_seeName_r32_j39 A 1 I1 y = some ((0 : Int32), I1) := fun y => by
      unfold f_X2_seeName_r32_j39
      rw [if_neg z]
    by_cases y : I 3 = 0
    · refine ⟨I1, J1, 0, r', ?_, ?_, a3, a4, a5, ⟨⟨0, rfl, by omega⟩, d3.imp (fun q => by rw [q]; decide) (fun ⟨j, a, b⟩ => ⟨j, b, by omega⟩)⟩, fun q => absurd q z⟩
      · rw [fl, zb_bd, cls, ite_self]
      · rw [if_pos (show J 8 = 0 from h.2.2.2.2.1.1 ▸ y), a6 y, zb_bd2, d2, zb_bd, ck, zb_bd, ck, zb_bd, ite_self]
    · obtain ⟨c1, -⟩ := a7 y
      refine ⟨I1, J1, 0, (-1 : Int32), ?_, ?_, a3, a4, a5, ⟨⟨0, rfl, by omega⟩, Or.inl (by decide)⟩, fun q => absurd q z⟩
      · rw [fl, zb_bd, cls, ite_self]
      · rw [if_neg (show ¬ J 8 = 0 from h.2.2.2.2.1.1 ▸ y), ← c1, ck, zb_bd, ck, zb_bd, ite_self]
theorem zy_old1 (h : zTR τ len s e k I A J B w) (hn : zOne I A B n 1) : ∃ I' J' v v', f_X2_seeName_r33 A 1 I (I 17) = some (v, I') ∧ f_X8_readOldName B w J (1 : Int32) = some (v', J') ∧ zTR τ len s e k I' A J' B w ∧ zFI I I' ∧ zFJ J J' ∧ ((∃ j, v = nI j ∧ j < 6) ∧ (v' < 0 ∨ ∃ j, v' = nI j ∧ j < 6)) ∧ (I' 3 = 0 → I 3 = 0 ∧ v' = v ∧ s < e ∧ ∃ j, j < n 1 ∧ v = nI j) := by
  obtain ⟨I1, J1, v, v', a1, a2, a3, a4, a5, a6, a7, a8⟩ := zy_name h
  have hn1 : zOne I1 A B n 1 := ⟨by rw [a4 _ (by omega)]; exact hn.1, hn.2⟩
  have eC : I1 17 = I 17 := a4 _ (by omega)
  obtain ⟨r, b1, b2, b3⟩ := zOne_find (N := 6) hn1 (by omega) rfl v
  obtain ⟨r', -, d2, d3⟩ := zOne_find (N := 6) hn1 (by omega) rfl v'
  have b1 : f_X3_find 6 (A 23) (I1 17) v = some r := b1
  have b2 : f_X8_indexOf 62 (B 4) (1 : Int32) v = some r := by rw [zl_1]; exact b2
  have d2 : f_X8_indexOf 62 (B 4) (1 : Int32) v' = some r' := by rw [zl_1]; exact d2
  have hb : n 1 ≤ 6 := hn.2.2.1
  have g8 : J1 8 = I1 3 := a3.2.2.2.2.1.1.symm
  unfold f_X2_seeName_r33
  have cl : (qf_bd (f_X6_isName I A 1) fun r1 => if r1 = 0 then (qf_bd (f_X2_fail I (-11 : Int32)) fun I2 => f_X2_seeName_r33_j16 A 1 I2 (I 17)) else f_X2_seeName_r33_j16 A 1 I (I 17)) = f_X2_seeName_r33_j16 A 1 I1 (I 17) := a1 _ (fun I2 => f_X2_seeName_r33_j16 A 1 I2 (I 17))
  rw [cl]
  unfold f_X2_seeName_r33_j16
  rw [a2, zb_bd, ← eC, b1, zb_bd]
  unfold f_X8_readOldName f_X8_readOldName_j23 f_X8_readOldName_j34
  by_cases z : I1 3 = 0
  · obtain ⟨c1, c2, c3, c4⟩ := a8 z
    rw [if_pos (show J 8 = 0 from h.2.2.2.2.1.1 ▸ c1), a6 c1, zb_bd2, c2, b2, zb_bd]
    rcases b3 with rfl | ⟨j, hj, rfl⟩
    · obtain ⟨I2, J2, f1, f2, f3, f4, f5, f6⟩ := zy_fail a3 (-13 : Int32) (by decide)
      refine ⟨I2, J2, 0, -nI 1, ?_, ?_, f3, a4.tr f4, a5.tr f5, ⟨⟨0, rfl, by omega⟩, Or.inl (by decide)⟩, fun q => absurd q f6⟩
      · rw [if_neg (show ¬ 0 ≤ -nI 1 by decide), f1, zb_bd]
        unfold f_X2_seeName_r33_j39
        rw [if_neg f6]
      · have f2 : f_X8_check J1 (0 : Int32) (-13 : Int32) = some J2 := by rw [zl_0]; exact f2
        rw [if_pos (show -nI 1 < 0 by decide), f2, zb_bd]
    · refine ⟨I1, J1, nI j, nI j, ?_, ?_, a3, a4, a5, ⟨⟨j, rfl, by omega⟩, Or.inr ⟨j, rfl, by omega⟩⟩, fun q => ⟨c1, rfl, c4, j, hj, rfl⟩⟩
      · rw [if_pos (show (0 : Int32) ≤ nI j from nI_pos' (by omega))]
        unfold f_X2_seeName_r33_j39
        rw [if_pos z]
      · rw [if_neg (show ¬ nI j < 0 from nI_pos (by omega)), zl_1, zy_chk1, zb_bd]
  · have ck : ∀ x, f_X8_check J1 x (-13 : Int32) = some J1 := fun x => by
      unfold f_X8_check
      rw [if_neg (show ¬ J1 8 = 0 by rw [g8]; exact z), ite_self]
    have fl : f_X2_fail I1 (-13 : Int32) = some I1 := by
      unfold f_X2_fail
      rw [if_neg z]
    have cls : ∀ y, f_X2_seeName_r33_j39 A 1 I1 y = some ((0 : Int32), I1) := fun y => by
      unfold f_X2_seeName_r33_j39
      rw [if_neg z]
    by_cases y : I 3 = 0
    · refine ⟨I1, J1, 0, r', ?_, ?_, a3, a4, a5, ⟨⟨0, rfl, by omega⟩, d3.imp (fun q => by rw [q]; decide) (fun ⟨j, a, b⟩ => ⟨j, b, by omega⟩)⟩, fun q => absurd q z⟩
      · rw [fl, zb_bd, cls, ite_self]
      · rw [if_pos (show J 8 = 0 from h.2.2.2.2.1.1 ▸ y), a6 y, zb_bd2, d2, zb_bd, ck, zb_bd, ck, zb_bd, ite_self]
    · obtain ⟨c1, -⟩ := a7 y
      refine ⟨I1, J1, 0, (-1 : Int32), ?_, ?_, a3, a4, a5, ⟨⟨0, rfl, by omega⟩, Or.inl (by decide)⟩, fun q => absurd q z⟩
      · rw [fl, zb_bd, cls, ite_self]
      · rw [if_neg (show ¬ J 8 = 0 from h.2.2.2.2.1.1 ▸ y), ← c1, ck, zb_bd, ck, zb_bd, ite_self]
end ZNEW2
