/-! the start -/
theorem zI_start : zI qc_I qc_A qc_G 5 qc_mI qc_mA 0 := by
  have e0 : qc_mA 0 = qc_reset := rfl
  have e3 : qc_mA 3 = qc_clear := rfl
  obtain ⟨f, y1, y2, y3, -⟩ := zx_rst 250 0 100000 (fun _ => (0 : Int32)) (by omega) (by omega)
  have y1 : f_X8_reset 250 (fun _ => 0) = some f := y1
  obtain ⟨g, z1, z2, z3, -⟩ := zx_clr 62 0 100000 (fun _ => (0 : Int32)) (by omega) (by omega)
  have z1 : f_X8_clear 62 (fun _ => 0) = some g := z1
  have ef : qc_reset = f := Option.some.inj (qc_reset_eq.symm.trans y1)
  have eg : qc_clear = g := Option.some.inj (qc_clear_eq.symm.trans z1)
  obtain ⟨B1, hB1⟩ : ∃ B1 : Nat → Nat → Int32, B1 = fun b => if b = 1 then f else if b = 4 then g else fun _ => 0 := ⟨_, rfl⟩
  have b1 : B1 1 = f := by rw [hB1]; rfl
  have b4 : B1 4 = g := by rw [hB1]; rfl
  have hz : ∀ a i, a < 14 → i < zlen a → qc_A (47 + a) i = zZero a i := fun a i ha hi => by
    by_cases z : a = 2
    · subst z
      have hi : i < 3 := hi
      rcases (show i = 0 ∨ i = 1 ∨ i = 2 by omega) with rfl | rfl | rfl <;> decide
    · have : qc_A (47 + a) = fun _ => 0 := by
        show (if 47 + a = 35 then qc_set else if 47 + a = 49 then qc_set else fun _ => 0) = _
        rw [if_neg (by omega), if_neg (by omega)]
      rw [this]
      unfold zZero
      rw [if_neg z]
      rfl
  have hD : zD qc_I qc_A B1 (fun _ => 0) := zD_0 (fun i hi => by
    show (if 16 + i = 1 then (-1 : Int32) else if 16 + i = 4 then -1 else 0) = _
    rw [if_neg (by omega), if_neg (by omega)]
    rfl) rfl hz (by rw [b1]; exact y2) (fun j a1 a2 => by rw [b1]; exact y3 j a1 (by omega) a2) (fun j a1 => by rw [b4]; exact z2 j a1) (fun j a1 a2 => by rw [b4]; exact z3 j (by omega) a1 a2)
  obtain ⟨hP, hV, hR, h21, hE, -⟩ := hD
  rw [b4] at hP hV
  rw [b1] at hR h21 hE
  refine ⟨⟨0, 0, 0, 0, 0, 0, ?_, ?_, ?_, ?_, ?_, ⟨by omega, by omega, fun k hk => absurd hk (Nat.not_lt_zero _)⟩, rfl, rfl, rfl⟩, 0, by omega, rfl, rfl, fun i hi => absurd hi (Nat.not_lt_zero _), rfl⟩
  · rw [e3, eg]
    exact ⟨hP.1, hP.2.1, ⟨rfl, rfl, rfl, rfl⟩, fun g hg => absurd hg (Nat.not_lt_zero _), fun g hg => absurd hg (Nat.not_lt_zero _), fun g hg => absurd hg (Nat.not_lt_zero _), fun g hg => absurd hg (Nat.not_lt_zero _)⟩
  · rw [e3, eg]
    exact hV
  · rw [e0, ef]
    intro a i ha hi
    have h := hR a i ha hi
    rw [← h]
    show qc_A (33 + a) i = qc_A (47 + a) i
    by_cases z : a = 2
    · subst z
      rfl
    · show (if 33 + a = 35 then qc_set else if 33 + a = 49 then qc_set else fun _ => 0) i = (if 47 + a = 35 then qc_set else if 47 + a = 49 then qc_set else fun _ => 0) i
      rw [if_neg (by omega), if_neg (by omega), if_neg (by omega), if_neg (by omega)]
  · rw [e0, ef]
    exact h21
  · rw [e0, e3, ef, eg]
    exact zLE.zO (by omega) hE
