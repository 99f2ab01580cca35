/-! the best basket: numbers alone -/
/-- x is the most that up to st units of a good give together with f of the rest -/
def zKx (f : Nat → Nat) (r v st c x : Nat) : Prop := (∃ n, n ≤ st ∧ n * r ≤ c ∧ x = n * v + f (c - n * r)) ∧ ∀ n, n ≤ st → n * r ≤ c → n * v + f (c - n * r) ≤ x
theorem zKx_uniq {f : Nat → Nat} {r v st c x y : Nat} (h : zKx f r v st c x) (h2 : zKx f r v st c y) : x = y := by
  obtain ⟨⟨n, n1, n2, n3⟩, a⟩ := h
  obtain ⟨⟨m, m1, m2, m3⟩, b⟩ := h2
  have h1 := b n n1 n2
  have h2 := a m m1 m2
  omega
def zM2 (f : Nat → Nat) (r v c : Nat) : Nat → Nat
  | 0 => f c
  | S + 1 => if (S + 1) * r ≤ c ∧ zM2 f r v c S < (S + 1) * v + f (c - (S + 1) * r) then (S + 1) * v + f (c - (S + 1) * r) else zM2 f r v c S
theorem zM2_spec (f : Nat → Nat) (r v c : Nat) : ∀ S, zKx f r v S c (zM2 f r v c S) := by
  intro S
  induction S with
  | zero =>
    refine ⟨⟨0, Nat.le_refl _, by omega, ?_⟩, fun n h1 h2 => ?_⟩
    · show f c = 0 * v + f (c - 0 * r)
      rw [Nat.zero_mul, Nat.zero_mul, Nat.zero_add, Nat.sub_zero]
    · have : n = 0 := by omega
      subst this
      show 0 * v + f (c - 0 * r) ≤ f c
      rw [Nat.zero_mul, Nat.zero_mul, Nat.zero_add, Nat.sub_zero]
      exact Nat.le_refl _
  | succ S ih =>
    obtain ⟨⟨n, n1, n2, n3⟩, a⟩ := ih
    unfold zM2
    by_cases h : (S + 1) * r ≤ c ∧ zM2 f r v c S < (S + 1) * v + f (c - (S + 1) * r)
    · rw [if_pos h]
      refine ⟨⟨S + 1, Nat.le_refl _, h.1, rfl⟩, fun m m1 m2 => ?_⟩
      by_cases c1 : m = S + 1
      · rw [c1]; exact Nat.le_refl _
      · have := a m (by omega) m2
        omega
    · rw [if_neg h]
      refine ⟨⟨n, by omega, n2, n3⟩, fun m m1 m2 => ?_⟩
      by_cases c1 : m = S + 1
      · subst c1
        by_cases c2 : zM2 f r v c S < (S + 1) * v + f (c - (S + 1) * r)
        · exact absurd ⟨m2, c2⟩ h
        · omega
      · exact a m (by omega) m2
/-- one lot more -/
theorem zKx_lot {f : Nat → Nat} {r v S q c x y : Nat} (h : zKx f r v S c x) (h2 : q * r ≤ c → zKx f r v S (c - q * r) y) (hq : 1 ≤ q) (hq2 : q ≤ S + 1) : zKx f r v (S + q) c (if q * r ≤ c then (if x < y + q * v then y + q * v else x) else x) := by
  obtain ⟨⟨n, n1, n2, n3⟩, a⟩ := h
  by_cases hc : q * r ≤ c
  · rw [if_pos hc]
    obtain ⟨⟨m, m1, m2, m3⟩, b⟩ := h2 hc
    have ub : ∀ k, k ≤ S + q → k * r ≤ c → k * v + f (c - k * r) ≤ x ∨ k * v + f (c - k * r) ≤ y + q * v := by
      intro k k1 k2
      by_cases hk : k ≤ S
      · exact Or.inl (a k hk k2)
      · right
        have e1 : k * r = (k - q) * r + q * r := by rw [← Nat.add_mul]; congr 1; omega
        have e2 : k * v = (k - q) * v + q * v := by rw [← Nat.add_mul]; congr 1; omega
        have := b (k - q) (by omega) (by omega)
        rw [show c - q * r - (k - q) * r = c - k * r by omega] at this
        omega
    by_cases hx : x < y + q * v
    · rw [if_pos hx]
      refine ⟨⟨m + q, by omega, by rw [Nat.add_mul]; omega, ?_⟩, fun k k1 k2 => ?_⟩
      · rw [m3, Nat.add_mul, Nat.add_mul, show c - q * r - m * r = c - (m * r + q * r) by omega]
        omega
      · rcases ub k k1 k2 with h | h <;> omega
    · rw [if_neg hx]
      refine ⟨⟨n, by omega, n2, n3⟩, fun k k1 k2 => ?_⟩
      rcases ub k k1 k2 with h | h <;> omega
  · rw [if_neg hc]
    refine ⟨⟨n, by omega, n2, n3⟩, fun k k1 k2 => ?_⟩
    by_cases hk : k ≤ S
    · exact a k hk k2
    · have : q * r ≤ k * r := Nat.mul_le_mul_right r (by omega)
      omega
theorem zKx_most {f : Nat → Nat} {r v st st2 c x : Nat} (h : zKx f r v st c x) (h2 : ∀ n, n * r ≤ c → (n ≤ st ↔ n ≤ st2)) : zKx f r v st2 c x := by
  obtain ⟨⟨n, n1, n2, n3⟩, a⟩ := h
  exact ⟨⟨n, (h2 n n2).mp n1, n2, n3⟩, fun m m1 m2 => a m ((h2 m m2).mpr m1) m2⟩
/-- the goods of a group, from the last one; gd k: rate, value, stock -/
def zVd (gd : Nat → Option (Nat × Nat × Nat)) : Nat → Nat → Nat
  | 0, _ => 0
  | d + 1, c => match gd (5 - d) with
    | none => zVd gd d c
    | some (r, v, st) => zM2 (zVd gd d) r v c st
def zGd (gd : Nat → Option (Nat × Nat × Nat)) : Prop := ∀ k r v st, gd k = some (r, v, st) → 1 ≤ r ∧ r ≤ 20 ∧ v ≤ 99 ∧ st ≤ 99999
theorem zVd_some {gd : Nat → Option (Nat × Nat × Nat)} {d r v st : Nat} (h : gd (5 - d) = some (r, v, st)) (c : Nat) : zKx (zVd gd d) r v st c (zVd gd (d + 1) c) := by
  have e : zVd gd (d + 1) c = zM2 (zVd gd d) r v c st := by
    show (match gd (5 - d) with | none => zVd gd d c | some (r, v, st) => zM2 (zVd gd d) r v c st) = _
    rw [h]
  rw [e]
  exact zM2_spec _ _ _ _ _
theorem zVd_none {gd : Nat → Option (Nat × Nat × Nat)} {d : Nat} (h : gd (5 - d) = none) (c : Nat) : zVd gd (d + 1) c = zVd gd d c := by
  show (match gd (5 - d) with | none => zVd gd d c | some (r, v, st) => zM2 (zVd gd d) r v c st) = _
  rw [h]
theorem zVd_mono {gd : Nat → Option (Nat × Nat × Nat)} (hg : zGd gd) : ∀ d c c', c ≤ c' → zVd gd d c ≤ zVd gd d c' := by
  intro d
  induction d with
  | zero => intro c c' _; exact Nat.le_refl _
  | succ d ih =>
    intro c c' h
    cases hgd : gd (5 - d) with
    | none =>
      rw [zVd_none hgd, zVd_none hgd]
      exact ih c c' h
    | some p =>
      obtain ⟨r, v, st⟩ := p
      obtain ⟨⟨n, n1, n2, n3⟩, _⟩ := zVd_some hgd c
      have hb := (zVd_some hgd c').2 n n1 (by omega)
      have := ih (c - n * r) (c' - n * r) (by omega)
      rw [n3]
      omega
theorem zVd_le {gd : Nat → Option (Nat × Nat × Nat)} (hg : zGd gd) : ∀ d c, zVd gd d c ≤ 99 * c := by
  intro d
  induction d with
  | zero => intro c; exact Nat.zero_le _
  | succ d ih =>
    intro c
    cases hgd : gd (5 - d) with
    | none => rw [zVd_none hgd]; exact ih c
    | some p =>
      obtain ⟨r, v, st⟩ := p
      obtain ⟨r1, r2, v1, _⟩ := hg _ r v st hgd
      obtain ⟨⟨n, n1, n2, n3⟩, _⟩ := zVd_some hgd c
      have h1 := ih (c - n * r)
      have h2 : n * v ≤ 99 * (n * r) := by
        have : n * v ≤ n * (99 * r) := Nat.mul_le_mul_left n (by omega)
        rw [Nat.mul_left_comm] at this
        exact this
      rw [n3]
      omega
/-- the least number from i on, at most d further, with p -/
def zLs (p : Nat → Bool) : Nat → Nat → Nat
  | 0, i => i
  | d + 1, i => if p i then i else zLs p d (i + 1)
theorem zLs_spec (p : Nat → Bool) : ∀ d i, p (i + d) = true → i ≤ zLs p d i ∧ zLs p d i ≤ i + d ∧ p (zLs p d i) = true ∧ ∀ j, i ≤ j → p j = true → zLs p d i ≤ j := by
  intro d
  induction d with
  | zero => intro i h; exact ⟨Nat.le_refl _, Nat.le_refl _, h, fun j h1 _ => h1⟩
  | succ d ih =>
    intro i h
    unfold zLs
    cases hp : p i with
    | true => rw [if_pos rfl]; exact ⟨Nat.le_refl _, by omega, hp, fun j h1 _ => h1⟩
    | false =>
      rw [if_neg (by decide)]
      obtain ⟨a1, a2, a3, a4⟩ := ih (i + 1) (by rw [show i + 1 + d = i + (d + 1) by omega]; exact h)
      refine ⟨by omega, by omega, a3, fun j j1 j2 => ?_⟩
      by_cases c : j = i
      · rw [c, hp] at j2; cases j2
      · exact a4 j (by omega) j2
/-- the least cost of the best value for c coupons -/
def zCd (gd : Nat → Option (Nat × Nat × Nat)) (d c : Nat) : Nat := zLs (fun x => zVd gd d x == zVd gd d c) c 0
theorem zCd_spec (gd : Nat → Option (Nat × Nat × Nat)) (d c : Nat) : zCd gd d c ≤ c ∧ zVd gd d (zCd gd d c) = zVd gd d c ∧ ∀ y, zVd gd d y = zVd gd d c → zCd gd d c ≤ y := by
  obtain ⟨_, a2, a3, a4⟩ := zLs_spec (fun x => zVd gd d x == zVd gd d c) c 0 (by rw [Nat.zero_add]; exact beq_self_eq_true _)
  exact ⟨by unfold zCd; omega, eq_of_beq a3, fun y hy => a4 y (by omega) (by show (zVd gd d y == zVd gd d c) = true; rw [hy]; exact beq_self_eq_true _)⟩
theorem zCd_none {gd : Nat → Option (Nat × Nat × Nat)} {d : Nat} (h : gd (5 - d) = none) (c : Nat) : zCd gd (d + 1) c = zCd gd d c := by
  have e : zVd gd (d + 1) = zVd gd d := funext fun c => zVd_none h c
  unfold zCd
  rw [e]
theorem zCd_0 (gd : Nat → Option (Nat × Nat × Nat)) (c : Nat) : zCd gd 0 c = 0 := by
  have := (zCd_spec gd 0 c).2.2 0 rfl
  omega
/-- the reference's number: a thousand times the value, less the cost -/
def zWd (gd : Nat → Option (Nat × Nat × Nat)) (d c : Nat) : Int := 1000 * (zVd gd d c : Int) - (zCd gd d c : Int)
def zTm (gd : Nat → Option (Nat × Nat × Nat)) (d r v c n : Nat) : Int := (n : Int) * (1000 * (v : Int) - (r : Int)) + zWd gd d (c - n * r)
theorem zTm_eq (gd : Nat → Option (Nat × Nat × Nat)) (d r v c n : Nat) : zTm gd d r v c n = 1000 * ((n * v + zVd gd d (c - n * r) : Nat) : Int) - ((n * r + zCd gd d (c - n * r) : Nat) : Int) := by
  unfold zTm zWd
  rw [Int.mul_sub, Int.mul_left_comm]
  push_cast
  omega
section ZDP
variable {gd : Nat → Option (Nat × Nat × Nat)} {d r v st c n : Nat}
/-- what a number of units costs at least -/
theorem zdp_cost (hg : zGd gd) (h : gd (5 - d) = some (r, v, st)) (h1 : n ≤ st) (h2 : n * r ≤ c) (he : n * v + zVd gd d (c - n * r) = zVd gd (d + 1) c) : zCd gd (d + 1) c ≤ n * r + zCd gd d (c - n * r) := by
  obtain ⟨q1, q2, q3⟩ := zCd_spec gd d (c - n * r)
  refine (zCd_spec gd (d + 1) c).2.2 _ ?_
  have ub := (zVd_some h (n * r + zCd gd d (c - n * r))).2 n h1 (by omega)
  rw [show n * r + zCd gd d (c - n * r) - n * r = zCd gd d (c - n * r) by omega, q2] at ub
  have lb := zVd_mono hg (d + 1) (n * r + zCd gd d (c - n * r)) c (by omega)
  omega
theorem zdp_le (hg : zGd gd) (h : gd (5 - d) = some (r, v, st)) (hc : c ≤ 400) (h1 : n ≤ st) (h2 : n * r ≤ c) : zTm gd d r v c n ≤ zWd gd (d + 1) c := by
  rw [zTm_eq]
  unfold zWd
  have ub := (zVd_some h c).2 n h1 h2
  have c1 := (zCd_spec gd (d + 1) c).1
  have c2 := (zCd_spec gd d (c - n * r)).1
  by_cases he : n * v + zVd gd d (c - n * r) = zVd gd (d + 1) c
  · have := zdp_cost hg h h1 h2 he
    rw [he]
    omega
  · omega
/-- the class's question and the reference's, for R the least cost -/
theorem zdp_iff (hg : zGd gd) (h : gd (5 - d) = some (r, v, st)) (hc : c ≤ 400) (h1 : n ≤ st) : (n * r ≤ c ∧ zTm gd d r v c n = zWd gd (d + 1) c) ↔ (n * r ≤ zCd gd (d + 1) c ∧ n * v + zVd gd d (zCd gd (d + 1) c - n * r) = zVd gd (d + 1) (zCd gd (d + 1) c)) := by
  obtain ⟨a1, a2, a3⟩ := zCd_spec gd (d + 1) c
  constructor
  · rintro ⟨h2, he⟩
    obtain ⟨b1, b2, b3⟩ := zCd_spec gd d (c - n * r)
    rw [zTm_eq] at he
    unfold zWd at he
    have ub := (zVd_some h c).2 n h1 h2
    have hv : n * v + zVd gd d (c - n * r) = zVd gd (d + 1) c := by omega
    have hk : n * r + zCd gd d (c - n * r) = zCd gd (d + 1) c := by omega
    refine ⟨by omega, ?_⟩
    rw [show zCd gd (d + 1) c - n * r = zCd gd d (c - n * r) by omega, b2, a2]
    exact hv
  · rintro ⟨h2, he⟩
    have h3 : n * r ≤ c := by omega
    obtain ⟨b1, b2, b3⟩ := zCd_spec gd d (c - n * r)
    have ub := (zVd_some h c).2 n h1 h3
    have mono := zVd_mono hg d (zCd gd (d + 1) c - n * r) (c - n * r) (by omega)
    rw [a2] at he
    have hv : zVd gd d (zCd gd (d + 1) c - n * r) = zVd gd d (c - n * r) := by omega
    have l1 := b3 _ hv
    have l2 := zdp_cost hg h h1 h3 (by omega)
    refine ⟨h3, ?_⟩
    rw [zTm_eq]
    unfold zWd
    rw [show n * v + zVd gd d (c - n * r) = zVd gd (d + 1) c by omega, show n * r + zCd gd d (c - n * r) = zCd gd (d + 1) c by omega]
theorem zdp_rest (h : gd (5 - d) = some (r, v, st)) (hc : c ≤ 400) (h1 : n ≤ st) (h2 : n * r ≤ c) (he : zTm gd d r v c n = zWd gd (d + 1) c) : n * r + zCd gd d (c - n * r) = zCd gd (d + 1) c ∧ n * v + zVd gd d (c - n * r) = zVd gd (d + 1) c := by
  have c1 := (zCd_spec gd (d + 1) c).1
  have c2 := (zCd_spec gd d (c - n * r)).1
  rw [zTm_eq] at he
  unfold zWd at he
  have ub := (zVd_some h c).2 n h1 h2
  omega
theorem zdp_ex (hg : zGd gd) (h : gd (5 - d) = some (r, v, st)) (hc : c ≤ 400) : ∃ n, n ≤ st ∧ n * r ≤ c ∧ zTm gd d r v c n = zWd gd (d + 1) c := by
  obtain ⟨⟨n, n1, n2, n3⟩, _⟩ := zVd_some h (zCd gd (d + 1) c)
  exact ⟨n, n1, (zdp_iff hg h hc n1).mpr ⟨n2, n3.symm⟩⟩
end ZDP
/-- the greatest number up to S with p, 0 if there is none but 0 -/
def zTop (p : Nat → Bool) : Nat → Nat
  | 0 => 0
  | S + 1 => if p (S + 1) then S + 1 else zTop p S
theorem zTop_spec (p : Nat → Bool) : ∀ S, (∃ n, n ≤ S ∧ p n = true) → zTop p S ≤ S ∧ p (zTop p S) = true ∧ ∀ n, n ≤ S → p n = true → n ≤ zTop p S := by
  intro S
  induction S with
  | zero =>
    rintro ⟨n, n1, n2⟩
    have : n = 0 := by omega
    subst this
    exact ⟨Nat.le_refl _, n2, fun m m1 _ => m1⟩
  | succ S ih =>
    rintro ⟨n, n1, n2⟩
    unfold zTop
    cases hp : p (S + 1) with
    | true => rw [if_pos rfl]; exact ⟨Nat.le_refl _, hp, fun m m1 _ => m1⟩
    | false =>
      rw [if_neg (by decide)]
      have hn : n ≤ S := by
        rcases (show n = S + 1 ∨ n ≤ S by omega) with e | e
        · rw [e, hp] at n2; cases n2
        · exact e
      obtain ⟨a1, a2, a3⟩ := ih ⟨n, hn, n2⟩
      refine ⟨by omega, a2, fun m m1 m2 => ?_⟩
      rcases (show m = S + 1 ∨ m ≤ S by omega) with e | e
      · rw [e, hp] at m2; cases m2
      · exact a3 m e m2
theorem zTop_same {p q : Nat → Bool} {S U : Nat} (he : ∃ n, n ≤ S ∧ p n = true) (h : ∀ n, (n ≤ S ∧ p n = true) ↔ (n ≤ U ∧ q n = true)) : zTop p S = zTop q U := by
  obtain ⟨a1, a2, a3⟩ := zTop_spec p S he
  obtain ⟨n, n1, n2⟩ := he
  have hu := (h n).mp ⟨n1, n2⟩
  obtain ⟨b1, b2, b3⟩ := zTop_spec q U ⟨n, hu⟩
  have h1 := (h _).mp ⟨a1, a2⟩
  have h2 := (h _).mpr ⟨b1, b2⟩
  have k1 := b3 _ h1.1 h1.2
  have k2 := a3 _ h2.1 h2.2
  omega
