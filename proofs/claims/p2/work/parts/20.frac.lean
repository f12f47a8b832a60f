/-! fraction -/
theorem L_fr (n : Nat) : ∀ (x : Int32) (a : Int64) (k m : Int32), L_X5_fraction_34 n x a k m = L_X6_fraction_91 n x a k m := by
  induction n with
  | zero => intro x a k m; rfl
  | succ n ih => intro x a k m; rw [L_X5_fraction_34, L_X6_fraction_91, ih]
theorem S_fr (n : Nat) : ∀ (x : Int32) (a : Int64) (k m : Int32), SL_X5_fraction_34 n x a k m ↔ SL_X6_fraction_91 n x a k m := by
  induction n with
  | zero => intro x a k m; exact Iff.rfl
  | succ n ih => intro x a k m; rw [SL_X5_fraction_34, SL_X6_fraction_91, ih]
theorem fr_left {m : Nat} (hm : m ≤ 9) : ∀ (n k x : Nat) (a : Int64), x < 2147483648 → k ≤ m → m - k < n → SL_X6_fraction_91 n (nI x) a (nI k) (nI m) ∧ (L_X6_fraction_91 n (nI x) a (nI k) (nI m)).1 = nI (x / 10 ^ (m - k)) := by
  intro n
  induction n with
  | zero => intro k x a _ _ h; exact absurd h (Nat.not_lt_zero _)
  | succ n ih =>
    intro k x a hx hk h
    have i1 : (nI m ≤ nI k) ↔ m ≤ k := nI_leI (by omega) (by omega)
    rw [SL_X6_fraction_91, L_X6_fraction_91]
    by_cases hc : m ≤ k
    · rw [if_pos (i1.mpr hc)]
      refine ⟨⟨fun _ => True.intro, fun z => absurd (i1.mpr hc) z⟩, ?_⟩
      rw [show m - k = 0 by omega, Nat.pow_zero, Nat.div_one]
    · have hn : ¬ nI m ≤ nI k := fun z => hc (i1.mp z)
      have d1 : nI x / (10 : Int32) = nI (x / 10) := pk_div (d := 10) (by omega) (by omega) (by omega)
      have c2 : nI k + 1 = nI (k + 1) := (nI_succ k).symm
      rw [if_neg hn]
      obtain ⟨s1, s2⟩ := ih (k + 1) (x / 10) ((a + ((131072 : Int64) * (nI x - nI x / (10 : Int32) * (10 : Int32)).toInt64)) / (10 : Int64)) (by omega) (by omega) (by omega)
      rw [← c2, ← d1] at s1 s2
      refine ⟨⟨fun z => absurd z hn, fun _ => s1⟩, ?_⟩
      rw [s2]
      congr 1
      rw [show m - k = (m - (k + 1)) + 1 by omega, Nat.pow_succ, Nat.mul_comm, Nat.div_div_eq_div_mul]
theorem fr_most {m : Nat} (hm : m ≤ 9) : ∀ (n k x : Nat), k ≤ m → m - k < n → SL_X6_fraction_28 n (lN x) (nI k) (nI m) 1 ∧ (L_X6_fraction_28 n (lN x) (nI k) (nI m) 1).1 = lN (x * 10 ^ (m - k)) := by
  intro n
  induction n with
  | zero => intro k x _ h; exact absurd h (Nat.not_lt_zero _)
  | succ n ih =>
    intro k x hk h
    have i1 : (nI m ≤ nI k) ↔ m ≤ k := nI_leI (by omega) (by omega)
    rw [SL_X6_fraction_28, L_X6_fraction_28]
    by_cases hc : m ≤ k
    · rw [if_pos (i1.mpr hc)]
      refine ⟨⟨fun _ => True.intro, fun z => absurd (i1.mpr hc) z⟩, ?_⟩
      rw [show m - k = 0 by omega, Nat.pow_zero, Nat.mul_one]
    · have hn : ¬ nI m ≤ nI k := fun z => hc (i1.mp z)
      have d1 : (10 : Int64) * lN x = lN (x * 10) := by rw [show (10 : Int64) = lN 10 from rfl, lN_mul, Nat.mul_comm]
      have c2 : nI k + 1 = nI (k + 1) := (nI_succ k).symm
      rw [if_neg hn, if_neg ne10, d1, c2]
      obtain ⟨s1, s2⟩ := ih (k + 1) (x * 10) (by omega) (by omega)
      refine ⟨⟨fun z => absurd z hn, fun _ => ⟨fun z => absurd z ne10, fun _ => s1⟩⟩, ?_⟩
      rw [s2]
      congr 1
      rw [show m - k = (m - (k + 1)) + 1 by omega, Nat.pow_succ, Nat.mul_assoc, Nat.mul_comm (10 ^ _) 10]
theorem p10 {m : Nat} (hm : m ≤ 9) : 10 ^ m ≤ 1000000000 := by
  rcases (show m = 0 ∨ m = 1 ∨ m = 2 ∨ m = 3 ∨ m = 4 ∨ m = 5 ∨ m = 6 ∨ m = 7 ∨ m = 8 ∨ m = 9 by omega) with rfl | rfl | rfl | rfl | rfl | rfl | rfl | rfl | rfl | rfl <;> decide
theorem fr_zero (a1 : Int32) : SL_X6_fraction_28 10 1 0 a1 0 := by
  rw [SL_X6_fraction_28]
  exact ⟨fun _ => True.intro, fun _ => ⟨fun _ => True.intro, fun z => absurd rfl z⟩⟩
theorem r_fraction (a0 a1 Th : Int32) : S_X5_fraction a0 a1 ∧ S_X6_fraction a0 a1 Th ∧ ∃ (o : Nat) (r r' th : Int32), f_X5_fraction a0 a1 = (o, r) ∧ f_X6_fraction a0 a1 Th = (r', th) ∧ (o = 0 ∨ o = 1) ∧ th = k_L_fraction o ∧ (o = 0 → r = r') := by
  unfold S_X5_fraction S_X6_fraction f_X5_fraction f_X6_fraction
  rw [in_eq]
  rcases win a1.toInt64 1 9 with ⟨e1, b1, b2⟩ | ⟨e1, b⟩
  · rw [i3264] at b1 b2
    have l1 : (1 : Int64).toInt = 1 := rfl
    have l9 : (9 : Int64).toInt = 9 := rfl
    obtain ⟨m, hm, rfl⟩ := nIr (a := a1) (n := 9) (by omega) (by omega) (by omega)
    rw [nI_toInt (by omega)] at b1 b2
    by_cases hn : a0 < 0
    · have hn' : ¬ 0 ≤ a0 := fun z => by rw [i32lt] at hn; rw [i32le] at z; omega
      simp only [e1, ne10, hn, hn', if_true, if_false]
      exact ⟨⟨fun z => z.elim, fun _ => ⟨fun z => z.elim, fun _ => True.intro⟩⟩, ⟨fun z => z.elim, fun _ => ⟨fun _ => ⟨fr_zero _, fun _ _ => True.intro⟩, fun z => absurd trivial z⟩⟩, 1, 0, 0, 1, rfl, rfl, Or.inr rfl, rfl, fun z => absurd z (by decide)⟩
    · have hn' : 0 ≤ a0 := by rw [i32lt] at hn; rw [i32le]; omega
      obtain ⟨x, hx, rfl⟩ := nI_of hn
      obtain ⟨s1, s2⟩ := fr_left hm 10 0 x 0 (by omega) (by omega) (by omega)
      obtain ⟨s3, s4⟩ := fr_most hm 10 0 1 (by omega) (by omega)
      have hp := p10 hm
      have s2 : (L_X6_fraction_91 10 (nI x) 0 0 (nI m)).1 = nI (x / 10 ^ m) := s2
      have s4 : (L_X6_fraction_28 10 1 0 (nI m) 1).1 = lN (10 ^ m) := by
        have s5 : (L_X6_fraction_28 10 1 0 (nI m) 1).1 = lN (1 * 10 ^ (m - 0)) := s4
        rw [s5, Nat.one_mul, Nat.sub_zero]
      have e5 : (nI x).toInt64 = lN x := nI_l (by omega)
      have i2 : (lN (10 ^ m) ≤ lN x) ↔ 10 ^ m ≤ x := lN_le (by omega) (by omega)
      have hxq : x / 10 ^ m < 2147483648 := Nat.lt_of_le_of_lt (Nat.div_le_self _ _) (by omega)
      have i3 : (nI (x / 10 ^ m) = 0) ↔ x / 10 ^ m = 0 := nI_eq (b := 0) (by omega) (by omega)
      have hpos : 0 < 10 ^ m := Nat.pos_of_ne_zero (by
        rcases (show m = 0 ∨ m = 1 ∨ m = 2 ∨ m = 3 ∨ m = 4 ∨ m = 5 ∨ m = 6 ∨ m = 7 ∨ m = 8 ∨ m = 9 by omega) with rfl | rfl | rfl | rfl | rfl | rfl | rfl | rfl | rfl | rfl <;> decide)
      have i4 : x / 10 ^ m = 0 ↔ x < 10 ^ m := by rw [Nat.div_eq_zero_iff]; omega
      simp only [e1, ne10, hn, hn', if_true, if_false, L_fr, S_fr, s2, s4, e5]
      have s1' : SL_X6_fraction_91 10 (nI x) 0 0 (nI m) := s1
      have s3' : SL_X6_fraction_28 10 1 0 (nI m) 1 := s3
      by_cases hc : 10 ^ m ≤ x
      · have y1 : lN (10 ^ m) ≤ lN x := i2.mpr hc
        have y2 : ¬ nI (x / 10 ^ m) = 0 := fun z => by have := i4.mp (i3.mp z); omega
        simp only [y1, y2, if_true, if_false]
        exact ⟨⟨fun z => z.elim, fun _ => ⟨fun _ => ⟨s1', fun _ _ => ⟨fun _ => True.intro, fun _ => True.intro⟩⟩, fun z => absurd trivial z⟩⟩, ⟨fun z => z.elim, fun _ => ⟨fun z => z.elim, fun _ => ⟨s3', fun u hu => ⟨fun _ => True.intro, fun z => ⟨s1', fun _ _ => True.intro⟩⟩⟩⟩⟩, 1, 0, 0, 1, rfl, rfl, Or.inr rfl, rfl, fun z => absurd z (by decide)⟩
      · have y1 : ¬ lN (10 ^ m) ≤ lN x := fun z => hc (i2.mp z)
        have y2 : nI (x / 10 ^ m) = 0 := i3.mpr (i4.mpr (by omega))
        simp only [y1, y2, if_true, if_false]
        exact ⟨⟨fun z => z.elim, fun _ => ⟨fun _ => ⟨s1', fun _ _ => ⟨fun _ => True.intro, fun _ => True.intro⟩⟩, fun z => absurd trivial z⟩⟩, ⟨fun z => z.elim, fun _ => ⟨fun z => z.elim, fun _ => ⟨s3', fun u hu => ⟨fun _ => True.intro, fun z => ⟨s1', fun _ _ => True.intro⟩⟩⟩⟩⟩, 0, _, _, 0, rfl, rfl, Or.inl rfl, rfl, fun _ => rfl⟩
  · simp only [e1, if_true]
    exact ⟨⟨fun _ => True.intro, fun z => absurd trivial z⟩, ⟨fun _ => ⟨fr_zero _, fun _ _ => True.intro⟩, fun z => absurd trivial z⟩, 1, 0, 0, 1, rfl, rfl, Or.inr rfl, rfl, fun z => absurd z (by decide)⟩
