theorem home2 (r : Nat) : f_X0_home (2 : Int32) (nI r) = nI (64 + r * 5) := homeN (k := 2) (by omega)
theorem home3 (r : Nat) : f_X0_home (3 : Int32) (nI r) = nI (224 + r * 21) := homeN (k := 3) (by omega)
theorem home4 (r : Nat) : f_X0_home (4 : Int32) (nI r) = nI (896 + r * 1) := homeN (k := 4) (by omega)
theorem sixN (a r : Nat) : (21 : Int32) * (nI a + nI r) = nI (21 * (a + r)) := by rw [show (21 : Int32) = nI 21 from rfl, nI_add, pk_mul]
theorem ixN (a : Int32) (n : Nat) (hn : n < 2147483648) : a < 0 ∨ nI n ≤ a ∨ ∃ j : Nat, j < n ∧ a = nI j := pk_ix a (by omega)
theorem nolt {n : Nat} (h : n < 2147483648) : ¬ nI n < 0 := nI_pos (by omega)
theorem r_part {Bc Ce : Nat → Int64} (h : RV Bc Ce) (a0 a1 Th : Int32) :
    S_X5_part a0 a1 Bc ∧ S_X6_part a0 a1 Th Ce ∧ ∃ (o : Nat) (r r' : Int64) (th : Int32), f_X5_part a0 a1 Bc = (o, r) ∧ f_X6_part a0 a1 Th Ce = (r', th) ∧ (o = 0 ∨ o = 2) ∧ th = k_L_part o ∧ (o = 0 → r = r') := by
  unfold S_X5_part S_X6_part f_X5_part f_X6_part
  rw [in_eq]
  rcases reg a0 with ⟨r, hr, rfl, e3, e4⟩ | ⟨e3, e4⟩
  · rcases win a1.toInt64 0 4 with ⟨e5, b1, b2⟩ | ⟨e5, b5⟩
    · rw [i3264] at b1 b2
      obtain ⟨j, hj, rfl⟩ := nIr (a := a1) (n := 4) b1 b2 (by omega)
      have x1 : (21 : Int32) * ((64 : Int32) + nI r) = nI (21 * (64 + r)) := sixN 64 r
      simp only [e3, e4, e5, ne10, if_true, if_false, home2, x1, nI_add]
      have c1 : (nI (64 + r * 5 + j)).toNatClampNeg = 64 + r * 5 + j := clN (by omega)
      have c2 : (nI (21 * (64 + r) + j)).toNatClampNeg = 21 * (64 + r) + j := clN (by omega)
      refine ⟨fun u1 _ _ => ⟨fun _ => True.intro, fun _ => ⟨S_homeN (k := 2) (by omega) _, vin (by omega) (by omega), True.intro⟩⟩, ⟨fun _ => True.intro, fun _ => ⟨fun _ => True.intro, fun _ => ⟨vin (by omega) (by omega), True.intro⟩⟩⟩, 0, _, _, 0, rfl, rfl, Or.inl rfl, rfl, fun _ => ?_⟩
      rw [c1, c2]
      exact (h 2 r (by omega) hr).2 j (by have : wd 2 = 5 := rfl; omega)
    · simp only [e3, e4, e5, ne10, if_true, if_false]
      exact ⟨fun u1 _ _ => ⟨fun _ => True.intro, fun z => absurd trivial z⟩, ⟨fun _ => True.intro, fun _ => ⟨fun _ => True.intro, fun z => absurd trivial z⟩⟩, 2, 0, 0, 1, rfl, rfl, Or.inr rfl, rfl, fun z => absurd z (by decide)⟩
  · simp only [e3, e4, if_true, if_false]
    exact ⟨fun u1 hu h1 => absurd h1 (by rw [hu]; decide), ⟨fun _ => True.intro, fun z => absurd trivial z⟩, 2, 0, 0, 1, by rw [if_neg (by decide)], rfl, Or.inr rfl, rfl, fun z => absurd z (by decide)⟩
theorem r_at {Bc Ce : Nat → Int64} (h : RV Bc Ce) (a0 a1 Th : Int32) :
    S_X5_at a0 a1 Bc ∧ S_X6_at a0 a1 Th Ce ∧ ∃ (o : Nat) (r r' : Int32) (th : Int32), f_X5_at a0 a1 Bc = (o, r) ∧ f_X6_at a0 a1 Th Ce = (r', th) ∧ (o = 0 ∨ o = 2) ∧ th = k_L_at o ∧ (o = 0 → r = r') := by
  unfold S_X5_at S_X6_at f_X5_at f_X6_at
  rcases reg a0 with ⟨r, hr, rfl, e3, e4⟩ | ⟨e3, e4⟩
  · obtain ⟨n, hn, hv⟩ := (h 3 r (by omega) hr).1.2.2.2.1 rfl
    have hv : Ce (21 * (96 + r)) = lN n := hv
    have hb : Bc (224 + r * 21) = lN n := ((h 3 r (by omega) hr).2 0 (by decide)).trans hv
    have c1 : (nI (224 + r * 21)).toNatClampNeg = 224 + r * 21 := clN (by omega)
    have c2 : (nI (21 * (96 + r))).toNatClampNeg = 21 * (96 + r) := clN (by omega)
    simp only [e3, e4, ne10, if_true, if_false, home3, sixN 96 r, show (96 : Int32) = nI 96 from rfl, c1, c2, hb, hv]
    rcases ixN a1 20 (by omega) with h1 | h1 | ⟨j, hj, rfl⟩
    · simp only [h1, if_true]
      exact ⟨fun u1 _ _ => ⟨S_homeN (k := 3) (by omega) _, fun _ => True.intro, fun z => absurd trivial z⟩, ⟨fun z => absurd z (by decide), fun _ => ⟨fun _ => True.intro, fun z => absurd trivial z⟩⟩, 2, 0, 0, 1, rfl, rfl, Or.inr rfl, rfl, fun z => absurd z (by decide)⟩
    · have h2 : ¬ a1 < 0 := fun z => by
        rw [i32lt] at z; rw [i32le, nI_toInt (by omega)] at h1; have e0 : (0 : Int32).toInt = 0 := rfl; omega
      have h3 : lN n ≤ a1.toInt64 := by
        rw [i64le, i3264, lN_toInt (by omega)]; rw [i32le, nI_toInt (by omega)] at h1; omega
      have h1' : (20 : Int32) ≤ a1 := h1
      simp only [h2, h1', h3, if_true, if_false]
      exact ⟨fun u1 _ _ => ⟨S_homeN (k := 3) (by omega) _, fun z => absurd z (by decide), fun _ => ⟨fun _ => True.intro, fun z => absurd trivial z⟩⟩, ⟨fun z => absurd z (by decide), fun _ => ⟨fun _ => True.intro, fun _ => ⟨vin (by omega) (by omega), fun _ => True.intro, fun z => absurd trivial z⟩⟩⟩, 2, 0, 0, 1, rfl, rfl, Or.inr rfl, rfl, fun z => absurd z (by decide)⟩
    · have h2 : ¬ nI j < 0 := nolt (by omega)
      have h1' : ¬ (20 : Int32) ≤ nI j := fun z => by have := (nI_leI (a := 20) (b := j) (by omega) (by omega)).mp z; omega
      have e5 : (nI j).toInt64 = lN j := nI_l (by omega)
      simp only [h2, h1', if_false, e5, nI_1, nI_add]
      by_cases hc : j < n
      · have h3 : lN j < lN n := (lN_lt (by omega) (by omega)).mpr hc
        have h4 : ¬ lN n ≤ lN j := fun z => by have := (lN_le (by omega) (by omega)).mp z; omega
        simp only [h3, h4, if_true, if_false]
        refine ⟨fun u1 _ _ => ⟨S_homeN (k := 3) (by omega) _, fun _ => True.intro, fun _ => ⟨fun _ => True.intro, fun _ => ⟨vin (by omega) (by omega), fun _ => ⟨vin (by omega) (by omega), True.intro⟩, fun _ => True.intro⟩⟩⟩, ⟨fun z => absurd z (by decide), fun _ => ⟨fun _ => True.intro, fun _ => ⟨vin (by omega) (by omega), fun _ => True.intro, fun _ => ⟨vin (by omega) (by omega), True.intro⟩⟩⟩⟩, 0, _, _, 0, rfl, rfl, Or.inl rfl, rfl, fun _ => ?_⟩
        rw [clN (by omega), clN (by omega)]
        have h5 := (h 3 r (by omega) hr).2 (1 + j) (by have : wd 3 = 21 := rfl; omega)
        have h6 : Bc (224 + r * 21 + (1 + j)) = Ce (21 * (96 + r) + (1 + j)) := h5
        have e9 : 224 + r * 21 + 1 + j = 224 + r * 21 + (1 + j) := by omega
        have e10 : 21 * (96 + r) + 1 + j = 21 * (96 + r) + (1 + j) := by omega
        rw [e9, e10, h6]
      · have h3 : ¬ lN j < lN n := fun z => hc ((lN_lt (by omega) (by omega)).mp z)
        have h4 : lN n ≤ lN j := (lN_le (by omega) (by omega)).mpr (by omega)
        simp only [h3, h4, if_true, if_false]
        exact ⟨fun u1 _ _ => ⟨S_homeN (k := 3) (by omega) _, fun _ => True.intro, fun _ => ⟨fun _ => True.intro, fun _ => ⟨vin (by omega) (by omega), fun z => absurd z (by decide), fun _ => True.intro⟩⟩⟩, ⟨fun z => absurd z (by decide), fun _ => ⟨fun _ => True.intro, fun _ => ⟨vin (by omega) (by omega), fun _ => True.intro, fun z => absurd trivial z⟩⟩⟩, 2, 0, 0, 1, rfl, rfl, Or.inr rfl, rfl, fun z => absurd z (by decide)⟩
  · simp only [e3, e4, if_true, if_false]
    exact ⟨fun u1 hu h1 => absurd h1 (by rw [hu]; decide), ⟨fun _ => True.intro, fun z => absurd trivial z⟩, 2, 0, 0, 1, by rw [if_neg (by decide)], rfl, Or.inr rfl, rfl, fun z => absurd z (by decide)⟩
theorem cell_apart {k q j k' r j' : Nat} (hk : k < 5) (hq : q < 32) (hj : j < wd k) (hk' : k' < 5) (hr : r < 32) (hj' : j' < wd k') (e : hm k + q * wd k + j = hm k' + r * wd k' + j') : k = k' ∧ q = r ∧ j = j' := by
  rcases (show k = 0 ∨ k = 1 ∨ k = 2 ∨ k = 3 ∨ k = 4 by omega) with rfl | rfl | rfl | rfl | rfl <;> rcases (show k' = 0 ∨ k' = 1 ∨ k' = 2 ∨ k' = 3 ∨ k' = 4 by omega) with rfl | rfl | rfl | rfl | rfl <;> simp only [hm, wd, List.getD_cons_zero, List.getD_cons_succ] at * <;> refine ⟨?_, ?_, ?_⟩ <;> first | trivial | omega
theorem RV_take {Bc Ce : Nat → Int64} (h : RV Bc Ce) {r : Nat} (hr : r < 32) : RV (vp_updL Bc (896 + r * 1) (-1)) (vp_updL Ce (21 * (128 + r)) (-1)) := by
  intro k q hk hq
  have hw := wd_le hk
  have hl := hm_le hk hq
  by_cases hc : k = 4 ∧ q = r
  · obtain ⟨rfl, rfl⟩ := hc
    refine ⟨⟨fun z => absurd z (by decide), fun z => absurd z (by decide), fun z => absurd z (by decide), fun z => absurd z (by decide), fun _ => ?_⟩, fun j hj => ?_⟩
    · simp only [uL]
      rw [if_pos (by omega)]
      decide
    · have : wd 4 = 1 := rfl
      have h4 : hm 4 = 896 := rfl
      simp only [uL]
      rw [if_pos (by rw [h4, this]; omega), if_pos (by omega)]
  · have e1 : ∀ j, j < 21 → ¬ 21 * (32 * k + q) + j = 21 * (128 + r) := fun j hj z => hc ⟨by omega, by omega⟩
    have e2 : ∀ j, j < wd k → ¬ hm k + q * wd k + j = 896 + r * 1 := fun j hj z => by
      have z2 := cell_apart (k' := 4) (r := r) (j' := 0) hk hq hj (by omega) hr (by decide) z
      exact hc ⟨z2.1, z2.2.1⟩
    refine ⟨(h k q hk hq).1.cong hk (fun j hj => ?_), fun j hj => ?_⟩
    · simp only [uL]
      rw [if_neg (e1 j (by omega))]
    · simp only [uL]
      rw [if_neg (e2 j hj), if_neg (e1 j (by omega))]
      exact (h k q hk hq).2 j hj
theorem r_take {Bc Ce : Nat → Int64} (h : RV Bc Ce) (a0 Th : Int32) :
    S_X5_take a0 Bc ∧ S_X6_take a0 Th Ce ∧ ∃ (o : Nat) (r r' th : Int32) (Bc' Ce' : Nat → Int64), f_X5_take a0 Bc = (o, r, Bc') ∧ f_X6_take a0 Th Ce = (r', th, Ce') ∧ (o = 0 ∨ o = 2) ∧ th = k_L_take o ∧ (o = 0 → r = r') ∧ RV Bc' Ce' := by
  unfold S_X5_take S_X6_take f_X5_take f_X6_take
  rcases reg a0 with ⟨r, hr, rfl, e3, e4⟩ | ⟨e3, e4⟩
  · have x1 : (21 : Int32) * ((128 : Int32) + nI r) = nI (21 * (128 + r)) := sixN 128 r
    have c1 : (nI (896 + r * 1)).toNatClampNeg = 896 + r * 1 := clN (by omega)
    have c2 : (nI (21 * (128 + r))).toNatClampNeg = 21 * (128 + r) := clN (by omega)
    have hv : Bc (896 + r * 1) = Ce (21 * (128 + r)) := (h 4 r (by omega) hr).2 0 (by decide)
    simp only [e3, e4, ne10, if_true, if_false, home4, x1, c1, c2, hv]
    refine ⟨fun u1 _ _ => ⟨S_homeN (k := 4) (by omega) _, vin (by omega) (by omega), vin (by omega) (by omega), fun _ => True.intro, fun _ => True.intro⟩, ⟨fun _ => True.intro, fun _ => ⟨vin (by omega) (by omega), vin (by omega) (by omega), True.intro⟩⟩, ?_⟩
    by_cases hc : (Ce (21 * (128 + r))).toInt32 = -1
    · exact ⟨0, -1, -1, 0, _, _, by rw [if_pos hc], by rw [hc], Or.inl rfl, rfl, fun _ => rfl, RV_take h hr⟩
    · exact ⟨0, _, _, 0, _, _, by rw [if_neg hc], rfl, Or.inl rfl, rfl, fun _ => rfl, RV_take h hr⟩
  · simp only [e3, e4, if_true, if_false]
    exact ⟨fun u1 hu h1 => absurd h1 (by rw [hu]; decide), ⟨fun _ => True.intro, fun z => absurd trivial z⟩, 2, 0, 0, 1, Bc, Ce, by rw [if_neg (by decide)], rfl, Or.inr rfl, rfl, fun z => absurd z (by decide), h⟩
theorem tld (a : Int32) : (f_X6_in a.toInt64 0 1 = 1 ∧ (a = 0 ∨ a = 1) ∧ f_X5_within a.toInt64 10 14 = 0) ∨ (f_X6_in a.toInt64 0 1 = 0 ∧ ¬ a = 0 ∧ ¬ a = 1) := by
  rw [in_eq]
  rcases win a.toInt64 0 1 with ⟨e, b1, b2⟩ | ⟨e, b⟩
  · rw [i3264] at b1 b2
    obtain ⟨j, hj, rfl⟩ := nIr (a := a) (n := 1) b1 b2 (by omega)
    refine Or.inl ⟨e, ?_, w0 ?_⟩
    · rcases (show j = 0 ∨ j = 1 by omega) with rfl | rfl
      · exact Or.inl rfl
      · exact Or.inr rfl
    · rw [i3264, nI_toInt (by omega)]
      have : (10 : Int64).toInt = 10 := rfl
      omega
  · rw [i3264] at b
    refine Or.inr ⟨e, fun z => b (by rw [z]; decide), fun z => b (by rw [z]; decide)⟩
theorem r_told {d K : Nat} {Bl Le : Nat → Int32} (h : ∀ q, q < 160 → Bl q = Le q) (a0 a1 Th : Int32) :
    S_X5_told a0 a1 Bl (nI K) (nI d) ∧ S_X6_told a0 a1 Th Le (nI d) (nI K) ∧ ∃ (o : Nat) (r r' th : Int32), f_X5_told a0 a1 Bl (nI K) (nI d) = (o, r) ∧ f_X6_told a0 a1 Th Le (nI d) (nI K) = (r', th) ∧ (o = 0 ∨ o = 1 ∨ o = 2) ∧ th = k_L_told o ∧ (o = 0 → r = r') := by
  unfold S_X5_told S_X6_told f_X5_told f_X6_told
  rcases tld a0 with ⟨e1, ha, e2⟩ | ⟨e1, n0, n1⟩
  · rw [in_eq] at *
    simp only [e1, e2, ne10, if_false, if_true]
    rcases ha with rfl | rfl
    · simp only [if_true]
      exact ⟨⟨fun _ => True.intro, fun z => absurd trivial z⟩, ⟨fun z => absurd z (by decide), fun _ => ⟨fun _ => ⟨fun _ => True.intro, fun _ => True.intro⟩, fun z => absurd trivial z⟩⟩, 0, _, _, 0, rfl, rfl, Or.inl rfl, rfl, fun _ => rfl⟩
    · simp only [ne10, if_true, if_false]
      exact ⟨⟨fun _ => True.intro, fun _ => ⟨fun _ => True.intro, fun z => absurd trivial z⟩⟩, ⟨fun z => absurd z (by decide), fun _ => ⟨fun _ => ⟨fun _ => True.intro, fun _ => True.intro⟩, fun z => absurd trivial z⟩⟩, 0, _, _, 0, rfl, rfl, Or.inl rfl, rfl, fun _ => rfl⟩
  · rw [in_eq] at *
    simp only [e1, n0, n1, if_false, if_true]
    rcases win a0.toInt64 10 14 with ⟨e3, b1, b2⟩ | ⟨e3, b⟩
    · rw [i3264] at b1 b2
      have l1 : (10 : Int64).toInt = 10 := rfl
      have l2 : (14 : Int64).toInt = 14 := rfl
      obtain ⟨t, ht, rfl⟩ := nIr (a := a0) (n := 14) (by omega) (by omega) (by omega)
      rw [nI_toInt (by omega)] at b1 b2
      have x0 : nI t - (10 : Int32) = nI (t - 10) := pk_sub (b := 10) (by omega)
      rcases reg a1 with ⟨r, hr, rfl, e5, e6⟩ | ⟨e5, e6⟩
      · have x1 : (32 : Int32) * nI (t - 10) + nI r = nI (32 * (t - 10) + r) := by rw [show (32 : Int32) = nI 32 from rfl, pk_mul, nI_add]
        simp only [e3, e5, e6, ne10, if_false, if_true, x0, x1, placeN]
        have c1 : (nI (32 * (t - 10) + r)).toNatClampNeg = 32 * (t - 10) + r := clN (by omega)
        refine ⟨⟨fun _ => True.intro, fun _ => ⟨fun _ => True.intro, fun _ => ⟨fun _ => True.intro, fun _ u4 _ _ => ⟨vin (by omega) (by omega), True.intro⟩⟩⟩⟩, ⟨fun _ => ⟨fun _ => True.intro, fun _ => ⟨fun _ => True.intro, fun _ => ⟨vin (by omega) (by omega), True.intro⟩⟩⟩, fun z => absurd trivial z⟩, 0, _, _, 0, rfl, rfl, Or.inl rfl, rfl, fun _ => ?_⟩
        rw [c1]
        exact h _ (by omega)
      · simp only [e3, e5, e6, ne10, if_false, if_true]
        exact ⟨⟨fun z => absurd z (by decide), fun _ => ⟨fun _ => True.intro, fun _ => ⟨fun _ => True.intro, fun _ u4 hu h4 => absurd h4 (by rw [hu]; decide)⟩⟩⟩, ⟨fun _ => ⟨fun _ => True.intro, fun _ => ⟨fun _ => True.intro, fun z => absurd trivial z⟩⟩, fun z => absurd trivial z⟩, 2, 0, 0, 2, by rw [if_neg (by decide)], rfl, Or.inr (Or.inr rfl), rfl, fun z => absurd z (by decide)⟩
    · simp only [e3, if_true]
      exact ⟨⟨fun _ => True.intro, fun _ => ⟨fun _ => True.intro, fun _ => ⟨fun _ => True.intro, fun z => absurd trivial z⟩⟩⟩, ⟨fun _ => ⟨fun _ => True.intro, fun z => absurd trivial z⟩, fun z => absurd trivial z⟩, 1, 0, 0, 1, rfl, rfl, Or.inr (Or.inl rfl), rfl, fun z => absurd z (by decide)⟩
theorem r_group {d K T : Nat} {Gf Gt Kd Td : Nat → Int32} (hd : d ≤ 20) (hK : K ≤ 200) (hT : T ≤ 60) (h1 : RD d K Gf Kd) (h2 : RD d T Gt Td) (Th : Int32) :
    S_X5_group (nI K) Gf Gt (nI d) (nI T) ∧ ∃ (o : Nat) (r r' th : Int32) (Gf' Gt' : Nat → Int32) (d' : Nat), f_X5_group (nI K) Gf Gt (nI d) (nI T) = (o, r, Gf', Gt', nI d') ∧ f_X6_group Th (nI d) = (r', th, nI d') ∧ (o = 0 ∨ o = 3) ∧ th = k_L_group o ∧ (o = 0 → r = r') ∧ d' ≤ 20 ∧ RD d' K Gf' Kd ∧ RD d' T Gt' Td := by
  have e1 : ¬ nI d < 0 := nolt (by omega)
  have i1 : (nI d < 20) ↔ d < 20 := nI_ltI (b := 20) (by omega) (by omega)
  have i2 : (nI d = 20) ↔ d = 20 := nI_eq (b := 20) (by omega) (by omega)
  have i3 : ((20 : Int32) ≤ nI d) ↔ 20 ≤ d := nI_leI (a := 20) (by omega) (by omega)
  unfold S_X5_group f_X5_group f_X6_group S_X2_open f_X2_open
  by_cases hc : d = 20
  · have hn : ¬ nI d < 20 := fun z => by have := i1.mp z; omega
    have he : nI d = 20 := i2.mpr hc
    refine ⟨⟨fun _ => True.intro, fun _ => ⟨fun z => absurd z hn, fun _ => True.intro⟩⟩, 3, 0, 0, 1, Gf, Gt, d, ?_, ?_, Or.inr rfl, rfl, fun z => absurd z (by decide), hd, h1, h2⟩
    · rw [if_neg e1, if_neg hn]
    · rw [if_pos he]
  · have hp : nI d < 20 := i1.mpr (by omega)
    have hn : ¬ (20 : Int32) ≤ nI d := fun z => by have := i3.mp z; omega
    have hne : ¬ nI d = 20 := fun z => hc (i2.mp z)
    have c1 : (nI d).toNatClampNeg = d := clN (by omega)
    have c2 : nI d + 1 = nI (d + 1) := (nI_succ d).symm
    refine ⟨⟨fun z => absurd z e1, fun _ => ⟨fun _ => ⟨⟨fun z => absurd z e1, fun _ => ⟨fun z => absurd z hn, fun _ => ⟨vin (by omega) (by omega), vin (by omega) (by omega), True.intro⟩⟩⟩, fun _ _ => True.intro⟩, fun z => absurd hp z⟩⟩, 0, nI (d + 1), nI (d + 1), 0, upd Gf d (nI K), upd Gt d (nI T), d + 1, ?_, ?_, Or.inl rfl, rfl, fun _ => rfl, by omega, ?_, ?_⟩
    · simp only [if_neg e1, if_pos hp, if_neg hn, c1, c2]
    · rw [if_neg hne, c2]
    · obtain ⟨gf, dp, g1, g2⟩ := h1
      refine ⟨fun i => if i = d then K else gf i, dp, fun q hq => ⟨(g1 q hq).1, (g1 q hq).2.1, by have := (g1 q hq).2.2; omega⟩, fun i hi => ?_⟩
      by_cases z : i = d
      · subst z
        refine ⟨by simp only [uI, if_true], by simp only [if_true]; exact Nat.le_refl _, fun q hq => ?_⟩
        simp only [if_true]
        have := (g1 q hq).2.2
        omega
      · simp only [uI, if_neg z]
        exact g2 i (by omega)
    · obtain ⟨gf, dp, g1, g2⟩ := h2
      refine ⟨fun i => if i = d then T else gf i, dp, fun q hq => ⟨(g1 q hq).1, (g1 q hq).2.1, by have := (g1 q hq).2.2; omega⟩, fun i hi => ?_⟩
      by_cases z : i = d
      · subst z
        refine ⟨by simp only [uI, if_true], by simp only [if_true]; exact Nat.le_refl _, fun q hq => ?_⟩
        simp only [if_true]
        have := (g1 q hq).2.2
        omega
      · simp only [uI, if_neg z]
        exact g2 i (by omega)
