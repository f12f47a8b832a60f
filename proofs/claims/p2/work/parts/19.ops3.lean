theorem checkTok (a : Int32) : (f_X5_checkToken a = 0 ∧ f_X5_within a.toInt64 0 255 = 1) ∨ (f_X5_checkToken a = 1 ∧ f_X5_within a.toInt64 0 255 = 0) := by
  unfold f_X5_checkToken
  rcases win a.toInt64 0 255 with ⟨e, -⟩ | ⟨e, -⟩
  · exact Or.inl ⟨by rw [e, if_neg ne10], e⟩
  · exact Or.inr ⟨by rw [e, if_pos rfl], e⟩
/-- how many of a row are told at a depth -/
theorem L_aft {n g d : Nat} {Td : Nat → Int32} (hn : n ≤ 60) (hd : d ≤ 20) (hg : g ≤ n) (h : ∀ q, q < n → (Td q = nI d ↔ g ≤ q)) :
    ∀ (m x c : Nat), x ≤ n → n - x < m → SL_X6_after_91 m (nI c) (nI x) (nI d) (nI n) Td ∧ (L_X6_after_91 m (nI c) (nI x) (nI d) (nI n) Td).1 = nI (c + (n - max g x)) := by
  intro m
  induction m with
  | zero => intro x c hx hm; exact absurd hm (Nat.not_lt_zero _)
  | succ m ih =>
    intro x c hx hm
    have i1 : (nI n ≤ nI x) ↔ n ≤ x := nI_leI (by omega) (by omega)
    have c1 : (nI x).toNatClampNeg = x := clN (by omega)
    have c2 : nI x + 1 = nI (x + 1) := (nI_succ x).symm
    have c3 : nI c + 1 = nI (c + 1) := (nI_succ c).symm
    rw [SL_X6_after_91, L_X6_after_91]
    by_cases hc : n ≤ x
    · rw [if_pos (i1.mpr hc)]
      refine ⟨⟨fun _ => True.intro, fun z => absurd (i1.mpr hc) z⟩, ?_⟩
      show nI c = _
      congr 1
      omega
    · have hn' : ¬ nI n ≤ nI x := fun z => hc (i1.mp z)
      rw [if_neg hn', c1, c2, c3]
      by_cases hq : Td x = nI d
      · rw [if_pos hq]
        obtain ⟨s1, s2⟩ := ih (x + 1) (c + 1) (by omega) (by omega)
        refine ⟨⟨fun z => absurd z hn', fun _ => ⟨vin (by omega) (by omega), fun _ => s1, fun z => absurd hq z⟩⟩, ?_⟩
        rw [s2]
        have := (h x (by omega)).mp hq
        congr 1
        omega
      · rw [if_neg hq]
        obtain ⟨s1, s2⟩ := ih (x + 1) c (by omega) (by omega)
        refine ⟨⟨fun z => absurd z hn', fun _ => ⟨vin (by omega) (by omega), fun z => absurd z hq, fun _ => s1⟩⟩, ?_⟩
        rw [s2]
        have : ¬ g ≤ x := fun z => hq ((h x (by omega)).mpr z)
        congr 1
        omega
theorem RD_first {d n : Nat} {Gf Kd : Nat → Int32} (h : RD d n Gf Kd) (hd : 0 < d) : ∃ g, g ≤ n ∧ Gf (d - 1) = nI g ∧ ∀ q, q < n → ∃ e, Kd q = nI e ∧ 1 ≤ e ∧ e ≤ d ∧ (g ≤ q ↔ e = d) := by
  obtain ⟨gf, dp, g1, g2⟩ := h
  obtain ⟨h1, h2, h3⟩ := g2 (d - 1) (by omega)
  refine ⟨gf (d - 1), h2, h1, fun q hq => ⟨dp q, (g1 q hq).1, (g1 q hq).2.1, (g1 q hq).2.2, ?_⟩⟩
  have h4 := h3 q hq
  have h5 := (g1 q hq).2.2
  omega
/-- one more, told at the depth that is -/
theorem RD_push {d n : Nat} {Gf Kd : Nat → Int32} (h : RD d n Gf Kd) (hd : 0 < d) : RD d (n + 1) Gf (upd Kd n (nI d)) := by
  obtain ⟨gf, dp, g1, g2⟩ := h
  refine ⟨gf, fun q => if q = n then d else dp q, fun q hq => ?_, fun i hi => ?_⟩
  · by_cases z : q = n
    · simp only [uI, if_pos z]
      exact ⟨trivial, by omega, Nat.le_refl _⟩
    · simp only [uI, if_neg z]
      exact g1 q (by omega)
  · obtain ⟨h1, h2, h3⟩ := g2 i hi
    refine ⟨h1, by omega, fun q hq => ?_⟩
    by_cases z : q = n
    · simp only [if_pos z]
      omega
    · simp only [if_neg z]
      exact h3 q (by omega)
theorem RD_pop {d n : Nat} {Gf Kd : Nat → Int32} (h : RD d n Gf Kd) (hd : 0 < d) {g : Nat} (hn : n < 2147483648) (hg : Gf (d - 1) = nI g) (hgn : g ≤ n) : RD (d - 1) g Gf Kd := by
  obtain ⟨gf, dp, g1, g2⟩ := h
  obtain ⟨h1, h2, h3⟩ := g2 (d - 1) (by omega)
  have e : gf (d - 1) = g := (nI_eq (by omega) (by omega)).mp (h1.symm.trans hg)
  rw [e] at h3
  refine ⟨gf, dp, fun q hq => ?_, fun i hi => ?_⟩
  · obtain ⟨k1, k2, k3⟩ := g1 q (by omega)
    have := h3 q (by omega)
    exact ⟨k1, k2, by omega⟩
  · obtain ⟨k1, k2, k3⟩ := g2 i (by omega)
    refine ⟨k1, ?_, fun q hq => k3 q (by omega)⟩
    rcases Nat.lt_or_ge g (gf i) with z | z
    · exfalso
      have a1 := (h3 g (by omega)).mp (Nat.le_refl _)
      have a2 := (k3 g (by omega)).mpr (by omega)
      omega
    · exact z
theorem r_after {d T : Nat} {Gt Gx Tt Td : Nat → Int32} (hd : d ≤ 20) (hT : T ≤ 60) (h2 : RD d T Gt Td) (h3 : ∀ q, q < T → Gx q = Tt q) (a0 Th : Int32) :
    S_X5_after a0 Gt Gx (nI d) (nI T) ∧ S_X6_after a0 Th (nI d) (nI T) Tt Td ∧ ∃ (o : Nat) (r r' th : Int32) (Gx' Tt' Td' : Nat → Int32) (T' : Nat), f_X5_after a0 Gt Gx (nI d) (nI T) = (o, r, Gx', nI T') ∧ f_X6_after a0 Th (nI d) (nI T) Tt Td = (r', th, nI T', Tt', Td') ∧ (o = 0 ∨ o = 1 ∨ o = 4 ∨ o = 3) ∧ th = k_L_after o ∧ (o = 0 → r = r') ∧ T' ≤ 60 ∧ RD d T' Gt Td' ∧ (∀ q, q < T' → Gx' q = Tt' q) := by
  have t1 : ¬ nI T < 0 := nolt (by omega)
  have i1 : (nI T < 60) ↔ T < 60 := nI_ltI (b := 60) (by omega) (by omega)
  have i2 : (nI T = 60) ↔ T = 60 := nI_eq (b := 60) (by omega) (by omega)
  have i3 : ((60 : Int32) ≤ nI T) ↔ 60 ≤ T := nI_leI (a := 60) (by omega) (by omega)
  have i4 : (0 < nI d) ↔ 0 < d := nI_ltI (a := 0) (by omega) (by omega)
  have i5 : (nI d = 0) ↔ d = 0 := nI_eq (b := 0) (by omega) (by omega)
  have i6 : (nI d ≤ 0) ↔ d ≤ 0 := nI_leI (b := 0) (by omega) (by omega)
  have i7 : ((20 : Int32) < nI d) ↔ 20 < d := nI_ltI (a := 20) (by omega) (by omega)
  unfold S_X5_after S_X6_after f_X5_after f_X6_after S_X2_append S_X2_firstToken f_X2_append f_X2_firstToken
  rw [in_eq]
  rcases checkTok a0 with ⟨e1, e2⟩ | ⟨e1, e2⟩
  · simp only [e1, e2, ne10, if_false, if_true]
    by_cases hd0 : d = 0
    · have n4 : ¬ 0 < nI d := fun z => by have := i4.mp z; omega
      have n5 := i5.mpr hd0
      simp only [n4, n5, if_false, if_true]
      exact ⟨fun u1 _ _ => ⟨fun z => absurd z (by simp), fun _ => True.intro⟩, ⟨fun z => absurd z (by decide), fun _ => ⟨fun _ => True.intro, fun z => absurd trivial z⟩⟩, 4, 0, 0, 2, Gx, Tt, Td, T, rfl, rfl, Or.inr (Or.inr (Or.inl rfl)), rfl, fun z => absurd z (by decide), hT, h2, h3⟩
    · have n4 : 0 < nI d := i4.mpr (by omega)
      have n5 : ¬ nI d = 0 := fun z => hd0 (i5.mp z)
      have n6 : ¬ nI d ≤ 0 := fun z => by have := i6.mp z; omega
      have n7 : ¬ (20 : Int32) < nI d := fun z => by have := i7.mp z; omega
      by_cases hT0 : T = 60
      · have m1 : ¬ nI T < 60 := fun z => by have := i1.mp z; omega
        have m2 := i2.mpr hT0
        simp only [n4, n5, t1, m1, m2, if_false, if_true]
        exact ⟨fun u1 _ _ => ⟨fun _ => ⟨fun _ => True.intro, fun _ => ⟨fun z => absurd z (by simp), fun _ => True.intro⟩⟩, fun _ => True.intro⟩, ⟨fun z => absurd z (by decide), fun _ => ⟨fun _ => True.intro, fun _ => ⟨fun _ => True.intro, fun z => absurd trivial z⟩⟩⟩, 3, 0, 0, 3, Gx, Tt, Td, T, by rw [m2]; rfl, by rw [m2], Or.inr (Or.inr (Or.inr rfl)), rfl, fun z => absurd z (by decide), hT, h2, h3⟩
      · have m1 : nI T < 60 := i1.mpr (by omega)
        have m2 : ¬ nI T = 60 := fun z => hT0 (i2.mp z)
        have m3 : ¬ (60 : Int32) ≤ nI T := fun z => by have := i3.mp z; omega
        obtain ⟨g, g1, g2, g3⟩ := RD_first h2 (by omega)
        have c1 : (nI T).toNatClampNeg = T := clN (by omega)
        have c2 : nI T + 1 = nI (T + 1) := (nI_succ T).symm
        have c3 : nI d - 1 = nI (d - 1) := pk_sub (b := 1) (by omega)
        have c4 : (nI (d - 1)).toNatClampNeg = d - 1 := clN (by omega)
        have hfirst : ∀ q, q < T + 1 → (upd Td T (nI d) q = nI d ↔ g ≤ q) := by
          intro q hq
          by_cases z : q = T
          · simp only [uI, if_pos z]
            exact ⟨fun _ => by omega, fun _ => trivial⟩
          · simp only [uI, if_neg z]
            obtain ⟨e, k1, k2, k3, k4⟩ := g3 q (by omega)
            rw [k1, k4]
            exact nI_eq (by omega) (by omega)
        obtain ⟨s1, s2⟩ := L_aft (n := T + 1) (g := g) (d := d) (by omega) hd (by omega) hfirst 61 0 0 (by omega) (by omega)
        simp only [n4, n5, n6, n7, t1, m1, m2, m3, c1, c2, c3, c4, if_false, if_true]
        refine ⟨fun u1 _ _ => ⟨fun _ => ⟨fun z => absurd z (by simp), fun _ => ⟨fun _ => ⟨⟨fun z => absurd z (by simp), fun _ => ⟨fun z => absurd z (by simp), fun _ => ⟨vin (by omega) (by omega), True.intro⟩⟩⟩, fun u8 _ => ⟨⟨fun z => absurd z (by simp), fun _ => ⟨fun z => absurd z (by simp), fun _ => ⟨vin (by omega) (by omega), True.intro⟩⟩⟩, fun _ _ => True.intro⟩⟩, fun z => absurd trivial z⟩⟩, fun z => absurd trivial z⟩, ⟨fun z => absurd z (by decide), fun _ => ⟨fun z => absurd z (by simp), fun _ => ⟨fun z => absurd z (by simp), fun _ => ⟨vin (by omega) (by omega), vin (by omega) (by omega), s1, fun _ _ => True.intro⟩⟩⟩⟩, 0, _, _, 0, upd Gx T a0, upd Tt T a0, upd Td T (nI d), T + 1, rfl, rfl, Or.inl rfl, rfl, fun _ => ?_, by omega, RD_push h2 (by omega), fun q hq => ?_⟩
        · rw [g2, pk_sub (by omega)]
          have s3 : (L_X6_after_91 61 0 0 (nI d) (nI (T + 1)) (upd Td T (nI d))).1 = nI (0 + (T + 1 - max g 0)) := s2
          rw [s3]
          congr 1
          omega
        · by_cases z : q = T
          · simp only [uI, if_pos z]
          · simp only [uI, if_neg z]
            exact h3 q (by omega)
  · simp only [e1, e2, if_true, if_false]
    exact ⟨fun u1 hu h1 => absurd h1 (by rw [hu]; decide), ⟨fun _ => True.intro, fun z => absurd trivial z⟩, 1, 0, 0, 1, Gx, Tt, Td, T, by rw [if_neg (by decide)], rfl, Or.inr (Or.inl rfl), rfl, fun z => absurd z (by decide), hT, h2, h3⟩
theorem r_behind {B : Nat} {Ex Bt : Nat → Int32} (hB : B ≤ 60) (h : ∀ q, q < B → Ex q = Bt q) (a0 Th : Int32) :
    S_X5_behind a0 Ex (nI B) ∧ S_X6_behind a0 Th (nI B) Bt ∧ f_X6_behind a0 Th (nI B) Bt = (f_X5_behind a0 Ex (nI B), 0) := by
  unfold S_X5_behind S_X6_behind f_X5_behind f_X6_behind
  rcases ixN a0 B (by omega) with h1 | h1 | ⟨j, hj, rfl⟩
  · simp only [h1, if_true]
    exact ⟨⟨fun _ => True.intro, fun z => absurd trivial z⟩, ⟨fun _ => True.intro, fun z => absurd trivial z⟩, trivial⟩
  · have h2 : ¬ a0 < 0 := fun z => by
      rw [i32lt] at z; rw [i32le, nI_toInt (by omega)] at h1; have e0 : (0 : Int32).toInt = 0 := rfl; omega
    simp only [h1, h2, if_true, if_false]
    exact ⟨⟨fun z => z.elim, fun _ => ⟨fun _ => True.intro, fun z => absurd trivial z⟩⟩, ⟨fun z => z.elim, fun _ => ⟨fun _ => True.intro, fun z => absurd trivial z⟩⟩, trivial⟩
  · have h2 : ¬ nI j < 0 := nolt (by omega)
    have h3 : ¬ nI B ≤ nI j := fun z => by have := (nI_leI (by omega) (by omega)).mp z; omega
    have h4 : nI j < 60 := (nI_ltI (b := 60) (by omega) (by omega)).mpr (by omega)
    have c1 : (nI j).toNatClampNeg = j := clN (by omega)
    simp only [h2, h3, h4, c1, if_true, if_false]
    exact ⟨⟨fun z => z.elim, fun _ => ⟨fun z => z.elim, fun _ => ⟨fun _ => ⟨vin (by omega) (by omega), True.intro⟩, fun z => absurd trivial z⟩⟩⟩, ⟨fun z => z.elim, fun _ => ⟨fun z => z.elim, fun _ => ⟨vin (by omega) (by omega), True.intro⟩⟩⟩, by rw [h j hj]⟩
theorem gone_in {G : Nat} (hG : G ≤ 200) (a : Int32) : (∃ j, j < G ∧ a = nI j ∧ f_X5_within a.toInt64 0 ((nI G).toInt64 - 1) = 1) ∨ (f_X5_within a.toInt64 0 ((nI G).toInt64 - 1) = 0 ∧ (a < 0 ∨ nI G ≤ a)) := by
  have e : ((nI G).toInt64 - 1).toInt = (G : Int) - 1 := by
    rw [nI_l (by omega)]
    rcases Nat.eq_zero_or_pos G with z | z
    · subst z; rfl
    · rw [show (1 : Int64) = lN 1 from rfl, lN_sub (by omega), lN_toInt (by omega)]
      omega
  rcases win a.toInt64 0 ((nI G).toInt64 - 1) with ⟨h, b1, b2⟩ | ⟨h, b⟩
  · rw [i3264] at b1 b2
    rw [e] at b2
    have l0 : (0 : Int64).toInt = 0 := rfl
    obtain ⟨j, hj, rfl⟩ := nIr (a := a) (n := G - 1) (by omega) (by omega) (by omega)
    rw [nI_toInt (by omega)] at b2
    exact Or.inl ⟨j, by omega, rfl, h⟩
  · refine Or.inr ⟨h, ?_⟩
    rw [i3264, e] at b
    rcases ixN a G (by omega) with h1 | h1 | ⟨j, hj, rfl⟩
    · exact Or.inl h1
    · exact Or.inr h1
    · rw [nI_toInt (by omega)] at b
      have l0 : (0 : Int64).toInt = 0 := rfl
      exact absurd ⟨by omega, by omega⟩ b
theorem wh2 (a : Int32) : (f_X5_within a.toInt64 0 2 = 1 ∧ (a = 0 ∨ a = 1 ∨ a = 2)) ∨ f_X5_within a.toInt64 0 2 = 0 := by
  rcases win a.toInt64 0 2 with ⟨e, b1, b2⟩ | ⟨e, b⟩
  · rw [i3264] at b1 b2
    obtain ⟨j, hj, rfl⟩ := nIr (a := a) (n := 2) b1 b2 (by omega)
    refine Or.inl ⟨e, ?_⟩
    rcases (show j = 0 ∨ j = 1 ∨ j = 2 by omega) with rfl | rfl | rfl
    · exact Or.inl rfl
    · exact Or.inr (Or.inl rfl)
    · exact Or.inr (Or.inr rfl)
  · exact Or.inr e
theorem r_restored {G : Nat} {Ek Er Ea Gg Ga : Nat → Int32} (hG : G ≤ 200) (h : RE G Ek Er Ea Gg Ga) (a0 a1 Th : Int32) :
    S_X5_restored a0 a1 Ek Er Ea (nI G) ∧ S_X6_restored a0 a1 Th (nI G) Gg Ga ∧ ∃ (o : Nat) (r r' th : Int32), f_X5_restored a0 a1 Ek Er Ea (nI G) = (o, r) ∧ f_X6_restored a0 a1 Th (nI G) Gg Ga = (r', th) ∧ (o = 0 ∨ o = 2) ∧ th = k_L_restored o ∧ (o = 0 → r = r') := by
  unfold S_X5_restored S_X6_restored f_X5_restored f_X6_restored
  rw [in_eq]
  rcases gone_in hG a0 with ⟨j, hj, rfl, e1⟩ | ⟨e1, h1⟩
  · have h2 : ¬ nI j < 0 := nolt (by omega)
    have h3 : ¬ nI G ≤ nI j := fun z => by have := (nI_leI (by omega) (by omega)).mp z; omega
    have h4 : ¬ (200 : Int32) ≤ nI j := fun z => by have := (nI_leI (a := 200) (by omega) (by omega)).mp z; omega
    have c1 : (nI j).toNatClampNeg = j := clN (by omega)
    have hv : vp_in (nI j) 200 := vin (by omega) (by omega)
    obtain ⟨k, r, hk, hr, k1, k2, k3, k4⟩ := h j hj
    have d1 : nI (32 * k + r) / (32 : Int32) = nI k := by
      rw [show (32 : Int32) = nI 32 from rfl, pk_div (by omega) (by omega) (by omega)]
      congr 1; omega
    have d2 : nI (32 * k + r) - nI (32 * k + r) / (32 : Int32) * (32 : Int32) = nI r := by
      rw [show (32 : Int32) = nI 32 from rfl, pk_rem (by omega) (by omega) (by omega)]
      congr 1; omega
    rw [d1] at d2
    rcases wh2 a1 with ⟨e2, h5⟩ | e2
    · simp only [e1, e2, h2, h3, h4, c1, ne10, if_false, k1, k2, k3, k4, d1, d2]
      rcases h5 with rfl | rfl | rfl
      · simp only [if_true]
        exact ⟨⟨fun z => z.elim, fun _ => ⟨fun z => z.elim, fun _ => ⟨fun z => z.elim, fun _ => ⟨fun z => z.elim, fun _ => ⟨fun _ => ⟨hv, True.intro⟩, fun z => absurd trivial z⟩⟩⟩⟩⟩, ⟨fun z => z.elim, fun _ => ⟨fun z => z.elim, fun _ => ⟨fun _ => ⟨hv, True.intro⟩, fun z => absurd trivial z⟩⟩⟩, 0, _, _, 0, rfl, rfl, Or.inl rfl, rfl, fun _ => rfl⟩
      · simp only [ne10, if_true, if_false]
        exact ⟨⟨fun z => z.elim, fun _ => ⟨fun z => z.elim, fun _ => ⟨fun z => z.elim, fun _ => ⟨fun z => z.elim, fun _ => ⟨fun z => z.elim, fun _ => ⟨fun _ => ⟨hv, True.intro⟩, fun z => absurd trivial z⟩⟩⟩⟩⟩⟩, ⟨fun z => z.elim, fun _ => ⟨fun z => z.elim, fun _ => ⟨fun z => z.elim, fun _ => ⟨fun _ => ⟨hv, True.intro⟩, fun z => absurd trivial z⟩⟩⟩⟩, 0, _, _, 0, rfl, rfl, Or.inl rfl, rfl, fun _ => rfl⟩
      · simp only [show ¬ (2 : Int32) = 0 from by decide, show ¬ (2 : Int32) = 1 from by decide, if_false]
        exact ⟨⟨fun z => z.elim, fun _ => ⟨fun z => z.elim, fun _ => ⟨fun z => z.elim, fun _ => ⟨fun z => z.elim, fun _ => ⟨fun z => z.elim, fun _ => ⟨fun z => z.elim, fun _ => ⟨hv, True.intro⟩⟩⟩⟩⟩⟩⟩, ⟨fun z => z.elim, fun _ => ⟨fun z => z.elim, fun _ => ⟨fun z => z.elim, fun _ => ⟨fun z => z.elim, fun _ => ⟨hv, True.intro⟩⟩⟩⟩⟩, 0, _, _, 0, rfl, rfl, Or.inl rfl, rfl, fun _ => rfl⟩
    · simp only [e1, e2, h2, h3, h4, ne10, if_false, if_true]
      exact ⟨⟨fun z => z.elim, fun _ => ⟨fun z => z.elim, fun _ => ⟨fun z => z.elim, fun _ => ⟨fun _ => True.intro, fun z => absurd trivial z⟩⟩⟩⟩, ⟨fun z => z.elim, fun _ => ⟨fun _ => True.intro, fun z => absurd trivial z⟩⟩, 2, 0, 0, 1, rfl, rfl, Or.inr rfl, rfl, fun z => absurd z (by decide)⟩
  · simp only [e1, if_true]
    by_cases h2 : a0 < 0
    · simp only [h2, if_true]
      exact ⟨⟨fun _ => True.intro, fun z => absurd trivial z⟩, ⟨fun _ => True.intro, fun z => absurd trivial z⟩, 2, 0, 0, 1, rfl, rfl, Or.inr rfl, rfl, fun z => absurd z (by decide)⟩
    · have h3 : nI G ≤ a0 := h1.resolve_left h2
      simp only [h2, h3, if_true, if_false]
      exact ⟨⟨fun z => z.elim, fun _ => ⟨fun _ => True.intro, fun z => absurd trivial z⟩⟩, ⟨fun _ => True.intro, fun z => absurd trivial z⟩, 2, 0, 0, 1, rfl, rfl, Or.inr rfl, rfl, fun z => absurd z (by decide)⟩
theorem r_scaled (a0 a1 a2 Th : Int32) : S_X5_scaled a0 a1 a2 ∧ S_X6_scaled a0 a1 a2 Th ∧ ((f_X5_scaled a0 a1 a2).1 = 0 ∨ (f_X5_scaled a0 a1 a2).1 = 1) := by
  refine ⟨?_, ?_, ?_⟩
  · unfold S_X5_scaled
    refine ⟨fun _ => True.intro, fun _ => ⟨fun _ => True.intro, fun h2 => ⟨fun _ => True.intro, fun h3 => ⟨fun _ => True.intro, fun _ => ?_⟩⟩⟩⟩
    rcases win a2.toInt64 0 8 with ⟨e, b1, b2⟩ | ⟨e, b⟩
    · rw [i3264] at b1 b2
      obtain ⟨j, hj, rfl⟩ := nIr (a := a2) (n := 8) b1 b2 (by omega)
      have hj8 : j < 8 := by
        rcases Nat.lt_or_ge j 8 with z | z
        · exact z
        · exact absurd (show nI j = 8 by rw [show j = 8 by omega]; rfl) h3
      refine ⟨vin hj8 (by omega), vin hj8 (by omega), ⟨fun z => ?_, fun _ => True.intro⟩, fun _ => True.intro, fun _ => True.intro⟩
      have hz : ¬ gDENS (nI j) = 0 := fun y => by rw [y] at z; exact absurd z (by decide)
      exact ⟨hz, hz, hz, True.intro⟩
    · exact absurd e h2
  · unfold S_X6_scaled
    have hz : ¬ f_X6_lowOf a2 = 0 := by
      unfold f_X6_lowOf
      by_cases y0 : a2 = 0
      · rw [if_pos y0]; decide
      · rw [if_neg y0]
        by_cases y1 : a2 = 2
        · rw [if_pos y1]; decide
        · rw [if_neg y1]
          by_cases y2 : a2 = 1
          · rw [if_pos y2]; decide
          · rw [if_neg y2]
            by_cases y3 : a2 = 3
            · rw [if_pos y3]; decide
            · rw [if_neg y3]
              by_cases y4 : a2 = 4
              · rw [if_pos y4]; decide
              · rw [if_neg y4]
                by_cases y5 : a2 = 5
                · rw [if_pos y5]; decide
                · rw [if_neg y5]; decide
    exact ⟨fun _ => True.intro, fun _ => ⟨fun _ => True.intro, fun _ => ⟨fun _ => True.intro, fun _ => ⟨fun _ => ⟨fun _ => True.intro, fun _ => True.intro⟩, fun _ => ⟨hz, hz, hz, fun _ => True.intro, fun _ => True.intro⟩⟩⟩⟩⟩
  · unfold f_X5_scaled
    repeat' split
    all_goals first | exact Or.inl rfl | exact Or.inr rfl
