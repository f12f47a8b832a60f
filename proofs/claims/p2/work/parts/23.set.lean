/-! set -/
def gS (k : Nat) (v : Int64) (Ug Ur : Nat → Int64) (j : Nat) : Int64 := if k = 3 then Ur j else if k = 2 then (if 5 ≤ j then 0 else Ug j) else if j = 0 then v else 0
theorem L_set57 {k : Nat} (hk : k < 5) (v : Int64) (Ug Ur : Nat → Int64) : ∀ (n x : Nat) (Va : Nat → Int64), x ≤ 21 → 21 - x < n → SL_X6_set_57 n (nI x) Va (nI k) v Ug Ur ∧ (L_X6_set_57 n (nI x) Va (nI k) v Ug Ur).2 = fl Va 0 (gS k v Ug Ur) x := by
  intro n
  induction n with
  | zero => intro x Va _ h; exact absurd h (Nat.not_lt_zero _)
  | succ n ih =>
    intro x Va hx h
    rw [SL_X6_set_57, L_X6_set_57]
    by_cases hc : 21 ≤ x
    · have y : (21 : Int32) ≤ nI x := (n21 x (by omega)).mpr hc
      rw [if_pos y]
      exact ⟨⟨fun _ => True.intro, fun z => absurd y z⟩, (fl_end _ _ _ hc).symm⟩
    · have y : ¬ (21 : Int32) ≤ nI x := fun z => hc ((n21 x (by omega)).mp z)
      have i3 : (nI k = (3 : Int32)) ↔ k = 3 := nI_eq (b := 3) (by omega) (by omega)
      have i2 : (nI k = (2 : Int32)) ↔ k = 2 := nI_eq (b := 2) (by omega) (by omega)
      have i0 : (nI x = 0) ↔ x = 0 := nI_eq (b := 0) (by omega) (by omega)
      have i5 : ((5 : Int32) ≤ nI x) ↔ 5 ≤ x := nI_leI (a := 5) (by omega) (by omega)
      have hx2 : vp_in (nI x) 21 := vin (by omega) (by omega)
      have st : ∀ w, w = gS k v Ug Ur x → SL_X6_set_57 n (nI (x + 1)) (vp_updL Va x w) (nI k) v Ug Ur ∧ (L_X6_set_57 n (nI (x + 1)) (vp_updL Va x w) (nI k) v Ug Ur).2 = fl Va 0 (gS k v Ug Ur) x := by
        intro w hw
        obtain ⟨s1, s2⟩ := ih (x + 1) (vp_updL Va x w) (by omega) (by omega)
        refine ⟨s1, ?_⟩
        rw [s2, hw]
        have e := fl_step Va 0 (gS k v Ug Ur) (x := x) (by omega)
        rw [Nat.zero_add] at e
        exact e
      rw [if_neg y, clN (n := x) (by omega), ← nI_succ]
      by_cases h3 : k = 3
      · obtain ⟨s1, s2⟩ := st (Ur x) (by unfold gS; rw [if_pos h3])
        rw [if_pos (i3.mpr h3)]
        exact ⟨⟨fun z => absurd z y, fun _ => ⟨fun _ => ⟨hx2, hx2, s1⟩, fun z => absurd (i3.mpr h3) z⟩⟩, s2⟩
      · rw [if_neg (fun z => h3 (i3.mp z))]
        by_cases h2 : k = 2
        · rw [if_pos (i2.mpr h2)]
          by_cases h5 : 5 ≤ x
          · obtain ⟨s1, s2⟩ := st 0 (by unfold gS; rw [if_neg h3, if_pos h2, if_pos h5])
            rw [if_pos (i5.mpr h5)]
            exact ⟨⟨fun z => absurd z y, fun _ => ⟨fun z => absurd (i3.mp z) h3, fun _ => ⟨fun _ => ⟨fun _ => ⟨hx2, s1⟩, fun z => absurd (i5.mpr h5) z⟩, fun z => absurd (i2.mpr h2) z⟩⟩⟩, s2⟩
          · obtain ⟨s1, s2⟩ := st (Ug x) (by unfold gS; rw [if_neg h3, if_pos h2, if_neg h5])
            rw [if_neg (fun z => h5 (i5.mp z))]
            exact ⟨⟨fun z => absurd z y, fun _ => ⟨fun z => absurd (i3.mp z) h3, fun _ => ⟨fun _ => ⟨fun z => absurd (i5.mp z) h5, fun _ => ⟨vin (by omega) (by omega), hx2, s1⟩⟩, fun z => absurd (i2.mpr h2) z⟩⟩⟩, s2⟩
        · rw [if_neg (fun z => h2 (i2.mp z))]
          by_cases h0 : x = 0
          · obtain ⟨s1, s2⟩ := st v (by unfold gS; rw [if_neg h3, if_neg h2, if_pos h0])
            rw [if_pos (i0.mpr h0)]
            exact ⟨⟨fun z => absurd z y, fun _ => ⟨fun z => absurd (i3.mp z) h3, fun _ => ⟨fun z => absurd (i2.mp z) h2, fun _ => ⟨fun _ => ⟨hx2, s1⟩, fun z => absurd (i0.mpr h0) z⟩⟩⟩⟩, s2⟩
          · obtain ⟨s1, s2⟩ := st 0 (by unfold gS; rw [if_neg h3, if_neg h2, if_neg h0])
            rw [if_neg (fun z => h0 (i0.mp z))]
            exact ⟨⟨fun z => absurd z y, fun _ => ⟨fun z => absurd (i3.mp z) h3, fun _ => ⟨fun z => absurd (i2.mp z) h2, fun _ => ⟨fun z => absurd (i0.mp z) h0, fun _ => ⟨hx2, s1⟩⟩⟩⟩⟩, s2⟩
theorem set57 {k : Nat} (hk : k < 5) (v : Int64) (Ug Ur Va : Nat → Int64) : SL_X6_set_57 22 (0 : Int32) Va (nI k) v Ug Ur ∧ ∀ j, j < 21 → (L_X6_set_57 22 (0 : Int32) Va (nI k) v Ug Ur).2 j = gS k v Ug Ur j := by
  obtain ⟨s1, s2⟩ := L_set57 hk v Ug Ur 22 0 Va (by omega) (by omega)
  refine ⟨s1, fun j hj => ?_⟩
  have s2 : (L_X6_set_57 22 (0 : Int32) Va (nI k) v Ug Ur).2 = fl Va 0 (gS k v Ug Ur) 0 := s2
  rw [s2]
  have e := fl_in (f := Va) (b := 0) (s := gS k v Ug Ur) hj
  rw [Nat.zero_add] at e
  exact e
theorem S_given (a : Int32) (v : Int64) (Wg Wr Md : Nat → Int64) : S_X5_makeGiven a v Wg Wr Md :=
  ⟨fun _ => ⟨by decide, by decide, by decide, by decide, by decide, True.intro⟩, fun _ => ⟨fun _ => ⟨by decide, by decide, by decide, by decide, by decide, True.intro⟩, fun _ => ⟨v21 0 (by omega), True.intro⟩⟩⟩
theorem given_at {k : Nat} (hk : k < 5) (v : Int64) {Wg Wr Ug Ur : Nat → Int64} (hG : ∀ j, j < 5 → Wg j = Ug j) (hR : ∀ j, j < 21 → Wr j = Ur j) (Md : Nat → Int64) : ∀ j, j < wd k → f_X5_makeGiven (nI k) v Wg Wr Md j = gS k v Ug Ur j := by
  intro j hj
  have i3 : (nI k = (3 : Int32)) ↔ k = 3 := nI_eq (b := 3) (by omega) (by omega)
  have i2 : (nI k = (2 : Int32)) ↔ k = 2 := nI_eq (b := 2) (by omega) (by omega)
  unfold f_X5_makeGiven gS
  by_cases h2 : k = 2
  · subst h2
    have hj : j < 5 := hj
    rw [if_pos (i2.mpr rfl), if_neg (by decide), if_pos rfl, if_neg (by omega), ← hG j hj]
    have e := cpy_in (f := Wg) (g := Md) (sp := 0) (dp := 0) (n := 5) hj
    rw [Nat.zero_add] at e
    exact e
  · rw [if_neg (fun z => h2 (i2.mp z))]
    by_cases h3 : k = 3
    · subst h3
      have hj : j < 21 := hj
      rw [if_pos (i3.mpr rfl), if_pos rfl, ← hR j hj]
      have e := cpy_in (f := Wr) (g := Md) (sp := 0) (dp := 0) (n := 21) hj
      rw [Nat.zero_add] at e
      exact e
    · have hj0 : j = 0 := by
        rcases (show k = 0 ∨ k = 1 ∨ k = 4 by omega) with rfl | rfl | rfl
        · have : wd 0 = 1 := rfl
          omega
        · have : wd 1 = 1 := rfl
          omega
        · have : wd 4 = 1 := rfl
          omega
      subst hj0
      rw [if_neg (fun z => h3 (i3.mp z)), if_neg h3, if_neg h2, if_pos rfl, uL, cl0, if_pos rfl]
theorem n01 : ¬ (0 : Int32) = 1 := by decide
theorem n30 : ¬ (3 : Nat) = 0 := by decide
theorem row0 {Wr Ur : Nat → Int64} (h : ∀ j, j < 21 → Wr j = Ur j) : okV 3 (vp_updL Ur (0 : Int32).toNatClampNeg (0 : Int64)) ∧ ∀ j, j < 21 → vp_updL Wr (0 : Int32).toNatClampNeg (0 : Int64) j = vp_updL Ur (0 : Int32).toNatClampNeg (0 : Int64) j := by
  refine ⟨⟨fun z => absurd z (by decide), fun z => absurd z (by decide), fun z => absurd z (by decide), fun _ => ⟨0, by omega, ?_⟩, fun z => absurd z (by decide)⟩, fun j hj => ?_⟩
  · rw [uL, cl0, if_pos rfl]; rfl
  · simp only [uL, cl0]
    by_cases z : j = 0
    · rw [if_pos z, if_pos z]
    · rw [if_neg z, if_neg z]; exact h j hj
theorem r_set {d K : Nat} {Bc Ce : Nat → Int64} {Bl Le Pk Pr Pl Ko Kl Kd Gf : Nat → Int32} {Pc Kc Wg Wr Ug Ur : Nat → Int64} (hd : d ≤ 20) (hK : K ≤ 200)
    (hV : RV Bc Ce) (hL : RLv Bl Le) (hP : RP K Pk Pr Pl Pc Ko Kl Kc) (hQ : RKv K Kl) (hD : RD d K Gf Kd) (hG : okV 2 Ug ∧ ∀ j, j < 5 → Wg j = Ug j) (hR : okV 3 Ur ∧ ∀ j, j < 21 → Wr j = Ur j) (a0 a1 : Int32) (a2 : Int64) (a3 Th : Int32) (Md Va : Nat → Int64) :
    S_X5_set a0 a1 a2 a3 Bc Bl Pk Pr Pl Pc (nI K) (nI d) Wg Wr Md ∧ S_X6_set a0 a1 a2 a3 Th Ce Le (nI d) (nI K) Kc Ko Kl Kd Ug Ur Va ∧
    ∃ (o : Nat) (y y' th : Int32) (Bc' : Nat → Int64) (Bl' Pk' Pr' Pl' : Nat → Int32) (Pc' : Nat → Int64) (K' : Nat) (Wr' Md' Ce' : Nat → Int64) (Le' : Nat → Int32) (Kc' : Nat → Int64) (Ko' Kl' Kd' : Nat → Int32) (Ur' Va' : Nat → Int64),
      f_X5_set a0 a1 a2 a3 Bc Bl Pk Pr Pl Pc (nI K) (nI d) Wg Wr Md = (o, y, Bc', Bl', Pk', Pr', Pl', Pc', nI K', Wr', Md') ∧
      f_X6_set a0 a1 a2 a3 Th Ce Le (nI d) (nI K) Kc Ko Kl Kd Ug Ur Va = (y', th, Ce', Le', nI K', Kc', Ko', Kl', Kd', Ur', Va') ∧
      (o = 0 ∨ o = 1 ∨ o = 2 ∨ o = 3) ∧ th = k_L_set o ∧ (o = 0 → y = y') ∧ K' ≤ 200 ∧ RV Bc' Ce' ∧ RLv Bl' Le' ∧ RP K' Pk' Pr' Pl' Pc' Ko' Kl' Kc' ∧ RKv K' Kl' ∧ RD d K' Gf Kd' ∧ (okV 3 Ur' ∧ ∀ j, j < 21 → Wr' j = Ur' j) := by
  unfold S_X5_set S_X6_set f_X5_set f_X6_set
  rw [in_eq]
  rcases kin4 a0 with ⟨k, hk, rfl, e1, e2⟩ | ⟨e1, e2⟩
  · have i4 : (nI k = (4 : Int32)) ↔ k = 4 := nI_eq (b := 4) (by omega) (by omega)
    rcases reg a1 with ⟨r, hr, rfl, e3, e4⟩ | ⟨e3, e4⟩
    · obtain ⟨sl, el⟩ := set57 hk a2 Ug Ur Va
      have hv : ∀ j, j < wd k → f_X5_makeGiven (nI k) a2 Wg Wr Md j = (L_X6_set_57 22 (0 : Int32) Va (nI k) a2 Ug Ur).2 j := by
        intro j hj
        have hw := wd_le hk
        rw [given_at hk a2 hG.2 hR.2 Md j hj, el j (by omega)]
      have h2 : k = 2 → (0 ≤ ((L_X6_set_57 22 (0 : Int32) Va (nI k) a2 Ug Ur).2 2).toInt ∧ ((L_X6_set_57 22 (0 : Int32) Va (nI k) a2 Ug Ur).2 2).toInt ≤ 3) ∧ (0 ≤ ((L_X6_set_57 22 (0 : Int32) Va (nI k) a2 Ug Ur).2 4).toInt ∧ ((L_X6_set_57 22 (0 : Int32) Va (nI k) a2 Ug Ur).2 4).toInt ≤ 3) := by
        intro z
        rw [el 2 (by omega), el 4 (by omega)]
        subst z
        exact (hG.1.2.2.1 rfl).2.2.2
      have h3 : k = 3 → ∃ n, n ≤ 20 ∧ (L_X6_set_57 22 (0 : Int32) Va (nI k) a2 Ug Ur).2 0 = lN n := by
        intro z
        rw [el 0 (by omega)]
        subst z
        exact hR.1.2.2.2.1 rfl
      have h4 : (k = 4 → -1 ≤ a2.toInt ∧ a2.toInt ≤ 999) → k = 4 → -1 ≤ ((L_X6_set_57 22 (0 : Int32) Va (nI k) a2 Ug Ur).2 0).toInt ∧ ((L_X6_set_57 22 (0 : Int32) Va (nI k) a2 Ug Ur).2 0).toInt ≤ 999 := by
        intro h z
        rw [el 0 (by omega)]
        have z1 := h z
        subst z
        exact z1
      by_cases k4 : nI k = (4 : Int32)
      · rcases win a2 (-1) 999 with ⟨e9, b1, b2⟩ | ⟨e9, b⟩
        · obtain ⟨s5, s6, o, y, th, Bc', Bl', Pk', Pr', Pl', Pc', K', Ce', Le', Kc', Ko', Kl', Kd', e5, e6, hc, hK', rest⟩ := r_fin hd hK hV hL hP hQ hD hk hr a3 3 (by decide) hv h2 h3 (h4 (fun _ => ⟨b1, b2⟩))
          refine ⟨fun u1 _ _ => ⟨fun _ => ⟨fun _ => True.intro, fun _ u14 _ _ => ⟨S_given _ _ _ _ _, fun u17 e17 => by rw [e17]; exact ⟨s5, fun _ _ _ => ⟨fun _ => ⟨v21 0 (by omega), True.intro⟩, fun _ => True.intro⟩⟩⟩⟩, fun _ u14 _ _ => ⟨S_given _ _ _ _ _, fun u17 e17 => by rw [e17]; exact ⟨s5, fun _ _ _ => ⟨fun _ => ⟨v21 0 (by omega), True.intro⟩, fun _ => True.intro⟩⟩⟩⟩,
            ⟨fun _ => True.intro, fun _ => ⟨fun _ => ⟨fun _ => True.intro, fun _ => ⟨fun _ => True.intro, fun _ => ⟨sl, fun u33 e33 => by rw [e33]; exact ⟨s6, fun _ _ => ⟨fun _ => ⟨fun _ => ⟨v21 0 (by omega), True.intro⟩, fun _ => True.intro⟩, fun _ => True.intro⟩⟩⟩⟩⟩, fun _ => ⟨fun _ => True.intro, fun _ => ⟨sl, fun u33 e33 => by rw [e33]; exact ⟨s6, fun _ _ => ⟨fun _ => ⟨fun _ => ⟨v21 0 (by omega), True.intro⟩, fun _ => True.intro⟩, fun _ => True.intro⟩⟩⟩⟩⟩⟩, ?_⟩
          simp only [e1, e2, e3, e4, e9, if_pos k4, ne10, if_true, if_false, e5, e6]
          rcases hc with ⟨rfl, rfl, hy⟩ | ⟨rfl, rfl, rfl⟩
          · rcases hy with rfl | ⟨rfl, hk3⟩
            · by_cases k3 : nI k = (3 : Int32)
              · simp only [k3, if_true]
                exact ⟨0, _, _, _, _, _, _, _, _, _, K', _, _, _, _, _, _, _, _, _, _, rfl, rfl, Or.inl rfl, rfl, fun _ => rfl, hK', rest.1, rest.2.1, rest.2.2.1, rest.2.2.2.1, rest.2.2.2.2, row0 hR.2⟩
              · simp only [k3, if_true, if_false]
                exact ⟨0, _, _, _, _, _, _, _, _, _, K', _, _, _, _, _, _, _, _, _, _, rfl, rfl, Or.inl rfl, rfl, fun _ => rfl, hK', rest.1, rest.2.1, rest.2.2.1, rest.2.2.2.1, rest.2.2.2.2, hR⟩
            · have k3 : ¬ nI k = (3 : Int32) := fun z => hk3 ((nI_eq (b := 3) (by omega) (by omega)).mp z)
              simp only [k3, n01, if_true, if_false]
              exact ⟨0, _, _, _, _, _, _, _, _, _, K', _, _, _, _, _, _, _, _, _, _, rfl, rfl, Or.inl rfl, rfl, fun _ => rfl, hK', rest.1, rest.2.1, rest.2.2.1, rest.2.2.2.1, rest.2.2.2.2, hR⟩
          · simp only [n01, n30, if_false]
            exact ⟨3, _, _, _, _, _, _, _, _, _, K', _, _, _, _, _, _, _, _, _, _, rfl, rfl, Or.inr (Or.inr (Or.inr rfl)), rfl, fun z => absurd z (by decide), hK', rest.1, rest.2.1, rest.2.2.1, rest.2.2.2.1, rest.2.2.2.2, hR⟩
        · simp only [e1, e2, e3, e4, e9, if_pos k4, ne10, if_true, if_false]
          exact ⟨fun u1 _ _ => ⟨fun _ => ⟨fun _ => True.intro, fun z => absurd trivial z⟩, fun z => absurd k4 z⟩, ⟨fun _ => True.intro, fun _ => ⟨fun _ => ⟨fun _ => True.intro, fun z => absurd trivial z⟩, fun z => absurd k4 z⟩⟩, 1, 0, 0, 1, Bc, Bl, Pk, Pr, Pl, Pc, K, Wr, Md, Ce, Le, Kc, Ko, Kl, Kd, Ur, Va, by first | rfl | (rw [if_neg (by decide)]), rfl, Or.inr (Or.inl rfl), rfl, fun z => absurd z (by decide), hK, hV, hL, hP, hQ, hD, hR⟩
      · obtain ⟨s5, s6, o, y, th, Bc', Bl', Pk', Pr', Pl', Pc', K', Ce', Le', Kc', Ko', Kl', Kd', e5, e6, hc, hK', rest⟩ := r_fin hd hK hV hL hP hQ hD hk hr a3 3 (by decide) hv h2 h3 (h4 (fun z => absurd (i4.mpr z) k4))
        refine ⟨fun u1 _ _ => ⟨fun _ => ⟨fun _ => True.intro, fun _ u14 _ _ => ⟨S_given _ _ _ _ _, fun u17 e17 => by rw [e17]; exact ⟨s5, fun _ _ _ => ⟨fun _ => ⟨v21 0 (by omega), True.intro⟩, fun _ => True.intro⟩⟩⟩⟩, fun _ u14 _ _ => ⟨S_given _ _ _ _ _, fun u17 e17 => by rw [e17]; exact ⟨s5, fun _ _ _ => ⟨fun _ => ⟨v21 0 (by omega), True.intro⟩, fun _ => True.intro⟩⟩⟩⟩,
          ⟨fun _ => True.intro, fun _ => ⟨fun _ => ⟨fun _ => True.intro, fun _ => ⟨fun _ => True.intro, fun _ => ⟨sl, fun u33 e33 => by rw [e33]; exact ⟨s6, fun _ _ => ⟨fun _ => ⟨fun _ => ⟨v21 0 (by omega), True.intro⟩, fun _ => True.intro⟩, fun _ => True.intro⟩⟩⟩⟩⟩, fun _ => ⟨fun _ => True.intro, fun _ => ⟨sl, fun u33 e33 => by rw [e33]; exact ⟨s6, fun _ _ => ⟨fun _ => ⟨fun _ => ⟨v21 0 (by omega), True.intro⟩, fun _ => True.intro⟩, fun _ => True.intro⟩⟩⟩⟩⟩⟩, ?_⟩
        simp only [e1, e2, e3, e4, k4, ne10, if_true, if_false, e5, e6]
        rcases hc with ⟨rfl, rfl, hy⟩ | ⟨rfl, rfl, rfl⟩
        · rcases hy with rfl | ⟨rfl, hk3⟩
          · by_cases k3 : nI k = (3 : Int32)
            · simp only [k3, if_true]
              exact ⟨0, _, _, _, _, _, _, _, _, _, K', _, _, _, _, _, _, _, _, _, _, rfl, rfl, Or.inl rfl, rfl, fun _ => rfl, hK', rest.1, rest.2.1, rest.2.2.1, rest.2.2.2.1, rest.2.2.2.2, row0 hR.2⟩
            · simp only [k3, if_true, if_false]
              exact ⟨0, _, _, _, _, _, _, _, _, _, K', _, _, _, _, _, _, _, _, _, _, rfl, rfl, Or.inl rfl, rfl, fun _ => rfl, hK', rest.1, rest.2.1, rest.2.2.1, rest.2.2.2.1, rest.2.2.2.2, hR⟩
          · have k3 : ¬ nI k = (3 : Int32) := fun z => hk3 ((nI_eq (b := 3) (by omega) (by omega)).mp z)
            simp only [k3, n01, if_true, if_false]
            exact ⟨0, _, _, _, _, _, _, _, _, _, K', _, _, _, _, _, _, _, _, _, _, rfl, rfl, Or.inl rfl, rfl, fun _ => rfl, hK', rest.1, rest.2.1, rest.2.2.1, rest.2.2.2.1, rest.2.2.2.2, hR⟩
        · simp only [n01, n30, if_false]
          exact ⟨3, _, _, _, _, _, _, _, _, _, K', _, _, _, _, _, _, _, _, _, _, rfl, rfl, Or.inr (Or.inr (Or.inr rfl)), rfl, fun z => absurd z (by decide), hK', rest.1, rest.2.1, rest.2.2.1, rest.2.2.2.1, rest.2.2.2.2, hR⟩
    · by_cases k4 : nI k = (4 : Int32)
      · rcases win a2 (-1) 999 with ⟨e9, b1, b2⟩ | ⟨e9, b⟩
        · simp only [e1, e2, e3, e4, e9, if_pos k4, ne10, if_true, if_false]
          exact ⟨fun u1 _ _ => ⟨fun _ => ⟨fun _ => True.intro, fun _ u14 hu h14 => absurd h14 (by rw [hu]; decide)⟩, fun z => absurd k4 z⟩, ⟨fun _ => True.intro, fun _ => ⟨fun _ => ⟨fun _ => True.intro, fun _ => ⟨fun _ => True.intro, fun z => absurd trivial z⟩⟩, fun z => absurd k4 z⟩⟩, 2, 0, 0, 2, Bc, Bl, Pk, Pr, Pl, Pc, K, Wr, Md, Ce, Le, Kc, Ko, Kl, Kd, Ur, Va, by first | rfl | (rw [if_neg (by decide)]), rfl, Or.inr (Or.inr (Or.inl rfl)), rfl, fun z => absurd z (by decide), hK, hV, hL, hP, hQ, hD, hR⟩
        · simp only [e1, e2, e3, e4, e9, if_pos k4, ne10, if_true, if_false]
          exact ⟨fun u1 _ _ => ⟨fun _ => ⟨fun _ => True.intro, fun z => absurd trivial z⟩, fun z => absurd k4 z⟩, ⟨fun _ => True.intro, fun _ => ⟨fun _ => ⟨fun _ => True.intro, fun z => absurd trivial z⟩, fun z => absurd k4 z⟩⟩, 1, 0, 0, 1, Bc, Bl, Pk, Pr, Pl, Pc, K, Wr, Md, Ce, Le, Kc, Ko, Kl, Kd, Ur, Va, by first | rfl | (rw [if_neg (by decide)]), rfl, Or.inr (Or.inl rfl), rfl, fun z => absurd z (by decide), hK, hV, hL, hP, hQ, hD, hR⟩
      · simp only [e1, e2, e3, e4, k4, ne10, if_true, if_false]
        exact ⟨fun u1 _ _ => ⟨fun z => z.elim, fun _ u14 hu h14 => absurd h14 (by rw [hu]; decide)⟩, ⟨fun z => z.elim, fun _ => ⟨fun z => z.elim, fun _ => ⟨fun _ => True.intro, fun z => absurd trivial z⟩⟩⟩, 2, 0, 0, 2, Bc, Bl, Pk, Pr, Pl, Pc, K, Wr, Md, Ce, Le, Kc, Ko, Kl, Kd, Ur, Va, by first | rfl | (rw [if_neg (by decide)]), rfl, Or.inr (Or.inr (Or.inl rfl)), rfl, fun z => absurd z (by decide), hK, hV, hL, hP, hQ, hD, hR⟩
  · simp only [e1, e2, if_true, if_false]
    exact ⟨fun u1 hu h1 => absurd h1 (by rw [hu]; decide), ⟨fun _ => True.intro, fun z => absurd trivial z⟩, 1, 0, 0, 1, Bc, Bl, Pk, Pr, Pl, Pc, K, Wr, Md, Ce, Le, Kc, Ko, Kl, Kd, Ur, Va, by first | rfl | (rw [if_neg (by decide)]), rfl, Or.inr (Or.inl rfl), rfl, fun z => absurd z (by decide), hK, hV, hL, hP, hQ, hD, hR⟩
