/-! multiply and divide, told of both -/
theorem up3 (op : Int64 → Int64) {u F : Nat → Int64} (h : ∀ j, j < 5 → u j = F j) : ∀ j, j < 5 → vp_updL (vp_updL (vp_updL u 0 (op (u 0))) 1 (op (vp_updL u 0 (op (u 0)) 1))) 3 (op (vp_updL (vp_updL u 0 (op (u 0))) 1 (op (vp_updL u 0 (op (u 0)) 1)) 3)) j = if j = 0 ∨ (2 = 2 ∧ (j = 1 ∨ j = 3)) then op (F j) else F j := by
  intro j hj
  have e := h j hj
  simp only [uL]
  rcases (show j = 0 ∨ j = 1 ∨ j = 2 ∨ j = 3 ∨ j = 4 by omega) with rfl | rfl | rfl | rfl | rfl <;> simp [e]
theorem up1 (op : Int64 → Int64) {u F : Nat → Int64} {k : Nat} (hk : ¬ k = 2) (h : ∀ j, j < 1 → u j = F j) : ∀ j, j < 1 → vp_updL u 0 (op (u 0)) j = if j = 0 ∨ (k = 2 ∧ (j = 1 ∨ j = 3)) then op (F j) else F j := by
  intro j hj
  have e : j = 0 := by omega
  subst e
  rw [uL, if_pos rfl, if_pos (Or.inl rfl), h 0 (by omega)]
theorem r_multiply {d K : Nat} {Bc Ce : Nat → Int64} {Bl Le Pk Pr Pl Ko Kl Kd Gf : Nat → Int32} {Pc Kc : Nat → Int64} (hd : d ≤ 20) (hK : K ≤ 200)
    (hV : RV Bc Ce) (hL : RLv Bl Le) (hP : RP K Pk Pr Pl Pc Ko Kl Kc) (hQ : RKv K Kl) (hD : RD d K Gf Kd) (a0 a1 : Int32) (a2 : Int64) (a3 Th : Int32) (Md Va : Nat → Int64) :
    S_X5_multiply a0 a1 a2 a3 Bc Bl Pk Pr Pl Pc (nI K) (nI d) Md ∧ S_X6_multiply a0 a1 a2 a3 Th Ce Le (nI d) (nI K) Kc Ko Kl Kd Va ∧
    ∃ (o : Nat) (y y' th : Int32) (Bc' : Nat → Int64) (Bl' Pk' Pr' Pl' : Nat → Int32) (Pc' : Nat → Int64) (K' : Nat) (Md' Ce' : Nat → Int64) (Le' : Nat → Int32) (Kc' : Nat → Int64) (Ko' Kl' Kd' : Nat → Int32) (Va' : Nat → Int64),
      f_X5_multiply a0 a1 a2 a3 Bc Bl Pk Pr Pl Pc (nI K) (nI d) Md = (o, y, Bc', Bl', Pk', Pr', Pl', Pc', nI K', Md') ∧
      f_X6_multiply a0 a1 a2 a3 Th Ce Le (nI d) (nI K) Kc Ko Kl Kd Va = (y', th, Ce', Le', nI K', Kc', Ko', Kl', Kd', Va') ∧
      (o = 0 ∨ o = 1 ∨ o = 2 ∨ o = 3) ∧ th = k_L_multiply o ∧ (o = 0 → y = y') ∧ K' ≤ 200 ∧ RV Bc' Ce' ∧ RLv Bl' Le' ∧ RP K' Pk' Pr' Pl' Pc' Ko' Kl' Kc' ∧ RKv K' Kl' ∧ RD d K' Gf Kd' := by
  unfold S_X5_multiply S_X6_multiply f_X5_multiply f_X6_multiply f_X5_isCount
  rw [in_eq]
  have hk2 := kin2 a0
  rw [in_eq] at hk2
  rcases hk2 with ⟨k, hk, rfl, e1, e2⟩ | ⟨e1, e2⟩
  · have i2 : (nI k = (2 : Int32)) ↔ k = 2 := nI_eq (b := 2) (by omega) (by omega)
    rcases reg a1 with ⟨r, hr, rfl, e3, e4⟩ | ⟨e3, e4⟩
    · rcases win a2 (-2147483647) 2147483647 with ⟨e9, b1, b2⟩ | ⟨e9, b⟩
      · have hw := wd_le (k := k) (by omega)
        obtain ⟨sc, ec⟩ := copyTo_at (k := k) (by omega) hr hV Md
        obtain ⟨sf, ef⟩ := fetch_at (k := k) (by omega) hr Ce Va
        obtain ⟨ss, es⟩ := scale_at hk a2 (0 : Int32) (fun z => absurd rfl z) (f_X6_fetch (nI k) (nI r) Ce Va)
        have hu : ∀ j, j < wd k → f_X0_copyTo (nI k) (nI r) Bc Md j = f_X6_fetch (nI k) (nI r) Ce Va j := fun j hj => (ec j hj).trans (ef j (by omega)).symm
        have h2 : k = 2 → (0 ≤ ((f_X6_scale (nI k) a2 (0 : Int32) (f_X6_fetch (nI k) (nI r) Ce Va)) 2).toInt ∧ ((f_X6_scale (nI k) a2 (0 : Int32) (f_X6_fetch (nI k) (nI r) Ce Va)) 2).toInt ≤ 3) ∧ (0 ≤ ((f_X6_scale (nI k) a2 (0 : Int32) (f_X6_fetch (nI k) (nI r) Ce Va)) 4).toInt ∧ ((f_X6_scale (nI k) a2 (0 : Int32) (f_X6_fetch (nI k) (nI r) Ce Va)) 4).toInt ≤ 3) := by
          intro z
          rw [es 2, es 4, if_neg (by omega), if_neg (by omega), ef 2 (by omega), ef 4 (by omega)]
          have hb := (hV k r (by omega) hr).1.2.2.1 z
          exact hb.2.2.2
        by_cases k2 : k = 2
        · have k2' : nI k = (2 : Int32) := i2.mpr k2
          have hwd : wd k = 5 := by rw [k2]; rfl
          have hv : ∀ j, j < wd k → vp_updL (vp_updL (vp_updL (f_X0_copyTo (nI k) (nI r) Bc Md) 0 (f_X0_copyTo (nI k) (nI r) Bc Md 0 * a2)) 1 (vp_updL (f_X0_copyTo (nI k) (nI r) Bc Md) 0 (f_X0_copyTo (nI k) (nI r) Bc Md 0 * a2) 1 * a2)) 3 (vp_updL (vp_updL (f_X0_copyTo (nI k) (nI r) Bc Md) 0 (f_X0_copyTo (nI k) (nI r) Bc Md 0 * a2)) 1 (vp_updL (f_X0_copyTo (nI k) (nI r) Bc Md) 0 (f_X0_copyTo (nI k) (nI r) Bc Md 0 * a2) 1 * a2) 3 * a2) j = f_X6_scale (nI k) a2 (0 : Int32) (f_X6_fetch (nI k) (nI r) Ce Va) j := by
            intro j hj
            rw [es j, k2]
            rw [k2] at hu
            exact up3 (fun x => x * a2) hu j (by rw [k2] at hj; exact hj)
          obtain ⟨s5, s6, o, y, th, Bc', Bl', Pk', Pr', Pl', Pc', K', Ce', Le', Kc', Ko', Kl', Kd', e5, e6, hc, hK', rest⟩ := r_fin hd hK hV hL hP hQ hD (k := k) (by omega) hr a3 3 (by decide) hv h2 (fun z => absurd z (by omega)) (fun z => absurd z (by omega))
          refine ⟨fun u1 _ _ u3 _ _ => ⟨fun _ => True.intro, fun _ => ⟨sc, fun u7 e7 => by rw [e7]; exact ⟨v21 0 (by omega), v21 0 (by omega), ⟨fun z => ⟨v21 1 (by omega), v21 1 (by omega), v21 3 (by omega), v21 3 (by omega), s5, fun _ _ _ => True.intro⟩, fun z => absurd k2' z⟩⟩⟩⟩,
            ⟨fun _ => True.intro, fun _ => ⟨fun _ => True.intro, fun _ => ⟨fun _ => True.intro, fun _ => ⟨sf, fun u6 e6' => by rw [e6']; exact ⟨ss, fun u8 e8 => by rw [e8]; exact ⟨s6, fun _ _ => True.intro⟩⟩⟩⟩⟩⟩, ?_⟩
          simp only [e1, e2, e3, e4, e9, ne10, if_true, if_false, if_pos k2', cl0, cl1, cl3, e5, e6]
          rcases hc with ⟨rfl, rfl, hy⟩ | ⟨rfl, rfl, rfl⟩
          · simp only [if_true]
            exact ⟨0, _, _, _, _, _, _, _, _, _, K', _, _, _, _, _, _, _, _, rfl, rfl, Or.inl rfl, rfl, fun _ => rfl, hK', rest.1, rest.2.1, rest.2.2.1, rest.2.2.2.1, rest.2.2.2.2⟩
          · simp only [n30, if_false]
            exact ⟨3, _, _, _, _, _, _, _, _, _, K', _, _, _, _, _, _, _, _, rfl, rfl, Or.inr (Or.inr (Or.inr rfl)), rfl, fun z => absurd z (by decide), hK', rest.1, rest.2.1, rest.2.2.1, rest.2.2.2.1, rest.2.2.2.2⟩
        · have k2' : ¬ nI k = (2 : Int32) := fun z => k2 (i2.mp z)
          have hwd : wd k = 1 := by
            rcases (show k = 0 ∨ k = 1 by omega) with rfl | rfl <;> rfl
          have hv : ∀ j, j < wd k → vp_updL (f_X0_copyTo (nI k) (nI r) Bc Md) 0 (f_X0_copyTo (nI k) (nI r) Bc Md 0 * a2) j = f_X6_scale (nI k) a2 (0 : Int32) (f_X6_fetch (nI k) (nI r) Ce Va) j := by
            intro j hj
            rw [es j]
            rw [hwd] at hu hj
            exact up1 (fun x => x * a2) k2 hu j hj
          obtain ⟨s5, s6, o, y, th, Bc', Bl', Pk', Pr', Pl', Pc', K', Ce', Le', Kc', Ko', Kl', Kd', e5, e6, hc, hK', rest⟩ := r_fin hd hK hV hL hP hQ hD (k := k) (by omega) hr a3 3 (by decide) hv h2 (fun z => absurd z (by omega)) (fun z => absurd z (by omega))
          refine ⟨fun u1 _ _ u3 _ _ => ⟨fun _ => True.intro, fun _ => ⟨sc, fun u7 e7 => by rw [e7]; exact ⟨v21 0 (by omega), v21 0 (by omega), ⟨fun z => absurd z k2', fun _ => ⟨s5, fun _ _ _ => True.intro⟩⟩⟩⟩⟩,
            ⟨fun _ => True.intro, fun _ => ⟨fun _ => True.intro, fun _ => ⟨fun _ => True.intro, fun _ => ⟨sf, fun u6 e6' => by rw [e6']; exact ⟨ss, fun u8 e8 => by rw [e8]; exact ⟨s6, fun _ _ => True.intro⟩⟩⟩⟩⟩⟩, ?_⟩
          simp only [e1, e2, e3, e4, e9, ne10, if_true, if_false, if_neg k2', cl0, cl1, cl3, e5, e6]
          rcases hc with ⟨rfl, rfl, hy⟩ | ⟨rfl, rfl, rfl⟩
          · simp only [if_true]
            exact ⟨0, _, _, _, _, _, _, _, _, _, K', _, _, _, _, _, _, _, _, rfl, rfl, Or.inl rfl, rfl, fun _ => rfl, hK', rest.1, rest.2.1, rest.2.2.1, rest.2.2.2.1, rest.2.2.2.2⟩
          · simp only [n30, if_false]
            exact ⟨3, _, _, _, _, _, _, _, _, _, K', _, _, _, _, _, _, _, _, rfl, rfl, Or.inr (Or.inr (Or.inr rfl)), rfl, fun z => absurd z (by decide), hK', rest.1, rest.2.1, rest.2.2.1, rest.2.2.2.1, rest.2.2.2.2⟩
      · simp only [e1, e2, e3, e4, e9, ne10, if_true, if_false]
        exact ⟨fun u1 _ _ u3 _ _ => ⟨fun _ => True.intro, fun z => absurd trivial z⟩, ⟨fun z => z.elim, fun _ => ⟨fun z => z.elim, fun _ => ⟨fun _ => True.intro, fun z => absurd trivial z⟩⟩⟩, 0, 0, 0, 0, Bc, Bl, Pk, Pr, Pl, Pc, K, Md, Ce, Le, Kc, Ko, Kl, Kd, Va, by first | rfl | (rw [if_neg (by decide)]), rfl, Or.inl rfl, rfl, fun _ => rfl, hK, hV, hL, hP, hQ, hD⟩
    · simp only [e1, e2, e3, e4, ne10, if_true, if_false]
      exact ⟨fun u1 _ _ u3 hu h3 => absurd h3 (by rw [hu]; decide), ⟨fun z => z.elim, fun _ => ⟨fun _ => True.intro, fun z => absurd trivial z⟩⟩, 2, 0, 0, 2, Bc, Bl, Pk, Pr, Pl, Pc, K, Md, Ce, Le, Kc, Ko, Kl, Kd, Va, by first | rfl | (rw [if_neg (by decide)]), rfl, Or.inr (Or.inr (Or.inl rfl)), rfl, fun z => absurd z (by decide), hK, hV, hL, hP, hQ, hD⟩
  · simp only [e1, e2, if_true, if_false]
    exact ⟨fun u1 hu h1 => absurd h1 (by rw [hu]; decide), ⟨fun _ => True.intro, fun z => absurd trivial z⟩, 1, 0, 0, 1, Bc, Bl, Pk, Pr, Pl, Pc, K, Md, Ce, Le, Kc, Ko, Kl, Kd, Va, by first | rfl | (rw [if_neg (by decide)]), rfl, Or.inr (Or.inl rfl), rfl, fun z => absurd z (by decide), hK, hV, hL, hP, hQ, hD⟩
theorem r_divide {d K : Nat} {Bc Ce : Nat → Int64} {Bl Le Pk Pr Pl Ko Kl Kd Gf : Nat → Int32} {Pc Kc : Nat → Int64} (hd : d ≤ 20) (hK : K ≤ 200)
    (hV : RV Bc Ce) (hL : RLv Bl Le) (hP : RP K Pk Pr Pl Pc Ko Kl Kc) (hQ : RKv K Kl) (hD : RD d K Gf Kd) (a0 a1 : Int32) (a2 : Int64) (a3 Th : Int32) (Md Va : Nat → Int64) :
    S_X5_divide a0 a1 a2 a3 Bc Bl Pk Pr Pl Pc (nI K) (nI d) Md ∧ S_X6_divide a0 a1 a2 a3 Th Ce Le (nI d) (nI K) Kc Ko Kl Kd Va ∧
    ∃ (o : Nat) (y y' th : Int32) (Bc' : Nat → Int64) (Bl' Pk' Pr' Pl' : Nat → Int32) (Pc' : Nat → Int64) (K' : Nat) (Md' Ce' : Nat → Int64) (Le' : Nat → Int32) (Kc' : Nat → Int64) (Ko' Kl' Kd' : Nat → Int32) (Va' : Nat → Int64),
      f_X5_divide a0 a1 a2 a3 Bc Bl Pk Pr Pl Pc (nI K) (nI d) Md = (o, y, Bc', Bl', Pk', Pr', Pl', Pc', nI K', Md') ∧
      f_X6_divide a0 a1 a2 a3 Th Ce Le (nI d) (nI K) Kc Ko Kl Kd Va = (y', th, Ce', Le', nI K', Kc', Ko', Kl', Kd', Va') ∧
      (o = 0 ∨ o = 1 ∨ o = 2 ∨ o = 5 ∨ o = 3) ∧ th = k_L_divide o ∧ (o = 0 → y = y') ∧ K' ≤ 200 ∧ RV Bc' Ce' ∧ RLv Bl' Le' ∧ RP K' Pk' Pr' Pl' Pc' Ko' Kl' Kc' ∧ RKv K' Kl' ∧ RD d K' Gf Kd' := by
  unfold S_X5_divide S_X6_divide f_X5_divide f_X6_divide
  rw [in_eq]
  have hk2 := kin2 a0
  rw [in_eq] at hk2
  rcases hk2 with ⟨k, hk, rfl, e1, e2⟩ | ⟨e1, e2⟩
  · have i2 : (nI k = (2 : Int32)) ↔ k = 2 := nI_eq (b := 2) (by omega) (by omega)
    rcases reg a1 with ⟨r, hr, rfl, e3, e4⟩ | ⟨e3, e4⟩
    · by_cases hne : ¬ a2 = 0
      · have hw := wd_le (k := k) (by omega)
        obtain ⟨sc, ec⟩ := copyTo_at (k := k) (by omega) hr hV Md
        obtain ⟨sf, ef⟩ := fetch_at (k := k) (by omega) hr Ce Va
        obtain ⟨ss, es⟩ := scale_at hk a2 (1 : Int32) (fun _ => hne) (f_X6_fetch (nI k) (nI r) Ce Va)
        have hu : ∀ j, j < wd k → f_X0_copyTo (nI k) (nI r) Bc Md j = f_X6_fetch (nI k) (nI r) Ce Va j := fun j hj => (ec j hj).trans (ef j (by omega)).symm
        have h2 : k = 2 → (0 ≤ ((f_X6_scale (nI k) a2 (1 : Int32) (f_X6_fetch (nI k) (nI r) Ce Va)) 2).toInt ∧ ((f_X6_scale (nI k) a2 (1 : Int32) (f_X6_fetch (nI k) (nI r) Ce Va)) 2).toInt ≤ 3) ∧ (0 ≤ ((f_X6_scale (nI k) a2 (1 : Int32) (f_X6_fetch (nI k) (nI r) Ce Va)) 4).toInt ∧ ((f_X6_scale (nI k) a2 (1 : Int32) (f_X6_fetch (nI k) (nI r) Ce Va)) 4).toInt ≤ 3) := by
          intro z
          rw [es 2, es 4, if_neg (by omega), if_neg (by omega), ef 2 (by omega), ef 4 (by omega)]
          have hb := (hV k r (by omega) hr).1.2.2.1 z
          exact hb.2.2.2
        by_cases k2 : k = 2
        · have k2' : nI k = (2 : Int32) := i2.mpr k2
          have hwd : wd k = 5 := by rw [k2]; rfl
          have hv : ∀ j, j < wd k → vp_updL (vp_updL (vp_updL (f_X0_copyTo (nI k) (nI r) Bc Md) 0 (f_X0_copyTo (nI k) (nI r) Bc Md 0 / a2)) 1 (vp_updL (f_X0_copyTo (nI k) (nI r) Bc Md) 0 (f_X0_copyTo (nI k) (nI r) Bc Md 0 / a2) 1 / a2)) 3 (vp_updL (vp_updL (f_X0_copyTo (nI k) (nI r) Bc Md) 0 (f_X0_copyTo (nI k) (nI r) Bc Md 0 / a2)) 1 (vp_updL (f_X0_copyTo (nI k) (nI r) Bc Md) 0 (f_X0_copyTo (nI k) (nI r) Bc Md 0 / a2) 1 / a2) 3 / a2) j = f_X6_scale (nI k) a2 (1 : Int32) (f_X6_fetch (nI k) (nI r) Ce Va) j := by
            intro j hj
            rw [es j, k2]
            rw [k2] at hu
            exact up3 (fun x => x / a2) hu j (by rw [k2] at hj; exact hj)
          obtain ⟨s5, s6, o, y, th, Bc', Bl', Pk', Pr', Pl', Pc', K', Ce', Le', Kc', Ko', Kl', Kd', e5, e6, hc, hK', rest⟩ := r_fin hd hK hV hL hP hQ hD (k := k) (by omega) hr a3 4 (by decide) hv h2 (fun z => absurd z (by omega)) (fun z => absurd z (by omega))
          refine ⟨fun u1 _ _ u3 _ _ => ⟨fun _ => True.intro, fun _ => ⟨sc, fun u7 e7 => by rw [e7]; exact ⟨v21 0 (by omega), hne, v21 0 (by omega), ⟨fun z => ⟨v21 1 (by omega), hne, v21 1 (by omega), v21 3 (by omega), hne, v21 3 (by omega), s5, fun _ _ _ => True.intro⟩, fun z => absurd k2' z⟩⟩⟩⟩,
            ⟨fun _ => True.intro, fun _ => ⟨fun _ => True.intro, fun _ => ⟨fun _ => True.intro, fun _ => ⟨sf, fun u6 e6' => by rw [e6']; exact ⟨ss, fun u8 e8 => by rw [e8]; exact ⟨s6, fun _ _ => True.intro⟩⟩⟩⟩⟩⟩, ?_⟩
          simp only [e1, e2, e3, e4, if_neg hne, ne10, if_true, if_false, if_pos k2', cl0, cl1, cl3, e5, e6]
          rcases hc with ⟨rfl, rfl, hy⟩ | ⟨rfl, rfl, rfl⟩
          · simp only [if_true]
            exact ⟨0, _, _, _, _, _, _, _, _, _, K', _, _, _, _, _, _, _, _, rfl, rfl, Or.inl rfl, rfl, fun _ => rfl, hK', rest.1, rest.2.1, rest.2.2.1, rest.2.2.2.1, rest.2.2.2.2⟩
          · simp only [n30, if_false]
            exact ⟨3, _, _, _, _, _, _, _, _, _, K', _, _, _, _, _, _, _, _, rfl, rfl, Or.inr (Or.inr (Or.inr (Or.inr rfl))), rfl, fun z => absurd z (by decide), hK', rest.1, rest.2.1, rest.2.2.1, rest.2.2.2.1, rest.2.2.2.2⟩
        · have k2' : ¬ nI k = (2 : Int32) := fun z => k2 (i2.mp z)
          have hwd : wd k = 1 := by
            rcases (show k = 0 ∨ k = 1 by omega) with rfl | rfl <;> rfl
          have hv : ∀ j, j < wd k → vp_updL (f_X0_copyTo (nI k) (nI r) Bc Md) 0 (f_X0_copyTo (nI k) (nI r) Bc Md 0 / a2) j = f_X6_scale (nI k) a2 (1 : Int32) (f_X6_fetch (nI k) (nI r) Ce Va) j := by
            intro j hj
            rw [es j]
            rw [hwd] at hu hj
            exact up1 (fun x => x / a2) k2 hu j hj
          obtain ⟨s5, s6, o, y, th, Bc', Bl', Pk', Pr', Pl', Pc', K', Ce', Le', Kc', Ko', Kl', Kd', e5, e6, hc, hK', rest⟩ := r_fin hd hK hV hL hP hQ hD (k := k) (by omega) hr a3 4 (by decide) hv h2 (fun z => absurd z (by omega)) (fun z => absurd z (by omega))
          refine ⟨fun u1 _ _ u3 _ _ => ⟨fun _ => True.intro, fun _ => ⟨sc, fun u7 e7 => by rw [e7]; exact ⟨v21 0 (by omega), hne, v21 0 (by omega), ⟨fun z => absurd z k2', fun _ => ⟨s5, fun _ _ _ => True.intro⟩⟩⟩⟩⟩,
            ⟨fun _ => True.intro, fun _ => ⟨fun _ => True.intro, fun _ => ⟨fun _ => True.intro, fun _ => ⟨sf, fun u6 e6' => by rw [e6']; exact ⟨ss, fun u8 e8 => by rw [e8]; exact ⟨s6, fun _ _ => True.intro⟩⟩⟩⟩⟩⟩, ?_⟩
          simp only [e1, e2, e3, e4, if_neg hne, ne10, if_true, if_false, if_neg k2', cl0, cl1, cl3, e5, e6]
          rcases hc with ⟨rfl, rfl, hy⟩ | ⟨rfl, rfl, rfl⟩
          · simp only [if_true]
            exact ⟨0, _, _, _, _, _, _, _, _, _, K', _, _, _, _, _, _, _, _, rfl, rfl, Or.inl rfl, rfl, fun _ => rfl, hK', rest.1, rest.2.1, rest.2.2.1, rest.2.2.2.1, rest.2.2.2.2⟩
          · simp only [n30, if_false]
            exact ⟨3, _, _, _, _, _, _, _, _, _, K', _, _, _, _, _, _, _, _, rfl, rfl, Or.inr (Or.inr (Or.inr (Or.inr rfl))), rfl, fun z => absurd z (by decide), hK', rest.1, rest.2.1, rest.2.2.1, rest.2.2.2.1, rest.2.2.2.2⟩
      · have hz : a2 = 0 := Decidable.not_not.mp hne
        simp only [e1, e2, e3, e4, ne10, if_true, if_false, if_pos hz]
        exact ⟨fun u1 _ _ u3 _ _ => ⟨fun _ => True.intro, fun z => absurd hz z⟩, ⟨fun z => z.elim, fun _ => ⟨fun z => z.elim, fun _ => ⟨fun _ => True.intro, fun z => absurd hz z⟩⟩⟩, 5, 0, 0, 3, Bc, Bl, Pk, Pr, Pl, Pc, K, Md, Ce, Le, Kc, Ko, Kl, Kd, Va, by first | rfl | (rw [if_neg (by decide)]), rfl, Or.inr (Or.inr (Or.inr (Or.inl rfl))), rfl, fun z => absurd z (by decide), hK, hV, hL, hP, hQ, hD⟩
    · simp only [e1, e2, e3, e4, ne10, if_true, if_false]
      exact ⟨fun u1 _ _ u3 hu h3 => absurd h3 (by rw [hu]; decide), ⟨fun z => z.elim, fun _ => ⟨fun _ => True.intro, fun z => absurd trivial z⟩⟩, 2, 0, 0, 2, Bc, Bl, Pk, Pr, Pl, Pc, K, Md, Ce, Le, Kc, Ko, Kl, Kd, Va, by first | rfl | (rw [if_neg (by decide)]), rfl, Or.inr (Or.inr (Or.inl rfl)), rfl, fun z => absurd z (by decide), hK, hV, hL, hP, hQ, hD⟩
  · simp only [e1, e2, if_true, if_false]
    exact ⟨fun u1 hu h1 => absurd h1 (by rw [hu]; decide), ⟨fun _ => True.intro, fun z => absurd trivial z⟩, 1, 0, 0, 1, Bc, Bl, Pk, Pr, Pl, Pc, K, Md, Ce, Le, Kc, Ko, Kl, Kd, Va, by first | rfl | (rw [if_neg (by decide)]), rfl, Or.inr (Or.inl rfl), rfl, fun z => absurd z (by decide), hK, hV, hL, hP, hQ, hD⟩
