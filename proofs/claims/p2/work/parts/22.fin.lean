/-! a value made is put, in both worlds -/
def RLv (Bl Le : Nat → Int32) : Prop := ∀ q, q < 160 → Bl q = Le q ∧ 0 ≤ (Le q).toInt
def RKv (K : Nat) (Kl : Nat → Int32) : Prop := ∀ q, q < K → 0 ≤ (Kl q).toInt
theorem RL_upd {Bl Le : Nat → Int32} (h : RLv Bl Le) (p : Nat) {v : Int32} (hv : 0 ≤ v.toInt) : RLv (upd Bl p v) (upd Le p v) := by
  intro q hq
  simp only [uI]
  by_cases z : q = p
  · rw [if_pos z, if_pos z]; exact ⟨rfl, hv⟩
  · rw [if_neg z, if_neg z]; exact h q hq
theorem RK_push {K : Nat} {Kl : Nat → Int32} (h : RKv K Kl) {v : Int32} (hv : 0 ≤ v.toInt) : RKv (K + 1) (upd Kl K v) := by
  intro q hq
  simp only [uI]
  by_cases z : q = K
  · rw [if_pos z]; exact hv
  · rw [if_neg z]; exact h q (by omega)
theorem cpyM {k r : Nat} (hk : k < 5) (hr : r < 32) (Bc Md : Nat → Int64) : S_X0_copyFromM (0 : Int32) (nI k) (nI r) Bc Md ∧ f_X0_copyFromM (0 : Int32) (nI k) (nI r) Bc Md = va_cpy Md Bc 0 (hm k + r * wd k) (wd k) := by
  have hw := wd_le hk
  have hl := hm_le hk hr
  have c1 : (nI (hm k + r * wd k)).toNatClampNeg = hm k + r * wd k := clN (by omega)
  have c2 : (nI (wd k)).toNatClampNeg = wd k := clN (by omega)
  unfold S_X0_copyFromM f_X0_copyFromM
  rw [homeN hk, gW hk, c1, c2, cl0]
  exact ⟨⟨S_homeN hk _, vin (by omega) (by omega), by decide, nI_pos (by omega), nI_pos (by omega), by omega, by omega, True.intro⟩, rfl⟩
theorem keepN {k r K : Nat} (hk : k < 5) (hr : r < 32) (hK : K < 200) (Bc : Nat → Int64) (Bl Pk Pr Pl : Nat → Int32) (Pc : Nat → Int64) :
    S_X3_keep (nI k) (nI r) Bc Bl Pk Pr Pl Pc (nI K) ∧ f_X3_keep (nI k) (nI r) Bc Bl Pk Pr Pl Pc (nI K) = (upd Pk K (nI k), upd Pr K (nI r), upd Pl K (Bl (32 * k + r)), va_cpy Bc Pc (hm k + r * wd k) (K * 21) (wd k), nI (K + 1)) := by
  have hw := wd_le hk
  have hl := hm_le hk hr
  have c1 : (nI (hm k + r * wd k)).toNatClampNeg = hm k + r * wd k := clN (by omega)
  have c2 : (nI (wd k)).toNatClampNeg = wd k := clN (by omega)
  have c3 : (nI K).toNatClampNeg = K := clN (by omega)
  have c4 : (nI (K * 21)).toNatClampNeg = K * 21 := clN (by omega)
  have c5 : (nI (32 * k + r)).toNatClampNeg = 32 * k + r := clN (by omega)
  have e1 : nI K * (21 : Int32) = nI (K * 21) := by rw [show (21 : Int32) = nI 21 from rfl, pk_mul]
  have e2 : nI K + (1 : Int32) = nI (K + 1) := (nI_succ K).symm
  have n1 : ¬ nI K < 0 := nI_pos (by omega)
  have n2 : nI K < (200 : Int32) := (nI_ltI (b := 200) (by omega) (by omega)).mpr hK
  unfold S_X3_keep f_X3_keep
  rw [homeN hk, gW hk, placeN, c1, c2, c3, c5, e1, c4, e2, if_neg n1, if_pos n2]
  exact ⟨⟨fun z => absurd z n1, fun _ => ⟨fun _ => ⟨vin (by omega) (by omega), vin (by omega) (by omega), vin (by omega) (by omega), vin (by omega) (by omega), S_homeN hk _, vin (by omega) (by omega), nI_pos (by omega), nI_pos (by omega), nI_pos (by omega), by omega, by omega, True.intro⟩, fun z => absurd n2 z⟩⟩, rfl⟩
theorem r_fin {d K : Nat} {Bc Ce : Nat → Int64} {Bl Le Pk Pr Pl Ko Kl Kd Gf : Nat → Int32} {Pc Kc : Nat → Int64} (hd : d ≤ 20) (hK : K ≤ 200)
    (hV : RV Bc Ce) (hL : RLv Bl Le) (hP : RP K Pk Pr Pl Pc Ko Kl Kc) (hQ : RKv K Kl) (hD : RD d K Gf Kd) {k r : Nat} (hk : k < 5) (hr : r < 32) (a2 full : Int32) (hf : ¬ full ≤ 0) {Md Va : Nat → Int64}
    (hv : ∀ j, j < wd k → Md j = Va j) (h2 : k = 2 → (0 ≤ (Va 2).toInt ∧ (Va 2).toInt ≤ 3) ∧ (0 ≤ (Va 4).toInt ∧ (Va 4).toInt ≤ 3)) (h3 : k = 3 → ∃ n, n ≤ 20 ∧ Va 0 = lN n) (h4 : k = 4 → -1 ≤ (Va 0).toInt ∧ (Va 0).toInt ≤ 999) :
    S_X5_putMade (nI k) (nI r) a2 Bc Bl Pk Pr Pl Pc (nI K) (nI d) Md ∧ S_X6_finish (nI k) (nI r) a2 full 0 Ce Le (nI d) (nI K) Kc Ko Kl Kd Va ∧
    ∃ (o : Nat) (y th : Int32) (Bc' : Nat → Int64) (Bl' Pk' Pr' Pl' : Nat → Int32) (Pc' : Nat → Int64) (K' : Nat) (Ce' : Nat → Int64) (Le' : Nat → Int32) (Kc' : Nat → Int64) (Ko' Kl' Kd' : Nat → Int32),
      f_X5_putMade (nI k) (nI r) a2 Bc Bl Pk Pr Pl Pc (nI K) (nI d) Md = (o, y, Bc', Bl', Pk', Pr', Pl', Pc', nI K') ∧
      f_X6_finish (nI k) (nI r) a2 full 0 Ce Le (nI d) (nI K) Kc Ko Kl Kd Va = (y, th, Ce', Le', nI K', Kc', Ko', Kl', Kd') ∧
      ((o = 0 ∧ th = 0 ∧ (y = 1 ∨ (y = 0 ∧ k ≠ 3))) ∨ (o = 3 ∧ th = full ∧ y = 0)) ∧ K' ≤ 200 ∧ RV Bc' Ce' ∧ RLv Bl' Le' ∧ RP K' Pk' Pr' Pl' Pc' Ko' Kl' Kc' ∧ RKv K' Kl' ∧ RD d K' Gf Kd' := by
  have hp : 32 * k + r < 160 := by omega
  have c5 : (nI (32 * k + r)).toNatClampNeg = 32 * k + r := clN (by omega)
  have hvp : vp_in (nI (32 * k + r)) 160 := vin hp (by omega)
  obtain ⟨sc, ec⟩ := cpyM hk hr Bc Md
  obtain ⟨sp, ep⟩ := L_put106 hp Va 22 0 Ce (by omega) (by omega)
  have sp : SL_X6_put_106 22 0 Ce (nI (32 * k + r)) Va := sp
  have ep : (L_X6_put_106 22 0 Ce (nI (32 * k + r)) Va).2 = fl Ce (21 * (32 * k + r)) Va 0 := ep
  have efit := fits_eq hk hv
  have hd0 : 0 ≤ (nI d).toInt := by rw [nI_toInt (by omega)]; omega
  unfold S_X5_putMade S_X6_finish f_X5_putMade f_X6_finish S_X6_isFull f_X6_isFull S_X6_put f_X6_put
  simp only [efit, placeN, m32, c5, (hL _ hp).1, ec]
  by_cases hw : f_X6_isWithin (nI k) Va = 0
  · simp only [hw, if_true]
    have k3 : k ≠ 3 := fun z => by subst z; rw [iw_eq, mf3] at hw; exact absurd hw (by decide)
    exact ⟨⟨S_mf _ _, fun u hu => ⟨fun _ => True.intro, fun z => absurd hu z⟩⟩, ⟨S_iw _ _, fun u hu => ⟨fun _ => True.intro, fun z => absurd hu z⟩⟩, 0, 0, 0, Bc, Bl, Pk, Pr, Pl, Pc, K, Ce, Le, Kc, Ko, Kl, Kd, rfl, rfl, Or.inl ⟨rfl, rfl, Or.inr ⟨rfl, k3⟩⟩, hK, hV, hL, hP, hQ, hD⟩
  · have ho := okV_fit hk hw h2 h3 h4
    have hV' := RV_put hV hk hr hv ho
    simp only [hw, if_false]
    by_cases ha : a2 = 0
    · simp only [ha, if_true]
      by_cases hle : nI d ≤ Le (32 * k + r)
      · simp only [hle, if_true, ep]
        exact ⟨⟨S_mf _ _, fun u hu => ⟨fun z => absurd (hu.symm.trans z) hw, fun _ => ⟨fun _ => ⟨hvp, fun _ => ⟨sc, fun _ _ => ⟨hvp, True.intro⟩⟩, fun z => absurd trivial z⟩, fun z => absurd trivial z⟩⟩⟩,
          ⟨S_iw _ _, fun u hu => ⟨fun z => absurd (hu.symm.trans z) hw, fun _ => ⟨⟨fun _ => ⟨hvp, fun _ => True.intro, fun z => absurd trivial z⟩, fun z => absurd trivial z⟩, fun u5 hu5 => ⟨fun _ => ⟨⟨fun _ => ⟨hvp, fun _ => ⟨sp, fun _ _ => ⟨hvp, True.intro⟩⟩, fun z => absurd trivial z⟩, fun z => absurd trivial z⟩, fun _ _ => True.intro⟩, fun z => absurd hu5 z⟩⟩⟩⟩,
          0, 1, 0, _, _, Pk, Pr, Pl, Pc, K, _, _, Kc, Ko, Kl, Kd, rfl, rfl, Or.inl ⟨rfl, rfl, Or.inl rfl⟩, hK, hV', RL_upd hL _ hd0, hP, hQ, hD⟩
      · have hd1 : 0 < d := by
          rcases Nat.eq_zero_or_pos d with z | z
          · exfalso
            apply hle
            rw [i32le, z]
            exact (hL _ hp).2
          · exact z
        have n1 : ¬ nI K < 0 := nI_pos (by omega)
        have i2 : (nI K < (200 : Int32)) ↔ K < 200 := nI_ltI (b := 200) (by omega) (by omega)
        have i3 : (nI K = (200 : Int32)) ↔ K = 200 := nI_eq (b := 200) (by omega) (by omega)
        by_cases hc : K = 200
        · have m1 : ¬ nI K < (200 : Int32) := fun z => by have := i2.mp z; omega
          have m2 : nI K = (200 : Int32) := i3.mpr hc
          simp only [hle, n1, m1, if_false, if_true]
          simp only [m2, if_true, ne10, hf, if_false]
          exact ⟨⟨S_mf _ _, fun u hu => ⟨fun z => absurd (hu.symm.trans z) hw, fun _ => ⟨fun _ => ⟨hvp, fun z => z.elim, fun _ => ⟨fun z => absurd z (by decide), fun _ => ⟨fun z => absurd z (by decide), fun _ => True.intro⟩⟩⟩, fun z => absurd trivial z⟩⟩⟩,
            ⟨S_iw _ _, fun u hu => ⟨fun z => absurd (hu.symm.trans z) hw, fun _ => ⟨⟨fun _ => ⟨hvp, fun z => z.elim, fun _ => ⟨fun _ => True.intro, fun z => absurd trivial z⟩⟩, fun z => absurd trivial z⟩, fun u5 hu5 => ⟨fun z => absurd (hu5.symm.trans z) (by decide), fun _ => ⟨fun z => z.elim, fun _ => True.intro⟩⟩⟩⟩⟩,
            3, 0, full, Bc, Bl, Pk, Pr, Pl, Pc, 200, Ce, Le, Kc, Ko, Kl, Kd, rfl, rfl, Or.inr ⟨rfl, rfl, rfl⟩, by omega, hV, hL, by rw [← hc]; exact hP, by rw [← hc]; exact hQ, by rw [← hc]; exact hD⟩
        · have hK2 : K < 200 := by omega
          have m1 : nI K < (200 : Int32) := i2.mpr hK2
          have m2 : ¬ nI K = (200 : Int32) := fun z => hc (i3.mp z)
          obtain ⟨sk, ek⟩ := keepN hk hr hK2 Bc Bl Pk Pr Pl Pc
          obtain ⟨sq, eq⟩ := L_put19 hp hK2 Ce 22 0 Kc (by omega) (by omega)
          have sq : SL_X6_put_19 22 0 Kc (nI (32 * k + r)) Ce (nI K) := sq
          have eq : (L_X6_put_19 22 0 Kc (nI (32 * k + r)) Ce (nI K)).2 = fl Kc (21 * K) (fun j => Ce (21 * (32 * k + r) + j)) 0 := eq
          have c3 : (nI K).toNatClampNeg = K := clN (by omega)
          have e2 : nI K + (1 : Int32) = nI (K + 1) := (nI_succ K).symm
          have hvK : vp_in (nI K) 200 := vin hK2 (by omega)
          simp only [hle, n1, m1, m2, if_false, if_true, ek, ep, eq, c3, e2]
          exact ⟨⟨S_mf _ _, fun u hu => ⟨fun z => absurd (hu.symm.trans z) hw, fun _ => ⟨fun _ => ⟨hvp, fun z => z.elim, fun _ => ⟨fun z => z.elim, fun _ => ⟨fun _ => ⟨sk, fun _ _ => ⟨sc, fun _ _ => ⟨hvp, True.intro⟩⟩⟩, fun z => absurd trivial z⟩⟩⟩, fun z => absurd trivial z⟩⟩⟩,
            ⟨S_iw _ _, fun u hu => ⟨fun z => absurd (hu.symm.trans z) hw, fun _ => ⟨⟨fun _ => ⟨hvp, fun z => z.elim, fun _ => ⟨fun z => z.elim, fun _ => True.intro⟩⟩, fun z => absurd trivial z⟩, fun u5 hu5 => ⟨fun _ => ⟨⟨fun _ => ⟨hvp, fun z => z.elim, fun _ => ⟨sq, fun _ _ => ⟨hvK, hvp, hvK, hvK, sp, fun _ _ => ⟨hvp, True.intro⟩⟩⟩⟩, fun z => absurd trivial z⟩, fun _ _ => True.intro⟩, fun z => absurd hu5 z⟩⟩⟩⟩,
            0, 1, 0, _, _, _, _, _, _, K + 1, _, _, _, _, _, _, rfl, rfl, Or.inl ⟨rfl, rfl, Or.inl rfl⟩, by omega, hV', RL_upd hL _ hd0, RP_push hP hV hk hr (hL _ hp).1, RK_push hQ (hL _ hp).2, RD_push hD hd1⟩
    · simp only [ha, if_false, ep, if_true]
      exact ⟨⟨S_mf _ _, fun u hu => ⟨fun z => absurd (hu.symm.trans z) hw, fun _ => ⟨fun z => z.elim, fun _ => ⟨sc, fun _ _ => ⟨hvp, True.intro⟩⟩⟩⟩⟩,
        ⟨S_iw _ _, fun u hu => ⟨fun z => absurd (hu.symm.trans z) hw, fun _ => ⟨⟨fun z => z.elim, fun _ => True.intro⟩, fun u5 hu5 => ⟨fun _ => ⟨⟨fun z => z.elim, fun _ => ⟨sp, fun _ _ => ⟨hvp, True.intro⟩⟩⟩, fun _ _ => True.intro⟩, fun z => absurd hu5 z⟩⟩⟩⟩,
        0, 1, 0, _, _, Pk, Pr, Pl, Pc, K, _, _, Kc, Ko, Kl, Kd, rfl, rfl, Or.inl ⟨rfl, rfl, Or.inl rfl⟩, hK, hV', RL_upd hL _ (by decide), hP, hQ, hD⟩
