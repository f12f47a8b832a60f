/-! end: the tokens, and the whole -/
theorem L_ct {T g : Nat} (hT : T ≤ 60) (hg : g ≤ T) (Gx : Nat → Int32) : ∀ (n x : Nat) (Ex : Nat → Int32), g ≤ x → x ≤ T → T - x < n → (∀ q, q < x - g → Ex q = Gx (g + q)) →
    SL_X1_copyTokens_5 n (nI x) Ex (nI (x - g)) Gx (nI T) ∧ ∃ (x' : Int32) (Ex' : Nat → Int32), L_X1_copyTokens_5 n (nI x) Ex (nI (x - g)) Gx (nI T) = (x', Ex', nI (T - g)) ∧ ∀ q, q < T - g → Ex' q = Gx (g + q) := by
  intro n
  induction n with
  | zero => intro x Ex _ _ h; exact absurd h (Nat.not_lt_zero _)
  | succ n ih =>
    intro x Ex hgx hx hn he
    rw [SL_X1_copyTokens_5, L_X1_copyTokens_5]
    have n1 : ¬ nI x < 0 := nI_pos (by omega)
    have i1 : (nI T ≤ nI x) ↔ T ≤ x := nI_leI (by omega) (by omega)
    have i2 : ((60 : Int32) ≤ nI x) ↔ 60 ≤ x := nI_leI (a := 60) (by omega) (by omega)
    by_cases hc : T ≤ x
    · have y := i1.mpr hc
      have e : x = T := by omega
      subst e
      rw [if_neg n1, if_pos y]
      exact ⟨⟨fun _ => True.intro, fun _ => ⟨fun _ => True.intro, fun z => absurd y z⟩⟩, _, Ex, rfl, he⟩
    · have y : ¬ nI T ≤ nI x := fun z => hc (i1.mp z)
      have y2 : ¬ (60 : Int32) ≤ nI x := fun z => by have := i2.mp z; omega
      have m1 : ¬ nI (x - g) < 0 := nI_pos (by omega)
      have m2 : ¬ (60 : Int32) ≤ nI (x - g) := fun z => by have := (nI_leI (a := 60) (b := x - g) (by omega) (by omega)).mp z; omega
      have c1 : (nI x).toNatClampNeg = x := clN (by omega)
      have c2 : (nI (x - g)).toNatClampNeg = x - g := clN (by omega)
      have em : x + 1 - g = x - g + 1 := by omega
      have sa : S_X1_appendToken (Gx x) Ex (nI (x - g)) := ⟨fun _ => True.intro, fun _ => ⟨fun _ => True.intro, fun _ => ⟨vin (by omega) (by omega), True.intro⟩⟩⟩
      have ea : f_X1_appendToken (Gx x) Ex (nI (x - g)) = (upd Ex (x - g) (Gx x), nI (x - g + 1)) := by
        unfold f_X1_appendToken
        rw [if_neg m1, if_neg m2, c2, ← nI_succ]
      obtain ⟨s1, s2⟩ := ih (x + 1) (upd Ex (x - g) (Gx x)) (by omega) (by omega) (by omega) (by
        intro q hq
        rw [uI]
        by_cases z : q = x - g
        · rw [if_pos z]; congr 1; omega
        · rw [if_neg z]; exact he q (by omega))
      rw [em] at s1 s2
      rw [if_neg n1, if_neg y, if_neg y2, c1, ← nI_succ]
      simp only [ea]
      refine ⟨⟨fun z => absurd z n1, fun _ => ⟨fun z => absurd z y, fun _ => ⟨fun z => absurd z y2, fun _ => ⟨vin (by omega) (by omega), sa, fun u eu => ?_⟩⟩⟩⟩, s2⟩
      rw [eu]; exact s1
theorem L_220 {T g d : Nat} (hT : T ≤ 60) (hg : g ≤ T) {Tt Td : Nat → Int32} (h : ∀ q, q < T → (Td q = nI d ↔ g ≤ q)) : ∀ (n x : Nat) (Bt : Nat → Int32), x ≤ T → T - x < n → (∀ q, q < x - g → Bt q = Tt (g + q)) →
    SL_X6_end_220 n (nI (min x g)) (nI x) (nI (x - g)) Bt (nI d) (nI T) Tt Td ∧ ∃ (x' : Int32) (Bt' : Nat → Int32), L_X6_end_220 n (nI (min x g)) (nI x) (nI (x - g)) Bt (nI d) (nI T) Tt Td = (nI g, x', nI (T - g), Bt') ∧ ∀ q, q < T - g → Bt' q = Tt (g + q) := by
  intro n
  induction n with
  | zero => intro x Bt _ h; exact absurd h (Nat.not_lt_zero _)
  | succ n ih =>
    intro x Bt hx hn he
    rw [SL_X6_end_220, L_X6_end_220]
    have i1 : (nI T ≤ nI x) ↔ T ≤ x := nI_leI (by omega) (by omega)
    by_cases hc : T ≤ x
    · have y := i1.mpr hc
      have e : x = T := by omega
      subst e
      rw [if_pos y, Nat.min_eq_right hg]
      exact ⟨⟨fun _ => True.intro, fun z => absurd y z⟩, _, Bt, rfl, he⟩
    · have y : ¬ nI T ≤ nI x := fun z => hc (i1.mp z)
      have c1 : (nI x).toNatClampNeg = x := clN (by omega)
      have c2 : (nI (x - g)).toNatClampNeg = x - g := clN (by omega)
      have hvx : vp_in (nI x) 60 := vin (by omega) (by omega)
      rw [if_neg y, c1, c2, ← nI_succ, ← nI_succ, ← nI_succ]
      by_cases hq : Td x = nI d
      · have hgx := (h x (by omega)).mp hq
        have em : x + 1 - g = x - g + 1 := by omega
        have en : min (x + 1) g = min x g := by omega
        obtain ⟨s1, s2⟩ := ih (x + 1) (upd Bt (x - g) (Tt x)) (by omega) (by omega) (by
          intro q hq
          rw [uI]
          by_cases z : q = x - g
          · rw [if_pos z]; congr 1; omega
          · rw [if_neg z]; exact he q (by omega))
        rw [em, en] at s1 s2
        rw [if_pos hq]
        exact ⟨⟨fun z => absurd z y, fun _ => ⟨hvx, fun _ => ⟨hvx, vin (by omega) (by omega), s1⟩, fun z => absurd hq z⟩⟩, s2⟩
      · have hgx : ¬ g ≤ x := fun z => hq ((h x (by omega)).mpr z)
        have em : x + 1 - g = x - g := by omega
        have en : min (x + 1) g = min x g + 1 := by omega
        obtain ⟨s1, s2⟩ := ih (x + 1) Bt (by omega) (by omega) (fun q hq => he q (by omega))
        rw [em, en] at s1 s2
        rw [if_neg hq]
        exact ⟨⟨fun z => absurd z y, fun _ => ⟨hvx, fun z => absurd z hq, fun _ => s1⟩⟩, s2⟩
theorem RP_le {K g : Nat} {Pk Pr Pl : Nat → Int32} {Pc : Nat → Int64} {Ko Kl : Nat → Int32} {Kc : Nat → Int64} (h : RP K Pk Pr Pl Pc Ko Kl Kc) (hg : g ≤ K) : RP g Pk Pr Pl Pc Ko Kl Kc := fun q hq => h q (by omega)
theorem r_end {d K T G B : Nat} {Bc Ce : Nat → Int64} {Bl Le Pk Pr Pl Ko Kl Kd Gf Gt Gx Tt Td Ek Er Ea Gg Ga Ex Bt : Nat → Int32} {Pc Kc : Nat → Int64} (hd : d ≤ 20) (hK : K ≤ 200) (hT : T ≤ 60) (hG : G ≤ 200) (hB : B ≤ 60)
    (hV : RV Bc Ce) (hL : RLv Bl Le) (hP : RP K Pk Pr Pl Pc Ko Kl Kc) (hQ : RKv K Kl) (hD : RD d K Gf Kd) (hW : RD d T Gt Td) (hX : ∀ q, q < T → Gx q = Tt q) (hE : RE G Ek Er Ea Gg Ga) (hY : ∀ q, q < B → Ex q = Bt q) (Eb Th : Int32) :
    S_X5_end Bc Bl Pk Pr Pl Pc (nI K) Gf Gt Gx (nI d) (nI T) Ek Er Ea Ex (nI G) Eb (nI B) ∧ S_X6_end Th Ce Le (nI d) (nI K) Kc Ko Kl Kd (nI T) Tt Td (nI G) Gg Ga (nI B) Bt ∧
    ∃ (o : Nat) (y y' th : Int32) (Bc' : Nat → Int64) (Bl' : Nat → Int32) (K' d' T' : Nat) (Ek' Er' Ea' Ex' : Nat → Int32) (G' : Nat) (Eb' : Int32) (B' : Nat) (Ce' : Nat → Int64) (Le' Gg' Ga' Bt' : Nat → Int32),
      f_X5_end Bc Bl Pk Pr Pl Pc (nI K) Gf Gt Gx (nI d) (nI T) Ek Er Ea Ex (nI G) Eb (nI B) = (o, y, Bc', Bl', nI K', nI d', nI T', Ek', Er', Ea', Ex', nI G', Eb', nI B') ∧
      f_X6_end Th Ce Le (nI d) (nI K) Kc Ko Kl Kd (nI T) Tt Td (nI G) Gg Ga (nI B) Bt = (y', th, Ce', Le', nI d', nI K', nI T', nI G', Gg', Ga', nI B', Bt') ∧
      (o = 0 ∨ o = 4) ∧ th = k_L_end o ∧ (o = 0 → y = y') ∧ (d' ≤ 20 ∧ K' ≤ 200 ∧ T' ≤ 60 ∧ G' ≤ 200 ∧ B' ≤ 60) ∧ RV Bc' Ce' ∧ RLv Bl' Le' ∧ RP K' Pk Pr Pl Pc Ko Kl Kc ∧ RKv K' Kl ∧ RD d' K' Gf Kd ∧ RD d' T' Gt Td ∧ (∀ q, q < T' → Gx q = Tt q) ∧ RE G' Ek' Er' Ea' Gg' Ga' ∧ (∀ q, q < B' → Ex' q = Bt' q) := by
  have i4 : (0 < nI d) ↔ 0 < d := nI_ltI (a := 0) (by omega) (by omega)
  have i5 : (nI d = 0) ↔ d = 0 := nI_eq (b := 0) (by omega) (by omega)
  by_cases hd0 : d = 0
  · have n4 : ¬ 0 < nI d := fun z => by have := i4.mp z; omega
    have n5 := i5.mpr hd0
    unfold S_X5_end S_X6_end f_X5_end f_X6_end
    rw [if_neg n4, if_pos n5]
    exact ⟨⟨fun z => absurd z n4, fun _ => True.intro⟩, ⟨fun _ => True.intro, fun z => absurd n5 z⟩, 4, 0, 0, 1, Bc, Bl, K, d, T, Ek, Er, Ea, Ex, G, Eb, B, Ce, Le, Gg, Ga, Bt, rfl, rfl, Or.inr rfl, rfl, fun z => absurd z (by decide), ⟨hd, hK, hT, hG, hB⟩, hV, hL, hP, hQ, hD, hW, hX, hE, hY⟩
  · have n4 : 0 < nI d := i4.mpr (by omega)
    have n5 : ¬ nI d = 0 := fun z => hd0 (i5.mp z)
    have n6 : ¬ nI d ≤ 0 := fun z => by have := (nI_leI (b := 0) (by omega) (by omega)).mp z; omega
    have n7 : ¬ (20 : Int32) < nI d := fun z => by have := (nI_ltI (a := 20) (by omega) (by omega)).mp z; omega
    have c3 : nI d - 1 = nI (d - 1) := pk_sub (b := 1) (by omega)
    have c4 : (nI (d - 1)).toNatClampNeg = d - 1 := clN (by omega)
    have hv1 : vp_in (nI (d - 1)) 20 := vin (by omega) (by omega)
    obtain ⟨g, g1, g2, g3⟩ := RD_first hD (by omega)
    obtain ⟨gt, t1, t2, t3⟩ := RD_first hW (by omega)
    have ek : f_X2_firstKept Gf (nI d) = nI g := by unfold f_X2_firstKept; rw [if_neg n6, if_neg n7, c3, c4, g2]
    have et : f_X2_firstToken Gt (nI d) = nI gt := by unfold f_X2_firstToken; rw [if_neg n6, if_neg n7, c3, c4, t2]
    have sk : S_X2_firstKept Gf (nI d) := ⟨fun _ => True.intro, fun _ => ⟨fun _ => True.intro, fun _ => ⟨by rw [c3]; exact hv1, True.intro⟩⟩⟩
    have st : S_X2_firstToken Gt (nI d) := ⟨fun _ => True.intro, fun _ => ⟨fun _ => True.intro, fun _ => ⟨by rw [c3]; exact hv1, True.intro⟩⟩⟩
    have hE0 : RE (K - K) Ek Er Ea Gg Ga := fun q hq => absurd hq (by omega)
    obtain ⟨p1, p2, x', b', Bc', Bl', Ek', Er', Ea', Ce', Le', Gg', Ga', p3, p4, p5, p6, p7⟩ := L_end32 (g := g) hK (by omega) hd hP hQ g3 201 K 0 Bc Bl Ek Er Ea Ce Le Gg Ga g1 (Nat.le_refl _) (by omega) hV hL hE0
    rw [Nat.sub_self] at p1 p2 p3 p4
    have em : nI K + (-1) = nI K - 1 := (Int32.sub_eq_add_neg _ _).symm
    rw [em] at p1 p3
    obtain ⟨q1, x2, Ex', q2, q3⟩ := L_ct hT t1 Gx 61 gt Ex (Nat.le_refl _) t1 (by omega) (fun q hq => absurd hq (by omega))
    rw [Nat.sub_self] at q1 q2
    have hTd : ∀ q, q < T → (Td q = nI d ↔ gt ≤ q) := by
      intro q hq
      obtain ⟨e, k1, k2, k3, k4⟩ := t3 q hq
      rw [k1, k4]
      exact nI_eq (by omega) (by omega)
    obtain ⟨r1, x3, Bt', r2, r3⟩ := L_220 hT t1 hTd (Tt := Tt) 61 0 Bt (by omega) (by omega) (fun q hq => absurd hq (by omega))
    rw [Nat.zero_min, Nat.zero_sub] at r1 r2
    have p1 : SL_X5_giveBackKept_10 201 (nI K - 1) Bc Bl Ek Er Ea 0 0 (nI g) Pk Pr Pl Pc := p1
    have p3 : L_X5_giveBackKept_10 201 (nI K - 1) Bc Bl Ek Er Ea 0 0 (nI g) Pk Pr Pl Pc = _ := p3
    have p2 : SL_X6_end_32 201 0 Ce Le (nI K) 0 Gg Ga (nI d) Kc Ko Kl Kd := p2
    have p4 : L_X6_end_32 201 0 Ce Le (nI K) 0 Gg Ga (nI d) Kc Ko Kl Kd = _ := p4
    have q1 : SL_X1_copyTokens_5 61 (nI gt) Ex 0 Gx (nI T) := q1
    have q2 : L_X1_copyTokens_5 61 (nI gt) Ex 0 Gx (nI T) = _ := q2
    have r1 : SL_X6_end_220 61 0 0 0 Bt (nI d) (nI T) Tt Td := r1
    have r2 : L_X6_end_220 61 0 0 0 Bt (nI d) (nI T) Tt Td = _ := r2
    have eg : f_X5_giveBackKept (nI g) Bc Bl Pk Pr Pl Pc (nI K) Ek Er Ea 0 0 = (Bc', Bl', nI g, Ek', Er', Ea', nI (K - g), b') := by
      unfold f_X5_giveBackKept
      simp only [p3]
    have sg : S_X5_giveBackKept (nI g) Bc Bl Pk Pr Pl Pc (nI K) Ek Er Ea 0 0 := ⟨p1, fun _ _ => True.intro⟩
    have ec : f_X1_copyTokens Gt Gx (nI d) (nI T) Ex 0 = (Ex', nI (T - gt)) := by
      unfold f_X1_copyTokens
      simp only [et, q2]
    have sc : S_X1_copyTokens Gt Gx (nI d) (nI T) Ex 0 := ⟨st, fun u2 e2 => by rw [e2, et]; exact ⟨q1, fun _ _ => True.intro⟩⟩
    have el : f_X2_close Gt (nI d) (nI T) = (nI (d - 1), nI gt) := by
      unfold f_X2_close
      simp only [et, n6, if_false, c3]
    have sl : S_X2_close Gt (nI d) (nI T) := ⟨fun _ => True.intro, fun _ => ⟨st, fun _ _ => True.intro⟩⟩
    unfold S_X5_end S_X6_end f_X5_end f_X6_end
    refine ⟨⟨fun _ u2 e2 => ⟨sk, fun u4 e4 => ?_⟩, fun _ => True.intro⟩, ⟨fun _ => True.intro, fun _ => ⟨p2, fun _ _ => ⟨r1, fun _ _ => True.intro⟩⟩⟩, ?_⟩
    · rw [e4, ek, e2]
      exact ⟨sg, fun u6 e6 => ⟨sc, fun u8 e8 => ⟨sl, fun _ _ => True.intro⟩⟩⟩
    · rw [if_pos n4, if_neg n5]
      simp only [f_X1_clear, ek, eg, ec, el, p4, r2, c3]
      refine ⟨0, b', b', 0, Bc', Bl', g, d - 1, gt, Ek', Er', Ea', Ex', K - g, b', T - gt, Ce', Le', Gg', Ga', Bt', rfl, rfl, Or.inl rfl, rfl, fun _ => rfl, ⟨by omega, by omega, by omega, by omega, by omega⟩, p5, p6, RP_le hP g1, fun q hq => hQ q (by omega), RD_pop hD (by omega) (by omega) g2 g1, RD_pop hW (by omega) (by omega) t2 t1, fun q hq => hX q (by omega), p7, fun q hq => ?_⟩
      rw [q3 q hq, r3 q hq]
      exact hX _ (by omega)
