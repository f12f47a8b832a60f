/-! end: what a group kept is given back -/
theorem dn (p : Nat) (h : p + 1 < 2147483648) : nI (p + 1) + (-1) = nI p := by
  rw [← Int32.sub_eq_add_neg]
  have e := pk_sub (a := p + 1) (b := 1) (by omega)
  exact e
theorem dn1 (p : Nat) (h : p + 1 < 2147483648) : nI (p + 1) - (1 : Int32) = nI p := by
  have e := pk_sub (a := p + 1) (b := 1) (by omega)
  exact e
theorem cpy_sh (f g : Nat → Int64) (sp dp n : Nat) : va_cpy f g sp dp n = va_cpy (fun j => f (sp + j)) g 0 dp n := by
  funext i
  by_cases h : dp ≤ i ∧ i < dp + n
  · obtain ⟨j, rfl⟩ : ∃ j, i = dp + j := ⟨i - dp, by omega⟩
    rw [cpy_in (by omega), cpy_in (by omega), Nat.zero_add]
  · rw [pk_cpy_out (by omega), pk_cpy_out (by omega)]
theorem L_124 {p0 p : Nat} (hp0 : p0 < 160) (hp : p < 200) {Le : Nat → Int32} (hL : ¬ Le p0 = 0) (Kc : Nat → Int64) : ∀ (n x : Nat) (Ce : Nat → Int64), x ≤ 21 → 21 - x < n → SL_X6_end_124 n (nI x) Ce (nI p0) Le (nI p) Kc ∧ (L_X6_end_124 n (nI x) Ce (nI p0) Le (nI p) Kc).2 = fl Ce (21 * p0) (fun j => Kc (21 * p + j)) x := by
  intro n
  induction n with
  | zero => intro x Ce _ h; exact absurd h (Nat.not_lt_zero _)
  | succ n ih =>
    intro x Ce hx h
    rw [SL_X6_end_124, L_X6_end_124]
    by_cases hc : 21 ≤ x
    · have y : (21 : Int32) ≤ nI x := (n21 x (by omega)).mpr hc
      rw [if_pos y]
      exact ⟨⟨fun _ => True.intro, fun z => absurd y z⟩, (fl_end _ _ _ hc).symm⟩
    · have y : ¬ (21 : Int32) ≤ nI x := fun z => hc ((n21 x (by omega)).mp z)
      have c0 : (nI p0).toNatClampNeg = p0 := clN (by omega)
      rw [if_neg y, c0, if_neg hL, m21, m21, nI_add, nI_add, clN (n := 21 * p0 + x) (by omega), clN (n := 21 * p + x) (by omega), ← nI_succ]
      obtain ⟨s1, s2⟩ := ih (x + 1) (vp_updL Ce (21 * p0 + x) (Kc (21 * p + x))) (by omega) (by omega)
      refine ⟨⟨fun z => absurd z y, fun _ => ⟨vin (by omega) (by omega), fun z => absurd z hL, fun _ => ⟨vin (by omega) (by omega), vin (by omega) (by omega), s1⟩⟩⟩, ?_⟩
      rw [s2]
      exact fl_step Ce (21 * p0) (fun j => Kc (21 * p + j)) (by omega)
theorem L_124z {p0 : Nat} (hp0 : p0 < 160) {Le : Nat → Int32} (hL : Le p0 = 0) (Ke : Int32) (Kc Ce : Nat → Int64) : SL_X6_end_124 22 (0 : Int32) Ce (nI p0) Le Ke Kc ∧ (L_X6_end_124 22 (0 : Int32) Ce (nI p0) Le Ke Kc).2 = Ce := by
  have c0 : (nI p0).toNatClampNeg = p0 := clN (by omega)
  rw [SL_X6_end_124, L_X6_end_124, c0, if_pos hL, if_neg (by decide)]
  exact ⟨⟨fun _ => True.intro, fun _ => ⟨vin (by omega) (by omega), fun _ => True.intro, fun z => absurd hL z⟩⟩, rfl⟩
theorem RE_push {m k r : Nat} {Ek Er Ea Gg Ga : Nat → Int32} (h : RE m Ek Er Ea Gg Ga) (hk : k < 5) (hr : r < 32) (a : Int32) : RE (m + 1) (upd Ek m (nI k)) (upd Er m (nI r)) (upd Ea m a) (upd Gg m (nI (32 * k + r))) (upd Ga m a) := by
  intro q hq
  by_cases z : q = m
  · simp only [uI, if_pos z]
    exact ⟨k, r, hk, hr, rfl, rfl, rfl, trivial⟩
  · simp only [uI, if_neg z]
    exact h q (by omega)
theorem appN {m : Nat} (hm' : m < 200) (a0 a1 : Int32) (a : Int32) (ha : a = 0 ∨ a = 1) (Ek Er Ea : Nat → Int32) (b : Int32) : S_X1_append a0 a1 a Ek Er Ea (nI m) b ∧ f_X1_append a0 a1 a Ek Er Ea (nI m) b = (upd Ek m a0, upd Er m a1, upd Ea m a, nI (m + 1), b + a) := by
  have n1 : ¬ nI m < 0 := nI_pos (by omega)
  have n2 : ¬ (200 : Int32) ≤ nI m := fun z => by have := (nI_leI (a := 200) (b := m) (by omega) (by omega)).mp z; omega
  have c0 : (nI m).toNatClampNeg = m := clN (by omega)
  have hv : vp_in (nI m) 200 := vin hm' (by omega)
  unfold S_X1_append f_X1_append
  refine ⟨⟨fun _ => True.intro, fun _ => ⟨fun _ => True.intro, fun _ => ⟨hv, hv, fun _ => ⟨hv, hv, True.intro⟩, fun _ => ⟨hv, hv, True.intro⟩⟩⟩⟩, ?_⟩
  rw [if_neg n1, if_neg n2, c0, ← nI_succ]
  rcases ha with rfl | rfl
  · rw [if_pos rfl, uI, if_pos rfl]
  · rw [if_neg ne10, uI, if_pos rfl]
theorem cpyP {k r p : Nat} (hk : k < 5) (hr : r < 32) (hp : p < 200) (Bc Pc : Nat → Int64) : S_X0_copyFromP (nI p * (21 : Int32)) (nI k) (nI r) Bc Pc ∧ f_X0_copyFromP (nI p * (21 : Int32)) (nI k) (nI r) Bc Pc = va_cpy (fun j => Pc (p * 21 + j)) Bc 0 (hm k + r * wd k) (wd k) := by
  have hw := wd_le hk
  have hl := hm_le hk hr
  have e1 : nI p * (21 : Int32) = nI (p * 21) := by rw [show (21 : Int32) = nI 21 from rfl, pk_mul]
  have c0 : (nI (p * 21)).toNatClampNeg = p * 21 := clN (by omega)
  have c1 : (nI (hm k + r * wd k)).toNatClampNeg = hm k + r * wd k := clN (by omega)
  have c2 : (nI (wd k)).toNatClampNeg = wd k := clN (by omega)
  unfold S_X0_copyFromP f_X0_copyFromP
  rw [e1, homeN hk, gW hk, c0, c1, c2]
  exact ⟨⟨S_homeN hk _, vin (by omega) (by omega), nI_pos (by omega), nI_pos (by omega), nI_pos (by omega), by omega, by omega, True.intro⟩, cpy_sh _ _ _ _ _⟩
theorem L_end32 {K g d : Nat} {Pk Pr Pl Ko Kl Kd : Nat → Int32} {Pc Kc : Nat → Int64} (hK : K ≤ 200) (hd1 : 0 < d) (hd : d ≤ 20) (hP : RP K Pk Pr Pl Pc Ko Kl Kc) (hQ : RKv K Kl) (hT : ∀ q, q < K → ∃ e, Kd q = nI e ∧ 1 ≤ e ∧ e ≤ d ∧ (g ≤ q ↔ e = d)) :
    ∀ (n q : Nat) (b : Int32) (Bc : Nat → Int64) (Bl Ek Er Ea : Nat → Int32) (Ce : Nat → Int64) (Le Gg Ga : Nat → Int32), g ≤ q → q ≤ K → q - g < n → RV Bc Ce → RLv Bl Le → RE (K - q) Ek Er Ea Gg Ga →
      SL_X5_giveBackKept_10 n (nI q + (-1)) Bc Bl Ek Er Ea (nI (K - q)) b (nI g) Pk Pr Pl Pc ∧ SL_X6_end_32 n b Ce Le (nI q) (nI (K - q)) Gg Ga (nI d) Kc Ko Kl Kd ∧
      ∃ (x' b' : Int32) (Bc' : Nat → Int64) (Bl' Ek' Er' Ea' : Nat → Int32) (Ce' : Nat → Int64) (Le' Gg' Ga' : Nat → Int32), L_X5_giveBackKept_10 n (nI q + (-1)) Bc Bl Ek Er Ea (nI (K - q)) b (nI g) Pk Pr Pl Pc = (x', Bc', Bl', Ek', Er', Ea', nI (K - g), b') ∧ L_X6_end_32 n b Ce Le (nI q) (nI (K - q)) Gg Ga (nI d) Kc Ko Kl Kd = (b', Ce', Le', nI g, nI (K - g), Gg', Ga') ∧ RV Bc' Ce' ∧ RLv Bl' Le' ∧ RE (K - g) Ek' Er' Ea' Gg' Ga' := by
  intro n
  induction n with
  | zero => intro q b Bc Bl Ek Er Ea Ce Le Gg Ga _ _ h; exact absurd h (Nat.not_lt_zero _)
  | succ n ih =>
    intro q b Bc Bl Ek Er Ea Ce Le Gg Ga hgq hqK hn hV hL hE
    rw [SL_X5_giveBackKept_10, L_X5_giveBackKept_10, SL_X6_end_32, L_X6_end_32]
    rcases Nat.eq_zero_or_pos q with hq0 | hq0
    · subst hq0
      have hg0 : g = 0 := by omega
      subst hg0
      have y1 : nI 0 + (-1) < nI 0 := by decide
      have y2 : nI 0 ≤ 0 := by decide
      rw [if_pos y1, if_pos y2]
      exact ⟨⟨fun _ => True.intro, fun z => absurd y1 z⟩, ⟨fun _ => True.intro, fun z => absurd y2 z⟩, _, b, Bc, Bl, Ek, Er, Ea, Ce, Le, Gg, Ga, rfl, rfl, hV, hL, hE⟩
    · obtain ⟨p, rfl⟩ : ∃ p, q = p + 1 := ⟨q - 1, by omega⟩
      rw [dn p (by omega), dn1 p (by omega)]
      have z2 : ¬ nI (p + 1) ≤ 0 := fun z => by have := (nI_leI (b := 0) (by omega) (by omega)).mp z; omega
      have i1 : (nI p < nI g) ↔ p < g := nI_ltI (by omega) (by omega)
      have cp : (nI p).toNatClampNeg = p := clN (by omega)
      obtain ⟨e, t1, t2, t3, t4⟩ := hT p (by omega)
      have t5 : (Kd p = nI d) ↔ g ≤ p := by rw [t1, t4]; exact nI_eq (by omega) (by omega)
      have hvp : vp_in (nI p) 200 := vin (by omega) (by omega)
      by_cases hc : p < g
      · have y1 := i1.mpr hc
        have y2 : ¬ Kd p = nI d := fun z => by have := t5.mp z; omega
        have hgp : g = p + 1 := by omega
        rw [if_pos y1, if_neg z2, cp, if_neg y2, hgp]
        exact ⟨⟨fun _ => True.intro, fun z => absurd (by rw [← hgp]; exact y1) z⟩, ⟨fun z => absurd z z2, fun _ => ⟨hvp, fun z => absurd z y2, fun _ => True.intro⟩⟩, _, b, Bc, Bl, Ek, Er, Ea, Ce, Le, Gg, Ga, rfl, rfl, hV, hL, hE⟩
      · have y1 : ¬ nI p < nI g := fun z => hc (i1.mp z)
        have y2 : Kd p = nI d := t5.mpr (by omega)
        have y3 : ¬ nI p < 0 := nI_pos (by omega)
        have y4 : ¬ (200 : Int32) ≤ nI p := fun z => by have := (nI_leI (a := 200) (b := p) (by omega) (by omega)).mp z; omega
        obtain ⟨k, r, hk, hr, k1, k2, k3, k4, k5, k6⟩ := hP p (by omega)
        have w4 : f_X5_within (nI k).toInt64 0 4 = 1 := w1 (by rw [i3264, nI_toInt (by omega)]; have l0 : (0 : Int64).toInt = 0 := rfl; omega) (by rw [i3264, nI_toInt (by omega)]; have l0 : (4 : Int64).toInt = 4 := rfl; omega)
        have w31 : f_X5_within (nI r).toInt64 0 31 = 1 := w1 (by rw [i3264, nI_toInt (by omega)]; have l0 : (0 : Int64).toInt = 0 := rfl; omega) (by rw [i3264, nI_toInt (by omega)]; have l0 : (31 : Int64).toInt = 31 := rfl; omega)
        have hp0 : 32 * k + r < 160 := by omega
        have c0 : (nI (32 * k + r)).toNatClampNeg = 32 * k + r := clN (by omega)
        have cm : (nI (K - (p + 1))).toNatClampNeg = K - (p + 1) := clN (by omega)
        have hvm : vp_in (nI (K - (p + 1))) 200 := vin (by omega) (by omega)
        have hv0 : vp_in (nI (32 * k + r)) 160 := vin hp0 (by omega)
        have em : K - p = K - (p + 1) + 1 := by omega
        rw [if_neg y1, if_neg y3, if_neg y4, if_neg z2, cp, if_pos y2, k1, k2, k3, w4, w31, if_neg ne10, if_neg ne10, placeN, c0, cm, (hL _ hp0).1, ← nI_succ]
        by_cases h0 : Le (32 * k + r) = 0
        · obtain ⟨sa, ea⟩ := appN (m := K - (p + 1)) (by omega) (nI k) (nI r) 0 (Or.inl rfl) Ek Er Ea b
          obtain ⟨sz, ez⟩ := L_124z hp0 h0 (nI p) Kc Ce
          have hL' : RLv Bl (upd Le (32 * k + r) 0) := by
            intro q hq
            rw [uI]
            by_cases zq : q = 32 * k + r
            · rw [if_pos zq, zq, (hL _ hp0).1, h0]; exact ⟨rfl, by decide⟩
            · rw [if_neg zq]; exact hL q hq
          obtain ⟨s1, s2, s3⟩ := ih p (b + 0) Bc Bl (upd Ek (K - (p + 1)) (nI k)) (upd Er (K - (p + 1)) (nI r)) (upd Ea (K - (p + 1)) 0) Ce (upd Le (32 * k + r) 0) (upd Gg (K - (p + 1)) (nI (32 * k + r))) (upd Ga (K - (p + 1)) 0) (by omega) (by omega) (by omega) hV hL' (by rw [em]; exact RE_push hE hk hr 0)
          rw [em] at s1 s2 s3
          have ug : upd Ga (K - (p + 1)) 0 (K - (p + 1)) = 0 := by rw [uI, if_pos rfl]
          rw [if_pos h0, if_pos h0, ug]
          simp only [ez, ea]
          refine ⟨⟨fun z => absurd z y1, fun _ => ⟨fun z => absurd z y3, fun _ => ⟨fun z => absurd z y4, fun _ => ⟨hvp, hvp, fun z => absurd z ne10, fun _ => ⟨fun z => absurd z ne10, fun _ => ⟨hv0, fun _ => ⟨sa, fun u eu => ?_⟩, fun z => absurd h0 z⟩⟩⟩⟩⟩⟩,
            ⟨fun z => absurd z z2, fun _ => ⟨hvp, fun _ => ⟨hvp, hvm, hv0, fun _ => ⟨hvm, hvm, sz, fun u eu => ⟨hv0, hv0, ?_⟩⟩, fun z => absurd h0 z⟩, fun z => absurd y2 z⟩⟩, s3⟩
          · rw [eu]; exact s1
          · rw [eu, ez]; exact s2
        · obtain ⟨sa, ea⟩ := appN (m := K - (p + 1)) (by omega) (nI k) (nI r) 1 (Or.inr rfl) Ek Er Ea b
          obtain ⟨sz, ez⟩ := L_124 hp0 (p := p) (by omega) h0 Kc 22 0 Ce (by omega) (by omega)
          have sz : SL_X6_end_124 22 (0 : Int32) Ce (nI (32 * k + r)) Le (nI p) Kc := sz
          have ez : (L_X6_end_124 22 (0 : Int32) Ce (nI (32 * k + r)) Le (nI p) Kc).2 = fl Ce (21 * (32 * k + r)) (fun j => Kc (21 * p + j)) 0 := ez
          obtain ⟨sc, ec⟩ := cpyP hk hr (p := p) (by omega) Bc Pc
          have hV' := RV_put hV hk hr (Md := fun j => Pc (p * 21 + j)) (Va := fun j => Kc (21 * p + j)) (fun j hj => by rw [Nat.mul_comm p 21]; exact k6 j hj) k5
          have hL' := RL_upd hL (32 * k + r) (v := Kl p) (hQ p (by omega))
          obtain ⟨s1, s2, s3⟩ := ih p (b + 1) _ _ (upd Ek (K - (p + 1)) (nI k)) (upd Er (K - (p + 1)) (nI r)) (upd Ea (K - (p + 1)) 1) _ _ (upd Gg (K - (p + 1)) (nI (32 * k + r))) (upd Ga (K - (p + 1)) 1) (by omega) (by omega) (by omega) hV' hL' (by rw [em]; exact RE_push hE hk hr 1)
          rw [em] at s1 s2 s3
          have ug : upd Ga (K - (p + 1)) 1 (K - (p + 1)) = 1 := by rw [uI, if_pos rfl]
          rw [if_neg h0, if_neg h0, ug]
          simp only [ez, ea, ec, k4]
          refine ⟨⟨fun z => absurd z y1, fun _ => ⟨fun z => absurd z y3, fun _ => ⟨fun z => absurd z y4, fun _ => ⟨hvp, hvp, fun z => absurd z ne10, fun _ => ⟨fun z => absurd z ne10, fun _ => ⟨hv0, fun z => absurd z h0, fun _ => ⟨sc, fun u15 e15 => ⟨hvp, hv0, sa, fun u eu => ?_⟩⟩⟩⟩⟩⟩⟩⟩,
            ⟨fun z => absurd z z2, fun _ => ⟨hvp, fun _ => ⟨hvp, hvm, hv0, fun z => absurd z h0, fun _ => ⟨hvm, hvm, sz, fun u eu => ⟨hv0, hvp, hv0, ?_⟩⟩⟩, fun z => absurd y2 z⟩⟩, s3⟩
          · rw [eu, e15]; exact s1
          · rw [eu, ez]; exact s2
