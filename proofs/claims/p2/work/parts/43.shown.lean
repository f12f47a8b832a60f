/-! shown -/
def sg (a2 Si : Int32) (T : Nat → Int32) : Int32 := if a2 < 0 then -1 else if Si ≤ a2 then -1 else T a2.toNatClampNeg
theorem sg_pair {α : Type} (a2 Si v : Int32) (X : α) : (if a2 < 0 then ((-1 : Int32), (0 : Int32), X) else (if Si ≤ a2 then ((-1 : Int32), (0 : Int32), X) else (v, (0 : Int32), X))) = ((if a2 < 0 then (-1 : Int32) else if Si ≤ a2 then -1 else v), (0 : Int32), X) := by
  by_cases h : a2 < 0
  · rw [if_pos h, if_pos h]
  · rw [if_neg h, if_neg h]
    by_cases h2 : Si ≤ a2
    · rw [if_pos h2, if_pos h2]
    · rw [if_neg h2, if_neg h2]
theorem sg_in {k : Nat} (hk : k ≤ 61) {a2 : Int32} (h : ¬ a2 < 0) (h2 : ¬ nI k ≤ a2) : ∃ i, i < k ∧ a2 = nI i := by
  have h0 : (0 : Int32).toInt = 0 := rfl
  rw [i32lt] at h
  rw [i32le, nI_toInt (by omega)] at h2
  refine ⟨a2.toInt.toNat, by omega, ?_⟩
  apply Int32.toInt_inj.mp
  rw [nI_toInt (by omega)]
  omega
theorem sg_S {k : Nat} (hk : k ≤ 61) (a2 : Int32) : (a2 < 0 → True) ∧ (¬ a2 < 0 → ((nI k ≤ a2 → True) ∧ (¬ nI k ≤ a2 → (vp_in a2 120 ∧ True)))) := by
  refine ⟨fun _ => True.intro, fun h => ⟨fun _ => True.intro, fun h2 => ?_⟩⟩
  obtain ⟨i, hi, rfl⟩ := sg_in hk h h2
  exact ⟨vin (by omega) (by omega), True.intro⟩
theorem sg_X4 {k : Nat} (hk : k ≤ 61) {S T : Nat → Int32} (hs : SR k S T) (a2 : Int32) : S_X4_signAt a2 S (nI k) ∧ f_X4_signAt a2 S (nI k) = sg a2 (nI k) T := by
  unfold S_X4_signAt f_X4_signAt sg
  by_cases h : a2 < 0
  · rw [if_pos h, if_pos h]
    exact ⟨⟨fun _ => True.intro, fun z => absurd h z⟩, rfl⟩
  · rw [if_neg h, if_neg h]
    by_cases h2 : nI k ≤ a2
    · rw [if_pos h2, if_pos h2]
      exact ⟨⟨fun _ => True.intro, fun _ => ⟨fun _ => True.intro, fun z => absurd h2 z⟩⟩, rfl⟩
    · rw [if_neg h2, if_neg h2]
      obtain ⟨i, hi, rfl⟩ := sg_in hk h h2
      have y : nI i < (61 : Int32) := (nI_ltI (b := 61) (by omega) (by omega)).mpr (by omega)
      rw [if_pos y, clN (n := i) (by omega), hs i hi]
      exact ⟨⟨fun _ => True.intro, fun _ => ⟨fun _ => True.intro, fun _ => ⟨fun _ => ⟨vin (by omega) (by omega), True.intro⟩, fun _ => True.intro⟩⟩⟩, rfl⟩
theorem r_shown {Bc Ce : Nat → Int64} (hR : RV Bc Ce) (a0 a1 a2 Th Sm Si Bz : Int32) (Ss Te Bk : Nat → Int32) :
    S_X5_shown a0 a1 a2 Bc Ss Sm ∧ S_X6_shown a0 a1 a2 Th Ce Si Te Bz Bk ∧ ∃ (o : Nat) (r r' th : Int32) (Ss' : Nat → Int32) (Sm' Si' : Int32) (Te' : Nat → Int32) (Bz' : Int32) (Bk' : Nat → Int32), f_X5_shown a0 a1 a2 Bc Ss Sm = (o, r, Ss', Sm') ∧ f_X6_shown a0 a1 a2 Th Ce Si Te Bz Bk = (r', th, Si', Te', Bz', Bk') ∧ (o = 0 ∨ o = 1 ∨ o = 2) ∧ th = k_L_shown o ∧ (o = 0 → r = r') := by
  rcases kin4 a0 with ⟨k, hk, rfl, e1, e2⟩ | ⟨e1, e2⟩
  · rcases reg a1 with ⟨r, hr, rfl, e3, e4⟩ | ⟨e3, e4⟩
    · have hw := wd_le hk
      have hl := hm_le hk hr
      have x1 : (21 : Int32) * ((32 : Int32) * nI k + nI r) = nI (21 * (32 * k + r)) := by
        rw [show (32 : Int32) = nI 32 from rfl, show (21 : Int32) = nI 21 from rfl, pk_mul, nI_add, pk_mul]
      have c1 : (nI (hm k + r * wd k)).toNatClampNeg = hm k + r * wd k := clN (by omega)
      have c2 : (nI (21 * (32 * k + r))).toNatClampNeg = 21 * (32 * k + r) := clN (by omega)
      have ec : f_X4_clear Sm = 0 := rfl
      obtain ⟨hv, he⟩ := hR k r hk hr
      have he0 : Bc (hm k + r * wd k) = Ce (21 * (32 * k + r)) := he 0 (by omega)
      -- what both write
      have main : S_X5_writeRegister (nI k) (nI (hm k + r * wd k)) Bc Ss 0 ∧ S_X6_shown (nI k) (nI r) a2 Th Ce Si Te Bz Bk ∧ ∃ (n : Nat) (S' T' B' : Nat → Int32) (z' : Int32), n ≤ 61 ∧ SR n S' T' ∧ f_X5_writeRegister (nI k) (nI (hm k + r * wd k)) Bc Ss 0 = (S', nI n) ∧ f_X6_shown (nI k) (nI r) a2 Th Ce Si Te Bz Bk = (sg a2 (nI n) T', 0, nI n, T', z', B') := by
        unfold S_X5_writeRegister f_X5_writeRegister S_X6_shown f_X6_shown
        rw [e2, e4, if_neg ne10, if_neg ne10, x1, c1, c2, he0]
        have vh : vp_in (nI (hm k + r * wd k)) 928 := vin (by omega) (by omega)
        have vc : vp_in (nI (21 * (32 * k + r))) 3360 := vin (by omega) (by omega)
        rcases (show k = 0 ∨ k = 1 ∨ k = 2 ∨ k = 3 ∨ k = 4 by omega) with rfl | rfl | rfl | rfl | rfl
        · obtain ⟨b1, b2⟩ := hv.1 rfl
          have b1 : -2147483647 ≤ (Ce (21 * (32 * 0 + r))).toInt := b1
          have b2 : (Ce (21 * (32 * 0 + r))).toInt ≤ 2147483647 := b2
          obtain ⟨s1, s2, c, S', T', B', hc, w1, w2, w3⟩ := b_num (a := Ce (21 * (32 * 0 + r))) (by omega) (by omega) (m := 0) (by omega) (Ss := Ss) (Te := Te) (fun q hq => absurd hq (by omega)) Bz Bk
          rw [Nat.zero_add c] at w1 w2 w3
          have s1 : S_X4_writeNumber (Ce (21 * (32 * 0 + r))) Ss (0 : Int32) := s1
          have s2 : S_X6_sayNumber (Ce (21 * (32 * 0 + r))) (0 : Int32) Te Bz Bk := s2
          have w1 : f_X4_writeNumber (Ce (21 * (32 * 0 + r))) Ss (0 : Int32) = (S', nI c) := w1
          have w2 : f_X6_sayNumber (Ce (21 * (32 * 0 + r))) (0 : Int32) Te Bz Bk = (nI c, T', 0, B') := w2
          have n0 : nI 0 = 0 := rfl
          have n1 : ¬ nI 0 = (1 : Int32) := by decide
          have n2 : ¬ nI 0 = (2 : Int32) := by decide
          have n3 : ¬ nI 0 = (3 : Int32) := by decide
          have n4 : ¬ nI 0 = (4 : Int32) := by decide
          refine ⟨⟨fun _ => ⟨vh, s1, fun _ _ => True.intro⟩, fun z => absurd n0 z⟩, ⟨fun z => absurd z ne10, fun _ => ⟨fun z => absurd z ne10, fun _ => ⟨fun z => absurd z n1, fun _ => ⟨fun z => absurd z n2, fun _ => ⟨fun z => absurd z n3, fun _ => ⟨fun z => absurd z n4, fun _ => ⟨vc, s2, fun u hu => ?_⟩⟩⟩⟩⟩⟩⟩, c, S', T', B', 0, by omega, w3, ?_, ?_⟩
          · rw [hu, w2]; exact sg_S (by omega) a2
          · rw [if_pos n0]; simp only [w1]
          · rw [if_neg n1, if_neg n2, if_neg n3, if_neg n4]; simp only [w2]; exact sg_pair a2 (nI c) _ _
        · obtain ⟨b1, b2⟩ := hv.2.1 rfl
          have b1 : -1073741823 ≤ (Ce (21 * (32 * 1 + r))).toInt := b1
          have b2 : (Ce (21 * (32 * 1 + r))).toInt ≤ 1073741823 := b2
          obtain ⟨s1, s2, c, S', T', B', hc, w1, w2, w3⟩ := b_len (a := Ce (21 * (32 * 1 + r))) (by omega) (by omega) (m := 0) (by omega) (Ss := Ss) (Te := Te) (fun q hq => absurd hq (by omega)) Bz Bk
          rw [Nat.zero_add c] at w1 w2 w3
          have s1 : S_X4_writeLength (Ce (21 * (32 * 1 + r))) Ss (0 : Int32) := s1
          have s2 : S_X6_sayLength (Ce (21 * (32 * 1 + r))) (0 : Int32) Te Bz Bk := s2
          have w1 : f_X4_writeLength (Ce (21 * (32 * 1 + r))) Ss (0 : Int32) = (S', nI c) := w1
          have w2 : f_X6_sayLength (Ce (21 * (32 * 1 + r))) (0 : Int32) Te Bz Bk = (nI c, T', 0, B') := w2
          have n0 : ¬ nI 1 = 0 := by decide
          have n1 : nI 1 = (1 : Int32) := rfl
          refine ⟨⟨fun z => absurd z n0, fun _ => ⟨fun _ => ⟨vh, s1, fun _ _ => True.intro⟩, fun z => absurd n1 z⟩⟩, ⟨fun z => absurd z ne10, fun _ => ⟨fun z => absurd z ne10, fun _ => ⟨fun _ => ⟨vc, s2, fun u hu => ?_⟩, fun z => absurd n1 z⟩⟩⟩, c, S', T', B', 0, by omega, w3, ?_, ?_⟩
          · rw [hu, w2]; exact sg_S (by omega) a2
          · rw [if_neg n0, if_pos n1]; simp only [w1]
          · rw [if_pos n1]; simp only [w2]; exact sg_pair a2 (nI c) _ _
        · obtain ⟨s1, s2, c, S', T', B', z', hc, w1, w2, w3⟩ := b_glue (h := hm 2 + r * wd 2) (c := 21 * (32 * 2 + r)) (by have : wd 2 = 5 := rfl; omega) (by omega) (Bc := Bc) (Ce := Ce) hv (fun j hj => he j hj) Ss Te Bz Bk
          have n0 : ¬ nI 2 = 0 := by decide
          have n1 : ¬ nI 2 = (1 : Int32) := by decide
          have n2 : nI 2 = (2 : Int32) := rfl
          refine ⟨⟨fun z => absurd z n0, fun _ => ⟨fun z => absurd z n1, fun _ => ⟨fun _ => ⟨s1, fun _ _ => True.intro⟩, fun z => absurd n2 z⟩⟩⟩, ⟨fun z => absurd z ne10, fun _ => ⟨fun z => absurd z ne10, fun _ => ⟨fun z => absurd z n1, fun _ => ⟨fun _ => ⟨s2, fun u hu => ?_⟩, fun z => absurd n2 z⟩⟩⟩⟩, c, S', T', B', z', by omega, w3, ?_, ?_⟩
          · rw [hu, w2]; exact sg_S (by omega) a2
          · rw [if_neg n0, if_neg n1, if_pos n2]; simp only [w1]
          · rw [if_neg n1, if_pos n2]; simp only [w2]; exact sg_pair a2 (nI c) _ _
        · obtain ⟨N, hN, eN⟩ := hv.2.2.2.1 rfl
          have eN : Ce (21 * (32 * 3 + r)) = lN N := eN
          have hE : ∀ j, j < 20 → Bc (hm 3 + r * wd 3 + 1 + j) = Ce (21 * (32 * 3 + r) + 1 + j) := fun j hj => by
            have q := he (1 + j) (by have : wd 3 = 21 := rfl; omega)
            rw [← Nat.add_assoc, ← Nat.add_assoc] at q
            exact q
          obtain ⟨s1, s2, x, y, c, S', T', hc, w1, w2, w3⟩ := L_row (h := hm 3 + r * wd 3) (c := 21 * (32 * 3 + r)) (N := N) (Bc := Bc) (Ce := Ce) (by have : wd 3 = 21 := rfl; omega) (by omega) hN (he0.trans eN) eN hE 21 0 0 Ss Te (by omega) (by omega) (by omega) (fun q hq => absurd hq (by omega))
          rw [Nat.zero_add c] at w1 w2 w3 hc
          have s1 : SL_X5_writeRow_2 21 (0 : Int32) Ss (0 : Int32) (nI (hm 3 + r * wd 3)) Bc := s1
          have s2 : SL_X6_shown_93 22 (0 : Int32) (0 : Int32) Te (nI (21 * (32 * 3 + r))) Ce := s2
          have w1 : L_X5_writeRow_2 21 (0 : Int32) Ss (0 : Int32) (nI (hm 3 + r * wd 3)) Bc = (x, S', nI c) := w1
          have w2 : L_X6_shown_93 22 (0 : Int32) (0 : Int32) Te (nI (21 * (32 * 3 + r))) Ce = (y, nI c, T') := w2
          have n0 : ¬ nI 3 = 0 := by decide
          have n1 : ¬ nI 3 = (1 : Int32) := by decide
          have n2 : ¬ nI 3 = (2 : Int32) := by decide
          have n3 : nI 3 = (3 : Int32) := rfl
          refine ⟨⟨fun z => absurd z n0, fun _ => ⟨fun z => absurd z n1, fun _ => ⟨fun z => absurd z n2, fun _ => ⟨fun _ => ⟨⟨s1, fun _ _ => True.intro⟩, fun _ _ => True.intro⟩, fun z => absurd n3 z⟩⟩⟩⟩, ⟨fun z => absurd z ne10, fun _ => ⟨fun z => absurd z ne10, fun _ => ⟨fun z => absurd z n1, fun _ => ⟨fun z => absurd z n2, fun _ => ⟨fun _ => ⟨s2, fun u hu => ?_⟩, fun z => absurd n3 z⟩⟩⟩⟩⟩, c, S', T', Bk, Bz, hc, w3, ?_, ?_⟩
          · rw [hu, w2]; exact sg_S hc a2
          · rw [if_neg n0, if_neg n1, if_neg n2, if_pos n3]; unfold f_X5_writeRow; simp only [w1]
          · rw [if_neg n1, if_neg n2, if_pos n3]; simp only [w2]; exact sg_pair a2 (nI c) _ _
        · obtain ⟨b1, b2⟩ := hv.2.2.2.2 rfl
          have b1 : -1 ≤ (Ce (21 * (32 * 4 + r))).toInt := b1
          have b2 : (Ce (21 * (32 * 4 + r))).toInt ≤ 999 := b2
          have n0 : ¬ nI 4 = 0 := by decide
          have n1 : ¬ nI 4 = (1 : Int32) := by decide
          have n2 : ¬ nI 4 = (2 : Int32) := by decide
          have n3 : ¬ nI 4 = (3 : Int32) := by decide
          have n4 : nI 4 = (4 : Int32) := rfl
          have l0 : (0 : Int64).toInt = 0 := rfl
          have lm : (-1 : Int64).toInt = -1 := rfl
          by_cases hp : (0 : Int64) ≤ Ce (21 * (32 * 4 + r))
          · have hq : ¬ Ce (21 * (32 * 4 + r)) = (-1 : Int64) := fun z => by
              rw [z, i64le, l0, lm] at hp
              omega
            obtain ⟨s1, s2, c, S', T', B', hc, w1, w2, w3⟩ := b_num (a := Ce (21 * (32 * 4 + r))) (by omega) (by omega) (m := 0) (by omega) (Ss := Ss) (Te := Te) (fun q hq => absurd hq (by omega)) Bz Bk
            rw [Nat.zero_add c] at w1 w2 w3
            have s1 : S_X4_writeNumber (Ce (21 * (32 * 4 + r))) Ss (0 : Int32) := s1
            have s2 : S_X6_sayNumber (Ce (21 * (32 * 4 + r))) (0 : Int32) Te Bz Bk := s2
            have w1 : f_X4_writeNumber (Ce (21 * (32 * 4 + r))) Ss (0 : Int32) = (S', nI c) := w1
            have w2 : f_X6_sayNumber (Ce (21 * (32 * 4 + r))) (0 : Int32) Te Bz Bk = (nI c, T', 0, B') := w2
            refine ⟨⟨fun z => absurd z n0, fun _ => ⟨fun z => absurd z n1, fun _ => ⟨fun z => absurd z n2, fun _ => ⟨fun z => absurd z n3, fun _ => ⟨vh, fun z => absurd z hq, fun _ => ⟨vh, s1, fun _ _ => True.intro⟩⟩⟩⟩⟩⟩, ⟨fun z => absurd z ne10, fun _ => ⟨fun z => absurd z ne10, fun _ => ⟨fun z => absurd z n1, fun _ => ⟨fun z => absurd z n2, fun _ => ⟨fun z => absurd z n3, fun _ => ⟨fun _ => ⟨vc, fun _ => ⟨vc, s2, fun u hu => ?_⟩, fun z => absurd hp z⟩, fun z => absurd n4 z⟩⟩⟩⟩⟩⟩, c, S', T', B', 0, by omega, w3, ?_, ?_⟩
            · rw [hu, w2]; exact sg_S (by omega) a2
            · rw [if_neg n0, if_neg n1, if_neg n2, if_neg n3, if_neg hq]; simp only [w1]
            · rw [if_neg n1, if_neg n2, if_neg n3, if_pos n4, if_pos hp]; simp only [w2]; exact sg_pair a2 (nI c) _ _
          · have hq : Ce (21 * (32 * 4 + r)) = (-1 : Int64) := by
              apply Int64.toInt_inj.mp
              rw [i64le, l0] at hp
              rw [lm]
              omega
            obtain ⟨s1, s2, S', T', w1, w2, w3⟩ := b_void (m := 0) (by omega) (Ss := Ss) (Te := Te) (fun q hq => absurd hq (by omega))
            have s1 : S_X4_writeText [118, 111, 105, 100] Ss (0 : Int32) := s1
            have s2 : S_X6_sayVoid (0 : Int32) Te := s2
            have w1 : f_X4_writeText [118, 111, 105, 100] Ss (0 : Int32) = (S', nI 4) := w1
            have w2 : f_X6_sayVoid (0 : Int32) Te = (nI 4, T') := w2
            refine ⟨⟨fun z => absurd z n0, fun _ => ⟨fun z => absurd z n1, fun _ => ⟨fun z => absurd z n2, fun _ => ⟨fun z => absurd z n3, fun _ => ⟨vh, fun _ => ⟨s1, fun _ _ => True.intro⟩, fun z => absurd hq z⟩⟩⟩⟩⟩, ⟨fun z => absurd z ne10, fun _ => ⟨fun z => absurd z ne10, fun _ => ⟨fun z => absurd z n1, fun _ => ⟨fun z => absurd z n2, fun _ => ⟨fun z => absurd z n3, fun _ => ⟨fun _ => ⟨vc, fun z => absurd z hp, fun _ => ⟨s2, fun u hu => ?_⟩⟩, fun z => absurd n4 z⟩⟩⟩⟩⟩⟩, 4, S', T', Bk, Bz, by omega, w3, ?_, ?_⟩
            · rw [hu, w2]; exact sg_S (k := 4) (by omega) a2
            · rw [if_neg n0, if_neg n1, if_neg n2, if_neg n3, if_pos hq]; simp only [w1]
            · rw [if_neg n1, if_neg n2, if_neg n3, if_pos n4, if_neg hp]; simp only [w2]; exact sg_pair a2 (nI 4) _ _
      obtain ⟨m1, m2, n, S', T', B', z', hn, hs, m3, m4⟩ := main
      obtain ⟨g1, g2⟩ := sg_X4 hn hs a2
      refine ⟨?_, m2, 0, sg a2 (nI n) T', sg a2 (nI n) T', 0, S', nI n, nI n, T', z', B', ?_, m4, Or.inl rfl, rfl, fun _ => rfl⟩
      · intro u1 _ _ u3 _ _ u5 h5
        rw [h5, ec, homeN hk]
        refine ⟨S_homeN hk _, m1, fun u8 h8 => ?_⟩
        rw [h8, m3]
        exact ⟨g1, fun _ _ => True.intro⟩
      · unfold f_X5_shown
        simp only [e1, e3, if_true, ec, homeN hk, m3, g2]
    · refine ⟨fun u1 _ _ u3 hu h3 => absurd h3 (by rw [hu, e3]; decide), ?_, 2, 0, 0, 2, Ss, Sm, Si, Te, Bz, Bk, ?_, ?_, Or.inr (Or.inr rfl), rfl, fun z => absurd z (by decide)⟩
      · unfold S_X6_shown
        rw [e2, e4]
        exact ⟨fun z => absurd z ne10, fun _ => ⟨fun _ => True.intro, fun z => absurd rfl z⟩⟩
      · unfold f_X5_shown
        simp only [e1, e3, if_true]
        rfl
      · unfold f_X6_shown
        rw [e2, e4, if_neg ne10, if_pos rfl]
  · refine ⟨fun u1 hu h1 => absurd h1 (by rw [hu, e1]; decide), ?_, 1, 0, 0, 1, Ss, Sm, Si, Te, Bz, Bk, ?_, ?_, Or.inr (Or.inl rfl), rfl, fun z => absurd z (by decide)⟩
    · unfold S_X6_shown
      rw [e2]
      exact ⟨fun _ => True.intro, fun z => absurd rfl z⟩
    · unfold f_X5_shown
      simp only [e1]
      rfl
    · unfold f_X6_shown
      rw [e2, if_pos rfl]
