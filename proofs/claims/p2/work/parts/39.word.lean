/-! signs: the words of glue -/
theorem b_plus {m : Nat} (hm : m + 6 ≤ 61) {Ss Te : Nat → Int32} (hs : SR m Ss Te) :
    S_X4_writeText [32, 112, 108, 117, 115, 32] Ss (nI m) ∧ S_X6_sayWord (1 : Int32) (nI m) Te ∧ ∃ Ss' Te', f_X4_writeText [32, 112, 108, 117, 115, 32] Ss (nI m) = (Ss', nI (m + 6)) ∧ f_X6_sayWord (1 : Int32) (nI m) Te = (nI (m + 6), Te') ∧ SR (m + 6) Ss' Te' := by
  obtain ⟨s1, Ss', e1, e2, e3⟩ := w_text (bs := [32, 112, 108, 117, 115, 32]) (by decide) (by decide) (m := m) hm Ss
  have a0 := sayN (m := m) (by omega) 32 Te
  have a1 := sayN (m := m + 1) (by omega) 112 (upd Te m 32)
  have a2 := sayN (m := m + 1 + 1) (by omega) 108 (upd (upd Te m 32) (m + 1) 112)
  have a3 := sayN (m := m + 1 + 1 + 1) (by omega) 117 (upd (upd (upd Te m 32) (m + 1) 112) (m + 1 + 1) 108)
  have a4 := sayN (m := m + 1 + 1 + 1 + 1) (by omega) 115 (upd (upd (upd (upd Te m 32) (m + 1) 112) (m + 1 + 1) 108) (m + 1 + 1 + 1) 117)
  have a5 := sayN (m := m + 1 + 1 + 1 + 1 + 1) (by omega) 32 (upd (upd (upd (upd (upd Te m 32) (m + 1) 112) (m + 1 + 1) 108) (m + 1 + 1 + 1) 117) (m + 1 + 1 + 1 + 1) 115)
  have v : ∀ k, k < 120 → vp_in (nI k) 120 := fun k hk => vin hk (by omega)
  refine ⟨s1, ?_, Ss', (upd (upd (upd (upd (upd (upd Te m 32) (m + 1) 112) (m + 1 + 1) 108) (m + 1 + 1 + 1) 117) (m + 1 + 1 + 1 + 1) 115) (m + 1 + 1 + 1 + 1 + 1) 32), e1, ?_, ?_⟩
  · unfold S_X6_sayWord
    refine ⟨⟨v (m) (by omega), True.intro⟩, fun u0 h0 => ?_⟩
    rw [h0, a0]
    refine ⟨fun z => absurd z (by decide), fun _ => ?_⟩
    refine ⟨⟨v (m + 1) (by omega), True.intro⟩, fun u1 h1 => ?_⟩
    rw [h1, a1]
    refine ⟨⟨v (m + 1 + 1) (by omega), True.intro⟩, fun u2 h2 => ?_⟩
    rw [h2, a2]
    refine ⟨⟨v (m + 1 + 1 + 1) (by omega), True.intro⟩, fun u3 h3 => ?_⟩
    rw [h3, a3]
    refine ⟨⟨v (m + 1 + 1 + 1 + 1) (by omega), True.intro⟩, fun u4 h4 => ?_⟩
    rw [h4, a4]
    exact ⟨⟨v (m + 1 + 1 + 1 + 1 + 1) (by omega), True.intro⟩, fun _ _ => True.intro⟩
  · unfold f_X6_sayWord
    simp only [if_neg ne10, a0, a1, a2, a3, a4, a5]
  · have z0 := e3 0 (by decide)
    have z1 := e3 1 (by decide)
    have z2 := e3 2 (by decide)
    have z3 := e3 3 (by decide)
    have z4 := e3 4 (by decide)
    have z5 := e3 5 (by decide)
    intro q hq
    rw [uI, uI, uI, uI, uI, uI]
    by_cases y5 : q = m + 1 + 1 + 1 + 1 + 1
    · rw [if_pos y5, y5]; exact z5
    · rw [if_neg y5]
      by_cases y4 : q = m + 1 + 1 + 1 + 1
      · rw [if_pos y4, y4]; exact z4
      · rw [if_neg y4]
        by_cases y3 : q = m + 1 + 1 + 1
        · rw [if_pos y3, y3]; exact z3
        · rw [if_neg y3]
          by_cases y2 : q = m + 1 + 1
          · rw [if_pos y2, y2]; exact z2
          · rw [if_neg y2]
            by_cases y1 : q = m + 1
            · rw [if_pos y1, y1]; exact z1
            · rw [if_neg y1]
              by_cases y0 : q = m
              · rw [if_pos y0, y0]; exact z0
              · rw [if_neg y0]
                rw [e2 q (by omega)]; exact hs q (by omega)
theorem b_minus {m : Nat} (hm : m + 7 ≤ 61) {Ss Te : Nat → Int32} (hs : SR m Ss Te) :
    S_X4_writeText [32, 109, 105, 110, 117, 115, 32] Ss (nI m) ∧ S_X6_sayWord (0 : Int32) (nI m) Te ∧ ∃ Ss' Te', f_X4_writeText [32, 109, 105, 110, 117, 115, 32] Ss (nI m) = (Ss', nI (m + 7)) ∧ f_X6_sayWord (0 : Int32) (nI m) Te = (nI (m + 7), Te') ∧ SR (m + 7) Ss' Te' := by
  obtain ⟨s1, Ss', e1, e2, e3⟩ := w_text (bs := [32, 109, 105, 110, 117, 115, 32]) (by decide) (by decide) (m := m) hm Ss
  have a0 := sayN (m := m) (by omega) 32 Te
  have a1 := sayN (m := m + 1) (by omega) 109 (upd Te m 32)
  have a2 := sayN (m := m + 1 + 1) (by omega) 105 (upd (upd Te m 32) (m + 1) 109)
  have a3 := sayN (m := m + 1 + 1 + 1) (by omega) 110 (upd (upd (upd Te m 32) (m + 1) 109) (m + 1 + 1) 105)
  have a4 := sayN (m := m + 1 + 1 + 1 + 1) (by omega) 117 (upd (upd (upd (upd Te m 32) (m + 1) 109) (m + 1 + 1) 105) (m + 1 + 1 + 1) 110)
  have a5 := sayN (m := m + 1 + 1 + 1 + 1 + 1) (by omega) 115 (upd (upd (upd (upd (upd Te m 32) (m + 1) 109) (m + 1 + 1) 105) (m + 1 + 1 + 1) 110) (m + 1 + 1 + 1 + 1) 117)
  have a6 := sayN (m := m + 1 + 1 + 1 + 1 + 1 + 1) (by omega) 32 (upd (upd (upd (upd (upd (upd Te m 32) (m + 1) 109) (m + 1 + 1) 105) (m + 1 + 1 + 1) 110) (m + 1 + 1 + 1 + 1) 117) (m + 1 + 1 + 1 + 1 + 1) 115)
  have v : ∀ k, k < 120 → vp_in (nI k) 120 := fun k hk => vin hk (by omega)
  refine ⟨s1, ?_, Ss', (upd (upd (upd (upd (upd (upd (upd Te m 32) (m + 1) 109) (m + 1 + 1) 105) (m + 1 + 1 + 1) 110) (m + 1 + 1 + 1 + 1) 117) (m + 1 + 1 + 1 + 1 + 1) 115) (m + 1 + 1 + 1 + 1 + 1 + 1) 32), e1, ?_, ?_⟩
  · unfold S_X6_sayWord
    refine ⟨⟨v (m) (by omega), True.intro⟩, fun u0 h0 => ?_⟩
    rw [h0, a0]
    refine ⟨fun _ => ?_, fun z => absurd rfl z⟩
    refine ⟨⟨v (m + 1) (by omega), True.intro⟩, fun u1 h1 => ?_⟩
    rw [h1, a1]
    refine ⟨⟨v (m + 1 + 1) (by omega), True.intro⟩, fun u2 h2 => ?_⟩
    rw [h2, a2]
    refine ⟨⟨v (m + 1 + 1 + 1) (by omega), True.intro⟩, fun u3 h3 => ?_⟩
    rw [h3, a3]
    refine ⟨⟨v (m + 1 + 1 + 1 + 1) (by omega), True.intro⟩, fun u4 h4 => ?_⟩
    rw [h4, a4]
    refine ⟨⟨v (m + 1 + 1 + 1 + 1 + 1) (by omega), True.intro⟩, fun u5 h5 => ?_⟩
    rw [h5, a5]
    exact ⟨⟨v (m + 1 + 1 + 1 + 1 + 1 + 1) (by omega), True.intro⟩, fun _ _ => True.intro⟩
  · unfold f_X6_sayWord
    simp only [if_true, a0, a1, a2, a3, a4, a5, a6]
  · have z0 := e3 0 (by decide)
    have z1 := e3 1 (by decide)
    have z2 := e3 2 (by decide)
    have z3 := e3 3 (by decide)
    have z4 := e3 4 (by decide)
    have z5 := e3 5 (by decide)
    have z6 := e3 6 (by decide)
    intro q hq
    rw [uI, uI, uI, uI, uI, uI, uI]
    by_cases y6 : q = m + 1 + 1 + 1 + 1 + 1 + 1
    · rw [if_pos y6, y6]; exact z6
    · rw [if_neg y6]
      by_cases y5 : q = m + 1 + 1 + 1 + 1 + 1
      · rw [if_pos y5, y5]; exact z5
      · rw [if_neg y5]
        by_cases y4 : q = m + 1 + 1 + 1 + 1
        · rw [if_pos y4, y4]; exact z4
        · rw [if_neg y4]
          by_cases y3 : q = m + 1 + 1 + 1
          · rw [if_pos y3, y3]; exact z3
          · rw [if_neg y3]
            by_cases y2 : q = m + 1 + 1
            · rw [if_pos y2, y2]; exact z2
            · rw [if_neg y2]
              by_cases y1 : q = m + 1
              · rw [if_pos y1, y1]; exact z1
              · rw [if_neg y1]
                by_cases y0 : q = m
                · rw [if_pos y0, y0]; exact z0
                · rw [if_neg y0]
                  rw [e2 q (by omega)]; exact hs q (by omega)
