theorem b_void {m : Nat} (hm : m + 4 ≤ 61) {Ss Te : Nat → Int32} (hs : SR m Ss Te) :
    S_X4_writeText [118, 111, 105, 100] Ss (nI m) ∧ S_X6_sayVoid (nI m) Te ∧ ∃ Ss' Te', f_X4_writeText [118, 111, 105, 100] Ss (nI m) = (Ss', nI (m + 4)) ∧ f_X6_sayVoid (nI m) Te = (nI (m + 4), Te') ∧ SR (m + 4) Ss' Te' := by
  obtain ⟨s1, Ss', e1, e2, e3⟩ := w_text (bs := [118, 111, 105, 100]) (by decide) (by decide) (m := m) hm Ss
  have a1 := sayN (m := m) (by omega) 118 Te
  have a2 := sayN (m := m + 1) (by omega) 111 (upd Te m 118)
  have a3 := sayN (m := m + 1 + 1) (by omega) 105 (upd (upd Te m 118) (m + 1) 111)
  have a4 := sayN (m := m + 1 + 1 + 1) (by omega) 100 (upd (upd (upd Te m 118) (m + 1) 111) (m + 1 + 1) 105)
  have v : ∀ k, k < 120 → vp_in (nI k) 120 := fun k hk => vin hk (by omega)
  refine ⟨s1, ?_, Ss', upd (upd (upd (upd Te m 118) (m + 1) 111) (m + 1 + 1) 105) (m + 1 + 1 + 1) 100, e1, ?_, ?_⟩
  · unfold S_X6_sayVoid
    refine ⟨⟨v m (by omega), True.intro⟩, fun u2 h2 => ?_⟩
    rw [h2, a1]
    refine ⟨⟨v (m + 1) (by omega), True.intro⟩, fun u4 h4 => ?_⟩
    rw [h4, a2]
    refine ⟨⟨v (m + 1 + 1) (by omega), True.intro⟩, fun u6 h6 => ?_⟩
    rw [h6, a3]
    exact ⟨⟨v (m + 1 + 1 + 1) (by omega), True.intro⟩, fun _ _ => True.intro⟩
  · unfold f_X6_sayVoid
    simp only [a1, a2, a3, a4]
  · have z0 := e3 0 (by decide)
    have z1 := e3 1 (by decide)
    have z2 := e3 2 (by decide)
    have z3 := e3 3 (by decide)
    intro q hq
    rw [uI, uI, uI, uI]
    by_cases h3 : q = m + 1 + 1 + 1
    · rw [if_pos h3, h3]; exact z3
    · rw [if_neg h3]
      by_cases h2 : q = m + 1 + 1
      · rw [if_pos h2, h2]; exact z2
      · rw [if_neg h2]
        by_cases h1 : q = m + 1
        · rw [if_pos h1, h1]; exact z1
        · rw [if_neg h1]
          by_cases h0 : q = m
          · rw [if_pos h0, h0]; exact z0
          · rw [if_neg h0, e2 q (by omega)]; exact hs q (by omega)
