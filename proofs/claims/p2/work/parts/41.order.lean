/-! signs: an order -/
theorem b_ord1 {o : Nat} {bs : List Int32} (ho : o ≤ 3) (hl : bs.length = 2 + o) (hb : ∀ j, j < bs.length → f_J0_charAt_5068e bs (nI j) = bs.getD j 0) {a b : Int32} (h0 : bs.getD 0 0 = a) (h1 : bs.getD 1 0 = b) (h2 : ∀ j, j < o → bs.getD (2 + j) 0 = 108) {m : Nat} (hm : m + (2 + o) ≤ 61) {Ss Te : Nat → Int32} (hs : SR m Ss Te) :
    S_X4_writeText bs Ss (nI m) ∧ SL_X6_sayOrder_36 5 (0 : Int32) (nI (m + 1 + 1)) (upd (upd Te m a) (m + 1) b) (lN o) ∧ ∃ (x : Int32) (Ss' Te' : Nat → Int32), f_X4_writeText bs Ss (nI m) = (Ss', nI (m + (2 + o))) ∧ L_X6_sayOrder_36 5 (0 : Int32) (nI (m + 1 + 1)) (upd (upd Te m a) (m + 1) b) (lN o) = (x, nI (m + (2 + o)), Te') ∧ SR (m + (2 + o)) Ss' Te' := by
  obtain ⟨s1, Ss', e1, e2, e3⟩ := w_text (bs := bs) (by omega) hb (m := m) (by omega) Ss
  obtain ⟨s2, x, Te', e4, e5, e6⟩ := L_ell ho 5 0 (m + 1 + 1) (upd (upd Te m a) (m + 1) b) (by omega) (by omega) (by omega)
  have s2 : SL_X6_sayOrder_36 5 (0 : Int32) (nI (m + 1 + 1)) (upd (upd Te m a) (m + 1) b) (lN o) := s2
  have e4 : L_X6_sayOrder_36 5 (0 : Int32) (nI (m + 1 + 1)) (upd (upd Te m a) (m + 1) b) (lN o) = (x, nI (m + 1 + 1 + (o - 0)), Te') := e4
  rw [show m + 1 + 1 + (o - 0) = m + (2 + o) by omega] at e4
  rw [hl] at e1 e3
  refine ⟨s1, s2, x, Ss', Te', e1, e4, fun q hq => ?_⟩
  by_cases z : q < m
  · rw [e2 q z, e5 q (by omega), uI, if_neg (by omega), uI, if_neg (by omega)]; exact hs q z
  · by_cases z0 : q = m
    · have y := e3 0 (by omega)
      rw [Nat.add_zero] at y
      rw [z0, y, h0, e5 m (by omega), uI, if_neg (by omega), uI, if_pos rfl]
    · by_cases z1 : q = m + 1
      · rw [z1, e3 1 (by omega), h1, e5 (m + 1) (by omega), uI, if_pos rfl]
      · obtain ⟨j, hj, ej⟩ : ∃ j, j < o ∧ q = m + (2 + j) := ⟨q - m - 2, by omega, by omega⟩
        have y := e6 j (by omega)
        rw [show m + 1 + 1 + j = m + (2 + j) by omega] at y
        rw [ej, e3 (2 + j) (by omega), h2 j hj, y]
theorem b_ord0 {m : Nat} (hm : m + 2 ≤ 61) {Ss Te : Nat → Int32} (hs : SR m Ss Te) :
    S_X4_writeText [112, 116] Ss (nI m) ∧ S_X6_sayOrder (0 : Int64) (nI m) Te ∧ ∃ (Ss' Te' : Nat → Int32), f_X4_writeText [112, 116] Ss (nI m) = (Ss', nI (m + 2)) ∧ f_X6_sayOrder (0 : Int64) (nI m) Te = (nI (m + 2), Te') ∧ SR (m + 2) Ss' Te' := by
  obtain ⟨s1, s2, x, Ss', Te', e1, e2, e3⟩ := b_ord1 (o := 0) (bs := [112, 116]) (by omega) rfl (by decide) (a := 112) (b := 116) rfl rfl (fun j hj => absurd hj (by omega)) (m := m) (by omega) hs
  have s2 : SL_X6_sayOrder_36 5 (0 : Int32) (nI (m + 1 + 1)) (upd (upd Te m 112) (m + 1) 116) (0 : Int64) := s2
  have e2 : L_X6_sayOrder_36 5 (0 : Int32) (nI (m + 1 + 1)) (upd (upd Te m 112) (m + 1) 116) (0 : Int64) = (x, nI (m + 2), Te') := e2
  have a0 := sayN (m := m) (by omega) 112 Te
  have a1 := sayN (m := m + 1) (by omega) 116 (upd Te m 112)
  refine ⟨s1, ?_, Ss', Te', e1, ?_, e3⟩
  · unfold S_X6_sayOrder
    refine ⟨fun _ => ⟨⟨vin (by omega) (by omega), True.intro⟩, fun u0 h0 => ?_⟩, fun z => absurd rfl z⟩
    rw [h0, a0]
    refine ⟨⟨vin (n := m + 1) (by omega) (by omega), True.intro⟩, fun u1 h1 => ?_⟩
    rw [h1, a1]
    exact ⟨s2, fun _ _ => True.intro⟩
  · unfold f_X6_sayOrder
    rw [if_pos rfl]
    simp only [a0, a1, e2]
theorem b_ord2 {o : Nat} {bs : List Int32} (ho : o ≤ 3) (hp : 1 ≤ o) (hl : bs.length = 2 + o) (hb : ∀ j, j < bs.length → f_J0_charAt_5068e bs (nI j) = bs.getD j 0) (h0 : bs.getD 0 0 = 102) (h1 : bs.getD 1 0 = 105) (h2 : ∀ j, j < o → bs.getD (2 + j) 0 = 108) {m : Nat} (hm : m + (2 + o) ≤ 61) {Ss Te : Nat → Int32} (hs : SR m Ss Te) :
    S_X4_writeText bs Ss (nI m) ∧ S_X6_sayOrder (lN o) (nI m) Te ∧ ∃ (Ss' Te' : Nat → Int32), f_X4_writeText bs Ss (nI m) = (Ss', nI (m + (2 + o))) ∧ f_X6_sayOrder (lN o) (nI m) Te = (nI (m + (2 + o)), Te') ∧ SR (m + (2 + o)) Ss' Te' := by
  obtain ⟨s1, s2, x, Ss', Te', e1, e2, e3⟩ := b_ord1 ho hl hb h0 h1 h2 (m := m) hm hs
  have a0 := sayN (m := m) (by omega) 102 Te
  have a1 := sayN (m := m + 1) (by omega) 105 (upd Te m 102)
  have y : ¬ lN o = (0 : Int64) := fun z => by
    have := (lN_eq (a := o) (b := 0) (by omega) (by omega)).mp z
    omega
  refine ⟨s1, ?_, Ss', Te', e1, ?_, e3⟩
  · unfold S_X6_sayOrder
    refine ⟨fun z => absurd z y, fun _ => ⟨⟨vin (by omega) (by omega), True.intro⟩, fun u0 h0 => ?_⟩⟩
    rw [h0, a0]
    refine ⟨⟨vin (n := m + 1) (by omega) (by omega), True.intro⟩, fun u1 h1 => ?_⟩
    rw [h1, a1]
    exact ⟨s2, fun _ _ => True.intro⟩
  · unfold f_X6_sayOrder
    rw [if_neg y]
    simp only [a0, a1, e2]
theorem b_order {o : Nat} (ho : o ≤ 3) {m : Nat} (hm : m + (2 + o) ≤ 61) {Ss Te : Nat → Int32} (hs : SR m Ss Te) :
    S_X4_writeText (sel4 (lN o) [112, 116] [102, 105, 108] [102, 105, 108, 108] [102, 105, 108, 108, 108]) Ss (nI m) ∧ S_X6_sayOrder (lN o) (nI m) Te ∧ ∃ (Ss' Te' : Nat → Int32), f_X4_writeText (sel4 (lN o) [112, 116] [102, 105, 108] [102, 105, 108, 108] [102, 105, 108, 108, 108]) Ss (nI m) = (Ss', nI (m + (2 + o))) ∧ f_X6_sayOrder (lN o) (nI m) Te = (nI (m + (2 + o)), Te') ∧ SR (m + (2 + o)) Ss' Te' := by
  rcases (show o = 0 ∨ o = 1 ∨ o = 2 ∨ o = 3 by omega) with rfl | rfl | rfl | rfl
  · exact b_ord0 (m := m) hm hs
  · exact b_ord2 (o := 1) (bs := [102, 105, 108]) ho (by omega) rfl (by decide) rfl rfl (by decide) hm hs
  · exact b_ord2 (o := 2) (bs := [102, 105, 108, 108]) ho (by omega) rfl (by decide) rfl rfl (by decide) hm hs
  · exact b_ord2 (o := 3) (bs := [102, 105, 108, 108, 108]) ho (by omega) rfl (by decide) rfl rfl (by decide) hm hs
