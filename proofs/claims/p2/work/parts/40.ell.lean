/-! signs: an order's ells -/
theorem L_ell {o : Nat} (ho : o ≤ 3) : ∀ (n i m : Nat) (Te : Nat → Int32), i ≤ o → o - i < n → m + (o - i) ≤ 120 →
    SL_X6_sayOrder_36 n (nI i) (nI m) Te (lN o) ∧ ∃ (x : Int32) (Te' : Nat → Int32), L_X6_sayOrder_36 n (nI i) (nI m) Te (lN o) = (x, nI (m + (o - i)), Te') ∧ (∀ q, q < m → Te' q = Te q) ∧ ∀ j, j < o - i → Te' (m + j) = 108 := by
  intro n
  induction n with
  | zero => intro i m Te _ h; exact absurd h (by omega)
  | succ n ih =>
    intro i m Te hi hn hm
    rw [SL_X6_sayOrder_36, L_X6_sayOrder_36, nI_l (n := i) (by omega)]
    have i1 : (lN o ≤ lN i) ↔ o ≤ i := lN_le (by omega) (by omega)
    by_cases hc : o ≤ i
    · have y := i1.mpr hc
      rw [if_pos y, show o - i = 0 by omega]
      exact ⟨⟨fun _ => True.intro, fun z => absurd y z⟩, _, Te, rfl, fun _ _ => rfl, fun j hj => absurd hj (by omega)⟩
    · have y : ¬ lN o ≤ lN i := fun z => hc (i1.mp z)
      have ey := sayN (m := m) (by omega) 108 Te
      obtain ⟨s1, x, Te', s2, s3, s4⟩ := ih (i + 1) (m + 1) (upd Te m 108) (by omega) (by omega) (by omega)
      rw [if_neg y, ← nI_succ]
      simp only [ey]
      refine ⟨⟨fun z => absurd z y, fun _ => ⟨⟨vin (by omega) (by omega), True.intro⟩, fun u eu => by rw [eu]; exact s1⟩⟩, x, Te', by rw [s2]; congr 3; omega, fun q hq => ?_, fun j hj => ?_⟩
      · rw [s3 q (by omega), uI, if_neg (by omega)]
      · by_cases z : j = 0
        · subst z
          rw [Nat.add_zero, s3 m (by omega), uI, if_pos rfl]
        · have e := s4 (j - 1) (by omega)
          rw [show m + 1 + (j - 1) = m + j by omega] at e
          exact e
